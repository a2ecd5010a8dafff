section
/-! the model: ways -/
def cnt (f : Nat → Nat) : Nat → Nat
  | 0 => 0
  | n + 1 => cnt f n + (if f n = 4294967295 then 1 else 0)
theorem cnt_le (f : Nat → Nat) : ∀ n, cnt f n ≤ n
  | 0 => Nat.le_refl _
  | n + 1 => by
    have ih := cnt_le f n
    show cnt f n + (if f n = 4294967295 then 1 else 0) ≤ n + 1
    split <;> omega
theorem cnt_ge {f : Nat → Nat} {i v : Nat} : ∀ n, n ≤ i → cnt (fun j => if j = i then v else f j) n = cnt f n
  | 0, _ => rfl
  | n + 1, h => by
    have ih := cnt_ge (f := f) (i := i) (v := v) n (by omega)
    show cnt (fun j => if j = i then v else f j) n + (if (if n = i then v else f n) = 4294967295 then 1 else 0) = cnt f n + _
    rw [ih, if_neg (show ¬ n = i by omega)]
theorem cnt_upd {f : Nat → Nat} {i v : Nat} (hf : f i = 4294967295) (hv : v ≠ 4294967295) : ∀ n, i < n → cnt (fun j => if j = i then v else f j) n + 1 = cnt f n
  | 0, h => absurd h (Nat.not_lt_zero _)
  | n + 1, h => by
    show cnt (fun j => if j = i then v else f j) n + (if (if n = i then v else f n) = 4294967295 then 1 else 0) + 1 = cnt f n + (if f n = 4294967295 then 1 else 0)
    by_cases z : n = i
    · subst z
      rw [if_pos rfl, if_neg hv, if_pos hf, cnt_ge n (Nat.le_refl _)]
    · have ih := cnt_upd hf hv n (by omega)
      rw [if_neg z]
      omega
/-- a number of an object, of a row -/
noncomputable def fld (w : List (List xE)) (c j : Nat) : Nat := match wget w c with
  | some (.inl o) => (o.2.getD j (0, 0)).2
  | _ => 0
theorem fld_of {w : List (List xE)} {c j : Nat} {o : Nat × List xV} (h : wget w c = some (.inl o)) : fld w c j = (o.2.getD j (0, 0)).2 := by
  unfold fld
  rw [h]
theorem fld_fr {S : List Nat} {w w' : List (List xE)} {c j : Nat} (h : xFr S w w') (hc : c ∉ S) : fld w' c j = fld w c j := by
  unfold fld
  rw [h.1 c hc]
noncomputable def rwv (w : List (List xE)) (k j : Nat) : Nat := match wget w k with
  | some (.inr a) => (xat a.1 a.2.2.2 j).2
  | _ => 0
theorem rwv_of {w : List (List xE)} {k L t j : Nat} {f : Nat → Nat} (h : xRow w k L t f) (hj : j < L) : rwv w k j = f j := by
  obtain ⟨us, h1, h2⟩ := h
  unfold rwv
  rw [h1]
  exact congrArg Prod.snd (h2 j hj)
noncomputable def clW (w : List (List xE)) : Nat := (if rwv w 98 0 = 1 then 0 else 1) + (if rwv w 98 1 = 1 then 0 else 1) + (if rwv w 98 2 = 1 then 0 else 1) + (if rwv w 98 3 = 1 then 0 else 1) + (if rwv w 98 4 = 1 then 0 else 1) + (if rwv w 98 5 = 1 then 0 else 1)
theorem clW_fr {S : List Nat} {w w' : List (List xE)} (h : xFr S w w') (hc : 98 ∉ S) : clW w' = clW w := by
  unfold clW rwv
  rw [h.1 98 hc]
theorem clW_set {w w' : List (List xE)} {f : Nat → Nat} {r : Nat} (h : xRow w 98 6 65 f) (h' : xRow w' 98 6 65 (fun j => if j = r then 1 else f j)) (hr : r < 6) (hf : f r ≠ 1) : clW w' < clW w := by
  unfold clW
  rw [rwv_of h (by decide), rwv_of h (by decide), rwv_of h (by decide), rwv_of h (by decide), rwv_of h (by decide), rwv_of h (by decide), rwv_of h' (by decide), rwv_of h' (by decide), rwv_of h' (by decide), rwv_of h' (by decide), rwv_of h' (by decide), rwv_of h' (by decide)]
  rcases (show r = 0 ∨ r = 1 ∨ r = 2 ∨ r = 3 ∨ r = 4 ∨ r = 5 by omega) with rfl | rfl | rfl | rfl | rfl | rfl <;> simp [hf] <;> omega
theorem okN.le {f : Nat → Nat} (h : okN f) : ∀ j, f j ≤ 4294967295 := fun j => by rcases h j with z | z <;> omega
theorem okF.at {f : Nat → Nat} (h : okF f) {p : Nat} (hp : p < 36) : f p = 4294967295 ∨ f p < 36 := by
  obtain ⟨rk, hr⟩ := h
  rcases hr p hp with z | z
  · exact Or.inl z
  · exact Or.inr z.1
/-- the search: places met, whence -/
def FR (w : List (List xE)) (f m : Nat → Nat) : Prop := xRow w 102 36 69 f ∧ okF f ∧ okN f ∧ xRow w 101 36 68 m ∧ (∀ j, m j ≤ 35) ∧ fld w 82 33 + cnt f 36 ≤ 36 ∧ ∀ i, i < fld w 82 33 → f (m i) ≠ 4294967295
theorem FR.fr {S : List Nat} {w w' : List (List xE)} {f m : Nat → Nat} (h : FR w f m) (hf : xFr S w w') (h1 : 102 ∉ S) (h2 : 101 ∉ S) (h3 : 82 ∉ S) : FR w' f m := by
  obtain ⟨a1, a2, a3, a4, a5, a6, a7⟩ := h
  have e := fld_fr (j := 33) hf h3
  exact ⟨a1.fr hf h1, a2, a3, a4.fr hf h2, a5, by rw [e]; exact a6, fun i hi => a7 i (by rw [← e]; exact hi)⟩
theorem FR.room {w : List (List xE)} {f m : Nat → Nat} {p : Nat} (h : FR w f m) (hp : p < 36) (hn : f p = 4294967295) : fld w 82 33 < 36 := by
  have e := cnt_upd (f := f) (i := p) (v := 0) hn (by decide) 36 hp
  have := h.2.2.2.2.2.1
  omega
theorem FR.step {w w' : List (List xE)} {f m : Nat → Nat} {p b : Nat} (h : FR w f m) (hp : p < 36) (hn : f p = 4294967295) (hb : b < 36) (hc : b = p ∨ f b ≠ 4294967295) (r1 : xRow w' 102 36 69 (fun j => if j = p then b else f j)) (r2 : xRow w' 101 36 68 (fun j => if j = fld w 82 33 then p else m j)) (hm : fld w' 82 33 = fld w 82 33 + 1) : FR w' (fun j => if j = p then b else f j) (fun j => if j = fld w 82 33 then p else m j) := by
  obtain ⟨a1, a2, a3, a4, a5, a6, a7⟩ := h
  have e := cnt_upd (f := f) (i := p) (v := b) hn (by omega) 36 hp
  refine ⟨r1, a2.upd hp hn hb hc, a3.upd (Or.inr hb), r2, fun j => ?_, by omega, fun i hi => ?_⟩
  · show (if j = fld w 82 33 then p else m j) ≤ 35
    split
    · omega
    · exact a5 j
  · show (if (if i = fld w 82 33 then p else m i) = p then b else f (if i = fld w 82 33 then p else m i)) ≠ 4294967295
    by_cases z : i = fld w 82 33
    · rw [if_pos z, if_pos rfl]
      omega
    · rw [if_neg z]
      by_cases y : m i = p
      · rw [if_pos y]; omega
      · rw [if_neg y]
        exact a7 i (by omega)
theorem FR.mono {f : Nat → Nat} {p b : Nat} (hn : f p = 4294967295) : ∀ j, f j ≠ 4294967295 → (fun j => if j = p then b else f j) j ≠ 4294967295 := by
  intro j hj
  show (if j = p then b else f j) ≠ 4294967295
  by_cases z : j = p
  · rw [z] at hj
    exact absurd hn hj
  · rw [if_neg z]; exact hj
theorem FR.start {w : List (List xE)} {f m : Nat → Nat} (r1 : xRow w 102 36 69 f) (hn : okN f) (ha : ∀ j, j < 36 → f j = 4294967295) (r2 : xRow w 101 36 68 m) (hm : ∀ j, m j ≤ 35) (h0 : fld w 82 33 = 0) : FR w f m := by
  have := cnt_le f 36
  exact ⟨r1, ⟨fun _ => 0, fun p hp => Or.inl (ha p hp)⟩, hn, r2, hm, by omega, fun i hi => by omega⟩
section XM3
variable {d : Nat} {w : List (List xE)} {bd : List (Nat × Nat)} {fc : List (Nat × Nat × Bool)} {rr : Nat × Nat}
theorem mMeets {f0 m0 : Nat → Nat} {pp bb : Nat} (hI : xMnv w) (hfr : FR w f0 m0) (hpp : pp < 36) (hbb : bb < 36) (hc : bb = pp ∨ f0 bb ≠ 4294967295) : xPq d mX12_meets [(2, 82), (0, pp), (0, bb)] w bd fc rr [] (fun w' => xMnv w' ∧ xFr [82, 101, 102] w w' ∧ (∃ f m, FR w' f m ∧ (∀ j, f0 j ≠ 4294967295 → f j ≠ 4294967295) ∧ fld w 82 33 ≤ fld w' 82 33)) := by
  refine xPq.of ?_
  show xTo d mX12_meets (0, [], [(0, (2, 82)), (1, (0, pp)), (2, (0, bb))], [], (w, bd, fc, 0, 0, rr)) (fun φ => ∃ w', xEnd 0 [] (w', bd, fc, 0, 0, rr) φ ∧ xMnv w' ∧ xFr [82, 101, 102] w w' ∧ (∃ f m, FR w' f m ∧ (∀ j, f0 j ≠ 4294967295 → f j ≠ 4294967295) ∧ fld w 82 33 ≤ fld w' 82 33))
  obtain ⟨hfra, hfrb, hfrc, hfrd, hfre, hfrf, hfrg⟩ := id hfr
  refine xoCh82 (xqc82 hI : cp82 (wget w 82)) (fun f82_1 f82_3 f82_5 f82_7 f82_9 f82_11 f82_13 f82_15 f82_17 f82_19 f82_21 f82_22 f82_23 f82_25 f82_27 f82_29 h82_31 hb2 hb4 hb6 hb8 hb10 hb12 hb14 hb16 hb18 hb20 hb24 hb26 hb28 hb30 hb32 => ?_)
  have hm33 : fld w 82 33 = f82_25 := fld_of h82_31
  refine xg_t (xg_blq rfl) ?_
  refine xg_t (xg_aload (va := (2, 82)) rfl rfl) ?_
  refine xg_t (xg_getf (va := (2, 102)) h82_31 rfl) ?_
  refine xg_t (xg_iload (va := (0, pp)) rfl rfl) ?_
  refine xg_ialdB (n := pp) (B := 4294967295) hfra ((okN.le hfrc)) xnm0 (by omega) (fun u34 hu35 he36 => ?_)
  have hz37 := hfrc pp
  have hz38 := hfrb.at (p := pp) (by omega)
  by_cases hc39 : u34 < 2147483648
  · refine xg_t (xg_ifF (u := u34) rfl xnm0 (xjz_ltF hc39)) ?_
    exact xg_e ⟨w, ⟨rfl, rfl⟩, hI, xFr.rf, ⟨f0, m0, hfr, fun _ h => h, Nat.le_refl _⟩⟩
  · refine xg_t (xg_ifT (u := u34) rfl xnm0 (xjz_ltT (by omega) (by omega))) ?_
    refine xg_t (xg_blq rfl) ?_
    refine xg_t (xg_aload (va := (2, 82)) rfl rfl) ?_
    refine xg_t (xg_getf (va := (2, 102)) h82_31 rfl) ?_
    refine xg_t (xg_iload (va := (0, pp)) rfl rfl) ?_
    refine xg_t (xg_iload (va := (0, bb)) rfl rfl) ?_
    refine xg_iastK (n := pp) (u := bb) hfra xnm0 xnm0 rfl (by omega) (fun w40 hr41 hb42 => ?_)
    refine xg_t (xg_aload (va := (2, 82)) rfl rfl) ?_
    refine xg_t (xg_getf (va := (2, 101)) (hb42.get (by decide) h82_31) rfl) ?_
    refine xg_t (xg_aload (va := (2, 82)) rfl rfl) ?_
    refine xg_t (xg_getf (va := (0, f82_25)) (hb42.get (by decide) h82_31) rfl) ?_
    have hn43 : f82_25 ≤ 36 := hb26
    refine xg_t (xg_iload (va := (0, pp)) rfl rfl) ?_
    have hz44 := hfr.room (p := pp) (by omega) (by omega)
    refine xg_iastK (n := f82_25) (u := pp) (hfrd.but hb42 (by decide)) xnm0 xnm0 rfl (by omega) (fun w45 hr46 hb47 => ?_)
    refine xg_t (xg_aload (va := (2, 82)) rfl rfl) ?_
    refine xg_t (xg_dup rfl) ?_
    refine xg_t (xg_getf (va := (0, f82_25)) (hb47.get (by decide) (hb42.get (by decide) h82_31)) rfl) ?_
    refine xg_t (xg_const) ?_
    refine xg_t (xg_iadd (u := f82_25) (v := 1) (z := f82_25 + 1) xnm0 xnm0 (by omega)) ?_
    refine xg_putI (fl1 := [(2, 83), (2, 84), (0, f82_1), (0, f82_3), (0, f82_5), (0, f82_7), (0, f82_9), (0, f82_11), (0, f82_13), (0, f82_15), (0, f82_17), (2, 85), (2, 86), (2, 87), (0, f82_19), (2, 88), (2, 89), (2, 90), (2, 91), (2, 92), (2, 93), (2, 94), (4, f82_21), (4, f82_22), (0, f82_23), (2, 95), (2, 96), (2, 97), (2, 98), (2, 99), (2, 100), (2, 101), (2, 102), (0, f82_25 + 1), (2, 103), (2, 104), (2, 105), (2, 106), (2, 107), (2, 108), (2, 109), (0, f82_27), (0, f82_29), (2, 110), (2, 111), (2, 112), (2, 113)]) (hb47.get (by decide) (hb42.get (by decide) h82_31)) rfl rfl rfl (fun w48 hk49 hb50 => ?_)
    exact xg_e ⟨w48, ⟨rfl, rfl⟩, xMnv.up (S := [102, 101, 82]) hI (((xFr.of (S := [102, 101, 82]) hb42 (by decide)).tr (xFr.of (S := [102, 101, 82]) hb47 (by decide))).tr (xFr.of (S := [102, 101, 82]) hb50 (by decide))) (List.forall_mem_cons.mpr ⟨xqu102 (show cpx102 (wget w48 102) from ⟨_, ((hr41.but hb47 (by decide)).but hb50 (by decide)), xrb (by omega) ((okN.le hfrc)), (hfrc.upd (by omega))⟩), List.forall_mem_cons.mpr ⟨xqu101 (show cpI 36 68 35 (wget w48 101) from ⟨_, (hr46.but hb50 (by decide)), xrb (by omega) (hfre)⟩), List.forall_mem_cons.mpr ⟨xqu82 (show cp82 (wget w48 82) from xmC82 f82_1 f82_3 f82_5 f82_7 f82_9 f82_11 f82_13 f82_15 f82_17 f82_19 f82_21 f82_22 f82_23 (f82_25 + 1) f82_27 f82_29 hk49 hb2 hb4 hb6 hb8 hb10 hb12 hb14 hb16 hb18 hb20 hb24 (by omega) hb28 hb30 (by omega)), fun _ h => absurd h List.not_mem_nil⟩⟩⟩), (((xFr.of (S := [82, 101, 102]) hb42 (by decide)).tr (xFr.of (S := [82, 101, 102]) hb47 (by decide))).tr (xFr.of (S := [82, 101, 102]) hb50 (by decide))), ⟨_, _, FR.step hfr (by omega) (by omega) (by omega) hc (((hr41.but hb47 (by decide)).but hb50 (by decide))) (by rw [hm33]; exact (hr46.but hb50 (by decide))) (by rw [hm33]; exact fld_of hk49), FR.mono (by omega), by rw [hm33, fld_of hk49]; exact Nat.le_succ _⟩⟩
theorem mSpreads (hI : xMnv w)  : xPq (d + 1) mX12_spreads [(2, 82)] w bd fc rr [] (fun w' => xMnv w' ∧ xFr [82, 101, 102] w w' ∧ (∃ f m, FR w' f m)) := by
  refine xPq.of ?_
  show xTo (d + 1) mX12_spreads (0, [], [(0, (2, 82))], [], (w, bd, fc, 0, 0, rr)) (fun φ => ∃ w', xEnd 0 [] (w', bd, fc, 0, 0, rr) φ ∧ xMnv w' ∧ xFr [82, 101, 102] w w' ∧ (∃ f m, FR w' f m))
  refine xoCh82 (xqc82 hI : cp82 (wget w 82)) (fun f82_1 f82_3 f82_5 f82_7 f82_9 f82_11 f82_13 f82_15 f82_17 f82_19 f82_21 f82_22 f82_23 f82_25 f82_27 f82_29 h82_31 hb2 hb4 hb6 hb8 hb10 hb12 hb14 hb16 hb18 hb20 hb24 hb26 hb28 hb30 hb32 => ?_)
  refine xoX83 (xqc83 hI : cpx83 (wget w 83)) (fun g83_33 h83_34 hb35 hx36 => ?_)
  refine xoI (xqc95 hI : cpI 36 62 4294967295 (wget w 95)) (fun g95_37 h95_38 hb39 => ?_)
  refine xoI (xqc96 hI : cpI 36 63 4294967295 (wget w 96)) (fun g96_40 h96_41 hb42 => ?_)
  refine xoI (xqc97 hI : cpI 6 64 4294967295 (wget w 97)) (fun g97_43 h97_44 hb45 => ?_)
  obtain ⟨g99_46, h99_47, hb48, hx49⟩ := (xqc99 hI : cpx99 (wget w 99))
  have h99_47 : xRk 2 0 w 99 36 66 g99_46 := h99_47
  obtain ⟨g100_50, h100_51, hb52, hx53⟩ := (xqc100 hI : cpx100 (wget w 100))
  have h100_51 : xRk 2 0 w 100 36 67 g100_50 := h100_51
  refine xg_t (xg_blq rfl) ?_
  refine xg_t (xg_aload (va := (2, 82)) rfl rfl) ?_
  refine xg_t (xg_const) ?_
  refine xg_putI (fl1 := [(2, 83), (2, 84), (0, f82_1), (0, f82_3), (0, f82_5), (0, f82_7), (0, f82_9), (0, f82_11), (0, f82_13), (0, f82_15), (0, f82_17), (2, 85), (2, 86), (2, 87), (0, f82_19), (2, 88), (2, 89), (2, 90), (2, 91), (2, 92), (2, 93), (2, 94), (4, f82_21), (4, f82_22), (0, f82_23), (2, 95), (2, 96), (2, 97), (2, 98), (2, 99), (2, 100), (2, 101), (2, 102), (0, 0), (2, 103), (2, 104), (2, 105), (2, 106), (2, 107), (2, 108), (2, 109), (0, f82_27), (0, f82_29), (2, 110), (2, 111), (2, 112), (2, 113)]) h82_31 rfl rfl rfl (fun w54 hk55 hb56 => ?_)
  refine xg_t (xg_const) ?_
  refine xg_t (xg_istore (l1 := [(0, (2, 82))]) rfl rfl rfl) ?_
  refine xg_t (xg_drop (l1 := [(0, (2, 82)), (1, (0, 0))]) (List.forall_mem_cons.mpr ⟨List.mem_cons_of_mem _ (List.mem_cons_self), List.forall_mem_cons.mpr ⟨List.mem_cons_self, fun _ h => absurd h List.not_mem_nil⟩⟩)) ?_
  obtain ⟨g102_63, h102_64, hb65, hx66⟩ := (xqc102 hI : cpx102 (wget w 102))
  have h102_64 : xRow w 102 36 69 g102_63 := h102_64
  have key57 : ∀ (m59 : Nat) (ki : Nat) (w60 : List (List xE)), 36 - ki < m59 → ki ≤ 36 → xMnv w60 → xFr [82, 101, 102] w w60 → (fld w60 82 33 = 0 ∧ ∃ f : Nat → Nat, xRow w60 102 36 69 f ∧ ∀ j, j < ki → f j = 4294967295) → xTo (d + 1) mX12_spreads (7, [], [(0, (2, 82)), (1, (0, ki))], [], (w60, bd, fc, 0, 0, rr)) (fun φ => ∃ w', xEnd 0 [] (w', bd, fc, 0, 0, rr) φ ∧ xMnv w' ∧ xFr [82, 101, 102] w w' ∧ (∃ f m, FR w' f m)) := by
    intro m59
    induction m59 with
    | zero => intro ki w60 hz; exact absurd hz (Nat.not_lt_zero _)
    | succ m59 ih58 =>
      intro ki w60 hm69 hn67 hI61 hF62 he68
      refine xoCh82 (xqc82 hI61 : cp82 (wget w60 82)) (fun f82_70 f82_72 f82_74 f82_76 f82_78 f82_80 f82_82 f82_84 f82_86 f82_88 f82_90 f82_91 f82_92 f82_94 f82_96 f82_98 h82_100 hb71 hb73 hb75 hb77 hb79 hb81 hb83 hb85 hb87 hb89 hb93 hb95 hb97 hb99 hb101 => ?_)
      have hm102 : fld w60 82 33 = f82_94 := fld_of h82_100
      obtain ⟨h0103, f104, hr105, hf106⟩ := he68
      obtain ⟨g102_108, h102_109, hb110, hx111⟩ := (xqc102 hI61 : cpx102 (wget w60 102))
      have h102_109 : xRow w60 102 36 69 g102_108 := h102_109
      have hd107 : ∀ j, j < ki → g102_108 j = 4294967295 := fun j hj => by rw [← xRow.det hr105 h102_109 j (by omega)]; exact hf106 j hj
      refine xg_t (xg_blq rfl) ?_
      refine xg_t (xg_iload (va := (0, ki)) rfl rfl) ?_
      refine xg_t (xg_bip) ?_
      by_cases hc112 : ki < 36
      · refine xg_t (xg_icF (u := ki) (v := 36) rfl xnm0 xnm0 (xj_geF hc112 (by omega))) ?_
        refine xg_t (xg_aload (va := (2, 82)) rfl rfl) ?_
        refine xg_t (xg_getf (va := (2, 102)) h82_100 rfl) ?_
        refine xg_t (xg_iload (va := (0, ki)) rfl rfl) ?_
        refine xg_t (xg_const) ?_
        refine xg_iastK (n := ki) (u := 4294967295) h102_109 xnm0 xnm0 rfl (by omega) (fun w113 hr114 hb115 => ?_)
        refine xg_t (xg_iinc (u := ki) (z := ki + 1) (l1 := [(0, (2, 82))]) rfl rfl (by omega) rfl) ?_
        refine xg_t (xg_goto) ?_
        refine xg_t (xg_drop (l1 := [(0, (2, 82)), (1, (0, ki + 1))]) (List.forall_mem_cons.mpr ⟨List.mem_cons_of_mem _ (List.mem_cons_self), List.forall_mem_cons.mpr ⟨List.mem_cons_self, fun _ h => absurd h List.not_mem_nil⟩⟩)) ?_
        exact ih58 (ki + 1) w113 (by omega) (by omega) (xMnv.up (S := [102]) hI61 (xFr.of (S := [102]) hb115 (by decide)) (List.forall_mem_cons.mpr ⟨xqu102 (show cpx102 (wget w113 102) from ⟨_, hr114, xrb (by omega) (hb110), (hx111.upd (by omega))⟩), fun _ h => absurd h List.not_mem_nil⟩)) ((hF62.tr (xFr.of (S := [82, 101, 102]) hb115 (by decide)))) (⟨(fld_of (hb115.get (by decide) h82_100)).trans (show f82_94 = 0 by omega), _, hr114, fun j hj => by show (if j = ki then 4294967295 else g102_108 j) = 4294967295; split; rfl; exact hd107 j (by omega)⟩)
      · refine xg_t (xg_icT (u := ki) (v := 36) rfl xnm0 xnm0 (xj_geT (by omega) (by omega))) ?_
        refine xg_t (xg_blq rfl) ?_
        refine xg_t (xg_const) ?_
        refine xg_t (xg_istore (l1 := [(0, (2, 82))]) rfl rfl rfl) ?_
        refine xg_t (xg_drop (l1 := [(0, (2, 82)), (1, (0, 0))]) (List.forall_mem_cons.mpr ⟨List.mem_cons_of_mem _ (List.mem_cons_self), List.forall_mem_cons.mpr ⟨List.mem_cons_self, fun _ h => absurd h List.not_mem_nil⟩⟩)) ?_
        refine xoI (xqc101 hI61 : cpI 36 68 35 (wget w60 101)) (fun g101_122 h101_123 hb124 => ?_)
        have key116 : ∀ (m118 : Nat) (ri : Nat) (w119 : List (List xE)), 6 - ri < m118 → ri ≤ 6 → xMnv w119 → xFr [82, 101, 102] w w119 → (∃ f m, FR w119 f m) → xTo (d + 1) mX12_spreads (28, [], [(0, (2, 82)), (1, (0, ri))], [], (w119, bd, fc, 0, 0, rr)) (fun φ => ∃ w', xEnd 0 [] (w', bd, fc, 0, 0, rr) φ ∧ xMnv w' ∧ xFr [82, 101, 102] w w' ∧ (∃ f m, FR w' f m)) := by
          intro m118
          induction m118 with
          | zero => intro ri w119 hz; exact absurd hz (Nat.not_lt_zero _)
          | succ m118 ih117 =>
            intro ri w119 hm127 hn125 hI120 hF121 he126
            obtain ⟨f128, m129, hfr130⟩ := he126
            obtain ⟨hfr130a, hfr130b, hfr130c, hfr130d, hfr130e, hfr130f, hfr130g⟩ := id hfr130
            refine xoCh82 (xqc82 hI120 : cp82 (wget w119 82)) (fun f82_131 f82_133 f82_135 f82_137 f82_139 f82_141 f82_143 f82_145 f82_147 f82_149 f82_151 f82_152 f82_153 f82_155 f82_157 f82_159 h82_161 hb132 hb134 hb136 hb138 hb140 hb142 hb144 hb146 hb148 hb150 hb154 hb156 hb158 hb160 hb162 => ?_)
            have hm163 : fld w119 82 33 = f82_155 := fld_of h82_161
            refine xg_t (xg_blq rfl) ?_
            refine xg_t (xg_iload (va := (0, ri)) rfl rfl) ?_
            refine xg_t (xg_aload (va := (2, 82)) rfl rfl) ?_
            refine xg_t (xg_getf (va := (2, 83)) h82_161 rfl) ?_
            refine xg_t (xg_const) ?_
            refine xg_ialdB (n := 5) (B := 4294967295) (h83_34.fr hF121 (by decide)) (hb35) xnm0 (by first | decide | omega) (fun u164 hu165 he166 => ?_)
            have hl167 : u164 ≤ 6 := by rw [← he166]; exact hx36.l5
            by_cases hc168 : ri < u164
            · refine xg_t (xg_icF (u := ri) (v := u164) rfl xnm0 xnm0 (xj_geF hc168 (by omega))) ?_
              refine xg_t (xg_aload (va := (2, 82)) rfl rfl) ?_
              refine xg_t (xg_getf (va := (2, 97)) h82_161 rfl) ?_
              refine xg_t (xg_iload (va := (0, ri)) rfl rfl) ?_
              refine xg_ialdB (n := ri) (B := 4294967295) (h97_44.fr hF121 (by decide)) (hb45) xnm0 (by omega) (fun u169 hu170 he171 => ?_)
              by_cases hc172 : u169 = 0
              · refine xg_t (xg_ifF (u := u169) rfl xnm0 (xj_neF hc172)) ?_
                refine xg_t (xg_aload (va := (2, 82)) rfl rfl) ?_
                refine xg_t (xg_bip) ?_
                refine xg_t (xg_iload (va := (0, ri)) rfl rfl) ?_
                refine xg_t (xg_imul (u := 6) (v := ri) (z := 6 * ri) xnm0 xnm0 (by omega)) ?_
                refine xg_t (xg_bip) ?_
                refine xg_t (xg_iload (va := (0, ri)) rfl rfl) ?_
                refine xg_t (xg_imul (u := 6) (v := ri) (z := 6 * ri) xnm0 xnm0 (by omega)) ?_
                refine xg_cVv mX12_meets (vs := [(0, 6 * ri), (0, 6 * ri)]) (rest := []) (cn1 := 0) (sl1 := 0) rfl (mMeets (hI120) hfr130 (by omega) (by omega) (Or.inl rfl)) rfl h82_161 rfl rfl rfl rfl rfl rfl (fun w173 hq174 => ?_)
                obtain ⟨hI175, hF176, hx177⟩ := hq174
                obtain ⟨f178, m179, hfr180, hmo181, hle182⟩ := hx177
                obtain ⟨hfr180a, hfr180b, hfr180c, hfr180d, hfr180e, hfr180f, hfr180g⟩ := id hfr180
                refine xg_t (xg_blq rfl) ?_
                refine xg_t (xg_iinc (u := ri) (z := ri + 1) (l1 := [(0, (2, 82))]) rfl rfl (by omega) rfl) ?_
                refine xg_t (xg_goto) ?_
                refine xg_t (xg_drop (l1 := [(0, (2, 82)), (1, (0, ri + 1))]) (List.forall_mem_cons.mpr ⟨List.mem_cons_of_mem _ (List.mem_cons_self), List.forall_mem_cons.mpr ⟨List.mem_cons_self, fun _ h => absurd h List.not_mem_nil⟩⟩)) ?_
                exact ih117 (ri + 1) w173 (by omega) (by omega) (hI175) ((hF121.tr (hF176.up (by decide)))) (⟨_, _, hfr180⟩)
              · refine xg_t (xg_ifT (u := u169) rfl xnm0 (xj_neT hc172)) ?_
                refine xg_t (xg_blq rfl) ?_
                refine xg_t (xg_iinc (u := ri) (z := ri + 1) (l1 := [(0, (2, 82))]) rfl rfl (by omega) rfl) ?_
                refine xg_t (xg_goto) ?_
                refine xg_t (xg_drop (l1 := [(0, (2, 82)), (1, (0, ri + 1))]) (List.forall_mem_cons.mpr ⟨List.mem_cons_of_mem _ (List.mem_cons_self), List.forall_mem_cons.mpr ⟨List.mem_cons_self, fun _ h => absurd h List.not_mem_nil⟩⟩)) ?_
                exact ih117 (ri + 1) w119 (by omega) (by omega) (hI120) (hF121) (⟨_, _, hfr130⟩)
            · refine xg_t (xg_icT (u := ri) (v := u164) rfl xnm0 xnm0 (xj_geT (by omega) (by omega))) ?_
              refine xg_t (xg_blq rfl) ?_
              refine xg_t (xg_const) ?_
              refine xg_t (xg_istore (l1 := [(0, (2, 82))]) rfl rfl rfl) ?_
              refine xg_t (xg_drop (l1 := [(0, (2, 82)), (1, (0, 0))]) (List.forall_mem_cons.mpr ⟨List.mem_cons_of_mem _ (List.mem_cons_self), List.forall_mem_cons.mpr ⟨List.mem_cons_self, fun _ h => absurd h List.not_mem_nil⟩⟩)) ?_
              have key183 : ∀ (m185 : Nat) (ii : Nat) (w186 : List (List xE)), 36 - ii < m185 → ii ≤ 36 → xMnv w186 → xFr [82, 101, 102] w w186 → (∃ f m, FR w186 f m) → xTo (d + 1) mX12_spreads (67, [], [(0, (2, 82)), (1, (0, ii))], [], (w186, bd, fc, 0, 0, rr)) (fun φ => ∃ w', xEnd 0 [] (w', bd, fc, 0, 0, rr) φ ∧ xMnv w' ∧ xFr [82, 101, 102] w w' ∧ (∃ f m, FR w' f m)) := by
                intro m185
                induction m185 with
                | zero => intro ii w186 hz; exact absurd hz (Nat.not_lt_zero _)
                | succ m185 ih184 =>
                  intro ii w186 hm191 hn189 hI187 hF188 he190
                  obtain ⟨f192, m193, hfr194⟩ := he190
                  obtain ⟨hfr194a, hfr194b, hfr194c, hfr194d, hfr194e, hfr194f, hfr194g⟩ := id hfr194
                  refine xoCh82 (xqc82 hI187 : cp82 (wget w186 82)) (fun f82_195 f82_197 f82_199 f82_201 f82_203 f82_205 f82_207 f82_209 f82_211 f82_213 f82_215 f82_216 f82_217 f82_219 f82_221 f82_223 h82_225 hb196 hb198 hb200 hb202 hb204 hb206 hb208 hb210 hb212 hb214 hb218 hb220 hb222 hb224 hb226 => ?_)
                  have hm227 : fld w186 82 33 = f82_219 := fld_of h82_225
                  refine xg_t (xg_blq rfl) ?_
                  refine xg_t (xg_iload (va := (0, ii)) rfl rfl) ?_
                  refine xg_t (xg_aload (va := (2, 82)) rfl rfl) ?_
                  refine xg_t (xg_getf (va := (0, f82_219)) h82_225 rfl) ?_
                  have hn228 : f82_219 ≤ 36 := hb220
                  by_cases hc229 : ii < f82_219
                  · refine xg_t (xg_icF (u := ii) (v := f82_219) rfl xnm0 xnm0 (xj_geF hc229 (by omega))) ?_
                    refine xg_t (xg_aload (va := (2, 82)) rfl rfl) ?_
                    refine xg_t (xg_getf (va := (2, 101)) h82_225 rfl) ?_
                    refine xg_t (xg_iload (va := (0, ii)) rfl rfl) ?_
                    refine xg_ialdB (n := ii) (B := 35) hfr194d (hfr194e) xnm0 (by omega) (fun u230 hu231 he232 => ?_)
                    have hpm233 := hfr194g ii (by omega)
                    rw [he232] at hpm233
                    refine xg_t (xg_istore (l1 := [(0, (2, 82)), (1, (0, ii))]) rfl rfl rfl) ?_
                    have jn234 : ∀ (w235 : List (List xE)), xMnv w235 → xFr [82, 101, 102] w w235 → (∃ f m, FR w235 f m ∧ f u230 ≠ 4294967295) → xTo (d + 1) mX12_spreads (215, [], [(0, (2, 82)), (1, (0, ii)), (2, (0, u230))], [], (w235, bd, fc, 0, 0, rr)) (fun φ => ∃ w', xEnd 0 [] (w', bd, fc, 0, 0, rr) φ ∧ xMnv w' ∧ xFr [82, 101, 102] w w' ∧ (∃ f m, FR w' f m)) := by
                      intro w235 hI236 hF237 he238
                      obtain ⟨f239, m240, hfr241, hpm242⟩ := he238
                      obtain ⟨hfr241a, hfr241b, hfr241c, hfr241d, hfr241e, hfr241f, hfr241g⟩ := id hfr241
                      refine xg_t (xg_blq rfl) ?_
                      refine xg_t (xg_iinc (u := ii) (z := ii + 1) (l1 := [(0, (2, 82)), (2, (0, u230))]) rfl rfl (by omega) rfl) ?_
                      refine xg_t (xg_goto) ?_
                      refine xg_t (xg_drop (l1 := [(0, (2, 82)), (1, (0, ii + 1))]) (List.forall_mem_cons.mpr ⟨List.mem_cons_of_mem _ (List.mem_cons_self), List.forall_mem_cons.mpr ⟨List.mem_cons_self, fun _ h => absurd h List.not_mem_nil⟩⟩)) ?_
                      exact ih184 (ii + 1) w235 (by omega) (by omega) (hI236) (hF237) (⟨_, _, hfr241⟩)
                    have jn243 : ∀ (w244 : List (List xE)), xMnv w244 → xFr [82, 101, 102] w w244 → (∃ f m, FR w244 f m ∧ f u230 ≠ 4294967295) → xTo (d + 1) mX12_spreads (175, [], [(0, (2, 82)), (1, (0, ii)), (2, (0, u230))], [], (w244, bd, fc, 0, 0, rr)) (fun φ => ∃ w', xEnd 0 [] (w', bd, fc, 0, 0, rr) φ ∧ xMnv w' ∧ xFr [82, 101, 102] w w' ∧ (∃ f m, FR w' f m)) := by
                      intro w244 hI245 hF246 he247
                      obtain ⟨f248, m249, hfr250, hpm251⟩ := he247
                      obtain ⟨hfr250a, hfr250b, hfr250c, hfr250d, hfr250e, hfr250f, hfr250g⟩ := id hfr250
                      refine xg_t (xg_blq rfl) ?_
                      refine xg_t (xg_iload (va := (0, u230)) rfl rfl) ?_
                      refine xg_t (xg_bip) ?_
                      by_cases hc252 : u230 < 6
                      · refine xg_t (xg_icT (u := u230) (v := 6) rfl xnm0 xnm0 (xj_ltT hc252 (by omega))) ?_
                        exact jn234 w244 (hI245) (hF246) (⟨_, _, hfr250, hpm251⟩)
                      · refine xg_t (xg_icF (u := u230) (v := 6) rfl xnm0 xnm0 (xj_ltF (by omega) (by omega))) ?_
                        refine xg_t (xg_aload (va := (2, 82)) rfl rfl) ?_
                        refine xoCh82 (xqc82 hI245 : cp82 (wget w244 82)) (fun f82_253 f82_255 f82_257 f82_259 f82_261 f82_263 f82_265 f82_267 f82_269 f82_271 f82_273 f82_274 f82_275 f82_277 f82_279 f82_281 h82_283 hb254 hb256 hb258 hb260 hb262 hb264 hb266 hb268 hb270 hb272 hb276 hb278 hb280 hb282 hb284 => ?_)
                        refine xg_t (xg_getf (va := (2, 100)) h82_283 rfl) ?_
                        refine xg_t (xg_iload (va := (0, u230)) rfl rfl) ?_
                        refine xg_t (xg_bip) ?_
                        refine xg_t (xg_isub (u := u230) (v := 6) (z := u230 - 6) xnm0 xnm0 (by omega)) ?_
                        refine xg_baldB (n := u230 - 6) (B := 1) (h100_51.fr hF246 (by decide)) rfl (hb52) xnm0 (by omega) (fun u285 hu286 he287 => ?_)
                        have hz288 := hx53 (u230 - 6)
                        by_cases hc289 : u285 = 0
                        · refine xg_t (xg_ifT (u := u285) rfl xnm0 (xj_eqT hc289)) ?_
                          exact jn234 w244 (hI245) (hF246) (⟨_, _, hfr250, hpm251⟩)
                        · refine xg_t (xg_ifF (u := u285) rfl xnm0 (xj_eqF hc289)) ?_
                          refine xg_t (xg_aload (va := (2, 82)) rfl rfl) ?_
                          refine xg_t (xg_getf (va := (2, 96)) h82_283 rfl) ?_
                          refine xg_t (xg_iload (va := (0, u230)) rfl rfl) ?_
                          refine xg_t (xg_bip) ?_
                          refine xg_t (xg_isub (u := u230) (v := 6) (z := u230 - 6) xnm0 xnm0 (by omega)) ?_
                          refine xg_ialdB (n := u230 - 6) (B := 4294967295) (h96_41.fr hF246 (by decide)) (hb42) xnm0 (by omega) (fun u290 hu291 he292 => ?_)
                          refine xg_t (xg_const) ?_
                          by_cases hc293 : xbs 4294967295 < xbs u290
                          · have hc293u := hc293
                            unfold xbs at hc293u
                            have hn294 : u290 ≤ 2147483647 := by omega
                            refine xg_t (xg_icF (u := u290) (v := 4294967295) rfl xnm0 xnm0 (xjs_leF hc293)) ?_
                            refine xg_t (xg_aload (va := (2, 82)) rfl rfl) ?_
                            refine xg_t (xg_iload (va := (0, u230)) rfl rfl) ?_
                            refine xg_t (xg_bip) ?_
                            refine xg_t (xg_isub (u := u230) (v := 6) (z := u230 - 6) xnm0 xnm0 (by omega)) ?_
                            refine xg_t (xg_iload (va := (0, u230)) rfl rfl) ?_
                            refine xg_cVv mX12_meets (vs := [(0, u230 - 6), (0, u230)]) (rest := []) (cn1 := 0) (sl1 := 0) rfl (mMeets (hI245) hfr250 (by omega) (by omega) (Or.inr hpm251)) rfl h82_283 rfl rfl rfl rfl rfl rfl (fun w295 hq296 => ?_)
                            obtain ⟨hI297, hF298, hx299⟩ := hq296
                            obtain ⟨f300, m301, hfr302, hmo303, hle304⟩ := hx299
                            obtain ⟨hfr302a, hfr302b, hfr302c, hfr302d, hfr302e, hfr302f, hfr302g⟩ := id hfr302
                            exact jn234 w295 (hI297) ((hF246.tr (hF298.up (by decide)))) (⟨_, _, hfr302, (hmo303 _ hpm251)⟩)
                          · have hc293u := hc293
                            unfold xbs at hc293u
                            refine xg_t (xg_icT (u := u290) (v := 4294967295) rfl xnm0 xnm0 (xjs_leT hc293)) ?_
                            exact jn234 w244 (hI245) (hF246) (⟨_, _, hfr250, hpm251⟩)
                    have jn305 : ∀ (w306 : List (List xE)), xMnv w306 → xFr [82, 101, 102] w w306 → (∃ f m, FR w306 f m ∧ f u230 ≠ 4294967295) → xTo (d + 1) mX12_spreads (147, [], [(0, (2, 82)), (1, (0, ii)), (2, (0, u230))], [], (w306, bd, fc, 0, 0, rr)) (fun φ => ∃ w', xEnd 0 [] (w', bd, fc, 0, 0, rr) φ ∧ xMnv w' ∧ xFr [82, 101, 102] w w' ∧ (∃ f m, FR w' f m)) := by
                      intro w306 hI307 hF308 he309
                      obtain ⟨f310, m311, hfr312, hpm313⟩ := he309
                      obtain ⟨hfr312a, hfr312b, hfr312c, hfr312d, hfr312e, hfr312f, hfr312g⟩ := id hfr312
                      refine xg_t (xg_blq rfl) ?_
                      refine xg_t (xg_aload (va := (2, 82)) rfl rfl) ?_
                      refine xoCh82 (xqc82 hI307 : cp82 (wget w306 82)) (fun f82_314 f82_316 f82_318 f82_320 f82_322 f82_324 f82_326 f82_328 f82_330 f82_332 f82_334 f82_335 f82_336 f82_338 f82_340 f82_342 h82_344 hb315 hb317 hb319 hb321 hb323 hb325 hb327 hb329 hb331 hb333 hb337 hb339 hb341 hb343 hb345 => ?_)
                      refine xg_t (xg_getf (va := (2, 100)) h82_344 rfl) ?_
                      refine xg_t (xg_iload (va := (0, u230)) rfl rfl) ?_
                      refine xg_baldB (n := u230) (B := 1) (h100_51.fr hF308 (by decide)) rfl (hb52) xnm0 (by omega) (fun u346 hu347 he348 => ?_)
                      have hz349 := hx53 u230
                      by_cases hc350 : u346 = 0
                      · refine xg_t (xg_ifT (u := u346) rfl xnm0 (xj_eqT hc350)) ?_
                        exact jn243 w306 (hI307) (hF308) (⟨_, _, hfr312, hpm313⟩)
                      · refine xg_t (xg_ifF (u := u346) rfl xnm0 (xj_eqF hc350)) ?_
                        refine xg_t (xg_aload (va := (2, 82)) rfl rfl) ?_
                        refine xg_t (xg_getf (va := (2, 96)) h82_344 rfl) ?_
                        refine xg_t (xg_iload (va := (0, u230)) rfl rfl) ?_
                        refine xg_ialdB (n := u230) (B := 4294967295) (h96_41.fr hF308 (by decide)) (hb42) xnm0 (by omega) (fun u351 hu352 he353 => ?_)
                        refine xg_t (xg_const) ?_
                        by_cases hc354 : xbs u351 < xbs 1
                        · have hc354u := hc354
                          unfold xbs at hc354u
                          refine xg_t (xg_icF (u := u351) (v := 1) rfl xnm0 xnm0 (xjs_geF hc354)) ?_
                          refine xg_t (xg_aload (va := (2, 82)) rfl rfl) ?_
                          refine xg_t (xg_iload (va := (0, u230)) rfl rfl) ?_
                          refine xg_t (xg_bip) ?_
                          refine xg_t (xg_iadd (u := u230) (v := 6) (z := u230 + 6) xnm0 xnm0 (by omega)) ?_
                          refine xg_t (xg_iload (va := (0, u230)) rfl rfl) ?_
                          refine xg_cVv mX12_meets (vs := [(0, u230 + 6), (0, u230)]) (rest := []) (cn1 := 0) (sl1 := 0) rfl (mMeets (hI307) hfr312 (by omega) (by omega) (Or.inr hpm313)) rfl h82_344 rfl rfl rfl rfl rfl rfl (fun w355 hq356 => ?_)
                          obtain ⟨hI357, hF358, hx359⟩ := hq356
                          obtain ⟨f360, m361, hfr362, hmo363, hle364⟩ := hx359
                          obtain ⟨hfr362a, hfr362b, hfr362c, hfr362d, hfr362e, hfr362f, hfr362g⟩ := id hfr362
                          exact jn243 w355 (hI357) ((hF308.tr (hF358.up (by decide)))) (⟨_, _, hfr362, (hmo363 _ hpm313)⟩)
                        · have hc354u := hc354
                          unfold xbs at hc354u
                          have hn365 : u351 ≤ 2147483647 := by omega
                          refine xg_t (xg_icT (u := u351) (v := 1) rfl xnm0 xnm0 (xjs_geT hc354)) ?_
                          exact jn243 w306 (hI307) (hF308) (⟨_, _, hfr312, hpm313⟩)
                    have jn366 : ∀ (w367 : List (List xE)), xMnv w367 → xFr [82, 101, 102] w w367 → (∃ f m, FR w367 f m ∧ f u230 ≠ 4294967295) → xTo (d + 1) mX12_spreads (109, [], [(0, (2, 82)), (1, (0, ii)), (2, (0, u230))], [], (w367, bd, fc, 0, 0, rr)) (fun φ => ∃ w', xEnd 0 [] (w', bd, fc, 0, 0, rr) φ ∧ xMnv w' ∧ xFr [82, 101, 102] w w' ∧ (∃ f m, FR w' f m)) := by
                      intro w367 hI368 hF369 he370
                      obtain ⟨f371, m372, hfr373, hpm374⟩ := he370
                      obtain ⟨hfr373a, hfr373b, hfr373c, hfr373d, hfr373e, hfr373f, hfr373g⟩ := id hfr373
                      refine xg_t (xg_blq rfl) ?_
                      refine xg_t (xg_iload (va := (0, u230)) rfl rfl) ?_
                      refine xg_t (xg_bip) ?_
                      refine xg_t (xg_irem (u := u230) (v := 6) (z := u230 % 6) xnm0 xnm0 (by omega) (by decide) (by decide) (rfl)) ?_
                      by_cases hc375 : 0 < (u230 % 6)
                      · refine xg_t (xg_ifF (u := u230 % 6) rfl xnm0 (xj_leF hc375 (by omega))) ?_
                        refine xg_t (xg_aload (va := (2, 82)) rfl rfl) ?_
                        refine xoCh82 (xqc82 hI368 : cp82 (wget w367 82)) (fun f82_376 f82_378 f82_380 f82_382 f82_384 f82_386 f82_388 f82_390 f82_392 f82_394 f82_396 f82_397 f82_398 f82_400 f82_402 f82_404 h82_406 hb377 hb379 hb381 hb383 hb385 hb387 hb389 hb391 hb393 hb395 hb399 hb401 hb403 hb405 hb407 => ?_)
                        refine xg_t (xg_getf (va := (2, 99)) h82_406 rfl) ?_
                        refine xg_t (xg_iload (va := (0, u230)) rfl rfl) ?_
                        refine xg_t (xg_const) ?_
                        refine xg_t (xg_isub (u := u230) (v := 1) (z := u230 - 1) xnm0 xnm0 (by omega)) ?_
                        refine xg_baldB (n := u230 - 1) (B := 1) (h99_47.fr hF369 (by decide)) rfl (hb48) xnm0 (by omega) (fun u408 hu409 he410 => ?_)
                        have hz411 := hx49 (u230 - 1)
                        by_cases hc412 : u408 = 0
                        · refine xg_t (xg_ifT (u := u408) rfl xnm0 (xj_eqT hc412)) ?_
                          exact jn305 w367 (hI368) (hF369) (⟨_, _, hfr373, hpm374⟩)
                        · refine xg_t (xg_ifF (u := u408) rfl xnm0 (xj_eqF hc412)) ?_
                          refine xg_t (xg_aload (va := (2, 82)) rfl rfl) ?_
                          refine xg_t (xg_getf (va := (2, 95)) h82_406 rfl) ?_
                          refine xg_t (xg_iload (va := (0, u230)) rfl rfl) ?_
                          refine xg_t (xg_const) ?_
                          refine xg_t (xg_isub (u := u230) (v := 1) (z := u230 - 1) xnm0 xnm0 (by omega)) ?_
                          refine xg_ialdB (n := u230 - 1) (B := 4294967295) (h95_38.fr hF369 (by decide)) (hb39) xnm0 (by omega) (fun u413 hu414 he415 => ?_)
                          refine xg_t (xg_const) ?_
                          by_cases hc416 : xbs 4294967295 < xbs u413
                          · have hc416u := hc416
                            unfold xbs at hc416u
                            have hn417 : u413 ≤ 2147483647 := by omega
                            refine xg_t (xg_icF (u := u413) (v := 4294967295) rfl xnm0 xnm0 (xjs_leF hc416)) ?_
                            refine xg_t (xg_aload (va := (2, 82)) rfl rfl) ?_
                            refine xg_t (xg_iload (va := (0, u230)) rfl rfl) ?_
                            refine xg_t (xg_const) ?_
                            refine xg_t (xg_isub (u := u230) (v := 1) (z := u230 - 1) xnm0 xnm0 (by omega)) ?_
                            refine xg_t (xg_iload (va := (0, u230)) rfl rfl) ?_
                            refine xg_cVv mX12_meets (vs := [(0, u230 - 1), (0, u230)]) (rest := []) (cn1 := 0) (sl1 := 0) rfl (mMeets (hI368) hfr373 (by omega) (by omega) (Or.inr hpm374)) rfl h82_406 rfl rfl rfl rfl rfl rfl (fun w418 hq419 => ?_)
                            obtain ⟨hI420, hF421, hx422⟩ := hq419
                            obtain ⟨f423, m424, hfr425, hmo426, hle427⟩ := hx422
                            obtain ⟨hfr425a, hfr425b, hfr425c, hfr425d, hfr425e, hfr425f, hfr425g⟩ := id hfr425
                            exact jn305 w418 (hI420) ((hF369.tr (hF421.up (by decide)))) (⟨_, _, hfr425, (hmo426 _ hpm374)⟩)
                          · have hc416u := hc416
                            unfold xbs at hc416u
                            refine xg_t (xg_icT (u := u413) (v := 4294967295) rfl xnm0 xnm0 (xjs_leT hc416)) ?_
                            exact jn305 w367 (hI368) (hF369) (⟨_, _, hfr373, hpm374⟩)
                      · refine xg_t (xg_ifT (u := u230 % 6) rfl xnm0 (xj_leT (by omega) (by omega))) ?_
                        exact jn305 w367 (hI368) (hF369) (⟨_, _, hfr373, hpm374⟩)
                    refine xg_t (xg_aload (va := (2, 82)) rfl rfl) ?_
                    refine xg_t (xg_getf (va := (2, 99)) h82_225 rfl) ?_
                    refine xg_t (xg_iload (va := (0, u230)) rfl rfl) ?_
                    refine xg_baldB (n := u230) (B := 1) (h99_47.fr hF188 (by decide)) rfl (hb48) xnm0 (by omega) (fun u428 hu429 he430 => ?_)
                    have hz431 := hx49 u230
                    by_cases hc432 : u428 = 0
                    · refine xg_t (xg_ifT (u := u428) rfl xnm0 (xj_eqT hc432)) ?_
                      refine xg_t (xg_drop (l1 := [(0, (2, 82)), (1, (0, ii)), (2, (0, u230))]) (List.forall_mem_cons.mpr ⟨List.mem_cons_of_mem _ (List.mem_cons_self), List.forall_mem_cons.mpr ⟨List.mem_cons_of_mem _ (List.mem_cons_of_mem _ (List.mem_cons_self)), List.forall_mem_cons.mpr ⟨List.mem_cons_self, fun _ h => absurd h List.not_mem_nil⟩⟩⟩)) ?_
                      exact jn366 w186 (hI187) (hF188) (⟨_, _, hfr194, hpm233⟩)
                    · refine xg_t (xg_ifF (u := u428) rfl xnm0 (xj_eqF hc432)) ?_
                      refine xg_t (xg_aload (va := (2, 82)) rfl rfl) ?_
                      refine xg_t (xg_getf (va := (2, 95)) h82_225 rfl) ?_
                      refine xg_t (xg_iload (va := (0, u230)) rfl rfl) ?_
                      refine xg_ialdB (n := u230) (B := 4294967295) (h95_38.fr hF188 (by decide)) (hb39) xnm0 (by omega) (fun u433 hu434 he435 => ?_)
                      refine xg_t (xg_const) ?_
                      by_cases hc436 : xbs u433 < xbs 1
                      · have hc436u := hc436
                        unfold xbs at hc436u
                        refine xg_t (xg_icF (u := u433) (v := 1) rfl xnm0 xnm0 (xjs_geF hc436)) ?_
                        refine xg_t (xg_aload (va := (2, 82)) rfl rfl) ?_
                        refine xg_t (xg_iload (va := (0, u230)) rfl rfl) ?_
                        refine xg_t (xg_const) ?_
                        refine xg_t (xg_iadd (u := u230) (v := 1) (z := u230 + 1) xnm0 xnm0 (by omega)) ?_
                        refine xg_t (xg_iload (va := (0, u230)) rfl rfl) ?_
                        refine xg_cVv mX12_meets (vs := [(0, u230 + 1), (0, u230)]) (rest := []) (cn1 := 0) (sl1 := 0) rfl (mMeets (hI187) hfr194 (by omega) (by omega) (Or.inr hpm233)) rfl h82_225 rfl rfl rfl rfl rfl rfl (fun w437 hq438 => ?_)
                        obtain ⟨hI439, hF440, hx441⟩ := hq438
                        obtain ⟨f442, m443, hfr444, hmo445, hle446⟩ := hx441
                        obtain ⟨hfr444a, hfr444b, hfr444c, hfr444d, hfr444e, hfr444f, hfr444g⟩ := id hfr444
                        refine xg_t (xg_drop (l1 := [(0, (2, 82)), (1, (0, ii)), (2, (0, u230))]) (List.forall_mem_cons.mpr ⟨List.mem_cons_of_mem _ (List.mem_cons_self), List.forall_mem_cons.mpr ⟨List.mem_cons_of_mem _ (List.mem_cons_of_mem _ (List.mem_cons_self)), List.forall_mem_cons.mpr ⟨List.mem_cons_self, fun _ h => absurd h List.not_mem_nil⟩⟩⟩)) ?_
                        exact jn366 w437 (hI439) ((hF188.tr (hF440.up (by decide)))) (⟨_, _, hfr444, (hmo445 _ hpm233)⟩)
                      · have hc436u := hc436
                        unfold xbs at hc436u
                        have hn447 : u433 ≤ 2147483647 := by omega
                        refine xg_t (xg_icT (u := u433) (v := 1) rfl xnm0 xnm0 (xjs_geT hc436)) ?_
                        refine xg_t (xg_drop (l1 := [(0, (2, 82)), (1, (0, ii)), (2, (0, u230))]) (List.forall_mem_cons.mpr ⟨List.mem_cons_of_mem _ (List.mem_cons_self), List.forall_mem_cons.mpr ⟨List.mem_cons_of_mem _ (List.mem_cons_of_mem _ (List.mem_cons_self)), List.forall_mem_cons.mpr ⟨List.mem_cons_self, fun _ h => absurd h List.not_mem_nil⟩⟩⟩)) ?_
                        exact jn366 w186 (hI187) (hF188) (⟨_, _, hfr194, hpm233⟩)
                  · refine xg_t (xg_icT (u := ii) (v := f82_219) rfl xnm0 xnm0 (xj_geT (by omega) (by omega))) ?_
                    refine xg_t (xg_blq rfl) ?_
                    exact xg_e ⟨w186, ⟨rfl, rfl⟩, hI187, hF188, ⟨_, _, hfr194⟩⟩
              exact key183 _ 0 w119 (Nat.lt_succ_self _) (by omega) (hI120) (hF121) (⟨_, _, hfr130⟩)
        exact key116 _ 0 w60 (Nat.lt_succ_self _) (by omega) (hI61) (hF62) (⟨_, _, FR.start h102_109 hx111 (fun j hj => hd107 j (by omega)) h101_123 hb124 h0103⟩)
  exact key57 _ 0 w54 (Nat.lt_succ_self _) (by omega) (xMnv.up (S := [82]) hI (xFr.of (S := [82]) hb56 (by decide)) (List.forall_mem_cons.mpr ⟨xqu82 (show cp82 (wget w54 82) from xmC82 f82_1 f82_3 f82_5 f82_7 f82_9 f82_11 f82_13 f82_15 f82_17 f82_19 f82_21 f82_22 f82_23 0 f82_27 f82_29 hk55 hb2 hb4 hb6 hb8 hb10 hb12 hb14 hb16 hb18 hb20 hb24 (by decide) hb28 hb30 (by omega)), fun _ h => absurd h List.not_mem_nil⟩)) ((xFr.of (S := [82, 101, 102]) hb56 (by decide))) (⟨fld_of hk55, _, (h102_64.but hb56 (by decide)), fun j hj => absurd hj (Nat.not_lt_zero _)⟩)
theorem mGoesBack {f0 m0 : Nat → Nat} {en : Nat} (hI : xMnv w) (hfr : FR w f0 m0) (hen : en < 36) (hne : f0 en ≠ 4294967295) : xPq d mX12_goesBack [(2, 82), (0, en)] w bd fc rr [] (fun w' => xMnv w' ∧ xFr [95, 96, 97] w w') := by
  refine xPq.of ?_
  show xTo d mX12_goesBack (0, [], [(0, (2, 82)), (1, (0, en))], [], (w, bd, fc, 0, 0, rr)) (fun φ => ∃ w', xEnd 0 [] (w', bd, fc, 0, 0, rr) φ ∧ xMnv w' ∧ xFr [95, 96, 97] w w')
  obtain ⟨hfra, hfrb, hfrc, hfrd, hfre, hfrf, hfrg⟩ := id hfr
  obtain ⟨rk, hrk⟩ := id hfrb
  refine xoCh82 (xqc82 hI : cp82 (wget w 82)) (fun f82_1 f82_3 f82_5 f82_7 f82_9 f82_11 f82_13 f82_15 f82_17 f82_19 f82_21 f82_22 f82_23 f82_25 f82_27 f82_29 h82_31 hb2 hb4 hb6 hb8 hb10 hb12 hb14 hb16 hb18 hb20 hb24 hb26 hb28 hb30 hb32 => ?_)
  refine xoI (xqc95 hI : cpI 36 62 4294967295 (wget w 95)) (fun g95_33 h95_34 hb35 => ?_)
  refine xoI (xqc96 hI : cpI 36 63 4294967295 (wget w 96)) (fun g96_36 h96_37 hb38 => ?_)
  refine xg_t (xg_blq rfl) ?_
  refine xg_t (xg_iload (va := (0, en)) rfl rfl) ?_
  refine xg_t (xg_istore (l1 := [(0, (2, 82)), (1, (0, en))]) rfl rfl rfl) ?_
  refine xg_t (xg_drop (l1 := [(0, (2, 82)), (1, (0, en)), (2, (0, en))]) (List.forall_mem_cons.mpr ⟨List.mem_cons_of_mem _ (List.mem_cons_self), List.forall_mem_cons.mpr ⟨List.mem_cons_of_mem _ (List.mem_cons_of_mem _ (List.mem_cons_self)), List.forall_mem_cons.mpr ⟨List.mem_cons_self, fun _ h => absurd h List.not_mem_nil⟩⟩⟩)) ?_
  have key39 : ∀ (m41 : Nat) (pp : Nat) (w42 : List (List xE)), rk pp < m41 → pp ≤ 35 → xMnv w42 → xFr [95, 96, 97] w w42 → f0 pp ≠ 4294967295 → xTo d mX12_goesBack (2, [], [(0, (2, 82)), (1, (0, en)), (2, (0, pp))], [], (w42, bd, fc, 0, 0, rr)) (fun φ => ∃ w', xEnd 0 [] (w', bd, fc, 0, 0, rr) φ ∧ xMnv w' ∧ xFr [95, 96, 97] w w') := by
    intro m41
    induction m41 with
    | zero => intro pp w42 hz; exact absurd hz (Nat.not_lt_zero _)
    | succ m41 ih40 =>
      intro pp w42 hm47 hn45 hI43 hF44 he46
      refine xg_t (xg_blq rfl) ?_
      refine xg_t (xg_aload (va := (2, 82)) rfl rfl) ?_
      refine xg_t (xg_getf (va := (2, 102)) (hF44.get (by decide) h82_31) rfl) ?_
      refine xg_t (xg_iload (va := (0, pp)) rfl rfl) ?_
      refine xg_ialdB (n := pp) (B := 4294967295) (hfra.fr hF44 (by decide)) ((okN.le hfrc)) xnm0 (by omega) (fun u48 hu49 he50 => ?_)
      have hz51 := hfrc pp
      have hq52 := hrk pp (by omega)
      rw [he50] at hq52
      have hl53 : u48 ≤ 35 := by omega
      refine xg_t (xg_iload (va := (0, pp)) rfl rfl) ?_
      by_cases hc54 : u48 = pp
      · refine xg_t (xg_icT (u := u48) (v := pp) rfl xnm0 xnm0 (xj_eqT hc54)) ?_
        refine xg_t (xg_blq rfl) ?_
        refine xg_t (xg_aload (va := (2, 82)) rfl rfl) ?_
        refine xg_t (xg_getf (va := (2, 97)) (hF44.get (by decide) h82_31) rfl) ?_
        refine xg_t (xg_iload (va := (0, pp)) rfl rfl) ?_
        refine xg_t (xg_bip) ?_
        refine xg_t (xg_idiv (u := pp) (v := 6) (z := pp / 6) xnm0 xnm0 (by omega) (by decide) (by decide) (rfl)) ?_
        refine xg_t (xg_const) ?_
        refine xoI (xqc97 hI43 : cpI 6 64 4294967295 (wget w42 97)) (fun g97_55 h97_56 hb57 => ?_)
        refine xg_iastK (n := pp / 6) (u := 1) h97_56 xnm0 xnm0 rfl (by omega) (fun w58 hr59 hb60 => ?_)
        exact xg_e ⟨w58, ⟨rfl, rfl⟩, xMnv.up (S := [97]) hI43 (xFr.of (S := [97]) hb60 (by decide)) (List.forall_mem_cons.mpr ⟨xqu97 (show cpI 6 64 4294967295 (wget w58 97) from ⟨_, hr59, xrb (by omega) (hb57)⟩), fun _ h => absurd h List.not_mem_nil⟩), (hF44.tr (xFr.of (S := [95, 96, 97]) hb60 (by decide)))⟩
      · refine xg_t (xg_icF (u := u48) (v := pp) rfl xnm0 xnm0 (xj_eqF hc54)) ?_
        refine xg_t (xg_aload (va := (2, 82)) rfl rfl) ?_
        refine xg_t (xg_getf (va := (2, 102)) (hF44.get (by decide) h82_31) rfl) ?_
        refine xg_t (xg_iload (va := (0, pp)) rfl rfl) ?_
        refine xg_ialdB (n := pp) (B := 4294967295) (hfra.fr hF44 (by decide)) ((okN.le hfrc)) xnm0 (by omega) (fun u61 hu62 he63 => ?_)
        have hz64 := hfrc pp
        have hq65 := hrk pp (by omega)
        rw [he63] at hq65
        have hl66 : u61 ≤ 35 := by omega
        refine xg_t (xg_istore (l1 := [(0, (2, 82)), (1, (0, en)), (2, (0, pp))]) rfl rfl rfl) ?_
        refine xg_t (xg_iload (va := (0, pp)) rfl rfl) ?_
        refine xg_t (xg_iload (va := (0, u61)) rfl rfl) ?_
        refine xg_t (xg_const) ?_
        refine xg_t (xg_iadd (u := u61) (v := 1) (z := u61 + 1) xnm0 xnm0 (by omega)) ?_
        by_cases hc67 : pp = (u61 + 1)
        · refine xg_t (xg_icF (u := pp) (v := u61 + 1) rfl xnm0 xnm0 (xj_neF hc67)) ?_
          refine xg_t (xg_aload (va := (2, 82)) rfl rfl) ?_
          refine xg_t (xg_getf (va := (2, 95)) (hF44.get (by decide) h82_31) rfl) ?_
          refine xg_t (xg_iload (va := (0, u61)) rfl rfl) ?_
          refine xg_t (xg_dup2 rfl) ?_
          refine xoI (xqc95 hI43 : cpI 36 62 4294967295 (wget w42 95)) (fun g95_68 h95_69 hb70 => ?_)
          refine xg_ialdB (n := u61) (B := 4294967295) h95_69 (hb70) xnm0 (by omega) (fun u71 hu72 he73 => ?_)
          refine xg_t (xg_const) ?_
          refine xg_k (xg_iadd (u := u71) (v := 1) (z := (u71 + 1) % 4294967296) xnm0 xnm0 rfl) (Nat.mod_lt _ (by decide)) (fun z74 hz75 => ?_)
          refine xg_iastK (n := u61) (u := z74) h95_69 xnm0 xnm0 rfl (by omega) (fun w76 hr77 hb78 => ?_)
          refine xg_t (xg_blq rfl) ?_
          refine xg_t (xg_iload (va := (0, pp)) rfl rfl) ?_
          refine xg_t (xg_iload (va := (0, u61)) rfl rfl) ?_
          refine xg_t (xg_const) ?_
          refine xg_k (xg_isub (u := u61) (v := 1) (z := (u61 + (4294967296 - 1)) % 4294967296) xnm0 xnm0 rfl) (Nat.mod_lt _ (by decide)) (fun z79 hz80 => ?_)
          by_cases hc81 : pp = z79
          · refine xg_t (xg_icF (u := pp) (v := z79) rfl xnm0 xnm0 (xj_neF hc81)) ?_
            refine xg_t (xg_aload (va := (2, 82)) rfl rfl) ?_
            refine xg_t (xg_getf (va := (2, 95)) (hb78.get (by decide) (hF44.get (by decide) h82_31)) rfl) ?_
            refine xg_t (xg_iload (va := (0, pp)) rfl rfl) ?_
            refine xg_t (xg_dup2 rfl) ?_
            refine xg_ialdB (n := pp) (B := 4294967295) hr77 (xrb (by omega) (hb70)) xnm0 (by omega) (fun u82 hu83 he84 => ?_)
            refine xg_t (xg_const) ?_
            refine xg_k (xg_isub (u := u82) (v := 1) (z := (u82 + (4294967296 - 1)) % 4294967296) xnm0 xnm0 rfl) (Nat.mod_lt _ (by decide)) (fun z85 hz86 => ?_)
            refine xg_iastK (n := pp) (u := z85) hr77 xnm0 xnm0 rfl (by omega) (fun w87 hr88 hb89 => ?_)
            refine xg_t (xg_blq rfl) ?_
            refine xg_t (xg_iload (va := (0, pp)) rfl rfl) ?_
            refine xg_t (xg_iload (va := (0, u61)) rfl rfl) ?_
            refine xg_t (xg_bip) ?_
            refine xg_t (xg_iadd (u := u61) (v := 6) (z := u61 + 6) xnm0 xnm0 (by omega)) ?_
            by_cases hc90 : pp = (u61 + 6)
            · refine xg_t (xg_icF (u := pp) (v := u61 + 6) rfl xnm0 xnm0 (xj_neF hc90)) ?_
              refine xg_t (xg_aload (va := (2, 82)) rfl rfl) ?_
              refine xg_t (xg_getf (va := (2, 96)) (hb89.get (by decide) (hb78.get (by decide) (hF44.get (by decide) h82_31))) rfl) ?_
              refine xg_t (xg_iload (va := (0, u61)) rfl rfl) ?_
              refine xg_t (xg_dup2 rfl) ?_
              refine xoI (xqc96 hI43 : cpI 36 63 4294967295 (wget w42 96)) (fun g96_91 h96_92 hb93 => ?_)
              refine xg_ialdB (n := u61) (B := 4294967295) ((h96_92.but hb78 (by decide)).but hb89 (by decide)) (hb93) xnm0 (by omega) (fun u94 hu95 he96 => ?_)
              refine xg_t (xg_const) ?_
              refine xg_k (xg_iadd (u := u94) (v := 1) (z := (u94 + 1) % 4294967296) xnm0 xnm0 rfl) (Nat.mod_lt _ (by decide)) (fun z97 hz98 => ?_)
              refine xg_iastK (n := u61) (u := z97) ((h96_92.but hb78 (by decide)).but hb89 (by decide)) xnm0 xnm0 rfl (by omega) (fun w99 hr100 hb101 => ?_)
              refine xg_t (xg_blq rfl) ?_
              refine xg_t (xg_iload (va := (0, pp)) rfl rfl) ?_
              refine xg_t (xg_iload (va := (0, u61)) rfl rfl) ?_
              refine xg_t (xg_bip) ?_
              refine xg_k (xg_isub (u := u61) (v := 6) (z := (u61 + (4294967296 - 6)) % 4294967296) xnm0 xnm0 rfl) (Nat.mod_lt _ (by decide)) (fun z102 hz103 => ?_)
              by_cases hc104 : pp = z102
              · refine xg_t (xg_icF (u := pp) (v := z102) rfl xnm0 xnm0 (xj_neF hc104)) ?_
                refine xg_t (xg_aload (va := (2, 82)) rfl rfl) ?_
                refine xg_t (xg_getf (va := (2, 96)) (hb101.get (by decide) (hb89.get (by decide) (hb78.get (by decide) (hF44.get (by decide) h82_31)))) rfl) ?_
                refine xg_t (xg_iload (va := (0, pp)) rfl rfl) ?_
                refine xg_t (xg_dup2 rfl) ?_
                refine xg_ialdB (n := pp) (B := 4294967295) hr100 (xrb (by omega) (hb93)) xnm0 (by omega) (fun u105 hu106 he107 => ?_)
                refine xg_t (xg_const) ?_
                refine xg_k (xg_isub (u := u105) (v := 1) (z := (u105 + (4294967296 - 1)) % 4294967296) xnm0 xnm0 rfl) (Nat.mod_lt _ (by decide)) (fun z108 hz109 => ?_)
                refine xg_iastK (n := pp) (u := z108) hr100 xnm0 xnm0 rfl (by omega) (fun w110 hr111 hb112 => ?_)
                refine xg_t (xg_blq rfl) ?_
                refine xg_t (xg_iload (va := (0, u61)) rfl rfl) ?_
                refine xg_t (xg_istore (l1 := [(3, (0, u61)), (0, (2, 82)), (1, (0, en))]) rfl rfl rfl) ?_
                refine xg_t (xg_goto) ?_
                refine xg_t (xg_drop (l1 := [(0, (2, 82)), (1, (0, en)), (2, (0, u61))]) (List.forall_mem_cons.mpr ⟨List.mem_cons_of_mem _ (List.mem_cons_of_mem _ (List.mem_cons_self)), List.forall_mem_cons.mpr ⟨List.mem_cons_of_mem _ (List.mem_cons_of_mem _ (List.mem_cons_of_mem _ (List.mem_cons_self))), List.forall_mem_cons.mpr ⟨List.mem_cons_self, fun _ h => absurd h List.not_mem_nil⟩⟩⟩)) ?_
                exact ih40 u61 w110 (by omega) (by omega) (xMnv.up (S := [95, 96]) hI43 ((((xFr.of (S := [95, 96]) hb78 (by decide)).tr (xFr.of (S := [95, 96]) hb89 (by decide))).tr (xFr.of (S := [95, 96]) hb101 (by decide))).tr (xFr.of (S := [95, 96]) hb112 (by decide))) (List.forall_mem_cons.mpr ⟨xqu95 (show cpI 36 62 4294967295 (wget w110 95) from ⟨_, ((hr88.but hb101 (by decide)).but hb112 (by decide)), xrb (by omega) (xrb (by omega) (hb70))⟩), List.forall_mem_cons.mpr ⟨xqu96 (show cpI 36 63 4294967295 (wget w110 96) from ⟨_, hr111, xrb (by omega) (xrb (by omega) (hb93))⟩), fun _ h => absurd h List.not_mem_nil⟩⟩)) ((hF44.tr ((((xFr.of (S := [95, 96, 97]) hb78 (by decide)).tr (xFr.of (S := [95, 96, 97]) hb89 (by decide))).tr (xFr.of (S := [95, 96, 97]) hb101 (by decide))).tr (xFr.of (S := [95, 96, 97]) hb112 (by decide))))) (by omega)
              · refine xg_t (xg_icT (u := pp) (v := z102) rfl xnm0 xnm0 (xj_neT hc104)) ?_
                refine xg_t (xg_blq rfl) ?_
                refine xg_t (xg_iload (va := (0, u61)) rfl rfl) ?_
                refine xg_t (xg_istore (l1 := [(3, (0, u61)), (0, (2, 82)), (1, (0, en))]) rfl rfl rfl) ?_
                refine xg_t (xg_goto) ?_
                refine xg_t (xg_drop (l1 := [(0, (2, 82)), (1, (0, en)), (2, (0, u61))]) (List.forall_mem_cons.mpr ⟨List.mem_cons_of_mem _ (List.mem_cons_of_mem _ (List.mem_cons_self)), List.forall_mem_cons.mpr ⟨List.mem_cons_of_mem _ (List.mem_cons_of_mem _ (List.mem_cons_of_mem _ (List.mem_cons_self))), List.forall_mem_cons.mpr ⟨List.mem_cons_self, fun _ h => absurd h List.not_mem_nil⟩⟩⟩)) ?_
                exact ih40 u61 w99 (by omega) (by omega) (xMnv.up (S := [95, 96]) hI43 (((xFr.of (S := [95, 96]) hb78 (by decide)).tr (xFr.of (S := [95, 96]) hb89 (by decide))).tr (xFr.of (S := [95, 96]) hb101 (by decide))) (List.forall_mem_cons.mpr ⟨xqu95 (show cpI 36 62 4294967295 (wget w99 95) from ⟨_, (hr88.but hb101 (by decide)), xrb (by omega) (xrb (by omega) (hb70))⟩), List.forall_mem_cons.mpr ⟨xqu96 (show cpI 36 63 4294967295 (wget w99 96) from ⟨_, hr100, xrb (by omega) (hb93)⟩), fun _ h => absurd h List.not_mem_nil⟩⟩)) ((hF44.tr (((xFr.of (S := [95, 96, 97]) hb78 (by decide)).tr (xFr.of (S := [95, 96, 97]) hb89 (by decide))).tr (xFr.of (S := [95, 96, 97]) hb101 (by decide))))) (by omega)
            · refine xg_t (xg_icT (u := pp) (v := u61 + 6) rfl xnm0 xnm0 (xj_neT hc90)) ?_
              refine xg_t (xg_blq rfl) ?_
              refine xg_t (xg_iload (va := (0, pp)) rfl rfl) ?_
              refine xg_t (xg_iload (va := (0, u61)) rfl rfl) ?_
              refine xg_t (xg_bip) ?_
              refine xg_k (xg_isub (u := u61) (v := 6) (z := (u61 + (4294967296 - 6)) % 4294967296) xnm0 xnm0 rfl) (Nat.mod_lt _ (by decide)) (fun z113 hz114 => ?_)
              by_cases hc115 : pp = z113
              · refine xg_t (xg_icF (u := pp) (v := z113) rfl xnm0 xnm0 (xj_neF hc115)) ?_
                refine xg_t (xg_aload (va := (2, 82)) rfl rfl) ?_
                refine xg_t (xg_getf (va := (2, 96)) (hb89.get (by decide) (hb78.get (by decide) (hF44.get (by decide) h82_31))) rfl) ?_
                refine xg_t (xg_iload (va := (0, pp)) rfl rfl) ?_
                refine xg_t (xg_dup2 rfl) ?_
                refine xoI (xqc96 hI43 : cpI 36 63 4294967295 (wget w42 96)) (fun g96_116 h96_117 hb118 => ?_)
                refine xg_ialdB (n := pp) (B := 4294967295) ((h96_117.but hb78 (by decide)).but hb89 (by decide)) (hb118) xnm0 (by omega) (fun u119 hu120 he121 => ?_)
                refine xg_t (xg_const) ?_
                refine xg_k (xg_isub (u := u119) (v := 1) (z := (u119 + (4294967296 - 1)) % 4294967296) xnm0 xnm0 rfl) (Nat.mod_lt _ (by decide)) (fun z122 hz123 => ?_)
                refine xg_iastK (n := pp) (u := z122) ((h96_117.but hb78 (by decide)).but hb89 (by decide)) xnm0 xnm0 rfl (by omega) (fun w124 hr125 hb126 => ?_)
                refine xg_t (xg_blq rfl) ?_
                refine xg_t (xg_iload (va := (0, u61)) rfl rfl) ?_
                refine xg_t (xg_istore (l1 := [(3, (0, u61)), (0, (2, 82)), (1, (0, en))]) rfl rfl rfl) ?_
                refine xg_t (xg_goto) ?_
                refine xg_t (xg_drop (l1 := [(0, (2, 82)), (1, (0, en)), (2, (0, u61))]) (List.forall_mem_cons.mpr ⟨List.mem_cons_of_mem _ (List.mem_cons_of_mem _ (List.mem_cons_self)), List.forall_mem_cons.mpr ⟨List.mem_cons_of_mem _ (List.mem_cons_of_mem _ (List.mem_cons_of_mem _ (List.mem_cons_self))), List.forall_mem_cons.mpr ⟨List.mem_cons_self, fun _ h => absurd h List.not_mem_nil⟩⟩⟩)) ?_
                exact ih40 u61 w124 (by omega) (by omega) (xMnv.up (S := [95, 96]) hI43 (((xFr.of (S := [95, 96]) hb78 (by decide)).tr (xFr.of (S := [95, 96]) hb89 (by decide))).tr (xFr.of (S := [95, 96]) hb126 (by decide))) (List.forall_mem_cons.mpr ⟨xqu95 (show cpI 36 62 4294967295 (wget w124 95) from ⟨_, (hr88.but hb126 (by decide)), xrb (by omega) (xrb (by omega) (hb70))⟩), List.forall_mem_cons.mpr ⟨xqu96 (show cpI 36 63 4294967295 (wget w124 96) from ⟨_, hr125, xrb (by omega) (hb118)⟩), fun _ h => absurd h List.not_mem_nil⟩⟩)) ((hF44.tr (((xFr.of (S := [95, 96, 97]) hb78 (by decide)).tr (xFr.of (S := [95, 96, 97]) hb89 (by decide))).tr (xFr.of (S := [95, 96, 97]) hb126 (by decide))))) (by omega)
              · refine xg_t (xg_icT (u := pp) (v := z113) rfl xnm0 xnm0 (xj_neT hc115)) ?_
                refine xg_t (xg_blq rfl) ?_
                refine xg_t (xg_iload (va := (0, u61)) rfl rfl) ?_
                refine xg_t (xg_istore (l1 := [(3, (0, u61)), (0, (2, 82)), (1, (0, en))]) rfl rfl rfl) ?_
                refine xg_t (xg_goto) ?_
                refine xg_t (xg_drop (l1 := [(0, (2, 82)), (1, (0, en)), (2, (0, u61))]) (List.forall_mem_cons.mpr ⟨List.mem_cons_of_mem _ (List.mem_cons_of_mem _ (List.mem_cons_self)), List.forall_mem_cons.mpr ⟨List.mem_cons_of_mem _ (List.mem_cons_of_mem _ (List.mem_cons_of_mem _ (List.mem_cons_self))), List.forall_mem_cons.mpr ⟨List.mem_cons_self, fun _ h => absurd h List.not_mem_nil⟩⟩⟩)) ?_
                exact ih40 u61 w87 (by omega) (by omega) (xMnv.up (S := [95]) hI43 ((xFr.of (S := [95]) hb78 (by decide)).tr (xFr.of (S := [95]) hb89 (by decide))) (List.forall_mem_cons.mpr ⟨xqu95 (show cpI 36 62 4294967295 (wget w87 95) from ⟨_, hr88, xrb (by omega) (xrb (by omega) (hb70))⟩), fun _ h => absurd h List.not_mem_nil⟩)) ((hF44.tr ((xFr.of (S := [95, 96, 97]) hb78 (by decide)).tr (xFr.of (S := [95, 96, 97]) hb89 (by decide))))) (by omega)
          · refine xg_t (xg_icT (u := pp) (v := z79) rfl xnm0 xnm0 (xj_neT hc81)) ?_
            refine xg_t (xg_blq rfl) ?_
            refine xg_t (xg_iload (va := (0, pp)) rfl rfl) ?_
            refine xg_t (xg_iload (va := (0, u61)) rfl rfl) ?_
            refine xg_t (xg_bip) ?_
            refine xg_t (xg_iadd (u := u61) (v := 6) (z := u61 + 6) xnm0 xnm0 (by omega)) ?_
            by_cases hc127 : pp = (u61 + 6)
            · refine xg_t (xg_icF (u := pp) (v := u61 + 6) rfl xnm0 xnm0 (xj_neF hc127)) ?_
              refine xg_t (xg_aload (va := (2, 82)) rfl rfl) ?_
              refine xg_t (xg_getf (va := (2, 96)) (hb78.get (by decide) (hF44.get (by decide) h82_31)) rfl) ?_
              refine xg_t (xg_iload (va := (0, u61)) rfl rfl) ?_
              refine xg_t (xg_dup2 rfl) ?_
              refine xoI (xqc96 hI43 : cpI 36 63 4294967295 (wget w42 96)) (fun g96_128 h96_129 hb130 => ?_)
              refine xg_ialdB (n := u61) (B := 4294967295) (h96_129.but hb78 (by decide)) (hb130) xnm0 (by omega) (fun u131 hu132 he133 => ?_)
              refine xg_t (xg_const) ?_
              refine xg_k (xg_iadd (u := u131) (v := 1) (z := (u131 + 1) % 4294967296) xnm0 xnm0 rfl) (Nat.mod_lt _ (by decide)) (fun z134 hz135 => ?_)
              refine xg_iastK (n := u61) (u := z134) (h96_129.but hb78 (by decide)) xnm0 xnm0 rfl (by omega) (fun w136 hr137 hb138 => ?_)
              refine xg_t (xg_blq rfl) ?_
              refine xg_t (xg_iload (va := (0, pp)) rfl rfl) ?_
              refine xg_t (xg_iload (va := (0, u61)) rfl rfl) ?_
              refine xg_t (xg_bip) ?_
              refine xg_k (xg_isub (u := u61) (v := 6) (z := (u61 + (4294967296 - 6)) % 4294967296) xnm0 xnm0 rfl) (Nat.mod_lt _ (by decide)) (fun z139 hz140 => ?_)
              by_cases hc141 : pp = z139
              · refine xg_t (xg_icF (u := pp) (v := z139) rfl xnm0 xnm0 (xj_neF hc141)) ?_
                refine xg_t (xg_aload (va := (2, 82)) rfl rfl) ?_
                refine xg_t (xg_getf (va := (2, 96)) (hb138.get (by decide) (hb78.get (by decide) (hF44.get (by decide) h82_31))) rfl) ?_
                refine xg_t (xg_iload (va := (0, pp)) rfl rfl) ?_
                refine xg_t (xg_dup2 rfl) ?_
                refine xg_ialdB (n := pp) (B := 4294967295) hr137 (xrb (by omega) (hb130)) xnm0 (by omega) (fun u142 hu143 he144 => ?_)
                refine xg_t (xg_const) ?_
                refine xg_k (xg_isub (u := u142) (v := 1) (z := (u142 + (4294967296 - 1)) % 4294967296) xnm0 xnm0 rfl) (Nat.mod_lt _ (by decide)) (fun z145 hz146 => ?_)
                refine xg_iastK (n := pp) (u := z145) hr137 xnm0 xnm0 rfl (by omega) (fun w147 hr148 hb149 => ?_)
                refine xg_t (xg_blq rfl) ?_
                refine xg_t (xg_iload (va := (0, u61)) rfl rfl) ?_
                refine xg_t (xg_istore (l1 := [(3, (0, u61)), (0, (2, 82)), (1, (0, en))]) rfl rfl rfl) ?_
                refine xg_t (xg_goto) ?_
                refine xg_t (xg_drop (l1 := [(0, (2, 82)), (1, (0, en)), (2, (0, u61))]) (List.forall_mem_cons.mpr ⟨List.mem_cons_of_mem _ (List.mem_cons_of_mem _ (List.mem_cons_self)), List.forall_mem_cons.mpr ⟨List.mem_cons_of_mem _ (List.mem_cons_of_mem _ (List.mem_cons_of_mem _ (List.mem_cons_self))), List.forall_mem_cons.mpr ⟨List.mem_cons_self, fun _ h => absurd h List.not_mem_nil⟩⟩⟩)) ?_
                exact ih40 u61 w147 (by omega) (by omega) (xMnv.up (S := [95, 96]) hI43 (((xFr.of (S := [95, 96]) hb78 (by decide)).tr (xFr.of (S := [95, 96]) hb138 (by decide))).tr (xFr.of (S := [95, 96]) hb149 (by decide))) (List.forall_mem_cons.mpr ⟨xqu95 (show cpI 36 62 4294967295 (wget w147 95) from ⟨_, ((hr77.but hb138 (by decide)).but hb149 (by decide)), xrb (by omega) (hb70)⟩), List.forall_mem_cons.mpr ⟨xqu96 (show cpI 36 63 4294967295 (wget w147 96) from ⟨_, hr148, xrb (by omega) (xrb (by omega) (hb130))⟩), fun _ h => absurd h List.not_mem_nil⟩⟩)) ((hF44.tr (((xFr.of (S := [95, 96, 97]) hb78 (by decide)).tr (xFr.of (S := [95, 96, 97]) hb138 (by decide))).tr (xFr.of (S := [95, 96, 97]) hb149 (by decide))))) (by omega)
              · refine xg_t (xg_icT (u := pp) (v := z139) rfl xnm0 xnm0 (xj_neT hc141)) ?_
                refine xg_t (xg_blq rfl) ?_
                refine xg_t (xg_iload (va := (0, u61)) rfl rfl) ?_
                refine xg_t (xg_istore (l1 := [(3, (0, u61)), (0, (2, 82)), (1, (0, en))]) rfl rfl rfl) ?_
                refine xg_t (xg_goto) ?_
                refine xg_t (xg_drop (l1 := [(0, (2, 82)), (1, (0, en)), (2, (0, u61))]) (List.forall_mem_cons.mpr ⟨List.mem_cons_of_mem _ (List.mem_cons_of_mem _ (List.mem_cons_self)), List.forall_mem_cons.mpr ⟨List.mem_cons_of_mem _ (List.mem_cons_of_mem _ (List.mem_cons_of_mem _ (List.mem_cons_self))), List.forall_mem_cons.mpr ⟨List.mem_cons_self, fun _ h => absurd h List.not_mem_nil⟩⟩⟩)) ?_
                exact ih40 u61 w136 (by omega) (by omega) (xMnv.up (S := [95, 96]) hI43 ((xFr.of (S := [95, 96]) hb78 (by decide)).tr (xFr.of (S := [95, 96]) hb138 (by decide))) (List.forall_mem_cons.mpr ⟨xqu95 (show cpI 36 62 4294967295 (wget w136 95) from ⟨_, (hr77.but hb138 (by decide)), xrb (by omega) (hb70)⟩), List.forall_mem_cons.mpr ⟨xqu96 (show cpI 36 63 4294967295 (wget w136 96) from ⟨_, hr137, xrb (by omega) (hb130)⟩), fun _ h => absurd h List.not_mem_nil⟩⟩)) ((hF44.tr ((xFr.of (S := [95, 96, 97]) hb78 (by decide)).tr (xFr.of (S := [95, 96, 97]) hb138 (by decide))))) (by omega)
            · refine xg_t (xg_icT (u := pp) (v := u61 + 6) rfl xnm0 xnm0 (xj_neT hc127)) ?_
              refine xg_t (xg_blq rfl) ?_
              refine xg_t (xg_iload (va := (0, pp)) rfl rfl) ?_
              refine xg_t (xg_iload (va := (0, u61)) rfl rfl) ?_
              refine xg_t (xg_bip) ?_
              refine xg_k (xg_isub (u := u61) (v := 6) (z := (u61 + (4294967296 - 6)) % 4294967296) xnm0 xnm0 rfl) (Nat.mod_lt _ (by decide)) (fun z150 hz151 => ?_)
              by_cases hc152 : pp = z150
              · refine xg_t (xg_icF (u := pp) (v := z150) rfl xnm0 xnm0 (xj_neF hc152)) ?_
                refine xg_t (xg_aload (va := (2, 82)) rfl rfl) ?_
                refine xg_t (xg_getf (va := (2, 96)) (hb78.get (by decide) (hF44.get (by decide) h82_31)) rfl) ?_
                refine xg_t (xg_iload (va := (0, pp)) rfl rfl) ?_
                refine xg_t (xg_dup2 rfl) ?_
                refine xoI (xqc96 hI43 : cpI 36 63 4294967295 (wget w42 96)) (fun g96_153 h96_154 hb155 => ?_)
                refine xg_ialdB (n := pp) (B := 4294967295) (h96_154.but hb78 (by decide)) (hb155) xnm0 (by omega) (fun u156 hu157 he158 => ?_)
                refine xg_t (xg_const) ?_
                refine xg_k (xg_isub (u := u156) (v := 1) (z := (u156 + (4294967296 - 1)) % 4294967296) xnm0 xnm0 rfl) (Nat.mod_lt _ (by decide)) (fun z159 hz160 => ?_)
                refine xg_iastK (n := pp) (u := z159) (h96_154.but hb78 (by decide)) xnm0 xnm0 rfl (by omega) (fun w161 hr162 hb163 => ?_)
                refine xg_t (xg_blq rfl) ?_
                refine xg_t (xg_iload (va := (0, u61)) rfl rfl) ?_
                refine xg_t (xg_istore (l1 := [(3, (0, u61)), (0, (2, 82)), (1, (0, en))]) rfl rfl rfl) ?_
                refine xg_t (xg_goto) ?_
                refine xg_t (xg_drop (l1 := [(0, (2, 82)), (1, (0, en)), (2, (0, u61))]) (List.forall_mem_cons.mpr ⟨List.mem_cons_of_mem _ (List.mem_cons_of_mem _ (List.mem_cons_self)), List.forall_mem_cons.mpr ⟨List.mem_cons_of_mem _ (List.mem_cons_of_mem _ (List.mem_cons_of_mem _ (List.mem_cons_self))), List.forall_mem_cons.mpr ⟨List.mem_cons_self, fun _ h => absurd h List.not_mem_nil⟩⟩⟩)) ?_
                exact ih40 u61 w161 (by omega) (by omega) (xMnv.up (S := [95, 96]) hI43 ((xFr.of (S := [95, 96]) hb78 (by decide)).tr (xFr.of (S := [95, 96]) hb163 (by decide))) (List.forall_mem_cons.mpr ⟨xqu95 (show cpI 36 62 4294967295 (wget w161 95) from ⟨_, (hr77.but hb163 (by decide)), xrb (by omega) (hb70)⟩), List.forall_mem_cons.mpr ⟨xqu96 (show cpI 36 63 4294967295 (wget w161 96) from ⟨_, hr162, xrb (by omega) (hb155)⟩), fun _ h => absurd h List.not_mem_nil⟩⟩)) ((hF44.tr ((xFr.of (S := [95, 96, 97]) hb78 (by decide)).tr (xFr.of (S := [95, 96, 97]) hb163 (by decide))))) (by omega)
              · refine xg_t (xg_icT (u := pp) (v := z150) rfl xnm0 xnm0 (xj_neT hc152)) ?_
                refine xg_t (xg_blq rfl) ?_
                refine xg_t (xg_iload (va := (0, u61)) rfl rfl) ?_
                refine xg_t (xg_istore (l1 := [(3, (0, u61)), (0, (2, 82)), (1, (0, en))]) rfl rfl rfl) ?_
                refine xg_t (xg_goto) ?_
                refine xg_t (xg_drop (l1 := [(0, (2, 82)), (1, (0, en)), (2, (0, u61))]) (List.forall_mem_cons.mpr ⟨List.mem_cons_of_mem _ (List.mem_cons_of_mem _ (List.mem_cons_self)), List.forall_mem_cons.mpr ⟨List.mem_cons_of_mem _ (List.mem_cons_of_mem _ (List.mem_cons_of_mem _ (List.mem_cons_self))), List.forall_mem_cons.mpr ⟨List.mem_cons_self, fun _ h => absurd h List.not_mem_nil⟩⟩⟩)) ?_
                exact ih40 u61 w76 (by omega) (by omega) (xMnv.up (S := [95]) hI43 (xFr.of (S := [95]) hb78 (by decide)) (List.forall_mem_cons.mpr ⟨xqu95 (show cpI 36 62 4294967295 (wget w76 95) from ⟨_, hr77, xrb (by omega) (hb70)⟩), fun _ h => absurd h List.not_mem_nil⟩)) ((hF44.tr (xFr.of (S := [95, 96, 97]) hb78 (by decide)))) (by omega)
        · refine xg_t (xg_icT (u := pp) (v := u61 + 1) rfl xnm0 xnm0 (xj_neT hc67)) ?_
          refine xg_t (xg_blq rfl) ?_
          refine xg_t (xg_iload (va := (0, pp)) rfl rfl) ?_
          refine xg_t (xg_iload (va := (0, u61)) rfl rfl) ?_
          refine xg_t (xg_const) ?_
          refine xg_k (xg_isub (u := u61) (v := 1) (z := (u61 + (4294967296 - 1)) % 4294967296) xnm0 xnm0 rfl) (Nat.mod_lt _ (by decide)) (fun z164 hz165 => ?_)
          by_cases hc166 : pp = z164
          · refine xg_t (xg_icF (u := pp) (v := z164) rfl xnm0 xnm0 (xj_neF hc166)) ?_
            refine xg_t (xg_aload (va := (2, 82)) rfl rfl) ?_
            refine xg_t (xg_getf (va := (2, 95)) (hF44.get (by decide) h82_31) rfl) ?_
            refine xg_t (xg_iload (va := (0, pp)) rfl rfl) ?_
            refine xg_t (xg_dup2 rfl) ?_
            refine xoI (xqc95 hI43 : cpI 36 62 4294967295 (wget w42 95)) (fun g95_167 h95_168 hb169 => ?_)
            refine xg_ialdB (n := pp) (B := 4294967295) h95_168 (hb169) xnm0 (by omega) (fun u170 hu171 he172 => ?_)
            refine xg_t (xg_const) ?_
            refine xg_k (xg_isub (u := u170) (v := 1) (z := (u170 + (4294967296 - 1)) % 4294967296) xnm0 xnm0 rfl) (Nat.mod_lt _ (by decide)) (fun z173 hz174 => ?_)
            refine xg_iastK (n := pp) (u := z173) h95_168 xnm0 xnm0 rfl (by omega) (fun w175 hr176 hb177 => ?_)
            refine xg_t (xg_blq rfl) ?_
            refine xg_t (xg_iload (va := (0, pp)) rfl rfl) ?_
            refine xg_t (xg_iload (va := (0, u61)) rfl rfl) ?_
            refine xg_t (xg_bip) ?_
            refine xg_t (xg_iadd (u := u61) (v := 6) (z := u61 + 6) xnm0 xnm0 (by omega)) ?_
            by_cases hc178 : pp = (u61 + 6)
            · refine xg_t (xg_icF (u := pp) (v := u61 + 6) rfl xnm0 xnm0 (xj_neF hc178)) ?_
              refine xg_t (xg_aload (va := (2, 82)) rfl rfl) ?_
              refine xg_t (xg_getf (va := (2, 96)) (hb177.get (by decide) (hF44.get (by decide) h82_31)) rfl) ?_
              refine xg_t (xg_iload (va := (0, u61)) rfl rfl) ?_
              refine xg_t (xg_dup2 rfl) ?_
              refine xoI (xqc96 hI43 : cpI 36 63 4294967295 (wget w42 96)) (fun g96_179 h96_180 hb181 => ?_)
              refine xg_ialdB (n := u61) (B := 4294967295) (h96_180.but hb177 (by decide)) (hb181) xnm0 (by omega) (fun u182 hu183 he184 => ?_)
              refine xg_t (xg_const) ?_
              refine xg_k (xg_iadd (u := u182) (v := 1) (z := (u182 + 1) % 4294967296) xnm0 xnm0 rfl) (Nat.mod_lt _ (by decide)) (fun z185 hz186 => ?_)
              refine xg_iastK (n := u61) (u := z185) (h96_180.but hb177 (by decide)) xnm0 xnm0 rfl (by omega) (fun w187 hr188 hb189 => ?_)
              refine xg_t (xg_blq rfl) ?_
              refine xg_t (xg_iload (va := (0, pp)) rfl rfl) ?_
              refine xg_t (xg_iload (va := (0, u61)) rfl rfl) ?_
              refine xg_t (xg_bip) ?_
              refine xg_k (xg_isub (u := u61) (v := 6) (z := (u61 + (4294967296 - 6)) % 4294967296) xnm0 xnm0 rfl) (Nat.mod_lt _ (by decide)) (fun z190 hz191 => ?_)
              by_cases hc192 : pp = z190
              · refine xg_t (xg_icF (u := pp) (v := z190) rfl xnm0 xnm0 (xj_neF hc192)) ?_
                refine xg_t (xg_aload (va := (2, 82)) rfl rfl) ?_
                refine xg_t (xg_getf (va := (2, 96)) (hb189.get (by decide) (hb177.get (by decide) (hF44.get (by decide) h82_31))) rfl) ?_
                refine xg_t (xg_iload (va := (0, pp)) rfl rfl) ?_
                refine xg_t (xg_dup2 rfl) ?_
                refine xg_ialdB (n := pp) (B := 4294967295) hr188 (xrb (by omega) (hb181)) xnm0 (by omega) (fun u193 hu194 he195 => ?_)
                refine xg_t (xg_const) ?_
                refine xg_k (xg_isub (u := u193) (v := 1) (z := (u193 + (4294967296 - 1)) % 4294967296) xnm0 xnm0 rfl) (Nat.mod_lt _ (by decide)) (fun z196 hz197 => ?_)
                refine xg_iastK (n := pp) (u := z196) hr188 xnm0 xnm0 rfl (by omega) (fun w198 hr199 hb200 => ?_)
                refine xg_t (xg_blq rfl) ?_
                refine xg_t (xg_iload (va := (0, u61)) rfl rfl) ?_
                refine xg_t (xg_istore (l1 := [(3, (0, u61)), (0, (2, 82)), (1, (0, en))]) rfl rfl rfl) ?_
                refine xg_t (xg_goto) ?_
                refine xg_t (xg_drop (l1 := [(0, (2, 82)), (1, (0, en)), (2, (0, u61))]) (List.forall_mem_cons.mpr ⟨List.mem_cons_of_mem _ (List.mem_cons_of_mem _ (List.mem_cons_self)), List.forall_mem_cons.mpr ⟨List.mem_cons_of_mem _ (List.mem_cons_of_mem _ (List.mem_cons_of_mem _ (List.mem_cons_self))), List.forall_mem_cons.mpr ⟨List.mem_cons_self, fun _ h => absurd h List.not_mem_nil⟩⟩⟩)) ?_
                exact ih40 u61 w198 (by omega) (by omega) (xMnv.up (S := [95, 96]) hI43 (((xFr.of (S := [95, 96]) hb177 (by decide)).tr (xFr.of (S := [95, 96]) hb189 (by decide))).tr (xFr.of (S := [95, 96]) hb200 (by decide))) (List.forall_mem_cons.mpr ⟨xqu95 (show cpI 36 62 4294967295 (wget w198 95) from ⟨_, ((hr176.but hb189 (by decide)).but hb200 (by decide)), xrb (by omega) (hb169)⟩), List.forall_mem_cons.mpr ⟨xqu96 (show cpI 36 63 4294967295 (wget w198 96) from ⟨_, hr199, xrb (by omega) (xrb (by omega) (hb181))⟩), fun _ h => absurd h List.not_mem_nil⟩⟩)) ((hF44.tr (((xFr.of (S := [95, 96, 97]) hb177 (by decide)).tr (xFr.of (S := [95, 96, 97]) hb189 (by decide))).tr (xFr.of (S := [95, 96, 97]) hb200 (by decide))))) (by omega)
              · refine xg_t (xg_icT (u := pp) (v := z190) rfl xnm0 xnm0 (xj_neT hc192)) ?_
                refine xg_t (xg_blq rfl) ?_
                refine xg_t (xg_iload (va := (0, u61)) rfl rfl) ?_
                refine xg_t (xg_istore (l1 := [(3, (0, u61)), (0, (2, 82)), (1, (0, en))]) rfl rfl rfl) ?_
                refine xg_t (xg_goto) ?_
                refine xg_t (xg_drop (l1 := [(0, (2, 82)), (1, (0, en)), (2, (0, u61))]) (List.forall_mem_cons.mpr ⟨List.mem_cons_of_mem _ (List.mem_cons_of_mem _ (List.mem_cons_self)), List.forall_mem_cons.mpr ⟨List.mem_cons_of_mem _ (List.mem_cons_of_mem _ (List.mem_cons_of_mem _ (List.mem_cons_self))), List.forall_mem_cons.mpr ⟨List.mem_cons_self, fun _ h => absurd h List.not_mem_nil⟩⟩⟩)) ?_
                exact ih40 u61 w187 (by omega) (by omega) (xMnv.up (S := [95, 96]) hI43 ((xFr.of (S := [95, 96]) hb177 (by decide)).tr (xFr.of (S := [95, 96]) hb189 (by decide))) (List.forall_mem_cons.mpr ⟨xqu95 (show cpI 36 62 4294967295 (wget w187 95) from ⟨_, (hr176.but hb189 (by decide)), xrb (by omega) (hb169)⟩), List.forall_mem_cons.mpr ⟨xqu96 (show cpI 36 63 4294967295 (wget w187 96) from ⟨_, hr188, xrb (by omega) (hb181)⟩), fun _ h => absurd h List.not_mem_nil⟩⟩)) ((hF44.tr ((xFr.of (S := [95, 96, 97]) hb177 (by decide)).tr (xFr.of (S := [95, 96, 97]) hb189 (by decide))))) (by omega)
            · refine xg_t (xg_icT (u := pp) (v := u61 + 6) rfl xnm0 xnm0 (xj_neT hc178)) ?_
              refine xg_t (xg_blq rfl) ?_
              refine xg_t (xg_iload (va := (0, pp)) rfl rfl) ?_
              refine xg_t (xg_iload (va := (0, u61)) rfl rfl) ?_
              refine xg_t (xg_bip) ?_
              refine xg_k (xg_isub (u := u61) (v := 6) (z := (u61 + (4294967296 - 6)) % 4294967296) xnm0 xnm0 rfl) (Nat.mod_lt _ (by decide)) (fun z201 hz202 => ?_)
              by_cases hc203 : pp = z201
              · refine xg_t (xg_icF (u := pp) (v := z201) rfl xnm0 xnm0 (xj_neF hc203)) ?_
                refine xg_t (xg_aload (va := (2, 82)) rfl rfl) ?_
                refine xg_t (xg_getf (va := (2, 96)) (hb177.get (by decide) (hF44.get (by decide) h82_31)) rfl) ?_
                refine xg_t (xg_iload (va := (0, pp)) rfl rfl) ?_
                refine xg_t (xg_dup2 rfl) ?_
                refine xoI (xqc96 hI43 : cpI 36 63 4294967295 (wget w42 96)) (fun g96_204 h96_205 hb206 => ?_)
                refine xg_ialdB (n := pp) (B := 4294967295) (h96_205.but hb177 (by decide)) (hb206) xnm0 (by omega) (fun u207 hu208 he209 => ?_)
                refine xg_t (xg_const) ?_
                refine xg_k (xg_isub (u := u207) (v := 1) (z := (u207 + (4294967296 - 1)) % 4294967296) xnm0 xnm0 rfl) (Nat.mod_lt _ (by decide)) (fun z210 hz211 => ?_)
                refine xg_iastK (n := pp) (u := z210) (h96_205.but hb177 (by decide)) xnm0 xnm0 rfl (by omega) (fun w212 hr213 hb214 => ?_)
                refine xg_t (xg_blq rfl) ?_
                refine xg_t (xg_iload (va := (0, u61)) rfl rfl) ?_
                refine xg_t (xg_istore (l1 := [(3, (0, u61)), (0, (2, 82)), (1, (0, en))]) rfl rfl rfl) ?_
                refine xg_t (xg_goto) ?_
                refine xg_t (xg_drop (l1 := [(0, (2, 82)), (1, (0, en)), (2, (0, u61))]) (List.forall_mem_cons.mpr ⟨List.mem_cons_of_mem _ (List.mem_cons_of_mem _ (List.mem_cons_self)), List.forall_mem_cons.mpr ⟨List.mem_cons_of_mem _ (List.mem_cons_of_mem _ (List.mem_cons_of_mem _ (List.mem_cons_self))), List.forall_mem_cons.mpr ⟨List.mem_cons_self, fun _ h => absurd h List.not_mem_nil⟩⟩⟩)) ?_
                exact ih40 u61 w212 (by omega) (by omega) (xMnv.up (S := [95, 96]) hI43 ((xFr.of (S := [95, 96]) hb177 (by decide)).tr (xFr.of (S := [95, 96]) hb214 (by decide))) (List.forall_mem_cons.mpr ⟨xqu95 (show cpI 36 62 4294967295 (wget w212 95) from ⟨_, (hr176.but hb214 (by decide)), xrb (by omega) (hb169)⟩), List.forall_mem_cons.mpr ⟨xqu96 (show cpI 36 63 4294967295 (wget w212 96) from ⟨_, hr213, xrb (by omega) (hb206)⟩), fun _ h => absurd h List.not_mem_nil⟩⟩)) ((hF44.tr ((xFr.of (S := [95, 96, 97]) hb177 (by decide)).tr (xFr.of (S := [95, 96, 97]) hb214 (by decide))))) (by omega)
              · refine xg_t (xg_icT (u := pp) (v := z201) rfl xnm0 xnm0 (xj_neT hc203)) ?_
                refine xg_t (xg_blq rfl) ?_
                refine xg_t (xg_iload (va := (0, u61)) rfl rfl) ?_
                refine xg_t (xg_istore (l1 := [(3, (0, u61)), (0, (2, 82)), (1, (0, en))]) rfl rfl rfl) ?_
                refine xg_t (xg_goto) ?_
                refine xg_t (xg_drop (l1 := [(0, (2, 82)), (1, (0, en)), (2, (0, u61))]) (List.forall_mem_cons.mpr ⟨List.mem_cons_of_mem _ (List.mem_cons_of_mem _ (List.mem_cons_self)), List.forall_mem_cons.mpr ⟨List.mem_cons_of_mem _ (List.mem_cons_of_mem _ (List.mem_cons_of_mem _ (List.mem_cons_self))), List.forall_mem_cons.mpr ⟨List.mem_cons_self, fun _ h => absurd h List.not_mem_nil⟩⟩⟩)) ?_
                exact ih40 u61 w175 (by omega) (by omega) (xMnv.up (S := [95]) hI43 (xFr.of (S := [95]) hb177 (by decide)) (List.forall_mem_cons.mpr ⟨xqu95 (show cpI 36 62 4294967295 (wget w175 95) from ⟨_, hr176, xrb (by omega) (hb169)⟩), fun _ h => absurd h List.not_mem_nil⟩)) ((hF44.tr (xFr.of (S := [95, 96, 97]) hb177 (by decide)))) (by omega)
          · refine xg_t (xg_icT (u := pp) (v := z164) rfl xnm0 xnm0 (xj_neT hc166)) ?_
            refine xg_t (xg_blq rfl) ?_
            refine xg_t (xg_iload (va := (0, pp)) rfl rfl) ?_
            refine xg_t (xg_iload (va := (0, u61)) rfl rfl) ?_
            refine xg_t (xg_bip) ?_
            refine xg_t (xg_iadd (u := u61) (v := 6) (z := u61 + 6) xnm0 xnm0 (by omega)) ?_
            by_cases hc215 : pp = (u61 + 6)
            · refine xg_t (xg_icF (u := pp) (v := u61 + 6) rfl xnm0 xnm0 (xj_neF hc215)) ?_
              refine xg_t (xg_aload (va := (2, 82)) rfl rfl) ?_
              refine xg_t (xg_getf (va := (2, 96)) (hF44.get (by decide) h82_31) rfl) ?_
              refine xg_t (xg_iload (va := (0, u61)) rfl rfl) ?_
              refine xg_t (xg_dup2 rfl) ?_
              refine xoI (xqc96 hI43 : cpI 36 63 4294967295 (wget w42 96)) (fun g96_216 h96_217 hb218 => ?_)
              refine xg_ialdB (n := u61) (B := 4294967295) h96_217 (hb218) xnm0 (by omega) (fun u219 hu220 he221 => ?_)
              refine xg_t (xg_const) ?_
              refine xg_k (xg_iadd (u := u219) (v := 1) (z := (u219 + 1) % 4294967296) xnm0 xnm0 rfl) (Nat.mod_lt _ (by decide)) (fun z222 hz223 => ?_)
              refine xg_iastK (n := u61) (u := z222) h96_217 xnm0 xnm0 rfl (by omega) (fun w224 hr225 hb226 => ?_)
              refine xg_t (xg_blq rfl) ?_
              refine xg_t (xg_iload (va := (0, pp)) rfl rfl) ?_
              refine xg_t (xg_iload (va := (0, u61)) rfl rfl) ?_
              refine xg_t (xg_bip) ?_
              refine xg_k (xg_isub (u := u61) (v := 6) (z := (u61 + (4294967296 - 6)) % 4294967296) xnm0 xnm0 rfl) (Nat.mod_lt _ (by decide)) (fun z227 hz228 => ?_)
              by_cases hc229 : pp = z227
              · refine xg_t (xg_icF (u := pp) (v := z227) rfl xnm0 xnm0 (xj_neF hc229)) ?_
                refine xg_t (xg_aload (va := (2, 82)) rfl rfl) ?_
                refine xg_t (xg_getf (va := (2, 96)) (hb226.get (by decide) (hF44.get (by decide) h82_31)) rfl) ?_
                refine xg_t (xg_iload (va := (0, pp)) rfl rfl) ?_
                refine xg_t (xg_dup2 rfl) ?_
                refine xg_ialdB (n := pp) (B := 4294967295) hr225 (xrb (by omega) (hb218)) xnm0 (by omega) (fun u230 hu231 he232 => ?_)
                refine xg_t (xg_const) ?_
                refine xg_k (xg_isub (u := u230) (v := 1) (z := (u230 + (4294967296 - 1)) % 4294967296) xnm0 xnm0 rfl) (Nat.mod_lt _ (by decide)) (fun z233 hz234 => ?_)
                refine xg_iastK (n := pp) (u := z233) hr225 xnm0 xnm0 rfl (by omega) (fun w235 hr236 hb237 => ?_)
                refine xg_t (xg_blq rfl) ?_
                refine xg_t (xg_iload (va := (0, u61)) rfl rfl) ?_
                refine xg_t (xg_istore (l1 := [(3, (0, u61)), (0, (2, 82)), (1, (0, en))]) rfl rfl rfl) ?_
                refine xg_t (xg_goto) ?_
                refine xg_t (xg_drop (l1 := [(0, (2, 82)), (1, (0, en)), (2, (0, u61))]) (List.forall_mem_cons.mpr ⟨List.mem_cons_of_mem _ (List.mem_cons_of_mem _ (List.mem_cons_self)), List.forall_mem_cons.mpr ⟨List.mem_cons_of_mem _ (List.mem_cons_of_mem _ (List.mem_cons_of_mem _ (List.mem_cons_self))), List.forall_mem_cons.mpr ⟨List.mem_cons_self, fun _ h => absurd h List.not_mem_nil⟩⟩⟩)) ?_
                exact ih40 u61 w235 (by omega) (by omega) (xMnv.up (S := [96]) hI43 ((xFr.of (S := [96]) hb226 (by decide)).tr (xFr.of (S := [96]) hb237 (by decide))) (List.forall_mem_cons.mpr ⟨xqu96 (show cpI 36 63 4294967295 (wget w235 96) from ⟨_, hr236, xrb (by omega) (xrb (by omega) (hb218))⟩), fun _ h => absurd h List.not_mem_nil⟩)) ((hF44.tr ((xFr.of (S := [95, 96, 97]) hb226 (by decide)).tr (xFr.of (S := [95, 96, 97]) hb237 (by decide))))) (by omega)
              · refine xg_t (xg_icT (u := pp) (v := z227) rfl xnm0 xnm0 (xj_neT hc229)) ?_
                refine xg_t (xg_blq rfl) ?_
                refine xg_t (xg_iload (va := (0, u61)) rfl rfl) ?_
                refine xg_t (xg_istore (l1 := [(3, (0, u61)), (0, (2, 82)), (1, (0, en))]) rfl rfl rfl) ?_
                refine xg_t (xg_goto) ?_
                refine xg_t (xg_drop (l1 := [(0, (2, 82)), (1, (0, en)), (2, (0, u61))]) (List.forall_mem_cons.mpr ⟨List.mem_cons_of_mem _ (List.mem_cons_of_mem _ (List.mem_cons_self)), List.forall_mem_cons.mpr ⟨List.mem_cons_of_mem _ (List.mem_cons_of_mem _ (List.mem_cons_of_mem _ (List.mem_cons_self))), List.forall_mem_cons.mpr ⟨List.mem_cons_self, fun _ h => absurd h List.not_mem_nil⟩⟩⟩)) ?_
                exact ih40 u61 w224 (by omega) (by omega) (xMnv.up (S := [96]) hI43 (xFr.of (S := [96]) hb226 (by decide)) (List.forall_mem_cons.mpr ⟨xqu96 (show cpI 36 63 4294967295 (wget w224 96) from ⟨_, hr225, xrb (by omega) (hb218)⟩), fun _ h => absurd h List.not_mem_nil⟩)) ((hF44.tr (xFr.of (S := [95, 96, 97]) hb226 (by decide)))) (by omega)
            · refine xg_t (xg_icT (u := pp) (v := u61 + 6) rfl xnm0 xnm0 (xj_neT hc215)) ?_
              refine xg_t (xg_blq rfl) ?_
              refine xg_t (xg_iload (va := (0, pp)) rfl rfl) ?_
              refine xg_t (xg_iload (va := (0, u61)) rfl rfl) ?_
              refine xg_t (xg_bip) ?_
              refine xg_k (xg_isub (u := u61) (v := 6) (z := (u61 + (4294967296 - 6)) % 4294967296) xnm0 xnm0 rfl) (Nat.mod_lt _ (by decide)) (fun z238 hz239 => ?_)
              by_cases hc240 : pp = z238
              · refine xg_t (xg_icF (u := pp) (v := z238) rfl xnm0 xnm0 (xj_neF hc240)) ?_
                refine xg_t (xg_aload (va := (2, 82)) rfl rfl) ?_
                refine xg_t (xg_getf (va := (2, 96)) (hF44.get (by decide) h82_31) rfl) ?_
                refine xg_t (xg_iload (va := (0, pp)) rfl rfl) ?_
                refine xg_t (xg_dup2 rfl) ?_
                refine xoI (xqc96 hI43 : cpI 36 63 4294967295 (wget w42 96)) (fun g96_241 h96_242 hb243 => ?_)
                refine xg_ialdB (n := pp) (B := 4294967295) h96_242 (hb243) xnm0 (by omega) (fun u244 hu245 he246 => ?_)
                refine xg_t (xg_const) ?_
                refine xg_k (xg_isub (u := u244) (v := 1) (z := (u244 + (4294967296 - 1)) % 4294967296) xnm0 xnm0 rfl) (Nat.mod_lt _ (by decide)) (fun z247 hz248 => ?_)
                refine xg_iastK (n := pp) (u := z247) h96_242 xnm0 xnm0 rfl (by omega) (fun w249 hr250 hb251 => ?_)
                refine xg_t (xg_blq rfl) ?_
                refine xg_t (xg_iload (va := (0, u61)) rfl rfl) ?_
                refine xg_t (xg_istore (l1 := [(3, (0, u61)), (0, (2, 82)), (1, (0, en))]) rfl rfl rfl) ?_
                refine xg_t (xg_goto) ?_
                refine xg_t (xg_drop (l1 := [(0, (2, 82)), (1, (0, en)), (2, (0, u61))]) (List.forall_mem_cons.mpr ⟨List.mem_cons_of_mem _ (List.mem_cons_of_mem _ (List.mem_cons_self)), List.forall_mem_cons.mpr ⟨List.mem_cons_of_mem _ (List.mem_cons_of_mem _ (List.mem_cons_of_mem _ (List.mem_cons_self))), List.forall_mem_cons.mpr ⟨List.mem_cons_self, fun _ h => absurd h List.not_mem_nil⟩⟩⟩)) ?_
                exact ih40 u61 w249 (by omega) (by omega) (xMnv.up (S := [96]) hI43 (xFr.of (S := [96]) hb251 (by decide)) (List.forall_mem_cons.mpr ⟨xqu96 (show cpI 36 63 4294967295 (wget w249 96) from ⟨_, hr250, xrb (by omega) (hb243)⟩), fun _ h => absurd h List.not_mem_nil⟩)) ((hF44.tr (xFr.of (S := [95, 96, 97]) hb251 (by decide)))) (by omega)
              · refine xg_t (xg_icT (u := pp) (v := z238) rfl xnm0 xnm0 (xj_neT hc240)) ?_
                refine xg_t (xg_blq rfl) ?_
                refine xg_t (xg_iload (va := (0, u61)) rfl rfl) ?_
                refine xg_t (xg_istore (l1 := [(3, (0, u61)), (0, (2, 82)), (1, (0, en))]) rfl rfl rfl) ?_
                refine xg_t (xg_goto) ?_
                refine xg_t (xg_drop (l1 := [(0, (2, 82)), (1, (0, en)), (2, (0, u61))]) (List.forall_mem_cons.mpr ⟨List.mem_cons_of_mem _ (List.mem_cons_of_mem _ (List.mem_cons_self)), List.forall_mem_cons.mpr ⟨List.mem_cons_of_mem _ (List.mem_cons_of_mem _ (List.mem_cons_of_mem _ (List.mem_cons_self))), List.forall_mem_cons.mpr ⟨List.mem_cons_self, fun _ h => absurd h List.not_mem_nil⟩⟩⟩)) ?_
                exact ih40 u61 w42 (by omega) (by omega) (hI43) (hF44) (by omega)
  exact key39 _ en w (Nat.lt_succ_self _) (by omega) (hI) (xFr.rf) (by omega)
end XM3
end
section
/-! the model: flows, cuts, mends, the dark -/
section XM4
variable {d : Nat} {w : List (List xE)} {bd : List (Nat × Nat)} {fc : List (Nat × Nat × Bool)} {rr : Nat × Nat}
theorem mFlows {rw_ : Nat} (hI : xMnv w) (hrw_ : rw_ ≤ 4294967295) : xPi (d + 2) mX12_flows [(2, 82), (0, rw_)] w bd fc rr (fun n w' => (n ≤ 4294967295) ∧ xMnv w' ∧ xFr [82, 95, 96, 97, 98, 101, 102] w w') := by
  refine xPi.of ?_
  show xTo (d + 2) mX12_flows (0, [], [(0, (2, 82)), (1, (0, rw_))], [], (w, bd, fc, 0, 0, rr)) (fun φ => ∃ n w', xEnd 1 [(0, n)] (w', bd, fc, 0, 0, rr) φ ∧ (n ≤ 4294967295) ∧ xMnv w' ∧ xFr [82, 95, 96, 97, 98, 101, 102] w w')
  refine xoCh82 (xqc82 hI : cp82 (wget w 82)) (fun f82_1 f82_3 f82_5 f82_7 f82_9 f82_11 f82_13 f82_15 f82_17 f82_19 f82_21 f82_22 f82_23 f82_25 f82_27 f82_29 h82_31 hb2 hb4 hb6 hb8 hb10 hb12 hb14 hb16 hb18 hb20 hb24 hb26 hb28 hb30 hb32 => ?_)
  refine xoX83 (xqc83 hI : cpx83 (wget w 83)) (fun g83_33 h83_34 hb35 hx36 => ?_)
  refine xg_t (xg_blq rfl) ?_
  refine xg_t (xg_const) ?_
  refine xg_t (xg_istore (l1 := [(0, (2, 82)), (1, (0, rw_))]) rfl rfl rfl) ?_
  refine xg_t (xg_drop (l1 := [(0, (2, 82)), (1, (0, rw_)), (2, (0, 0))]) (List.forall_mem_cons.mpr ⟨List.mem_cons_of_mem _ (List.mem_cons_self), List.forall_mem_cons.mpr ⟨List.mem_cons_of_mem _ (List.mem_cons_of_mem _ (List.mem_cons_self)), List.forall_mem_cons.mpr ⟨List.mem_cons_self, fun _ h => absurd h List.not_mem_nil⟩⟩⟩)) ?_
  have key37 : ∀ (m39 : Nat) (ki : Nat) (w40 : List (List xE)), 36 - ki < m39 → ki ≤ 36 → xMnv w40 → xFr [82, 95, 96, 97, 98, 101, 102] w w40 → xTo (d + 2) mX12_flows (2, [], [(0, (2, 82)), (1, (0, rw_)), (2, (0, ki))], [], (w40, bd, fc, 0, 0, rr)) (fun φ => ∃ n w', xEnd 1 [(0, n)] (w', bd, fc, 0, 0, rr) φ ∧ (n ≤ 4294967295) ∧ xMnv w' ∧ xFr [82, 95, 96, 97, 98, 101, 102] w w') := by
    intro m39
    induction m39 with
    | zero => intro ki w40 hz; exact absurd hz (Nat.not_lt_zero _)
    | succ m39 ih38 =>
      intro ki w40 hm44 hn43 hI41 hF42
      refine xg_t (xg_blq rfl) ?_
      refine xg_t (xg_iload (va := (0, ki)) rfl rfl) ?_
      refine xg_t (xg_bip) ?_
      by_cases hc45 : ki < 36
      · refine xg_t (xg_icF (u := ki) (v := 36) rfl xnm0 xnm0 (xj_geF hc45 (by omega))) ?_
        refine xg_t (xg_aload (va := (2, 82)) rfl rfl) ?_
        refine xoCh82 (xqc82 hI41 : cp82 (wget w40 82)) (fun f82_46 f82_48 f82_50 f82_52 f82_54 f82_56 f82_58 f82_60 f82_62 f82_64 f82_66 f82_67 f82_68 f82_70 f82_72 f82_74 h82_76 hb47 hb49 hb51 hb53 hb55 hb57 hb59 hb61 hb63 hb65 hb69 hb71 hb73 hb75 hb77 => ?_)
        refine xg_t (xg_getf (va := (2, 95)) h82_76 rfl) ?_
        refine xg_t (xg_iload (va := (0, ki)) rfl rfl) ?_
        refine xg_t (xg_const) ?_
        refine xoI (xqc95 hI41 : cpI 36 62 4294967295 (wget w40 95)) (fun g95_78 h95_79 hb80 => ?_)
        refine xg_iastK (n := ki) (u := 0) h95_79 xnm0 xnm0 rfl (by omega) (fun w81 hr82 hb83 => ?_)
        refine xg_t (xg_aload (va := (2, 82)) rfl rfl) ?_
        refine xg_t (xg_getf (va := (2, 96)) (hb83.get (by decide) h82_76) rfl) ?_
        refine xg_t (xg_iload (va := (0, ki)) rfl rfl) ?_
        refine xg_t (xg_const) ?_
        refine xoI (xqc96 hI41 : cpI 36 63 4294967295 (wget w40 96)) (fun g96_84 h96_85 hb86 => ?_)
        refine xg_iastK (n := ki) (u := 0) (h96_85.but hb83 (by decide)) xnm0 xnm0 rfl (by omega) (fun w87 hr88 hb89 => ?_)
        refine xg_t (xg_iinc (u := ki) (z := ki + 1) (l1 := [(0, (2, 82)), (1, (0, rw_))]) rfl rfl (by omega) rfl) ?_
        refine xg_t (xg_goto) ?_
        refine xg_t (xg_drop (l1 := [(0, (2, 82)), (1, (0, rw_)), (2, (0, ki + 1))]) (List.forall_mem_cons.mpr ⟨List.mem_cons_of_mem _ (List.mem_cons_self), List.forall_mem_cons.mpr ⟨List.mem_cons_of_mem _ (List.mem_cons_of_mem _ (List.mem_cons_self)), List.forall_mem_cons.mpr ⟨List.mem_cons_self, fun _ h => absurd h List.not_mem_nil⟩⟩⟩)) ?_
        exact ih38 (ki + 1) w87 (by omega) (by omega) (xMnv.up (S := [95, 96]) hI41 ((xFr.of (S := [95, 96]) hb83 (by decide)).tr (xFr.of (S := [95, 96]) hb89 (by decide))) (List.forall_mem_cons.mpr ⟨xqu95 (show cpI 36 62 4294967295 (wget w87 95) from ⟨_, (hr82.but hb89 (by decide)), xrb (by omega) (hb80)⟩), List.forall_mem_cons.mpr ⟨xqu96 (show cpI 36 63 4294967295 (wget w87 96) from ⟨_, hr88, xrb (by omega) (hb86)⟩), fun _ h => absurd h List.not_mem_nil⟩⟩)) ((hF42.tr ((xFr.of (S := [82, 95, 96, 97, 98, 101, 102]) hb83 (by decide)).tr (xFr.of (S := [82, 95, 96, 97, 98, 101, 102]) hb89 (by decide)))))
      · refine xg_t (xg_icT (u := ki) (v := 36) rfl xnm0 xnm0 (xj_geT (by omega) (by omega))) ?_
        refine xg_t (xg_blq rfl) ?_
        refine xg_t (xg_const) ?_
        refine xg_t (xg_istore (l1 := [(0, (2, 82)), (1, (0, rw_))]) rfl rfl rfl) ?_
        refine xg_t (xg_drop (l1 := [(0, (2, 82)), (1, (0, rw_)), (2, (0, 0))]) (List.forall_mem_cons.mpr ⟨List.mem_cons_of_mem _ (List.mem_cons_self), List.forall_mem_cons.mpr ⟨List.mem_cons_of_mem _ (List.mem_cons_of_mem _ (List.mem_cons_self)), List.forall_mem_cons.mpr ⟨List.mem_cons_self, fun _ h => absurd h List.not_mem_nil⟩⟩⟩)) ?_
        have key90 : ∀ (m92 : Nat) (ri : Nat) (w93 : List (List xE)), 6 - ri < m92 → ri ≤ 6 → xMnv w93 → xFr [82, 95, 96, 97, 98, 101, 102] w w93 → xTo (d + 2) mX12_flows (30, [], [(0, (2, 82)), (1, (0, rw_)), (2, (0, ri))], [], (w93, bd, fc, 0, 0, rr)) (fun φ => ∃ n w', xEnd 1 [(0, n)] (w', bd, fc, 0, 0, rr) φ ∧ (n ≤ 4294967295) ∧ xMnv w' ∧ xFr [82, 95, 96, 97, 98, 101, 102] w w') := by
          intro m92
          induction m92 with
          | zero => intro ri w93 hz; exact absurd hz (Nat.not_lt_zero _)
          | succ m92 ih91 =>
            intro ri w93 hm97 hn96 hI94 hF95
            refine xg_t (xg_blq rfl) ?_
            refine xg_t (xg_iload (va := (0, ri)) rfl rfl) ?_
            refine xg_t (xg_bip) ?_
            by_cases hc98 : ri < 6
            · refine xg_t (xg_icF (u := ri) (v := 6) rfl xnm0 xnm0 (xj_geF hc98 (by omega))) ?_
              refine xg_t (xg_aload (va := (2, 82)) rfl rfl) ?_
              refine xoCh82 (xqc82 hI94 : cp82 (wget w93 82)) (fun f82_99 f82_101 f82_103 f82_105 f82_107 f82_109 f82_111 f82_113 f82_115 f82_117 f82_119 f82_120 f82_121 f82_123 f82_125 f82_127 h82_129 hb100 hb102 hb104 hb106 hb108 hb110 hb112 hb114 hb116 hb118 hb122 hb124 hb126 hb128 hb130 => ?_)
              refine xg_t (xg_getf (va := (2, 97)) h82_129 rfl) ?_
              refine xg_t (xg_iload (va := (0, ri)) rfl rfl) ?_
              refine xg_t (xg_const) ?_
              refine xoI (xqc97 hI94 : cpI 6 64 4294967295 (wget w93 97)) (fun g97_131 h97_132 hb133 => ?_)
              refine xg_iastK (n := ri) (u := 0) h97_132 xnm0 xnm0 rfl (by omega) (fun w134 hr135 hb136 => ?_)
              refine xg_t (xg_aload (va := (2, 82)) rfl rfl) ?_
              refine xg_t (xg_getf (va := (2, 98)) (hb136.get (by decide) h82_129) rfl) ?_
              refine xg_t (xg_iload (va := (0, ri)) rfl rfl) ?_
              refine xg_t (xg_const) ?_
              refine xoI (xqc98 hI94 : cpI 6 65 4294967295 (wget w93 98)) (fun g98_137 h98_138 hb139 => ?_)
              refine xg_iastK (n := ri) (u := 0) (h98_138.but hb136 (by decide)) xnm0 xnm0 rfl (by omega) (fun w140 hr141 hb142 => ?_)
              refine xg_t (xg_iinc (u := ri) (z := ri + 1) (l1 := [(0, (2, 82)), (1, (0, rw_))]) rfl rfl (by omega) rfl) ?_
              refine xg_t (xg_goto) ?_
              refine xg_t (xg_drop (l1 := [(0, (2, 82)), (1, (0, rw_)), (2, (0, ri + 1))]) (List.forall_mem_cons.mpr ⟨List.mem_cons_of_mem _ (List.mem_cons_self), List.forall_mem_cons.mpr ⟨List.mem_cons_of_mem _ (List.mem_cons_of_mem _ (List.mem_cons_self)), List.forall_mem_cons.mpr ⟨List.mem_cons_self, fun _ h => absurd h List.not_mem_nil⟩⟩⟩)) ?_
              exact ih91 (ri + 1) w140 (by omega) (by omega) (xMnv.up (S := [97, 98]) hI94 ((xFr.of (S := [97, 98]) hb136 (by decide)).tr (xFr.of (S := [97, 98]) hb142 (by decide))) (List.forall_mem_cons.mpr ⟨xqu97 (show cpI 6 64 4294967295 (wget w140 97) from ⟨_, (hr135.but hb142 (by decide)), xrb (by omega) (hb133)⟩), List.forall_mem_cons.mpr ⟨xqu98 (show cpI 6 65 4294967295 (wget w140 98) from ⟨_, hr141, xrb (by omega) (hb139)⟩), fun _ h => absurd h List.not_mem_nil⟩⟩)) ((hF95.tr ((xFr.of (S := [82, 95, 96, 97, 98, 101, 102]) hb136 (by decide)).tr (xFr.of (S := [82, 95, 96, 97, 98, 101, 102]) hb142 (by decide)))))
            · refine xg_t (xg_icT (u := ri) (v := 6) rfl xnm0 xnm0 (xj_geT (by omega) (by omega))) ?_
              refine xg_t (xg_blq rfl) ?_
              refine xg_t (xg_const) ?_
              refine xg_t (xg_istore (l1 := [(0, (2, 82)), (1, (0, rw_))]) rfl rfl rfl) ?_
              refine xg_t (xg_const) ?_
              refine xg_t (xg_istore (l1 := [(2, (0, 0)), (0, (2, 82)), (1, (0, rw_))]) rfl rfl rfl) ?_
              refine xg_t (xg_drop (l1 := [(0, (2, 82)), (1, (0, rw_)), (2, (0, 0)), (3, (0, 1))]) (List.forall_mem_cons.mpr ⟨List.mem_cons_of_mem _ (List.mem_cons_of_mem _ (List.mem_cons_self)), List.forall_mem_cons.mpr ⟨List.mem_cons_of_mem _ (List.mem_cons_of_mem _ (List.mem_cons_of_mem _ (List.mem_cons_self))), List.forall_mem_cons.mpr ⟨List.mem_cons_of_mem _ (List.mem_cons_self), List.forall_mem_cons.mpr ⟨List.mem_cons_self, fun _ h => absurd h List.not_mem_nil⟩⟩⟩⟩)) ?_
              have key143 : ∀ (m145 : Nat) (wy mo : Nat) (w146 : List (List xE)), 2 * clW w146 + mo < m145 → wy ≤ 4294967295 → mo ≤ 1 → xMnv w146 → xFr [82, 95, 96, 97, 98, 101, 102] w w146 → xTo (d + 2) mX12_flows (60, [], [(0, (2, 82)), (1, (0, rw_)), (2, (0, wy)), (3, (0, mo))], [], (w146, bd, fc, 0, 0, rr)) (fun φ => ∃ n w', xEnd 1 [(0, n)] (w', bd, fc, 0, 0, rr) φ ∧ (n ≤ 4294967295) ∧ xMnv w' ∧ xFr [82, 95, 96, 97, 98, 101, 102] w w') := by
                intro m145
                induction m145 with
                | zero => intro wy mo w146 hz; exact absurd hz (Nat.not_lt_zero _)
                | succ m145 ih144 =>
                  intro wy mo w146 hm151 hn149 hn150 hI147 hF148
                  refine xg_t (xg_blq rfl) ?_
                  refine xg_t (xg_iload (va := (0, mo)) rfl rfl) ?_
                  by_cases hc152 : mo = 0
                  · refine xg_t (xg_ifT (u := mo) rfl xnm0 (xj_eqT hc152)) ?_
                    refine xg_t (xg_blq rfl) ?_
                    refine xg_t (xg_iload (va := (0, wy)) rfl rfl) ?_
                    exact xg_e ⟨wy, w146, ⟨rfl, rfl⟩, by omega, hI147, hF148⟩
                  · refine xg_t (xg_ifF (u := mo) rfl xnm0 (xj_eqF hc152)) ?_
                    refine xg_t (xg_aload (va := (2, 82)) rfl rfl) ?_
                    refine xoCh82 (xqc82 hI147 : cp82 (wget w146 82)) (fun f82_153 f82_155 f82_157 f82_159 f82_161 f82_163 f82_165 f82_167 f82_169 f82_171 f82_173 f82_174 f82_175 f82_177 f82_179 f82_181 h82_183 hb154 hb156 hb158 hb160 hb162 hb164 hb166 hb168 hb170 hb172 hb176 hb178 hb180 hb182 hb184 => ?_)
                    refine xg_cVv mX12_spreads (vs := []) (rest := []) (cn1 := 0) (sl1 := 0) rfl (mSpreads (hI147)) rfl h82_183 rfl rfl rfl rfl rfl rfl (fun w185 hq186 => ?_)
                    obtain ⟨hI187, hF188, hx189⟩ := hq186
                    obtain ⟨f190, m191, hfr192⟩ := hx189
                    obtain ⟨hfr192a, hfr192b, hfr192c, hfr192d, hfr192e, hfr192f, hfr192g⟩ := id hfr192
                    refine xg_t (xg_const) ?_
                    refine xg_t (xg_istore (l1 := [(0, (2, 82)), (1, (0, rw_)), (2, (0, wy))]) rfl rfl rfl) ?_
                    refine xg_t (xg_const) ?_
                    refine xg_t (xg_istore (l1 := [(3, (0, 0)), (0, (2, 82)), (1, (0, rw_)), (2, (0, wy))]) rfl rfl rfl) ?_
                    refine xg_t (xg_drop (l1 := [(0, (2, 82)), (1, (0, rw_)), (2, (0, wy)), (3, (0, 0)), (4, (0, 0))]) (List.forall_mem_cons.mpr ⟨List.mem_cons_of_mem _ (List.mem_cons_of_mem _ (List.mem_cons_self)), List.forall_mem_cons.mpr ⟨List.mem_cons_of_mem _ (List.mem_cons_of_mem _ (List.mem_cons_of_mem _ (List.mem_cons_self))), List.forall_mem_cons.mpr ⟨List.mem_cons_of_mem _ (List.mem_cons_of_mem _ (List.mem_cons_of_mem _ (List.mem_cons_of_mem _ (List.mem_cons_self)))), List.forall_mem_cons.mpr ⟨List.mem_cons_of_mem _ (List.mem_cons_self), List.forall_mem_cons.mpr ⟨List.mem_cons_self, fun _ h => absurd h List.not_mem_nil⟩⟩⟩⟩⟩)) ?_
                    have key193 : ∀ (m195 : Nat) (wz mp rj : Nat) (w196 : List (List xE)), 6 - rj < m195 → wz ≤ 4294967295 → mp ≤ 1 → rj ≤ 6 → xMnv w196 → xFr [82, 95, 96, 97, 98, 101, 102] w w196 → ((mp = 0 ∧ clW w196 = clW w146) ∨ (mp = 1 ∧ clW w196 < clW w146)) → (mp = 1 ∨ ∃ f m, FR w196 f m) → xTo (d + 2) mX12_flows (73, [], [(0, (2, 82)), (1, (0, rw_)), (2, (0, wz)), (3, (0, mp)), (4, (0, rj))], [], (w196, bd, fc, 0, 0, rr)) (fun φ => ∃ n w', xEnd 1 [(0, n)] (w', bd, fc, 0, 0, rr) φ ∧ (n ≤ 4294967295) ∧ xMnv w' ∧ xFr [82, 95, 96, 97, 98, 101, 102] w w') := by
                      intro m195
                      induction m195 with
                      | zero => intro wz mp rj w196 hz; exact absurd hz (Nat.not_lt_zero _)
                      | succ m195 ih194 =>
                        intro wz mp rj w196 hm204 hn199 hn200 hn201 hI197 hF198 he202 he203
                        refine xg_t (xg_blq rfl) ?_
                        refine xg_t (xg_iload (va := (0, rj)) rfl rfl) ?_
                        refine xg_t (xg_aload (va := (2, 82)) rfl rfl) ?_
                        refine xoCh82 (xqc82 hI197 : cp82 (wget w196 82)) (fun f82_205 f82_207 f82_209 f82_211 f82_213 f82_215 f82_217 f82_219 f82_221 f82_223 f82_225 f82_226 f82_227 f82_229 f82_231 f82_233 h82_235 hb206 hb208 hb210 hb212 hb214 hb216 hb218 hb220 hb222 hb224 hb228 hb230 hb232 hb234 hb236 => ?_)
                        refine xg_t (xg_getf (va := (2, 83)) h82_235 rfl) ?_
                        refine xg_t (xg_const) ?_
                        refine xg_ialdB (n := 5) (B := 4294967295) (h83_34.fr hF198 (by decide)) (hb35) xnm0 (by first | decide | omega) (fun u237 hu238 he239 => ?_)
                        have hl240 : u237 ≤ 6 := by rw [← he239]; exact hx36.l5
                        by_cases hc241 : rj < u237
                        · refine xg_t (xg_icF (u := rj) (v := u237) rfl xnm0 xnm0 (xj_geF hc241 (by omega))) ?_
                          refine xg_t (xg_iload (va := (0, mp)) rfl rfl) ?_
                          by_cases hc242 : mp = 0
                          · refine xg_t (xg_ifF (u := mp) rfl xnm0 (xj_neF hc242)) ?_
                            refine xg_t (xg_bip) ?_
                            refine xg_t (xg_iload (va := (0, rj)) rfl rfl) ?_
                            refine xg_t (xg_imul (u := 6) (v := rj) (z := 6 * rj) xnm0 xnm0 (by omega)) ?_
                            refine xg_t (xg_aload (va := (2, 82)) rfl rfl) ?_
                            refine xg_t (xg_getf (va := (2, 83)) h82_235 rfl) ?_
                            refine xg_t (xg_bip) ?_
                            refine xg_ialdB (n := 6) (B := 4294967295) (h83_34.fr hF198 (by decide)) (hb35) xnm0 (by first | decide | omega) (fun u243 hu244 he245 => ?_)
                            have hl246 : u243 ≤ 6 := by rw [← he245]; exact hx36.l6
                            have h56247 := hx36.l56
                            have hl248 : 1 ≤ u243 := by omega
                            refine xg_t (xg_iadd (u := 6 * rj) (v := u243) (z := (6 * rj) + u243) xnm0 xnm0 (by omega)) ?_
                            refine xg_t (xg_const) ?_
                            refine xg_t (xg_isub (u := (6 * rj) + u243) (v := 1) (z := ((6 * rj) + u243) - 1) xnm0 xnm0 (by omega)) ?_
                            refine xg_t (xg_istore (l1 := [(0, (2, 82)), (1, (0, rw_)), (2, (0, wz)), (3, (0, mp)), (4, (0, rj))]) rfl rfl rfl) ?_
                            refine xg_t (xg_iload (va := (0, rw_)) rfl rfl) ?_
                            refine xg_t (xg_iload (va := (0, rj)) rfl rfl) ?_
                            refine xg_k (xg_ishrG (u := rw_) (v := rj) xnm0 xnm0) (xpt_lt _) (fun z249 hz250 => ?_)
                            refine xg_t (xg_const) ?_
                            refine xg_k (xg_iand (z := Nat.land z249 1) (u := z249) (v := 1) xnm0 xnm0 rfl) (xland_lt (by omega)) (fun z251 hz252 => ?_)
                            by_cases hc253 : z251 = 0
                            · refine xg_t (xg_ifT (u := z251) rfl xnm0 (xj_eqT hc253)) ?_
                              refine xg_t (xg_blq rfl) ?_
                              refine xg_t (xg_iinc (u := rj) (z := rj + 1) (l1 := [(5, (0, ((6 * rj) + u243) - 1)), (0, (2, 82)), (1, (0, rw_)), (2, (0, wz)), (3, (0, mp))]) rfl rfl (by omega) rfl) ?_
                              refine xg_t (xg_goto) ?_
                              refine xg_t (xg_drop (l1 := [(0, (2, 82)), (1, (0, rw_)), (2, (0, wz)), (3, (0, mp)), (4, (0, rj + 1))]) (List.forall_mem_cons.mpr ⟨List.mem_cons_of_mem _ (List.mem_cons_of_mem _ (List.mem_cons_self)), List.forall_mem_cons.mpr ⟨List.mem_cons_of_mem _ (List.mem_cons_of_mem _ (List.mem_cons_of_mem _ (List.mem_cons_self))), List.forall_mem_cons.mpr ⟨List.mem_cons_of_mem _ (List.mem_cons_of_mem _ (List.mem_cons_of_mem _ (List.mem_cons_of_mem _ (List.mem_cons_self)))), List.forall_mem_cons.mpr ⟨List.mem_cons_of_mem _ (List.mem_cons_of_mem _ (List.mem_cons_of_mem _ (List.mem_cons_of_mem _ (List.mem_cons_of_mem _ (List.mem_cons_self))))), List.forall_mem_cons.mpr ⟨List.mem_cons_self, fun _ h => absurd h List.not_mem_nil⟩⟩⟩⟩⟩)) ?_
                              exact ih194 wz mp (rj + 1) w196 (by omega) (by omega) (by omega) (by omega) (hI197) (hF198) (he202) (he203)
                            · refine xg_t (xg_ifF (u := z251) rfl xnm0 (xj_eqF hc253)) ?_
                              refine xg_t (xg_aload (va := (2, 82)) rfl rfl) ?_
                              obtain ⟨f254, m255, hfr256⟩ := he203.resolve_left (by omega)
                              obtain ⟨hfr256a, hfr256b, hfr256c, hfr256d, hfr256e, hfr256f, hfr256g⟩ := id hfr256
                              refine xg_t (xg_getf (va := (2, 98)) h82_235 rfl) ?_
                              refine xg_t (xg_iload (va := (0, rj)) rfl rfl) ?_
                              refine xoI (xqc98 hI197 : cpI 6 65 4294967295 (wget w196 98)) (fun g98_257 h98_258 hb259 => ?_)
                              refine xg_ialdB (n := rj) (B := 4294967295) h98_258 (hb259) xnm0 (by omega) (fun u260 hu261 he262 => ?_)
                              refine xg_t (xg_const) ?_
                              by_cases hc263 : u260 = 1
                              · refine xg_t (xg_icT (u := u260) (v := 1) rfl xnm0 xnm0 (xj_eqT hc263)) ?_
                                refine xg_t (xg_blq rfl) ?_
                                refine xg_t (xg_iinc (u := rj) (z := rj + 1) (l1 := [(5, (0, ((6 * rj) + u243) - 1)), (0, (2, 82)), (1, (0, rw_)), (2, (0, wz)), (3, (0, mp))]) rfl rfl (by omega) rfl) ?_
                                refine xg_t (xg_goto) ?_
                                refine xg_t (xg_drop (l1 := [(0, (2, 82)), (1, (0, rw_)), (2, (0, wz)), (3, (0, mp)), (4, (0, rj + 1))]) (List.forall_mem_cons.mpr ⟨List.mem_cons_of_mem _ (List.mem_cons_of_mem _ (List.mem_cons_self)), List.forall_mem_cons.mpr ⟨List.mem_cons_of_mem _ (List.mem_cons_of_mem _ (List.mem_cons_of_mem _ (List.mem_cons_self))), List.forall_mem_cons.mpr ⟨List.mem_cons_of_mem _ (List.mem_cons_of_mem _ (List.mem_cons_of_mem _ (List.mem_cons_of_mem _ (List.mem_cons_self)))), List.forall_mem_cons.mpr ⟨List.mem_cons_of_mem _ (List.mem_cons_of_mem _ (List.mem_cons_of_mem _ (List.mem_cons_of_mem _ (List.mem_cons_of_mem _ (List.mem_cons_self))))), List.forall_mem_cons.mpr ⟨List.mem_cons_self, fun _ h => absurd h List.not_mem_nil⟩⟩⟩⟩⟩)) ?_
                                exact ih194 wz mp (rj + 1) w196 (by omega) (by omega) (by omega) (by omega) (hI197) (hF198) (he202) (he203)
                              · refine xg_t (xg_icF (u := u260) (v := 1) rfl xnm0 xnm0 (xj_eqF hc263)) ?_
                                refine xg_t (xg_aload (va := (2, 82)) rfl rfl) ?_
                                refine xg_t (xg_getf (va := (2, 102)) h82_235 rfl) ?_
                                refine xg_t (xg_iload (va := (0, ((6 * rj) + u243) - 1)) rfl rfl) ?_
                                refine xg_ialdB (n := ((6 * rj) + u243) - 1) (B := 4294967295) hfr256a ((okN.le hfr256c)) xnm0 (by omega) (fun u264 hu265 he266 => ?_)
                                have hz267 := hfr256c (((6 * rj) + u243) - 1)
                                have hz268 := hfr256c (((6 * rj) + u243) - 1)
                                by_cases hc269 : u264 < 2147483648
                                · refine xg_t (xg_ifT (u := u264) rfl xnm0 (xjz_geT hc269)) ?_
                                  refine xg_t (xg_blq rfl) ?_
                                  refine xg_t (xg_aload (va := (2, 82)) rfl rfl) ?_
                                  refine xg_t (xg_iload (va := (0, ((6 * rj) + u243) - 1)) rfl rfl) ?_
                                  refine xg_cVv mX12_goesBack (vs := [(0, ((6 * rj) + u243) - 1)]) (rest := []) (cn1 := 0) (sl1 := 0) rfl (mGoesBack (hI197) hfr256 (by omega) (by omega)) rfl h82_235 rfl rfl rfl rfl rfl rfl (fun w270 hq271 => ?_)
                                  obtain ⟨hI272, hF273⟩ := hq271
                                  refine xg_t (xg_aload (va := (2, 82)) rfl rfl) ?_
                                  refine xg_t (xg_getf (va := (2, 98)) (hF273.get (by decide) h82_235) rfl) ?_
                                  refine xg_t (xg_iload (va := (0, rj)) rfl rfl) ?_
                                  refine xg_t (xg_const) ?_
                                  refine xg_iastK (n := rj) (u := 1) (h98_258.fr hF273 (by decide)) xnm0 xnm0 rfl (by omega) (fun w274 hr275 hb276 => ?_)
                                  refine xg_t (xg_iinc (u := wz) (z := (wz + 1) % 4294967296) (l1 := [(5, (0, ((6 * rj) + u243) - 1)), (0, (2, 82)), (1, (0, rw_)), (3, (0, mp)), (4, (0, rj))]) rfl rfl (rfl) rfl) ?_
                                  refine xg_t (xg_const) ?_
                                  refine xg_t (xg_istore (l1 := [(2, (0, (wz + 1) % 4294967296)), (5, (0, ((6 * rj) + u243) - 1)), (0, (2, 82)), (1, (0, rw_)), (4, (0, rj))]) rfl rfl rfl) ?_
                                  refine xg_t (xg_blq rfl) ?_
                                  refine xg_t (xg_iinc (u := rj) (z := rj + 1) (l1 := [(3, (0, 1)), (2, (0, (wz + 1) % 4294967296)), (5, (0, ((6 * rj) + u243) - 1)), (0, (2, 82)), (1, (0, rw_))]) rfl rfl (by omega) rfl) ?_
                                  refine xg_t (xg_goto) ?_
                                  refine xg_t (xg_drop (l1 := [(0, (2, 82)), (1, (0, rw_)), (2, (0, (wz + 1) % 4294967296)), (3, (0, 1)), (4, (0, rj + 1))]) (List.forall_mem_cons.mpr ⟨List.mem_cons_of_mem _ (List.mem_cons_of_mem _ (List.mem_cons_of_mem _ (List.mem_cons_of_mem _ (List.mem_cons_self)))), List.forall_mem_cons.mpr ⟨List.mem_cons_of_mem _ (List.mem_cons_of_mem _ (List.mem_cons_of_mem _ (List.mem_cons_of_mem _ (List.mem_cons_of_mem _ (List.mem_cons_self))))), List.forall_mem_cons.mpr ⟨List.mem_cons_of_mem _ (List.mem_cons_of_mem _ (List.mem_cons_self)), List.forall_mem_cons.mpr ⟨List.mem_cons_of_mem _ (List.mem_cons_self), List.forall_mem_cons.mpr ⟨List.mem_cons_self, fun _ h => absurd h List.not_mem_nil⟩⟩⟩⟩⟩)) ?_
                                  have ha277 := clW_fr hF273 (by decide)
                                  have hb278 := clW_set (h98_258.fr hF273 (by decide)) hr275 (by omega) (by omega)
                                  exact ih194 ((wz + 1) % 4294967296) 1 (rj + 1) w274 (by omega) (by omega) (by omega) (by omega) (xMnv.up (S := [98]) hI272 (xFr.of (S := [98]) hb276 (by decide)) (List.forall_mem_cons.mpr ⟨xqu98 (show cpI 6 65 4294967295 (wget w274 98) from ⟨_, hr275, xrb (by omega) (hb259)⟩), fun _ h => absurd h List.not_mem_nil⟩)) (((hF198.tr (hF273.up (by decide))).tr (xFr.of (S := [82, 95, 96, 97, 98, 101, 102]) hb276 (by decide)))) (Or.inr ⟨rfl, by omega⟩) (Or.inl rfl)
                                · refine xg_t (xg_ifF (u := u264) rfl xnm0 (xjz_geF (by omega) (by omega))) ?_
                                  refine xg_t (xg_goto) ?_
                                  refine xg_t (xg_blq rfl) ?_
                                  refine xg_t (xg_iinc (u := rj) (z := rj + 1) (l1 := [(5, (0, ((6 * rj) + u243) - 1)), (0, (2, 82)), (1, (0, rw_)), (2, (0, wz)), (3, (0, mp))]) rfl rfl (by omega) rfl) ?_
                                  refine xg_t (xg_goto) ?_
                                  refine xg_t (xg_drop (l1 := [(0, (2, 82)), (1, (0, rw_)), (2, (0, wz)), (3, (0, mp)), (4, (0, rj + 1))]) (List.forall_mem_cons.mpr ⟨List.mem_cons_of_mem _ (List.mem_cons_of_mem _ (List.mem_cons_self)), List.forall_mem_cons.mpr ⟨List.mem_cons_of_mem _ (List.mem_cons_of_mem _ (List.mem_cons_of_mem _ (List.mem_cons_self))), List.forall_mem_cons.mpr ⟨List.mem_cons_of_mem _ (List.mem_cons_of_mem _ (List.mem_cons_of_mem _ (List.mem_cons_of_mem _ (List.mem_cons_self)))), List.forall_mem_cons.mpr ⟨List.mem_cons_of_mem _ (List.mem_cons_of_mem _ (List.mem_cons_of_mem _ (List.mem_cons_of_mem _ (List.mem_cons_of_mem _ (List.mem_cons_self))))), List.forall_mem_cons.mpr ⟨List.mem_cons_self, fun _ h => absurd h List.not_mem_nil⟩⟩⟩⟩⟩)) ?_
                                  exact ih194 wz mp (rj + 1) w196 (by omega) (by omega) (by omega) (by omega) (hI197) (hF198) (he202) (he203)
                          · refine xg_t (xg_ifT (u := mp) rfl xnm0 (xj_neT hc242)) ?_
                            refine xg_t (xg_blq rfl) ?_
                            refine xg_t (xg_goto) ?_
                            refine xg_t (xg_drop (l1 := [(0, (2, 82)), (1, (0, rw_)), (2, (0, wz)), (3, (0, mp))]) (List.forall_mem_cons.mpr ⟨List.mem_cons_self, List.forall_mem_cons.mpr ⟨List.mem_cons_of_mem _ (List.mem_cons_self), List.forall_mem_cons.mpr ⟨List.mem_cons_of_mem _ (List.mem_cons_of_mem _ (List.mem_cons_self)), List.forall_mem_cons.mpr ⟨List.mem_cons_of_mem _ (List.mem_cons_of_mem _ (List.mem_cons_of_mem _ (List.mem_cons_self))), fun _ h => absurd h List.not_mem_nil⟩⟩⟩⟩)) ?_
                            exact ih144 wz mp w196 (by omega) (by omega) (by omega) (hI197) (hF198)
                        · refine xg_t (xg_icT (u := rj) (v := u237) rfl xnm0 xnm0 (xj_geT (by omega) (by omega))) ?_
                          refine xg_t (xg_blq rfl) ?_
                          refine xg_t (xg_goto) ?_
                          refine xg_t (xg_drop (l1 := [(0, (2, 82)), (1, (0, rw_)), (2, (0, wz)), (3, (0, mp))]) (List.forall_mem_cons.mpr ⟨List.mem_cons_self, List.forall_mem_cons.mpr ⟨List.mem_cons_of_mem _ (List.mem_cons_self), List.forall_mem_cons.mpr ⟨List.mem_cons_of_mem _ (List.mem_cons_of_mem _ (List.mem_cons_self)), List.forall_mem_cons.mpr ⟨List.mem_cons_of_mem _ (List.mem_cons_of_mem _ (List.mem_cons_of_mem _ (List.mem_cons_self))), fun _ h => absurd h List.not_mem_nil⟩⟩⟩⟩)) ?_
                          exact ih144 wz mp w196 (by omega) (by omega) (by omega) (hI197) (hF198)
                    exact key193 _ wy 0 0 w185 (Nat.lt_succ_self _) (by omega) (by omega) (by omega) (hI187) ((hF148.tr (hF188.up (by decide)))) (Or.inl ⟨rfl, clW_fr hF188 (by decide)⟩) (Or.inr ⟨_, _, hfr192⟩)
              exact key143 _ 0 1 w93 (Nat.lt_succ_self _) (by omega) (by omega) (hI94) (hF95)
        exact key90 _ 0 w40 (Nat.lt_succ_self _) (by omega) (hI41) (hF42)
  exact key37 _ 0 w (Nat.lt_succ_self _) (by omega) (hI) (xFr.rf)
theorem mAllRows (hI : xMnv w)  : xPi d mX12_allRows [(2, 82)] w bd fc rr (fun n w' => (n ≤ 4294967295) ∧ xMnv w' ∧ xFr [] w w') := by
  refine xPi.of ?_
  show xTo d mX12_allRows (0, [], [(0, (2, 82))], [], (w, bd, fc, 0, 0, rr)) (fun φ => ∃ n w', xEnd 1 [(0, n)] (w', bd, fc, 0, 0, rr) φ ∧ (n ≤ 4294967295) ∧ xMnv w' ∧ xFr [] w w')
  refine xoCh82 (xqc82 hI : cp82 (wget w 82)) (fun f82_1 f82_3 f82_5 f82_7 f82_9 f82_11 f82_13 f82_15 f82_17 f82_19 f82_21 f82_22 f82_23 f82_25 f82_27 f82_29 h82_31 hb2 hb4 hb6 hb8 hb10 hb12 hb14 hb16 hb18 hb20 hb24 hb26 hb28 hb30 hb32 => ?_)
  refine xoX83 (xqc83 hI : cpx83 (wget w 83)) (fun g83_33 h83_34 hb35 hx36 => ?_)
  refine xg_t (xg_blq rfl) ?_
  refine xg_t (xg_const) ?_
  refine xg_t (xg_aload (va := (2, 82)) rfl rfl) ?_
  refine xg_t (xg_getf (va := (2, 83)) h82_31 rfl) ?_
  refine xg_t (xg_const) ?_
  refine xg_ialdB (n := 5) (B := 4294967295) h83_34 (hb35) xnm0 (by first | decide | omega) (fun u37 hu38 he39 => ?_)
  have hl40 : u37 ≤ 6 := by rw [← he39]; exact hx36.l5
  refine xg_k (xg_ishlG (u := 1) (v := u37) xnm0 xnm0) (xpt_lt _) (fun z41 hz42 => ?_)
  refine xg_t (xg_const) ?_
  refine xg_k (xg_isub (u := z41) (v := 1) (z := (z41 + (4294967296 - 1)) % 4294967296) xnm0 xnm0 rfl) (Nat.mod_lt _ (by decide)) (fun z43 hz44 => ?_)
  exact xg_e ⟨z43, w, ⟨rfl, rfl⟩, by omega, hI, xFr.rf⟩
theorem mMost (hI : xMnv w)  : xPi (d + 4) mX12_most [(2, 82)] w bd fc rr (fun n w' => (n ≤ 4294967295) ∧ xMnv w' ∧ xFr [82, 95, 96, 97, 98, 99, 100, 101, 102] w w') := by
  refine xPi.of ?_
  show xTo (d + 4) mX12_most (0, [], [(0, (2, 82))], [], (w, bd, fc, 0, 0, rr)) (fun φ => ∃ n w', xEnd 1 [(0, n)] (w', bd, fc, 0, 0, rr) φ ∧ (n ≤ 4294967295) ∧ xMnv w' ∧ xFr [82, 95, 96, 97, 98, 99, 100, 101, 102] w w')
  refine xoCh82 (xqc82 hI : cp82 (wget w 82)) (fun f82_1 f82_3 f82_5 f82_7 f82_9 f82_11 f82_13 f82_15 f82_17 f82_19 f82_21 f82_22 f82_23 f82_25 f82_27 f82_29 h82_31 hb2 hb4 hb6 hb8 hb10 hb12 hb14 hb16 hb18 hb20 hb24 hb26 hb28 hb30 hb32 => ?_)
  refine xoX83 (xqc83 hI : cpx83 (wget w 83)) (fun g83_33 h83_34 hb35 hx36 => ?_)
  refine xg_t (xg_blq rfl) ?_
  refine xg_t (xg_aload (va := (2, 82)) rfl rfl) ?_
  refine xg_cVv mX12_looks (vs := []) (rest := []) (cn1 := 0) (sl1 := 0) rfl (mLooks (hI)) rfl h82_31 rfl rfl rfl rfl rfl rfl (fun w37 hq38 => ?_)
  obtain ⟨hI39, hF40⟩ := hq38
  refine xg_t (xg_aload (va := (2, 82)) rfl rfl) ?_
  refine xg_t (xg_aload (va := (2, 82)) rfl rfl) ?_
  refine xg_cVi mX12_allRows (vs := []) (rest := [(2, 82)]) (cn1 := 0) (sl1 := 0) rfl (mAllRows (hI39)) rfl (hF40.get (by decide) h82_31) rfl rfl rfl rfl rfl rfl (fun n45 w41 hq42 => ?_)
  obtain ⟨hn46, hI43, hF44⟩ := hq42
  refine xg_cVi mX12_flows (vs := [(0, n45)]) (rest := []) (cn1 := 0) (sl1 := 0) rfl (mFlows (hI43) (by omega)) rfl (hF44.get (by decide) (hF40.get (by decide) h82_31)) rfl rfl rfl rfl rfl rfl (fun n51 w47 hq48 => ?_)
  obtain ⟨hn52, hI49, hF50⟩ := hq48
  exact xg_e ⟨n51, w47, ⟨rfl, rfl⟩, by omega, hI49, (((hF40.up (by decide)).tr (hF44.up (by decide))).tr (hF50.up (by decide)))⟩
theorem mFedRows (hI : xMnv w)  : xPi (d + 4) mX12_fedRows [(2, 82)] w bd fc rr (fun n w' => (n ≤ 4294967295) ∧ xMnv w' ∧ xFr [82, 95, 96, 97, 98, 99, 100, 101, 102] w w') := by
  refine xPi.of ?_
  show xTo (d + 4) mX12_fedRows (0, [], [(0, (2, 82))], [], (w, bd, fc, 0, 0, rr)) (fun φ => ∃ n w', xEnd 1 [(0, n)] (w', bd, fc, 0, 0, rr) φ ∧ (n ≤ 4294967295) ∧ xMnv w' ∧ xFr [82, 95, 96, 97, 98, 99, 100, 101, 102] w w')
  refine xoCh82 (xqc82 hI : cp82 (wget w 82)) (fun f82_1 f82_3 f82_5 f82_7 f82_9 f82_11 f82_13 f82_15 f82_17 f82_19 f82_21 f82_22 f82_23 f82_25 f82_27 f82_29 h82_31 hb2 hb4 hb6 hb8 hb10 hb12 hb14 hb16 hb18 hb20 hb24 hb26 hb28 hb30 hb32 => ?_)
  refine xoX83 (xqc83 hI : cpx83 (wget w 83)) (fun g83_33 h83_34 hb35 hx36 => ?_)
  refine xg_t (xg_blq rfl) ?_
  refine xg_t (xg_aload (va := (2, 82)) rfl rfl) ?_
  refine xg_cVv mX12_looks (vs := []) (rest := []) (cn1 := 0) (sl1 := 0) rfl (mLooks (hI)) rfl h82_31 rfl rfl rfl rfl rfl rfl (fun w37 hq38 => ?_)
  obtain ⟨hI39, hF40⟩ := hq38
  refine xg_t (xg_const) ?_
  refine xg_t (xg_istore (l1 := [(0, (2, 82))]) rfl rfl rfl) ?_
  refine xg_t (xg_const) ?_
  refine xg_t (xg_istore (l1 := [(1, (0, 0)), (0, (2, 82))]) rfl rfl rfl) ?_
  refine xg_t (xg_const) ?_
  refine xg_t (xg_istore (l1 := [(2, (0, 0)), (1, (0, 0)), (0, (2, 82))]) rfl rfl rfl) ?_
  refine xg_t (xg_drop (l1 := [(0, (2, 82)), (1, (0, 0)), (2, (0, 0)), (3, (0, 0))]) (List.forall_mem_cons.mpr ⟨List.mem_cons_of_mem _ (List.mem_cons_of_mem _ (List.mem_cons_of_mem _ (List.mem_cons_self))), List.forall_mem_cons.mpr ⟨List.mem_cons_of_mem _ (List.mem_cons_of_mem _ (List.mem_cons_self)), List.forall_mem_cons.mpr ⟨List.mem_cons_of_mem _ (List.mem_cons_self), List.forall_mem_cons.mpr ⟨List.mem_cons_self, fun _ h => absurd h List.not_mem_nil⟩⟩⟩⟩)) ?_
  have key41 : ∀ (m43 : Nat) (ro_ ma ri : Nat) (w44 : List (List xE)), 6 - ri < m43 → ro_ ≤ 4294967295 → ma ≤ 4294967295 → ri ≤ 6 → xMnv w44 → xFr [82, 95, 96, 97, 98, 99, 100, 101, 102] w w44 → xTo (d + 4) mX12_fedRows (10, [], [(0, (2, 82)), (1, (0, ro_)), (2, (0, ma)), (3, (0, ri))], [], (w44, bd, fc, 0, 0, rr)) (fun φ => ∃ n w', xEnd 1 [(0, n)] (w', bd, fc, 0, 0, rr) φ ∧ (n ≤ 4294967295) ∧ xMnv w' ∧ xFr [82, 95, 96, 97, 98, 99, 100, 101, 102] w w') := by
    intro m43
    induction m43 with
    | zero => intro ro_ ma ri w44 hz; exact absurd hz (Nat.not_lt_zero _)
    | succ m43 ih42 =>
      intro ro_ ma ri w44 hm50 hn47 hn48 hn49 hI45 hF46
      refine xg_t (xg_blq rfl) ?_
      refine xg_t (xg_iload (va := (0, ri)) rfl rfl) ?_
      refine xg_t (xg_aload (va := (2, 82)) rfl rfl) ?_
      refine xoCh82 (xqc82 hI45 : cp82 (wget w44 82)) (fun f82_51 f82_53 f82_55 f82_57 f82_59 f82_61 f82_63 f82_65 f82_67 f82_69 f82_71 f82_72 f82_73 f82_75 f82_77 f82_79 h82_81 hb52 hb54 hb56 hb58 hb60 hb62 hb64 hb66 hb68 hb70 hb74 hb76 hb78 hb80 hb82 => ?_)
      refine xg_t (xg_getf (va := (2, 83)) h82_81 rfl) ?_
      refine xg_t (xg_const) ?_
      refine xg_ialdB (n := 5) (B := 4294967295) (h83_34.fr hF46 (by decide)) (hb35) xnm0 (by first | decide | omega) (fun u83 hu84 he85 => ?_)
      have hl86 : u83 ≤ 6 := by rw [← he85]; exact hx36.l5
      by_cases hc87 : ri < u83
      · refine xg_t (xg_icF (u := ri) (v := u83) rfl xnm0 xnm0 (xj_geF hc87 (by omega))) ?_
        refine xg_t (xg_aload (va := (2, 82)) rfl rfl) ?_
        refine xg_t (xg_iload (va := (0, ro_)) rfl rfl) ?_
        refine xg_t (xg_const) ?_
        refine xg_t (xg_iload (va := (0, ri)) rfl rfl) ?_
        refine xg_k (xg_ishlG (u := 1) (v := ri) xnm0 xnm0) (xpt_lt _) (fun z88 hz89 => ?_)
        refine xg_k (xg_ior (z := Nat.lor ro_ z88) (u := ro_) (v := z88) xnm0 xnm0 rfl) (xlor_lt (by omega) (by omega)) (fun z90 hz91 => ?_)
        refine xg_cVi mX12_flows (vs := [(0, z90)]) (rest := []) (cn1 := 0) (sl1 := 0) rfl (mFlows (hI45) (by omega)) rfl h82_81 rfl rfl rfl rfl rfl rfl (fun n96 w92 hq93 => ?_)
        obtain ⟨hn97, hI94, hF95⟩ := hq93
        refine xg_t (xg_iload (va := (0, ma)) rfl rfl) ?_
        by_cases hc98 : xbs ma < xbs n96
        · have hc98u := hc98
          unfold xbs at hc98u
          refine xg_t (xg_icT (u := n96) (v := ma) rfl xnm0 xnm0 (xjs_gtT hc98)) ?_
          refine xg_t (xg_blq rfl) ?_
          refine xg_t (xg_iload (va := (0, ro_)) rfl rfl) ?_
          refine xg_t (xg_const) ?_
          refine xg_t (xg_iload (va := (0, ri)) rfl rfl) ?_
          refine xg_k (xg_ishlG (u := 1) (v := ri) xnm0 xnm0) (xpt_lt _) (fun z99 hz100 => ?_)
          refine xg_k (xg_ior (z := Nat.lor ro_ z99) (u := ro_) (v := z99) xnm0 xnm0 rfl) (xlor_lt (by omega) (by omega)) (fun z101 hz102 => ?_)
          refine xg_t (xg_istore (l1 := [(0, (2, 82)), (2, (0, ma)), (3, (0, ri))]) rfl rfl rfl) ?_
          refine xg_t (xg_iinc (u := ma) (z := (ma + 1) % 4294967296) (l1 := [(1, (0, z101)), (0, (2, 82)), (3, (0, ri))]) rfl rfl (rfl) rfl) ?_
          refine xg_t (xg_blq rfl) ?_
          refine xg_t (xg_iinc (u := ri) (z := ri + 1) (l1 := [(2, (0, (ma + 1) % 4294967296)), (1, (0, z101)), (0, (2, 82))]) rfl rfl (by omega) rfl) ?_
          refine xg_t (xg_goto) ?_
          refine xg_t (xg_drop (l1 := [(0, (2, 82)), (1, (0, z101)), (2, (0, (ma + 1) % 4294967296)), (3, (0, ri + 1))]) (List.forall_mem_cons.mpr ⟨List.mem_cons_of_mem _ (List.mem_cons_of_mem _ (List.mem_cons_of_mem _ (List.mem_cons_self))), List.forall_mem_cons.mpr ⟨List.mem_cons_of_mem _ (List.mem_cons_of_mem _ (List.mem_cons_self)), List.forall_mem_cons.mpr ⟨List.mem_cons_of_mem _ (List.mem_cons_self), List.forall_mem_cons.mpr ⟨List.mem_cons_self, fun _ h => absurd h List.not_mem_nil⟩⟩⟩⟩)) ?_
          exact ih42 z101 ((ma + 1) % 4294967296) (ri + 1) w92 (by omega) (by omega) (by omega) (by omega) (hI94) ((hF46.tr (hF95.up (by decide))))
        · have hc98u := hc98
          unfold xbs at hc98u
          refine xg_t (xg_icF (u := n96) (v := ma) rfl xnm0 xnm0 (xjs_gtF hc98)) ?_
          refine xg_t (xg_goto) ?_
          refine xg_t (xg_blq rfl) ?_
          refine xg_t (xg_iinc (u := ri) (z := ri + 1) (l1 := [(0, (2, 82)), (1, (0, ro_)), (2, (0, ma))]) rfl rfl (by omega) rfl) ?_
          refine xg_t (xg_goto) ?_
          refine xg_t (xg_drop (l1 := [(0, (2, 82)), (1, (0, ro_)), (2, (0, ma)), (3, (0, ri + 1))]) (List.forall_mem_cons.mpr ⟨List.mem_cons_of_mem _ (List.mem_cons_self), List.forall_mem_cons.mpr ⟨List.mem_cons_of_mem _ (List.mem_cons_of_mem _ (List.mem_cons_self)), List.forall_mem_cons.mpr ⟨List.mem_cons_of_mem _ (List.mem_cons_of_mem _ (List.mem_cons_of_mem _ (List.mem_cons_self))), List.forall_mem_cons.mpr ⟨List.mem_cons_self, fun _ h => absurd h List.not_mem_nil⟩⟩⟩⟩)) ?_
          exact ih42 ro_ ma (ri + 1) w92 (by omega) (by omega) (by omega) (by omega) (hI94) ((hF46.tr (hF95.up (by decide))))
      · refine xg_t (xg_icT (u := ri) (v := u83) rfl xnm0 xnm0 (xj_geT (by omega) (by omega))) ?_
        refine xg_t (xg_blq rfl) ?_
        refine xg_t (xg_iload (va := (0, ro_)) rfl rfl) ?_
        exact xg_e ⟨ro_, w44, ⟨rfl, rfl⟩, by omega, hI45, hF46⟩
  exact key41 _ 0 0 0 w37 (Nat.lt_succ_self _) (by omega) (by omega) (by omega) (hI39) ((hF40.up (by decide)))
theorem mFed {ra : Nat} (hI : xMnv w) (hra : ra ≤ 4294967295) : xPi (d + 5) mX12_fed [(2, 82), (0, ra)] w bd fc rr (fun n w' => (n ≤ 1) ∧ xMnv w' ∧ xFr [82, 95, 96, 97, 98, 99, 100, 101, 102] w w') := by
  refine xPi.of ?_
  show xTo (d + 5) mX12_fed (0, [], [(0, (2, 82)), (1, (0, ra))], [], (w, bd, fc, 0, 0, rr)) (fun φ => ∃ n w', xEnd 4 [(0, n)] (w', bd, fc, 0, 0, rr) φ ∧ (n ≤ 1) ∧ xMnv w' ∧ xFr [82, 95, 96, 97, 98, 99, 100, 101, 102] w w')
  refine xoCh82 (xqc82 hI : cp82 (wget w 82)) (fun f82_1 f82_3 f82_5 f82_7 f82_9 f82_11 f82_13 f82_15 f82_17 f82_19 f82_21 f82_22 f82_23 f82_25 f82_27 f82_29 h82_31 hb2 hb4 hb6 hb8 hb10 hb12 hb14 hb16 hb18 hb20 hb24 hb26 hb28 hb30 hb32 => ?_)
  refine xoX83 (xqc83 hI : cpx83 (wget w 83)) (fun g83_33 h83_34 hb35 hx36 => ?_)
  refine xg_t (xg_blq rfl) ?_
  refine xg_t (xg_aload (va := (2, 82)) rfl rfl) ?_
  refine xg_t (xg_iload (va := (0, ra)) rfl rfl) ?_
  refine xg_t (xg_const) ?_
  have hl37 := hx36.l5
  refine xg_cVi mX12_isOf (vs := [(0, ra), (0, 5)]) (rest := []) (cn1 := 0) (sl1 := 0) rfl (mOf5 (hI) (by omega) h83_34 hb35 hx36) rfl h82_31 rfl rfl rfl rfl rfl rfl (fun n42 w38 hq39 => ?_)
  obtain ⟨hn43, hI40, hF41⟩ := hq39
  by_cases hc44 : n42 = 0
  · refine xg_t (xg_ifT (u := n42) rfl xnm0 (xj_eqT hc44)) ?_
    refine xg_t (xg_blq rfl) ?_
    refine xg_t (xg_const) ?_
    refine xg_t (xg_blq rfl) ?_
    exact xg_e ⟨0, w38, ⟨rfl, rfl⟩, by first | decide | omega, hI40, (hF41.up (by decide))⟩
  · refine xg_t (xg_ifF (u := n42) rfl xnm0 (xj_eqF hc44)) ?_
    refine xg_t (xg_aload (va := (2, 82)) rfl rfl) ?_
    refine xg_cVi mX12_fedRows (vs := []) (rest := []) (cn1 := 0) (sl1 := 0) rfl (mFedRows (hI40)) rfl (hF41.get (by decide) h82_31) rfl rfl rfl rfl rfl rfl (fun n49 w45 hq46 => ?_)
    obtain ⟨hn50, hI47, hF48⟩ := hq46
    refine xg_t (xg_iload (va := (0, ra)) rfl rfl) ?_
    refine xg_k (xg_ishrG (u := n49) (v := ra) xnm0 xnm0) (xpt_lt _) (fun z51 hz52 => ?_)
    refine xg_t (xg_const) ?_
    refine xg_k (xg_iand (z := Nat.land z51 1) (u := z51) (v := 1) xnm0 xnm0 rfl) (xland_lt (by omega)) (fun z53 hz54 => ?_)
    refine xg_t (xg_const) ?_
    by_cases hc55 : z53 = 1
    · refine xg_t (xg_icF (u := z53) (v := 1) rfl xnm0 xnm0 (xj_neF hc55)) ?_
      refine xg_t (xg_const) ?_
      refine xg_t (xg_goto) ?_
      refine xg_t (xg_blq rfl) ?_
      exact xg_e ⟨1, w45, ⟨rfl, rfl⟩, by first | decide | omega, hI47, ((hF41.up (by decide)).tr (hF48.up (by decide)))⟩
    · refine xg_t (xg_icT (u := z53) (v := 1) rfl xnm0 xnm0 (xj_neT hc55)) ?_
      refine xg_t (xg_blq rfl) ?_
      refine xg_t (xg_const) ?_
      refine xg_t (xg_blq rfl) ?_
      exact xg_e ⟨0, w45, ⟨rfl, rfl⟩, by first | decide | omega, hI47, ((hF41.up (by decide)).tr (hF48.up (by decide)))⟩
theorem mCuts (hI : xMnv w)  : xPq (d + 4) mX12_cuts [(2, 82)] w bd fc rr [] (fun w' => xMnv w' ∧ xFr [82, 95, 96, 97, 98, 99, 100, 101, 102] w w') := by
  refine xPq.of ?_
  show xTo (d + 4) mX12_cuts (0, [], [(0, (2, 82))], [], (w, bd, fc, 0, 0, rr)) (fun φ => ∃ w', xEnd 0 [] (w', bd, fc, 0, 0, rr) φ ∧ xMnv w' ∧ xFr [82, 95, 96, 97, 98, 99, 100, 101, 102] w w')
  refine xoCh82 (xqc82 hI : cp82 (wget w 82)) (fun f82_1 f82_3 f82_5 f82_7 f82_9 f82_11 f82_13 f82_15 f82_17 f82_19 f82_21 f82_22 f82_23 f82_25 f82_27 f82_29 h82_31 hb2 hb4 hb6 hb8 hb10 hb12 hb14 hb16 hb18 hb20 hb24 hb26 hb28 hb30 hb32 => ?_)
  refine xoX83 (xqc83 hI : cpx83 (wget w 83)) (fun g83_33 h83_34 hb35 hx36 => ?_)
  refine xg_t (xg_blq rfl) ?_
  refine xg_t (xg_aload (va := (2, 82)) rfl rfl) ?_
  refine xg_cVv mX12_looks (vs := []) (rest := []) (cn1 := 0) (sl1 := 0) rfl (mLooks (hI)) rfl h82_31 rfl rfl rfl rfl rfl rfl (fun w37 hq38 => ?_)
  obtain ⟨hI39, hF40⟩ := hq38
  refine xg_t (xg_aload (va := (2, 82)) rfl rfl) ?_
  refine xg_t (xg_aload (va := (2, 82)) rfl rfl) ?_
  refine xg_cVi mX12_allRows (vs := []) (rest := [(2, 82)]) (cn1 := 0) (sl1 := 0) rfl (mAllRows (hI39)) rfl (hF40.get (by decide) h82_31) rfl rfl rfl rfl rfl rfl (fun n45 w41 hq42 => ?_)
  obtain ⟨hn46, hI43, hF44⟩ := hq42
  refine xg_cVi mX12_flows (vs := [(0, n45)]) (rest := []) (cn1 := 0) (sl1 := 0) rfl (mFlows (hI43) (by omega)) rfl (hF44.get (by decide) (hF40.get (by decide) h82_31)) rfl rfl rfl rfl rfl rfl (fun n51 w47 hq48 => ?_)
  obtain ⟨hn52, hI49, hF50⟩ := hq48
  refine xg_t (xg_istore (l1 := [(0, (2, 82))]) rfl rfl rfl) ?_
  refine xg_t (xg_aload (va := (2, 82)) rfl rfl) ?_
  refine xoCh82 (xqc82 hI49 : cp82 (wget w47 82)) (fun f82_53 f82_55 f82_57 f82_59 f82_61 f82_63 f82_65 f82_67 f82_69 f82_71 f82_73 f82_74 f82_75 f82_77 f82_79 f82_81 h82_83 hb54 hb56 hb58 hb60 hb62 hb64 hb66 hb68 hb70 hb72 hb76 hb78 hb80 hb82 hb84 => ?_)
  refine xg_cVv mX12_spreads (vs := []) (rest := []) (cn1 := 0) (sl1 := 0) rfl (mSpreads (hI49)) rfl h82_83 rfl rfl rfl rfl rfl rfl (fun w85 hq86 => ?_)
  obtain ⟨hI87, hF88, hx89⟩ := hq86
  exact xg_e ⟨w85, ⟨rfl, rfl⟩, hI87, ((((hF40.up (by decide)).tr (hF44.up (by decide))).tr (hF50.up (by decide))).tr (hF88.up (by decide)))⟩
theorem mJoined {ra ca : Nat} (hI : xMnv w) (hra : ra ≤ 5) (hca : ca ≤ 5) : xPi d mX12_isJoined [(2, 82), (0, ra), (0, ca)] w bd fc rr (fun n w' => (n ≤ 1) ∧ xMnv w' ∧ xFr [] w w') := by
  refine xPi.of ?_
  show xTo d mX12_isJoined (0, [], [(0, (2, 82)), (1, (0, ra)), (2, (0, ca))], [], (w, bd, fc, 0, 0, rr)) (fun φ => ∃ n w', xEnd 4 [(0, n)] (w', bd, fc, 0, 0, rr) φ ∧ (n ≤ 1) ∧ xMnv w' ∧ xFr [] w w')
  refine xoCh82 (xqc82 hI : cp82 (wget w 82)) (fun f82_1 f82_3 f82_5 f82_7 f82_9 f82_11 f82_13 f82_15 f82_17 f82_19 f82_21 f82_22 f82_23 f82_25 f82_27 f82_29 h82_31 hb2 hb4 hb6 hb8 hb10 hb12 hb14 hb16 hb18 hb20 hb24 hb26 hb28 hb30 hb32 => ?_)
  obtain ⟨g102_33, h102_34, hb35, hx36⟩ := (xqc102 hI : cpx102 (wget w 102))
  have h102_34 : xRow w 102 36 69 g102_33 := h102_34
  refine xg_t (xg_blq rfl) ?_
  refine xg_t (xg_aload (va := (2, 82)) rfl rfl) ?_
  refine xg_t (xg_getf (va := (2, 102)) h82_31 rfl) ?_
  refine xg_t (xg_bip) ?_
  refine xg_t (xg_iload (va := (0, ra)) rfl rfl) ?_
  refine xg_t (xg_imul (u := 6) (v := ra) (z := 6 * ra) xnm0 xnm0 (by omega)) ?_
  refine xg_t (xg_iload (va := (0, ca)) rfl rfl) ?_
  refine xg_t (xg_iadd (u := 6 * ra) (v := ca) (z := (6 * ra) + ca) xnm0 xnm0 (by omega)) ?_
  refine xg_ialdB (n := (6 * ra) + ca) (B := 4294967295) h102_34 (hb35) xnm0 (by omega) (fun u37 hu38 he39 => ?_)
  have hz40 := hx36 ((6 * ra) + ca)
  by_cases hc41 : u37 < 2147483648
  · refine xg_t (xg_ifF (u := u37) rfl xnm0 (xjz_ltF hc41)) ?_
    refine xg_t (xg_const) ?_
    refine xg_t (xg_goto) ?_
    refine xg_t (xg_blq rfl) ?_
    exact xg_e ⟨1, w, ⟨rfl, rfl⟩, by first | decide | omega, hI, xFr.rf⟩
  · refine xg_t (xg_ifT (u := u37) rfl xnm0 (xjz_ltT (by omega) (by omega))) ?_
    refine xg_t (xg_blq rfl) ?_
    refine xg_t (xg_const) ?_
    refine xg_t (xg_blq rfl) ?_
    exact xg_e ⟨0, w, ⟨rfl, rfl⟩, by first | decide | omega, hI, xFr.rf⟩
theorem mIsInCut {so ra ca : Nat} (hI : xMnv w) (hso : so ≤ 4294967295) (hra : ra ≤ 4294967295) (hca : ca ≤ 4294967295) : xPi (d + 2) mX12_isInCut [(2, 82), (0, so), (0, ra), (0, ca)] w bd fc rr (fun n w' => (n ≤ 1) ∧ xMnv w' ∧ xFr [] w w') := by
  refine xPi.of ?_
  show xTo (d + 2) mX12_isInCut (0, [], [(0, (2, 82)), (1, (0, so)), (2, (0, ra)), (3, (0, ca))], [], (w, bd, fc, 0, 0, rr)) (fun φ => ∃ n w', xEnd 4 [(0, n)] (w', bd, fc, 0, 0, rr) φ ∧ (n ≤ 1) ∧ xMnv w' ∧ xFr [] w w')
  refine xoCh82 (xqc82 hI : cp82 (wget w 82)) (fun f82_1 f82_3 f82_5 f82_7 f82_9 f82_11 f82_13 f82_15 f82_17 f82_19 f82_21 f82_22 f82_23 f82_25 f82_27 f82_29 h82_31 hb2 hb4 hb6 hb8 hb10 hb12 hb14 hb16 hb18 hb20 hb24 hb26 hb28 hb30 hb32 => ?_)
  refine xoX83 (xqc83 hI : cpx83 (wget w 83)) (fun g83_33 h83_34 hb35 hx36 => ?_)
  obtain ⟨g99_37, h99_38, hb39, hx40⟩ := (xqc99 hI : cpx99 (wget w 99))
  have h99_38 : xRk 2 0 w 99 36 66 g99_37 := h99_38
  obtain ⟨g100_41, h100_42, hb43, hx44⟩ := (xqc100 hI : cpx100 (wget w 100))
  have h100_42 : xRk 2 0 w 100 36 67 g100_41 := h100_42
  refine xg_t (xg_blq rfl) ?_
  refine xg_t (xg_iload (va := (0, so)) rfl rfl) ?_
  by_cases hc45 : so = 0
  · refine xg_t (xg_swt (ks := [(0, 28), (1, 75), (2, 122)]) (u := so) (z := 28) rfl rfl rfl xnm0 (xsw_y hc45)) ?_
    refine xg_t (xg_blq rfl) ?_
    refine xg_t (xg_aload (va := (2, 82)) rfl rfl) ?_
    refine xg_t (xg_const) ?_
    refine xg_t (xg_iload (va := (0, ra)) rfl rfl) ?_
    refine xg_t (xg_iload (va := (0, ca)) rfl rfl) ?_
    refine xg_cVi mX12_isThere (vs := [(0, 0), (0, ra), (0, ca)]) (rest := []) (cn1 := 0) (sl1 := 0) rfl (mThere (hI) (by omega) (by omega) (by omega) h83_34 hb35 hx36) rfl h82_31 rfl rfl rfl rfl rfl rfl (fun n50 w46 hq47 => ?_)
    obtain ⟨hn51, hI48, hF49⟩ := hq47
    by_cases hc52 : n50 = 0
    · refine xg_t (xg_ifT (u := n50) rfl xnm0 (xj_eqT hc52)) ?_
      refine xg_t (xg_blq rfl) ?_
      refine xg_t (xg_const) ?_
      refine xg_t (xg_blq rfl) ?_
      exact xg_e ⟨0, w46, ⟨rfl, rfl⟩, by first | decide | omega, hI48, (hF49.up (by decide))⟩
    · refine xg_t (xg_ifF (u := n50) rfl xnm0 (xj_eqF hc52)) ?_
      refine xg_t (xg_aload (va := (2, 82)) rfl rfl) ?_
      refine xg_t (xg_getf (va := (2, 99)) (hF49.get (by decide) h82_31) rfl) ?_
      refine xg_t (xg_bip) ?_
      refine xg_t (xg_iload (va := (0, ra)) rfl rfl) ?_
      refine xg_t (xg_imul (u := 6) (v := ra) (z := 6 * ra) xnm0 xnm0 (by omega)) ?_
      refine xg_t (xg_iload (va := (0, ca)) rfl rfl) ?_
      refine xg_t (xg_iadd (u := 6 * ra) (v := ca) (z := (6 * ra) + ca) xnm0 xnm0 (by omega)) ?_
      refine xg_baldB (n := (6 * ra) + ca) (B := 1) (h99_38.fr hF49 (by decide)) rfl (hb39) xnm0 (by omega) (fun u53 hu54 he55 => ?_)
      have hz56 := hx40 ((6 * ra) + ca)
      by_cases hc57 : u53 = 0
      · refine xg_t (xg_ifT (u := u53) rfl xnm0 (xj_eqT hc57)) ?_
        refine xg_t (xg_blq rfl) ?_
        refine xg_t (xg_const) ?_
        refine xg_t (xg_blq rfl) ?_
        exact xg_e ⟨0, w46, ⟨rfl, rfl⟩, by first | decide | omega, hI48, (hF49.up (by decide))⟩
      · refine xg_t (xg_ifF (u := u53) rfl xnm0 (xj_eqF hc57)) ?_
        refine xg_t (xg_aload (va := (2, 82)) rfl rfl) ?_
        refine xg_t (xg_iload (va := (0, ra)) rfl rfl) ?_
        refine xg_t (xg_iload (va := (0, ca)) rfl rfl) ?_
        refine xg_cVi mX12_isJoined (vs := [(0, ra), (0, ca)]) (rest := []) (cn1 := 0) (sl1 := 0) rfl (mJoined (hI48) (by omega) (by omega)) rfl (hF49.get (by decide) h82_31) rfl rfl rfl rfl rfl rfl (fun n62 w58 hq59 => ?_)
        obtain ⟨hn63, hI60, hF61⟩ := hq59
        refine xg_t (xg_aload (va := (2, 82)) rfl rfl) ?_
        refine xg_t (xg_iload (va := (0, ra)) rfl rfl) ?_
        refine xg_t (xg_iload (va := (0, ca)) rfl rfl) ?_
        refine xg_t (xg_const) ?_
        refine xg_t (xg_iadd (u := ca) (v := 1) (z := ca + 1) xnm0 xnm0 (by omega)) ?_
        refine xg_cVi mX12_isJoined (vs := [(0, ra), (0, ca + 1)]) (rest := [(0, n62)]) (cn1 := 0) (sl1 := 0) rfl (mJoined (hI60) (by omega) (by omega)) rfl (hF61.get (by decide) (hF49.get (by decide) h82_31)) rfl rfl rfl rfl rfl rfl (fun n68 w64 hq65 => ?_)
        obtain ⟨hn69, hI66, hF67⟩ := hq65
        by_cases hc70 : n62 = n68
        · refine xg_t (xg_icT (u := n62) (v := n68) rfl xnm0 xnm0 (xj_eqT hc70)) ?_
          refine xg_t (xg_blq rfl) ?_
          refine xg_t (xg_const) ?_
          refine xg_t (xg_blq rfl) ?_
          exact xg_e ⟨0, w64, ⟨rfl, rfl⟩, by first | decide | omega, hI66, (((hF49.up (by decide)).tr (hF61.up (by decide))).tr (hF67.up (by decide)))⟩
        · refine xg_t (xg_icF (u := n62) (v := n68) rfl xnm0 xnm0 (xj_eqF hc70)) ?_
          refine xg_t (xg_const) ?_
          refine xg_t (xg_goto) ?_
          refine xg_t (xg_blq rfl) ?_
          exact xg_e ⟨1, w64, ⟨rfl, rfl⟩, by first | decide | omega, hI66, (((hF49.up (by decide)).tr (hF61.up (by decide))).tr (hF67.up (by decide)))⟩
  · by_cases hc71 : so = 1
    · refine xg_t (xg_swt (ks := [(0, 28), (1, 75), (2, 122)]) (u := so) (z := 75) rfl rfl rfl xnm0 (xsw_n hc45 (xsw_y hc71))) ?_
      refine xg_t (xg_blq rfl) ?_
      refine xg_t (xg_aload (va := (2, 82)) rfl rfl) ?_
      refine xg_t (xg_const) ?_
      refine xg_t (xg_iload (va := (0, ra)) rfl rfl) ?_
      refine xg_t (xg_iload (va := (0, ca)) rfl rfl) ?_
      refine xg_cVi mX12_isThere (vs := [(0, 1), (0, ra), (0, ca)]) (rest := []) (cn1 := 0) (sl1 := 0) rfl (mThere (hI) (by omega) (by omega) (by omega) h83_34 hb35 hx36) rfl h82_31 rfl rfl rfl rfl rfl rfl (fun n76 w72 hq73 => ?_)
      obtain ⟨hn77, hI74, hF75⟩ := hq73
      by_cases hc78 : n76 = 0
      · refine xg_t (xg_ifT (u := n76) rfl xnm0 (xj_eqT hc78)) ?_
        refine xg_t (xg_blq rfl) ?_
        refine xg_t (xg_const) ?_
        refine xg_t (xg_blq rfl) ?_
        exact xg_e ⟨0, w72, ⟨rfl, rfl⟩, by first | decide | omega, hI74, (hF75.up (by decide))⟩
      · refine xg_t (xg_ifF (u := n76) rfl xnm0 (xj_eqF hc78)) ?_
        refine xg_t (xg_aload (va := (2, 82)) rfl rfl) ?_
        refine xg_t (xg_getf (va := (2, 100)) (hF75.get (by decide) h82_31) rfl) ?_
        refine xg_t (xg_bip) ?_
        refine xg_t (xg_iload (va := (0, ra)) rfl rfl) ?_
        refine xg_t (xg_imul (u := 6) (v := ra) (z := 6 * ra) xnm0 xnm0 (by omega)) ?_
        refine xg_t (xg_iload (va := (0, ca)) rfl rfl) ?_
        refine xg_t (xg_iadd (u := 6 * ra) (v := ca) (z := (6 * ra) + ca) xnm0 xnm0 (by omega)) ?_
        refine xg_baldB (n := (6 * ra) + ca) (B := 1) (h100_42.fr hF75 (by decide)) rfl (hb43) xnm0 (by omega) (fun u79 hu80 he81 => ?_)
        have hz82 := hx44 ((6 * ra) + ca)
        by_cases hc83 : u79 = 0
        · refine xg_t (xg_ifT (u := u79) rfl xnm0 (xj_eqT hc83)) ?_
          refine xg_t (xg_blq rfl) ?_
          refine xg_t (xg_const) ?_
          refine xg_t (xg_blq rfl) ?_
          exact xg_e ⟨0, w72, ⟨rfl, rfl⟩, by first | decide | omega, hI74, (hF75.up (by decide))⟩
        · refine xg_t (xg_ifF (u := u79) rfl xnm0 (xj_eqF hc83)) ?_
          refine xg_t (xg_aload (va := (2, 82)) rfl rfl) ?_
          refine xg_t (xg_iload (va := (0, ra)) rfl rfl) ?_
          refine xg_t (xg_iload (va := (0, ca)) rfl rfl) ?_
          refine xg_cVi mX12_isJoined (vs := [(0, ra), (0, ca)]) (rest := []) (cn1 := 0) (sl1 := 0) rfl (mJoined (hI74) (by omega) (by omega)) rfl (hF75.get (by decide) h82_31) rfl rfl rfl rfl rfl rfl (fun n88 w84 hq85 => ?_)
          obtain ⟨hn89, hI86, hF87⟩ := hq85
          refine xg_t (xg_aload (va := (2, 82)) rfl rfl) ?_
          refine xg_t (xg_iload (va := (0, ra)) rfl rfl) ?_
          refine xg_t (xg_const) ?_
          refine xg_t (xg_iadd (u := ra) (v := 1) (z := ra + 1) xnm0 xnm0 (by omega)) ?_
          refine xg_t (xg_iload (va := (0, ca)) rfl rfl) ?_
          refine xg_cVi mX12_isJoined (vs := [(0, ra + 1), (0, ca)]) (rest := [(0, n88)]) (cn1 := 0) (sl1 := 0) rfl (mJoined (hI86) (by omega) (by omega)) rfl (hF87.get (by decide) (hF75.get (by decide) h82_31)) rfl rfl rfl rfl rfl rfl (fun n94 w90 hq91 => ?_)
          obtain ⟨hn95, hI92, hF93⟩ := hq91
          by_cases hc96 : n88 = n94
          · refine xg_t (xg_icT (u := n88) (v := n94) rfl xnm0 xnm0 (xj_eqT hc96)) ?_
            refine xg_t (xg_blq rfl) ?_
            refine xg_t (xg_const) ?_
            refine xg_t (xg_blq rfl) ?_
            exact xg_e ⟨0, w90, ⟨rfl, rfl⟩, by first | decide | omega, hI92, (((hF75.up (by decide)).tr (hF87.up (by decide))).tr (hF93.up (by decide)))⟩
          · refine xg_t (xg_icF (u := n88) (v := n94) rfl xnm0 xnm0 (xj_eqF hc96)) ?_
            refine xg_t (xg_const) ?_
            refine xg_t (xg_goto) ?_
            refine xg_t (xg_blq rfl) ?_
            exact xg_e ⟨1, w90, ⟨rfl, rfl⟩, by first | decide | omega, hI92, (((hF75.up (by decide)).tr (hF87.up (by decide))).tr (hF93.up (by decide)))⟩
    · by_cases hc97 : so = 2
      · refine xg_t (xg_swt (ks := [(0, 28), (1, 75), (2, 122)]) (u := so) (z := 122) rfl rfl rfl xnm0 (xsw_n hc45 (xsw_n hc71 (xsw_y hc97)))) ?_
        refine xg_t (xg_blq rfl) ?_
        refine xg_t (xg_aload (va := (2, 82)) rfl rfl) ?_
        refine xg_t (xg_iload (va := (0, ra)) rfl rfl) ?_
        refine xg_t (xg_const) ?_
        have hl98 := hx36.l5
        refine xg_cVi mX12_isOf (vs := [(0, ra), (0, 5)]) (rest := []) (cn1 := 0) (sl1 := 0) rfl (mOf5 (hI) (by omega) h83_34 hb35 hx36) rfl h82_31 rfl rfl rfl rfl rfl rfl (fun n103 w99 hq100 => ?_)
        obtain ⟨hn104, hI101, hF102⟩ := hq100
        by_cases hc105 : n103 = 0
        · refine xg_t (xg_ifT (u := n103) rfl xnm0 (xj_eqT hc105)) ?_
          refine xg_t (xg_blq rfl) ?_
          refine xg_t (xg_const) ?_
          refine xg_t (xg_blq rfl) ?_
          exact xg_e ⟨0, w99, ⟨rfl, rfl⟩, by first | decide | omega, hI101, (hF102.up (by decide))⟩
        · refine xg_t (xg_ifF (u := n103) rfl xnm0 (xj_eqF hc105)) ?_
          refine xg_t (xg_aload (va := (2, 82)) rfl rfl) ?_
          refine xg_t (xg_iload (va := (0, ra)) rfl rfl) ?_
          refine xg_t (xg_const) ?_
          refine xg_cVi mX12_isJoined (vs := [(0, ra), (0, 0)]) (rest := []) (cn1 := 0) (sl1 := 0) rfl (mJoined (hI101) (by omega) (by omega)) rfl (hF102.get (by decide) h82_31) rfl rfl rfl rfl rfl rfl (fun n110 w106 hq107 => ?_)
          obtain ⟨hn111, hI108, hF109⟩ := hq107
          by_cases hc112 : n110 = 0
          · refine xg_t (xg_ifF (u := n110) rfl xnm0 (xj_neF hc112)) ?_
            refine xg_t (xg_const) ?_
            refine xg_t (xg_goto) ?_
            refine xg_t (xg_blq rfl) ?_
            exact xg_e ⟨1, w106, ⟨rfl, rfl⟩, by first | decide | omega, hI108, ((hF102.up (by decide)).tr (hF109.up (by decide)))⟩
          · refine xg_t (xg_ifT (u := n110) rfl xnm0 (xj_neT hc112)) ?_
            refine xg_t (xg_blq rfl) ?_
            refine xg_t (xg_const) ?_
            refine xg_t (xg_blq rfl) ?_
            exact xg_e ⟨0, w106, ⟨rfl, rfl⟩, by first | decide | omega, hI108, ((hF102.up (by decide)).tr (hF109.up (by decide)))⟩
      · refine xg_t (xg_swt (ks := [(0, 28), (1, 75), (2, 122)]) (u := so) (z := 146) rfl rfl rfl xnm0 (xsw_n hc45 (xsw_n hc71 (xsw_n hc97 (xsw_d))))) ?_
        refine xg_t (xg_blq rfl) ?_
        refine xg_t (xg_aload (va := (2, 82)) rfl rfl) ?_
        refine xg_t (xg_iload (va := (0, ra)) rfl rfl) ?_
        refine xg_t (xg_const) ?_
        have hl113 := hx36.l5
        refine xg_cVi mX12_isOf (vs := [(0, ra), (0, 5)]) (rest := []) (cn1 := 0) (sl1 := 0) rfl (mOf5 (hI) (by omega) h83_34 hb35 hx36) rfl h82_31 rfl rfl rfl rfl rfl rfl (fun n118 w114 hq115 => ?_)
        obtain ⟨hn119, hI116, hF117⟩ := hq115
        by_cases hc120 : n118 = 0
        · refine xg_t (xg_ifT (u := n118) rfl xnm0 (xj_eqT hc120)) ?_
          refine xg_t (xg_blq rfl) ?_
          refine xg_t (xg_const) ?_
          refine xg_t (xg_blq rfl) ?_
          exact xg_e ⟨0, w114, ⟨rfl, rfl⟩, by first | decide | omega, hI116, (hF117.up (by decide))⟩
        · refine xg_t (xg_ifF (u := n118) rfl xnm0 (xj_eqF hc120)) ?_
          refine xg_t (xg_aload (va := (2, 82)) rfl rfl) ?_
          refine xg_t (xg_iload (va := (0, ra)) rfl rfl) ?_
          refine xg_t (xg_aload (va := (2, 82)) rfl rfl) ?_
          refine xg_t (xg_getf (va := (2, 83)) (hF117.get (by decide) h82_31) rfl) ?_
          refine xg_t (xg_bip) ?_
          refine xg_ialdB (n := 6) (B := 4294967295) (h83_34.fr hF117 (by decide)) (hb35) xnm0 (by first | decide | omega) (fun u121 hu122 he123 => ?_)
          have hl124 : u121 ≤ 6 := by rw [← he123]; exact hx36.l6
          have h56125 := hx36.l56
          have hl126 : 1 ≤ u121 := by omega
          refine xg_t (xg_const) ?_
          refine xg_t (xg_isub (u := u121) (v := 1) (z := u121 - 1) xnm0 xnm0 (by omega)) ?_
          refine xg_cVi mX12_isJoined (vs := [(0, ra), (0, u121 - 1)]) (rest := []) (cn1 := 0) (sl1 := 0) rfl (mJoined (hI116) (by omega) (by omega)) rfl (hF117.get (by decide) h82_31) rfl rfl rfl rfl rfl rfl (fun n131 w127 hq128 => ?_)
          obtain ⟨hn132, hI129, hF130⟩ := hq128
          by_cases hc133 : n131 = 0
          · refine xg_t (xg_ifT (u := n131) rfl xnm0 (xj_eqT hc133)) ?_
            refine xg_t (xg_blq rfl) ?_
            refine xg_t (xg_const) ?_
            refine xg_t (xg_blq rfl) ?_
            exact xg_e ⟨0, w127, ⟨rfl, rfl⟩, by first | decide | omega, hI129, ((hF117.up (by decide)).tr (hF130.up (by decide)))⟩
          · refine xg_t (xg_ifF (u := n131) rfl xnm0 (xj_eqF hc133)) ?_
            refine xg_t (xg_const) ?_
            refine xg_t (xg_goto) ?_
            refine xg_t (xg_blq rfl) ?_
            exact xg_e ⟨1, w127, ⟨rfl, rfl⟩, by first | decide | omega, hI129, ((hF117.up (by decide)).tr (hF130.up (by decide)))⟩
theorem mCut {wh : Nat} (hI : xMnv w) (hwh : wh ≤ 4294967295) : xPi (d + 5) mX12_cut [(2, 82), (0, wh)] w bd fc rr (fun n w' => (n ≤ 4294967295) ∧ xMnv w' ∧ xFr [82, 95, 96, 97, 98, 99, 100, 101, 102] w w') := by
  refine xPi.of ?_
  show xTo (d + 5) mX12_cut (0, [], [(0, (2, 82)), (1, (0, wh))], [], (w, bd, fc, 0, 0, rr)) (fun φ => ∃ n w', xEnd 1 [(0, n)] (w', bd, fc, 0, 0, rr) φ ∧ (n ≤ 4294967295) ∧ xMnv w' ∧ xFr [82, 95, 96, 97, 98, 99, 100, 101, 102] w w')
  refine xoCh82 (xqc82 hI : cp82 (wget w 82)) (fun f82_1 f82_3 f82_5 f82_7 f82_9 f82_11 f82_13 f82_15 f82_17 f82_19 f82_21 f82_22 f82_23 f82_25 f82_27 f82_29 h82_31 hb2 hb4 hb6 hb8 hb10 hb12 hb14 hb16 hb18 hb20 hb24 hb26 hb28 hb30 hb32 => ?_)
  refine xoX83 (xqc83 hI : cpx83 (wget w 83)) (fun g83_33 h83_34 hb35 hx36 => ?_)
  refine xg_t (xg_blq rfl) ?_
  refine xg_t (xg_iload (va := (0, wh)) rfl rfl) ?_
  refine xg_t (xg_const) ?_
  refine xg_t (xg_const) ?_
  refine xg_t (xg_cSr mX12_isIn (vs := [(0, wh), (0, 0), (0, 4)]) (rest := []) (rs := [(0, if 0 ≤ wh ∧ wh ≤ 4 then 1 else 0)]) (cn1 := 0) (sl1 := 0) rfl (mIsIn (by omega) (by omega) (by omega)) rfl rfl rfl rfl rfl rfl rfl rfl) ?_
  by_cases hc37 : 0 ≤ wh ∧ wh ≤ 4
  · refine xg_t (xg_ifT (u := (if 0 ≤ wh ∧ wh ≤ 4 then 1 else 0)) rfl xnm0 (xj_neT (xite1 hc37))) ?_
    refine xg_t (xg_blq rfl) ?_
    refine xg_t (xg_aload (va := (2, 82)) rfl rfl) ?_
    refine xg_cVv mX12_cuts (vs := []) (rest := []) (cn1 := 0) (sl1 := 0) rfl (mCuts (hI)) rfl h82_31 rfl rfl rfl rfl rfl rfl (fun w38 hq39 => ?_)
    obtain ⟨hI40, hF41⟩ := hq39
    refine xg_t (xg_const) ?_
    refine xg_t (xg_istore (l1 := [(0, (2, 82)), (1, (0, wh))]) rfl rfl rfl) ?_
    refine xg_t (xg_const) ?_
    refine xg_t (xg_istore (l1 := [(2, (0, 0)), (0, (2, 82)), (1, (0, wh))]) rfl rfl rfl) ?_
    refine xg_t (xg_const) ?_
    refine xg_t (xg_istore (l1 := [(3, (0, 0)), (2, (0, 0)), (0, (2, 82)), (1, (0, wh))]) rfl rfl rfl) ?_
    refine xg_t (xg_drop (l1 := [(0, (2, 82)), (1, (0, wh)), (2, (0, 0)), (3, (0, 0)), (4, (0, 0))]) (List.forall_mem_cons.mpr ⟨List.mem_cons_of_mem _ (List.mem_cons_of_mem _ (List.mem_cons_of_mem _ (List.mem_cons_self))), List.forall_mem_cons.mpr ⟨List.mem_cons_of_mem _ (List.mem_cons_of_mem _ (List.mem_cons_of_mem _ (List.mem_cons_of_mem _ (List.mem_cons_self)))), List.forall_mem_cons.mpr ⟨List.mem_cons_of_mem _ (List.mem_cons_of_mem _ (List.mem_cons_self)), List.forall_mem_cons.mpr ⟨List.mem_cons_of_mem _ (List.mem_cons_self), List.forall_mem_cons.mpr ⟨List.mem_cons_self, fun _ h => absurd h List.not_mem_nil⟩⟩⟩⟩⟩)) ?_
    have key42 : ∀ (m44 : Nat) (su on si : Nat) (w45 : List (List xE)), 4 - si < m44 → su ≤ 4294967295 → on ≤ 4294967295 → si ≤ 4 → xMnv w45 → xFr [82, 95, 96, 97, 98, 99, 100, 101, 102] w w45 → xTo (d + 5) mX12_cut (22, [], [(0, (2, 82)), (1, (0, wh)), (2, (0, su)), (3, (0, on)), (4, (0, si))], [], (w45, bd, fc, 0, 0, rr)) (fun φ => ∃ n w', xEnd 1 [(0, n)] (w', bd, fc, 0, 0, rr) φ ∧ (n ≤ 4294967295) ∧ xMnv w' ∧ xFr [82, 95, 96, 97, 98, 99, 100, 101, 102] w w') := by
      intro m44
      induction m44 with
      | zero => intro su on si w45 hz; exact absurd hz (Nat.not_lt_zero _)
      | succ m44 ih43 =>
        intro su on si w45 hm51 hn48 hn49 hn50 hI46 hF47
        refine xg_t (xg_blq rfl) ?_
        refine xg_t (xg_iload (va := (0, si)) rfl rfl) ?_
        refine xg_t (xg_const) ?_
        by_cases hc52 : si < 4
        · refine xg_t (xg_icF (u := si) (v := 4) rfl xnm0 xnm0 (xj_geF hc52 (by omega))) ?_
          refine xg_t (xg_const) ?_
          refine xg_t (xg_istore (l1 := [(0, (2, 82)), (1, (0, wh)), (2, (0, su)), (3, (0, on)), (4, (0, si))]) rfl rfl rfl) ?_
          refine xg_t (xg_const) ?_
          refine xg_t (xg_istore (l1 := [(5, (0, 0)), (0, (2, 82)), (1, (0, wh)), (2, (0, su)), (3, (0, on)), (4, (0, si))]) rfl rfl rfl) ?_
          refine xg_t (xg_drop (l1 := [(0, (2, 82)), (1, (0, wh)), (2, (0, su)), (3, (0, on)), (4, (0, si)), (5, (0, 0)), (6, (0, 0))]) (List.forall_mem_cons.mpr ⟨List.mem_cons_of_mem _ (List.mem_cons_of_mem _ (List.mem_cons_self)), List.forall_mem_cons.mpr ⟨List.mem_cons_of_mem _ (List.mem_cons_of_mem _ (List.mem_cons_of_mem _ (List.mem_cons_self))), List.forall_mem_cons.mpr ⟨List.mem_cons_of_mem _ (List.mem_cons_of_mem _ (List.mem_cons_of_mem _ (List.mem_cons_of_mem _ (List.mem_cons_self)))), List.forall_mem_cons.mpr ⟨List.mem_cons_of_mem _ (List.mem_cons_of_mem _ (List.mem_cons_of_mem _ (List.mem_cons_of_mem _ (List.mem_cons_of_mem _ (List.mem_cons_self))))), List.forall_mem_cons.mpr ⟨List.mem_cons_of_mem _ (List.mem_cons_of_mem _ (List.mem_cons_of_mem _ (List.mem_cons_of_mem _ (List.mem_cons_of_mem _ (List.mem_cons_of_mem _ (List.mem_cons_self)))))), List.forall_mem_cons.mpr ⟨List.mem_cons_of_mem _ (List.mem_cons_self), List.forall_mem_cons.mpr ⟨List.mem_cons_self, fun _ h => absurd h List.not_mem_nil⟩⟩⟩⟩⟩⟩⟩)) ?_
          have key53 : ∀ (m55 : Nat) (nn ki : Nat) (w56 : List (List xE)), 36 - ki < m55 → nn ≤ 4294967295 → ki ≤ 36 → xMnv w56 → xFr [82, 95, 96, 97, 98, 99, 100, 101, 102] w w56 → xTo (d + 5) mX12_cut (34, [], [(0, (2, 82)), (1, (0, wh)), (2, (0, su)), (3, (0, on)), (4, (0, si)), (5, (0, nn)), (6, (0, ki))], [], (w56, bd, fc, 0, 0, rr)) (fun φ => ∃ n w', xEnd 1 [(0, n)] (w', bd, fc, 0, 0, rr) φ ∧ (n ≤ 4294967295) ∧ xMnv w' ∧ xFr [82, 95, 96, 97, 98, 99, 100, 101, 102] w w') := by
            intro m55
            induction m55 with
            | zero => intro nn ki w56 hz; exact absurd hz (Nat.not_lt_zero _)
            | succ m55 ih54 =>
              intro nn ki w56 hm61 hn59 hn60 hI57 hF58
              refine xg_t (xg_blq rfl) ?_
              refine xg_t (xg_iload (va := (0, ki)) rfl rfl) ?_
              refine xg_t (xg_bip) ?_
              by_cases hc62 : ki < 36
              · refine xg_t (xg_icF (u := ki) (v := 36) rfl xnm0 xnm0 (xj_geF hc62 (by omega))) ?_
                refine xg_t (xg_iload (va := (0, nn)) rfl rfl) ?_
                refine xg_t (xg_iload (va := (0, si)) rfl rfl) ?_
                refine xg_t (xg_const) ?_
                by_cases hc63 : si < 2
                · refine xg_t (xg_icT (u := si) (v := 2) rfl xnm0 xnm0 (xj_ltT hc63 (by omega))) ?_
                  refine xg_t (xg_blq rfl) ?_
                  refine xg_t (xg_aload (va := (2, 82)) rfl rfl) ?_
                  refine xg_t (xg_iload (va := (0, si)) rfl rfl) ?_
                  refine xg_t (xg_iload (va := (0, ki)) rfl rfl) ?_
                  refine xg_t (xg_bip) ?_
                  refine xg_t (xg_idiv (u := ki) (v := 6) (z := ki / 6) xnm0 xnm0 (by omega) (by decide) (by decide) (rfl)) ?_
                  refine xg_t (xg_iload (va := (0, ki)) rfl rfl) ?_
                  refine xg_t (xg_bip) ?_
                  refine xg_t (xg_irem (u := ki) (v := 6) (z := ki % 6) xnm0 xnm0 (by omega) (by decide) (by decide) (rfl)) ?_
                  refine xoCh82 (xqc82 hI57 : cp82 (wget w56 82)) (fun f82_64 f82_66 f82_68 f82_70 f82_72 f82_74 f82_76 f82_78 f82_80 f82_82 f82_84 f82_85 f82_86 f82_88 f82_90 f82_92 h82_94 hb65 hb67 hb69 hb71 hb73 hb75 hb77 hb79 hb81 hb83 hb87 hb89 hb91 hb93 hb95 => ?_)
                  refine xg_cVi mX12_isInCut (vs := [(0, si), (0, ki / 6), (0, ki % 6)]) (rest := [(0, nn)]) (cn1 := 0) (sl1 := 0) rfl (mIsInCut (hI57) (by omega) (by omega) (by omega)) rfl h82_94 rfl rfl rfl rfl rfl rfl (fun n100 w96 hq97 => ?_)
                  obtain ⟨hn101, hI98, hF99⟩ := hq97
                  by_cases hc102 : n100 = 0
                  · refine xg_t (xg_ifT (u := n100) rfl xnm0 (xj_eqT hc102)) ?_
                    refine xg_t (xg_blq rfl) ?_
                    refine xg_t (xg_const) ?_
                    refine xg_t (xg_blq rfl) ?_
                    refine xg_k (xg_iadd (u := nn) (v := 0) (z := (nn + 0) % 4294967296) xnm0 xnm0 rfl) (Nat.mod_lt _ (by decide)) (fun z103 hz104 => ?_)
                    refine xg_t (xg_istore (l1 := [(0, (2, 82)), (1, (0, wh)), (2, (0, su)), (3, (0, on)), (4, (0, si)), (6, (0, ki))]) rfl rfl rfl) ?_
                    refine xg_t (xg_iinc (u := ki) (z := ki + 1) (l1 := [(5, (0, z103)), (0, (2, 82)), (1, (0, wh)), (2, (0, su)), (3, (0, on)), (4, (0, si))]) rfl rfl (by omega) rfl) ?_
                    refine xg_t (xg_goto) ?_
                    refine xg_t (xg_drop (l1 := [(0, (2, 82)), (1, (0, wh)), (2, (0, su)), (3, (0, on)), (4, (0, si)), (5, (0, z103)), (6, (0, ki + 1))]) (List.forall_mem_cons.mpr ⟨List.mem_cons_of_mem _ (List.mem_cons_of_mem _ (List.mem_cons_self)), List.forall_mem_cons.mpr ⟨List.mem_cons_of_mem _ (List.mem_cons_of_mem _ (List.mem_cons_of_mem _ (List.mem_cons_self))), List.forall_mem_cons.mpr ⟨List.mem_cons_of_mem _ (List.mem_cons_of_mem _ (List.mem_cons_of_mem _ (List.mem_cons_of_mem _ (List.mem_cons_self)))), List.forall_mem_cons.mpr ⟨List.mem_cons_of_mem _ (List.mem_cons_of_mem _ (List.mem_cons_of_mem _ (List.mem_cons_of_mem _ (List.mem_cons_of_mem _ (List.mem_cons_self))))), List.forall_mem_cons.mpr ⟨List.mem_cons_of_mem _ (List.mem_cons_of_mem _ (List.mem_cons_of_mem _ (List.mem_cons_of_mem _ (List.mem_cons_of_mem _ (List.mem_cons_of_mem _ (List.mem_cons_self)))))), List.forall_mem_cons.mpr ⟨List.mem_cons_of_mem _ (List.mem_cons_self), List.forall_mem_cons.mpr ⟨List.mem_cons_self, fun _ h => absurd h List.not_mem_nil⟩⟩⟩⟩⟩⟩⟩)) ?_
                    exact ih54 z103 (ki + 1) w96 (by omega) (by omega) (by omega) (hI98) ((hF58.tr (hF99.up (by decide))))
                  · refine xg_t (xg_ifF (u := n100) rfl xnm0 (xj_eqF hc102)) ?_
                    refine xg_t (xg_const) ?_
                    refine xg_t (xg_goto) ?_
                    refine xg_t (xg_blq rfl) ?_
                    refine xg_k (xg_iadd (u := nn) (v := 1) (z := (nn + 1) % 4294967296) xnm0 xnm0 rfl) (Nat.mod_lt _ (by decide)) (fun z105 hz106 => ?_)
                    refine xg_t (xg_istore (l1 := [(0, (2, 82)), (1, (0, wh)), (2, (0, su)), (3, (0, on)), (4, (0, si)), (6, (0, ki))]) rfl rfl rfl) ?_
                    refine xg_t (xg_iinc (u := ki) (z := ki + 1) (l1 := [(5, (0, z105)), (0, (2, 82)), (1, (0, wh)), (2, (0, su)), (3, (0, on)), (4, (0, si))]) rfl rfl (by omega) rfl) ?_
                    refine xg_t (xg_goto) ?_
                    refine xg_t (xg_drop (l1 := [(0, (2, 82)), (1, (0, wh)), (2, (0, su)), (3, (0, on)), (4, (0, si)), (5, (0, z105)), (6, (0, ki + 1))]) (List.forall_mem_cons.mpr ⟨List.mem_cons_of_mem _ (List.mem_cons_of_mem _ (List.mem_cons_self)), List.forall_mem_cons.mpr ⟨List.mem_cons_of_mem _ (List.mem_cons_of_mem _ (List.mem_cons_of_mem _ (List.mem_cons_self))), List.forall_mem_cons.mpr ⟨List.mem_cons_of_mem _ (List.mem_cons_of_mem _ (List.mem_cons_of_mem _ (List.mem_cons_of_mem _ (List.mem_cons_self)))), List.forall_mem_cons.mpr ⟨List.mem_cons_of_mem _ (List.mem_cons_of_mem _ (List.mem_cons_of_mem _ (List.mem_cons_of_mem _ (List.mem_cons_of_mem _ (List.mem_cons_self))))), List.forall_mem_cons.mpr ⟨List.mem_cons_of_mem _ (List.mem_cons_of_mem _ (List.mem_cons_of_mem _ (List.mem_cons_of_mem _ (List.mem_cons_of_mem _ (List.mem_cons_of_mem _ (List.mem_cons_self)))))), List.forall_mem_cons.mpr ⟨List.mem_cons_of_mem _ (List.mem_cons_self), List.forall_mem_cons.mpr ⟨List.mem_cons_self, fun _ h => absurd h List.not_mem_nil⟩⟩⟩⟩⟩⟩⟩)) ?_
                    exact ih54 z105 (ki + 1) w96 (by omega) (by omega) (by omega) (hI98) ((hF58.tr (hF99.up (by decide))))
                · refine xg_t (xg_icF (u := si) (v := 2) rfl xnm0 xnm0 (xj_ltF (by omega) (by omega))) ?_
                  refine xg_t (xg_iload (va := (0, ki)) rfl rfl) ?_
                  refine xg_t (xg_bip) ?_
                  refine xg_t (xg_irem (u := ki) (v := 6) (z := ki % 6) xnm0 xnm0 (by omega) (by decide) (by decide) (rfl)) ?_
                  by_cases hc107 : (ki % 6) = 0
                  · refine xg_t (xg_ifF (u := ki % 6) rfl xnm0 (xj_neF hc107)) ?_
                    refine xg_t (xg_blq rfl) ?_
                    refine xg_t (xg_aload (va := (2, 82)) rfl rfl) ?_
                    refine xg_t (xg_iload (va := (0, si)) rfl rfl) ?_
                    refine xg_t (xg_iload (va := (0, ki)) rfl rfl) ?_
                    refine xg_t (xg_bip) ?_
                    refine xg_t (xg_idiv (u := ki) (v := 6) (z := ki / 6) xnm0 xnm0 (by omega) (by decide) (by decide) (rfl)) ?_
                    refine xg_t (xg_iload (va := (0, ki)) rfl rfl) ?_
                    refine xg_t (xg_bip) ?_
                    refine xg_t (xg_irem (u := ki) (v := 6) (z := ki % 6) xnm0 xnm0 (by omega) (by decide) (by decide) (rfl)) ?_
                    refine xoCh82 (xqc82 hI57 : cp82 (wget w56 82)) (fun f82_108 f82_110 f82_112 f82_114 f82_116 f82_118 f82_120 f82_122 f82_124 f82_126 f82_128 f82_129 f82_130 f82_132 f82_134 f82_136 h82_138 hb109 hb111 hb113 hb115 hb117 hb119 hb121 hb123 hb125 hb127 hb131 hb133 hb135 hb137 hb139 => ?_)
                    refine xg_cVi mX12_isInCut (vs := [(0, si), (0, ki / 6), (0, ki % 6)]) (rest := [(0, nn)]) (cn1 := 0) (sl1 := 0) rfl (mIsInCut (hI57) (by omega) (by omega) (by omega)) rfl h82_138 rfl rfl rfl rfl rfl rfl (fun n144 w140 hq141 => ?_)
                    obtain ⟨hn145, hI142, hF143⟩ := hq141
                    by_cases hc146 : n144 = 0
                    · refine xg_t (xg_ifT (u := n144) rfl xnm0 (xj_eqT hc146)) ?_
                      refine xg_t (xg_blq rfl) ?_
                      refine xg_t (xg_const) ?_
                      refine xg_t (xg_blq rfl) ?_
                      refine xg_k (xg_iadd (u := nn) (v := 0) (z := (nn + 0) % 4294967296) xnm0 xnm0 rfl) (Nat.mod_lt _ (by decide)) (fun z147 hz148 => ?_)
                      refine xg_t (xg_istore (l1 := [(0, (2, 82)), (1, (0, wh)), (2, (0, su)), (3, (0, on)), (4, (0, si)), (6, (0, ki))]) rfl rfl rfl) ?_
                      refine xg_t (xg_iinc (u := ki) (z := ki + 1) (l1 := [(5, (0, z147)), (0, (2, 82)), (1, (0, wh)), (2, (0, su)), (3, (0, on)), (4, (0, si))]) rfl rfl (by omega) rfl) ?_
                      refine xg_t (xg_goto) ?_
                      refine xg_t (xg_drop (l1 := [(0, (2, 82)), (1, (0, wh)), (2, (0, su)), (3, (0, on)), (4, (0, si)), (5, (0, z147)), (6, (0, ki + 1))]) (List.forall_mem_cons.mpr ⟨List.mem_cons_of_mem _ (List.mem_cons_of_mem _ (List.mem_cons_self)), List.forall_mem_cons.mpr ⟨List.mem_cons_of_mem _ (List.mem_cons_of_mem _ (List.mem_cons_of_mem _ (List.mem_cons_self))), List.forall_mem_cons.mpr ⟨List.mem_cons_of_mem _ (List.mem_cons_of_mem _ (List.mem_cons_of_mem _ (List.mem_cons_of_mem _ (List.mem_cons_self)))), List.forall_mem_cons.mpr ⟨List.mem_cons_of_mem _ (List.mem_cons_of_mem _ (List.mem_cons_of_mem _ (List.mem_cons_of_mem _ (List.mem_cons_of_mem _ (List.mem_cons_self))))), List.forall_mem_cons.mpr ⟨List.mem_cons_of_mem _ (List.mem_cons_of_mem _ (List.mem_cons_of_mem _ (List.mem_cons_of_mem _ (List.mem_cons_of_mem _ (List.mem_cons_of_mem _ (List.mem_cons_self)))))), List.forall_mem_cons.mpr ⟨List.mem_cons_of_mem _ (List.mem_cons_self), List.forall_mem_cons.mpr ⟨List.mem_cons_self, fun _ h => absurd h List.not_mem_nil⟩⟩⟩⟩⟩⟩⟩)) ?_
                      exact ih54 z147 (ki + 1) w140 (by omega) (by omega) (by omega) (hI142) ((hF58.tr (hF143.up (by decide))))
                    · refine xg_t (xg_ifF (u := n144) rfl xnm0 (xj_eqF hc146)) ?_
                      refine xg_t (xg_const) ?_
                      refine xg_t (xg_goto) ?_
                      refine xg_t (xg_blq rfl) ?_
                      refine xg_k (xg_iadd (u := nn) (v := 1) (z := (nn + 1) % 4294967296) xnm0 xnm0 rfl) (Nat.mod_lt _ (by decide)) (fun z149 hz150 => ?_)
                      refine xg_t (xg_istore (l1 := [(0, (2, 82)), (1, (0, wh)), (2, (0, su)), (3, (0, on)), (4, (0, si)), (6, (0, ki))]) rfl rfl rfl) ?_
                      refine xg_t (xg_iinc (u := ki) (z := ki + 1) (l1 := [(5, (0, z149)), (0, (2, 82)), (1, (0, wh)), (2, (0, su)), (3, (0, on)), (4, (0, si))]) rfl rfl (by omega) rfl) ?_
                      refine xg_t (xg_goto) ?_
                      refine xg_t (xg_drop (l1 := [(0, (2, 82)), (1, (0, wh)), (2, (0, su)), (3, (0, on)), (4, (0, si)), (5, (0, z149)), (6, (0, ki + 1))]) (List.forall_mem_cons.mpr ⟨List.mem_cons_of_mem _ (List.mem_cons_of_mem _ (List.mem_cons_self)), List.forall_mem_cons.mpr ⟨List.mem_cons_of_mem _ (List.mem_cons_of_mem _ (List.mem_cons_of_mem _ (List.mem_cons_self))), List.forall_mem_cons.mpr ⟨List.mem_cons_of_mem _ (List.mem_cons_of_mem _ (List.mem_cons_of_mem _ (List.mem_cons_of_mem _ (List.mem_cons_self)))), List.forall_mem_cons.mpr ⟨List.mem_cons_of_mem _ (List.mem_cons_of_mem _ (List.mem_cons_of_mem _ (List.mem_cons_of_mem _ (List.mem_cons_of_mem _ (List.mem_cons_self))))), List.forall_mem_cons.mpr ⟨List.mem_cons_of_mem _ (List.mem_cons_of_mem _ (List.mem_cons_of_mem _ (List.mem_cons_of_mem _ (List.mem_cons_of_mem _ (List.mem_cons_of_mem _ (List.mem_cons_self)))))), List.forall_mem_cons.mpr ⟨List.mem_cons_of_mem _ (List.mem_cons_self), List.forall_mem_cons.mpr ⟨List.mem_cons_self, fun _ h => absurd h List.not_mem_nil⟩⟩⟩⟩⟩⟩⟩)) ?_
                      exact ih54 z149 (ki + 1) w140 (by omega) (by omega) (by omega) (hI142) ((hF58.tr (hF143.up (by decide))))
                  · refine xg_t (xg_ifT (u := ki % 6) rfl xnm0 (xj_neT hc107)) ?_
                    refine xg_t (xg_blq rfl) ?_
                    refine xg_t (xg_const) ?_
                    refine xg_t (xg_blq rfl) ?_
                    refine xg_k (xg_iadd (u := nn) (v := 0) (z := (nn + 0) % 4294967296) xnm0 xnm0 rfl) (Nat.mod_lt _ (by decide)) (fun z151 hz152 => ?_)
                    refine xg_t (xg_istore (l1 := [(0, (2, 82)), (1, (0, wh)), (2, (0, su)), (3, (0, on)), (4, (0, si)), (6, (0, ki))]) rfl rfl rfl) ?_
                    refine xg_t (xg_iinc (u := ki) (z := ki + 1) (l1 := [(5, (0, z151)), (0, (2, 82)), (1, (0, wh)), (2, (0, su)), (3, (0, on)), (4, (0, si))]) rfl rfl (by omega) rfl) ?_
                    refine xg_t (xg_goto) ?_
                    refine xg_t (xg_drop (l1 := [(0, (2, 82)), (1, (0, wh)), (2, (0, su)), (3, (0, on)), (4, (0, si)), (5, (0, z151)), (6, (0, ki + 1))]) (List.forall_mem_cons.mpr ⟨List.mem_cons_of_mem _ (List.mem_cons_of_mem _ (List.mem_cons_self)), List.forall_mem_cons.mpr ⟨List.mem_cons_of_mem _ (List.mem_cons_of_mem _ (List.mem_cons_of_mem _ (List.mem_cons_self))), List.forall_mem_cons.mpr ⟨List.mem_cons_of_mem _ (List.mem_cons_of_mem _ (List.mem_cons_of_mem _ (List.mem_cons_of_mem _ (List.mem_cons_self)))), List.forall_mem_cons.mpr ⟨List.mem_cons_of_mem _ (List.mem_cons_of_mem _ (List.mem_cons_of_mem _ (List.mem_cons_of_mem _ (List.mem_cons_of_mem _ (List.mem_cons_self))))), List.forall_mem_cons.mpr ⟨List.mem_cons_of_mem _ (List.mem_cons_of_mem _ (List.mem_cons_of_mem _ (List.mem_cons_of_mem _ (List.mem_cons_of_mem _ (List.mem_cons_of_mem _ (List.mem_cons_self)))))), List.forall_mem_cons.mpr ⟨List.mem_cons_of_mem _ (List.mem_cons_self), List.forall_mem_cons.mpr ⟨List.mem_cons_self, fun _ h => absurd h List.not_mem_nil⟩⟩⟩⟩⟩⟩⟩)) ?_
                    exact ih54 z151 (ki + 1) w56 (by omega) (by omega) (by omega) (hI57) (hF58)
              · refine xg_t (xg_icT (u := ki) (v := 36) rfl xnm0 xnm0 (xj_geT (by omega) (by omega))) ?_
                refine xg_t (xg_blq rfl) ?_
                refine xg_t (xg_iload (va := (0, su)) rfl rfl) ?_
                refine xg_t (xg_iload (va := (0, nn)) rfl rfl) ?_
                refine xg_k (xg_iadd (u := su) (v := nn) (z := (su + nn) % 4294967296) xnm0 xnm0 rfl) (Nat.mod_lt _ (by decide)) (fun z153 hz154 => ?_)
                refine xg_t (xg_istore (l1 := [(0, (2, 82)), (1, (0, wh)), (3, (0, on)), (4, (0, si)), (5, (0, nn)), (6, (0, ki))]) rfl rfl rfl) ?_
                refine xg_t (xg_iload (va := (0, si)) rfl rfl) ?_
                refine xg_t (xg_iload (va := (0, wh)) rfl rfl) ?_
                refine xg_t (xg_const) ?_
                refine xg_k (xg_isub (u := wh) (v := 1) (z := (wh + (4294967296 - 1)) % 4294967296) xnm0 xnm0 rfl) (Nat.mod_lt _ (by decide)) (fun z155 hz156 => ?_)
                by_cases hc157 : si = z155
                · refine xg_t (xg_icF (u := si) (v := z155) rfl xnm0 xnm0 (xj_neF hc157)) ?_
                  refine xg_t (xg_iload (va := (0, nn)) rfl rfl) ?_
                  refine xg_t (xg_istore (l1 := [(2, (0, z153)), (0, (2, 82)), (1, (0, wh)), (4, (0, si)), (5, (0, nn)), (6, (0, ki))]) rfl rfl rfl) ?_
                  refine xg_t (xg_blq rfl) ?_
                  refine xg_t (xg_iinc (u := si) (z := si + 1) (l1 := [(3, (0, nn)), (2, (0, z153)), (0, (2, 82)), (1, (0, wh)), (5, (0, nn)), (6, (0, ki))]) rfl rfl (by omega) rfl) ?_
                  refine xg_t (xg_goto) ?_
                  refine xg_t (xg_drop (l1 := [(0, (2, 82)), (1, (0, wh)), (2, (0, z153)), (3, (0, nn)), (4, (0, si + 1))]) (List.forall_mem_cons.mpr ⟨List.mem_cons_of_mem _ (List.mem_cons_of_mem _ (List.mem_cons_of_mem _ (List.mem_cons_self))), List.forall_mem_cons.mpr ⟨List.mem_cons_of_mem _ (List.mem_cons_of_mem _ (List.mem_cons_of_mem _ (List.mem_cons_of_mem _ (List.mem_cons_self)))), List.forall_mem_cons.mpr ⟨List.mem_cons_of_mem _ (List.mem_cons_of_mem _ (List.mem_cons_self)), List.forall_mem_cons.mpr ⟨List.mem_cons_of_mem _ (List.mem_cons_self), List.forall_mem_cons.mpr ⟨List.mem_cons_self, fun _ h => absurd h List.not_mem_nil⟩⟩⟩⟩⟩)) ?_
                  exact ih43 z153 nn (si + 1) w56 (by omega) (by omega) (by omega) (by omega) (hI57) (hF58)
                · refine xg_t (xg_icT (u := si) (v := z155) rfl xnm0 xnm0 (xj_neT hc157)) ?_
                  refine xg_t (xg_blq rfl) ?_
                  refine xg_t (xg_iinc (u := si) (z := si + 1) (l1 := [(2, (0, z153)), (0, (2, 82)), (1, (0, wh)), (3, (0, on)), (5, (0, nn)), (6, (0, ki))]) rfl rfl (by omega) rfl) ?_
                  refine xg_t (xg_goto) ?_
                  refine xg_t (xg_drop (l1 := [(0, (2, 82)), (1, (0, wh)), (2, (0, z153)), (3, (0, on)), (4, (0, si + 1))]) (List.forall_mem_cons.mpr ⟨List.mem_cons_of_mem _ (List.mem_cons_of_mem _ (List.mem_cons_self)), List.forall_mem_cons.mpr ⟨List.mem_cons_of_mem _ (List.mem_cons_of_mem _ (List.mem_cons_of_mem _ (List.mem_cons_self))), List.forall_mem_cons.mpr ⟨List.mem_cons_of_mem _ (List.mem_cons_self), List.forall_mem_cons.mpr ⟨List.mem_cons_of_mem _ (List.mem_cons_of_mem _ (List.mem_cons_of_mem _ (List.mem_cons_of_mem _ (List.mem_cons_self)))), List.forall_mem_cons.mpr ⟨List.mem_cons_self, fun _ h => absurd h List.not_mem_nil⟩⟩⟩⟩⟩)) ?_
                  exact ih43 z153 on (si + 1) w56 (by omega) (by omega) (by omega) (by omega) (hI57) (hF58)
          exact key53 _ 0 0 w45 (Nat.lt_succ_self _) (by omega) (by omega) (hI46) (hF47)
        · refine xg_t (xg_icT (u := si) (v := 4) rfl xnm0 xnm0 (xj_geT (by omega) (by omega))) ?_
          refine xg_t (xg_blq rfl) ?_
          refine xg_t (xg_iload (va := (0, wh)) rfl rfl) ?_
          by_cases hc158 : wh = 0
          · refine xg_t (xg_ifF (u := wh) rfl xnm0 (xj_neF hc158)) ?_
            refine xg_t (xg_iload (va := (0, su)) rfl rfl) ?_
            refine xg_t (xg_goto) ?_
            refine xg_t (xg_blq rfl) ?_
            exact xg_e ⟨su, w45, ⟨rfl, rfl⟩, by omega, hI46, hF47⟩
          · refine xg_t (xg_ifT (u := wh) rfl xnm0 (xj_neT hc158)) ?_
            refine xg_t (xg_blq rfl) ?_
            refine xg_t (xg_iload (va := (0, on)) rfl rfl) ?_
            refine xg_t (xg_blq rfl) ?_
            exact xg_e ⟨on, w45, ⟨rfl, rfl⟩, by omega, hI46, hF47⟩
    exact key42 _ 0 0 0 w38 (Nat.lt_succ_self _) (by omega) (by omega) (by omega) (hI40) ((hF41.up (by decide)))
  · refine xg_t (xg_ifF (u := (if 0 ≤ wh ∧ wh ≤ 4 then 1 else 0)) rfl xnm0 (xj_neF (xite0 hc37))) ?_
    refine xg_t (xg_const) ?_
    exact xg_e ⟨4294967295, w, ⟨rfl, rfl⟩, by first | decide | omega, hI, xFr.rf⟩
theorem mInCut {so ra ca : Nat} (hI : xMnv w) (hso : so ≤ 4294967295) (hra : ra ≤ 4294967295) (hca : ca ≤ 4294967295) : xPi (d + 5) mX12_inCut [(2, 82), (0, so), (0, ra), (0, ca)] w bd fc rr (fun n w' => (n ≤ 1) ∧ xMnv w' ∧ xFr [82, 95, 96, 97, 98, 99, 100, 101, 102] w w') := by
  refine xPi.of ?_
  show xTo (d + 5) mX12_inCut (0, [], [(0, (2, 82)), (1, (0, so)), (2, (0, ra)), (3, (0, ca))], [], (w, bd, fc, 0, 0, rr)) (fun φ => ∃ n w', xEnd 4 [(0, n)] (w', bd, fc, 0, 0, rr) φ ∧ (n ≤ 1) ∧ xMnv w' ∧ xFr [82, 95, 96, 97, 98, 99, 100, 101, 102] w w')
  refine xoCh82 (xqc82 hI : cp82 (wget w 82)) (fun f82_1 f82_3 f82_5 f82_7 f82_9 f82_11 f82_13 f82_15 f82_17 f82_19 f82_21 f82_22 f82_23 f82_25 f82_27 f82_29 h82_31 hb2 hb4 hb6 hb8 hb10 hb12 hb14 hb16 hb18 hb20 hb24 hb26 hb28 hb30 hb32 => ?_)
  refine xoX83 (xqc83 hI : cpx83 (wget w 83)) (fun g83_33 h83_34 hb35 hx36 => ?_)
  refine xg_t (xg_blq rfl) ?_
  refine xg_t (xg_iload (va := (0, so)) rfl rfl) ?_
  refine xg_t (xg_const) ?_
  refine xg_t (xg_const) ?_
  refine xg_t (xg_cSr mX12_isIn (vs := [(0, so), (0, 0), (0, 3)]) (rest := []) (rs := [(0, if 0 ≤ so ∧ so ≤ 3 then 1 else 0)]) (cn1 := 0) (sl1 := 0) rfl (mIsIn (by omega) (by omega) (by omega)) rfl rfl rfl rfl rfl rfl rfl rfl) ?_
  by_cases hc37 : 0 ≤ so ∧ so ≤ 3
  · refine xg_t (xg_ifT (u := (if 0 ≤ so ∧ so ≤ 3 then 1 else 0)) rfl xnm0 (xj_neT (xite1 hc37))) ?_
    refine xg_t (xg_blq rfl) ?_
    refine xg_t (xg_aload (va := (2, 82)) rfl rfl) ?_
    refine xg_cVv mX12_cuts (vs := []) (rest := []) (cn1 := 0) (sl1 := 0) rfl (mCuts (hI)) rfl h82_31 rfl rfl rfl rfl rfl rfl (fun w38 hq39 => ?_)
    obtain ⟨hI40, hF41⟩ := hq39
    refine xg_t (xg_aload (va := (2, 82)) rfl rfl) ?_
    refine xg_t (xg_iload (va := (0, so)) rfl rfl) ?_
    refine xg_t (xg_iload (va := (0, ra)) rfl rfl) ?_
    refine xg_t (xg_iload (va := (0, ca)) rfl rfl) ?_
    refine xoCh82 (xqc82 hI40 : cp82 (wget w38 82)) (fun f82_42 f82_44 f82_46 f82_48 f82_50 f82_52 f82_54 f82_56 f82_58 f82_60 f82_62 f82_63 f82_64 f82_66 f82_68 f82_70 h82_72 hb43 hb45 hb47 hb49 hb51 hb53 hb55 hb57 hb59 hb61 hb65 hb67 hb69 hb71 hb73 => ?_)
    refine xg_cVi mX12_isInCut (vs := [(0, so), (0, ra), (0, ca)]) (rest := []) (cn1 := 0) (sl1 := 0) rfl (mIsInCut (hI40) (by omega) (by omega) (by omega)) rfl h82_72 rfl rfl rfl rfl rfl rfl (fun n78 w74 hq75 => ?_)
    obtain ⟨hn79, hI76, hF77⟩ := hq75
    exact xg_e ⟨n78, w74, ⟨xret_b (by omega), rfl⟩, by omega, hI76, ((hF41.up (by decide)).tr (hF77.up (by decide)))⟩
  · refine xg_t (xg_ifF (u := (if 0 ≤ so ∧ so ≤ 3 then 1 else 0)) rfl xnm0 (xj_neF (xite0 hc37))) ?_
    refine xg_t (xg_const) ?_
    exact xg_e ⟨0, w, ⟨rfl, rfl⟩, by first | decide | omega, hI, xFr.rf⟩
theorem mOnes {bi : Nat} (hI : xMnv w) (hbi : bi ≤ 4294967295) : xPi d mX12_ones [(0, bi)] w bd fc rr (fun n w' => (n ≤ 4294967295) ∧ xMnv w' ∧ xFr [] w w') := by
  refine xPi.of ?_
  show xTo d mX12_ones (0, [], [(0, (0, bi))], [], (w, bd, fc, 0, 0, rr)) (fun φ => ∃ n w', xEnd 1 [(0, n)] (w', bd, fc, 0, 0, rr) φ ∧ (n ≤ 4294967295) ∧ xMnv w' ∧ xFr [] w w')
  refine xg_t (xg_blq rfl) ?_
  refine xg_t (xg_const) ?_
  refine xg_t (xg_istore (l1 := [(0, (0, bi))]) rfl rfl rfl) ?_
  refine xg_t (xg_iload (va := (0, bi)) rfl rfl) ?_
  refine xg_t (xg_istore (l1 := [(1, (0, 0)), (0, (0, bi))]) rfl rfl rfl) ?_
  refine xg_t (xg_drop (l1 := [(0, (0, bi)), (1, (0, 0)), (2, (0, bi))]) (List.forall_mem_cons.mpr ⟨List.mem_cons_of_mem _ (List.mem_cons_of_mem _ (List.mem_cons_self)), List.forall_mem_cons.mpr ⟨List.mem_cons_of_mem _ (List.mem_cons_self), List.forall_mem_cons.mpr ⟨List.mem_cons_self, fun _ h => absurd h List.not_mem_nil⟩⟩⟩)) ?_
  have key1 : ∀ (m3 : Nat) (nn vv : Nat) (w4 : List (List xE)), vv < m3 → nn ≤ 4294967295 → vv ≤ 4294967295 → xMnv w4 → xFr [] w w4 → xTo d mX12_ones (4, [], [(0, (0, bi)), (1, (0, nn)), (2, (0, vv))], [], (w4, bd, fc, 0, 0, rr)) (fun φ => ∃ n w', xEnd 1 [(0, n)] (w', bd, fc, 0, 0, rr) φ ∧ (n ≤ 4294967295) ∧ xMnv w' ∧ xFr [] w w') := by
    intro m3
    induction m3 with
    | zero => intro nn vv w4 hz; exact absurd hz (Nat.not_lt_zero _)
    | succ m3 ih2 =>
      intro nn vv w4 hm9 hn7 hn8 hI5 hF6
      refine xg_t (xg_blq rfl) ?_
      refine xg_t (xg_iload (va := (0, vv)) rfl rfl) ?_
      by_cases hc10 : vv = 0
      · refine xg_t (xg_ifT (u := vv) rfl xnm0 (xj_eqT hc10)) ?_
        refine xg_t (xg_blq rfl) ?_
        refine xg_t (xg_iload (va := (0, nn)) rfl rfl) ?_
        exact xg_e ⟨nn, w4, ⟨rfl, rfl⟩, by omega, hI5, hF6⟩
      · refine xg_t (xg_ifF (u := vv) rfl xnm0 (xj_eqF hc10)) ?_
        refine xg_t (xg_iinc (u := nn) (z := (nn + 1) % 4294967296) (l1 := [(0, (0, bi)), (2, (0, vv))]) rfl rfl (rfl) rfl) ?_
        refine xg_t (xg_iload (va := (0, vv)) rfl rfl) ?_
        refine xg_t (xg_iload (va := (0, vv)) rfl rfl) ?_
        refine xg_t (xg_const) ?_
        refine xg_t (xg_isub (u := vv) (v := 1) (z := vv - 1) xnm0 xnm0 (by omega)) ?_
        have hle12 : Nat.land vv (vv - 1) ≤ vv - 1 := Nat.and_le_right
        refine xg_t (xg_iand (u := vv) (v := vv - 1) (z := Nat.land vv (vv - 1)) xnm0 xnm0 rfl) ?_
        generalize Nat.land vv (vv - 1) = z11 at hle12 ⊢
        refine xg_t (xg_istore (l1 := [(1, (0, (nn + 1) % 4294967296)), (0, (0, bi))]) rfl rfl rfl) ?_
        refine xg_t (xg_goto) ?_
        refine xg_t (xg_drop (l1 := [(0, (0, bi)), (1, (0, (nn + 1) % 4294967296)), (2, (0, z11))]) (List.forall_mem_cons.mpr ⟨List.mem_cons_of_mem _ (List.mem_cons_of_mem _ (List.mem_cons_self)), List.forall_mem_cons.mpr ⟨List.mem_cons_of_mem _ (List.mem_cons_self), List.forall_mem_cons.mpr ⟨List.mem_cons_self, fun _ h => absurd h List.not_mem_nil⟩⟩⟩)) ?_
        exact ih2 ((nn + 1) % 4294967296) z11 w4 (by omega) (by omega) (by omega) (hI5) (hF6)
  exact key1 _ 0 bi w (Nat.lt_succ_self _) (by omega) (by omega) (hI) (xFr.rf)
theorem mFedBy {se : Nat} (hI : xMnv w) (hse : se ≤ 4294967295) : xPi (d + 4) mX12_isFedBy [(2, 82), (0, se)] w bd fc rr (fun n w' => (n ≤ 1) ∧ xMnv w' ∧ xFr [82, 95, 96, 97, 98, 99, 100, 101, 102] w w') := by
  refine xPi.of ?_
  show xTo (d + 4) mX12_isFedBy (0, [], [(0, (2, 82)), (1, (0, se))], [], (w, bd, fc, 0, 0, rr)) (fun φ => ∃ n w', xEnd 4 [(0, n)] (w', bd, fc, 0, 0, rr) φ ∧ (n ≤ 1) ∧ xMnv w' ∧ xFr [82, 95, 96, 97, 98, 99, 100, 101, 102] w w')
  refine xoCh82 (xqc82 hI : cp82 (wget w 82)) (fun f82_1 f82_3 f82_5 f82_7 f82_9 f82_11 f82_13 f82_15 f82_17 f82_19 f82_21 f82_22 f82_23 f82_25 f82_27 f82_29 h82_31 hb2 hb4 hb6 hb8 hb10 hb12 hb14 hb16 hb18 hb20 hb24 hb26 hb28 hb30 hb32 => ?_)
  refine xoX83 (xqc83 hI : cpx83 (wget w 83)) (fun g83_33 h83_34 hb35 hx36 => ?_)
  refine xg_t (xg_blq rfl) ?_
  refine xg_t (xg_aload (va := (2, 82)) rfl rfl) ?_
  refine xg_t (xg_iload (va := (0, se)) rfl rfl) ?_
  refine xg_putI (fl1 := [(2, 83), (2, 84), (0, f82_1), (0, f82_3), (0, f82_5), (0, f82_7), (0, f82_9), (0, f82_11), (0, f82_13), (0, f82_15), (0, f82_17), (2, 85), (2, 86), (2, 87), (0, f82_19), (2, 88), (2, 89), (2, 90), (2, 91), (2, 92), (2, 93), (2, 94), (4, f82_21), (4, f82_22), (0, se), (2, 95), (2, 96), (2, 97), (2, 98), (2, 99), (2, 100), (2, 101), (2, 102), (0, f82_25), (2, 103), (2, 104), (2, 105), (2, 106), (2, 107), (2, 108), (2, 109), (0, f82_27), (0, f82_29), (2, 110), (2, 111), (2, 112), (2, 113)]) h82_31 rfl rfl rfl (fun w37 hk38 hb39 => ?_)
  refine xg_t (xg_aload (va := (2, 82)) rfl rfl) ?_
  refine xg_cVv mX12_looks (vs := []) (rest := []) (cn1 := 0) (sl1 := 0) rfl (mLooks (xMnv.up (S := [82]) hI (xFr.of (S := [82]) hb39 (by decide)) (List.forall_mem_cons.mpr ⟨xqu82 (show cp82 (wget w37 82) from xmC82 f82_1 f82_3 f82_5 f82_7 f82_9 f82_11 f82_13 f82_15 f82_17 f82_19 f82_21 f82_22 se f82_25 f82_27 f82_29 hk38 hb2 hb4 hb6 hb8 hb10 hb12 hb14 hb16 hb18 hb20 (by omega) hb26 hb28 hb30 (by omega)), fun _ h => absurd h List.not_mem_nil⟩))) rfl hk38 rfl rfl rfl rfl rfl rfl (fun w40 hq41 => ?_)
  obtain ⟨hI42, hF43⟩ := hq41
  refine xg_t (xg_aload (va := (2, 82)) rfl rfl) ?_
  refine xg_t (xg_aload (va := (2, 82)) rfl rfl) ?_
  refine xg_cVi mX12_allRows (vs := []) (rest := [(2, 82)]) (cn1 := 0) (sl1 := 0) rfl (mAllRows (hI42)) rfl (hF43.get (by decide) hk38) rfl rfl rfl rfl rfl rfl (fun n48 w44 hq45 => ?_)
  obtain ⟨hn49, hI46, hF47⟩ := hq45
  refine xg_cVi mX12_flows (vs := [(0, n48)]) (rest := []) (cn1 := 0) (sl1 := 0) rfl (mFlows (hI46) (by omega)) rfl (hF47.get (by decide) (hF43.get (by decide) hk38)) rfl rfl rfl rfl rfl rfl (fun n54 w50 hq51 => ?_)
  obtain ⟨hn55, hI52, hF53⟩ := hq51
  refine xg_t (xg_aload (va := (2, 82)) rfl rfl) ?_
  refine xoCh82 (xqc82 hI52 : cp82 (wget w50 82)) (fun f82_56 f82_58 f82_60 f82_62 f82_64 f82_66 f82_68 f82_70 f82_72 f82_74 f82_76 f82_77 f82_78 f82_80 f82_82 f82_84 h82_86 hb57 hb59 hb61 hb63 hb65 hb67 hb69 hb71 hb73 hb75 hb79 hb81 hb83 hb85 hb87 => ?_)
  refine xg_t (xg_getf (va := (2, 83)) h82_86 rfl) ?_
  refine xg_t (xg_const) ?_
  refine xg_ialdB (n := 5) (B := 4294967295) ((((h83_34.but hb39 (by decide)).fr hF43 (by decide)).fr hF47 (by decide)).fr hF53 (by decide)) (hb35) xnm0 (by first | decide | omega) (fun u88 hu89 he90 => ?_)
  have hl91 : u88 ≤ 6 := by rw [← he90]; exact hx36.l5
  by_cases hc92 : n54 = u88
  · refine xg_t (xg_icF (u := n54) (v := u88) rfl xnm0 xnm0 (xj_neF hc92)) ?_
    refine xg_t (xg_const) ?_
    refine xg_t (xg_goto) ?_
    refine xg_t (xg_blq rfl) ?_
    refine xg_t (xg_istore (l1 := [(0, (2, 82)), (1, (0, se))]) rfl rfl rfl) ?_
    refine xg_t (xg_aload (va := (2, 82)) rfl rfl) ?_
    refine xg_t (xg_const) ?_
    refine xg_putI (fl1 := [(2, 83), (2, 84), (0, f82_56), (0, f82_58), (0, f82_60), (0, f82_62), (0, f82_64), (0, f82_66), (0, f82_68), (0, f82_70), (0, f82_72), (2, 85), (2, 86), (2, 87), (0, f82_74), (2, 88), (2, 89), (2, 90), (2, 91), (2, 92), (2, 93), (2, 94), (4, f82_76), (4, f82_77), (0, 0), (2, 95), (2, 96), (2, 97), (2, 98), (2, 99), (2, 100), (2, 101), (2, 102), (0, f82_80), (2, 103), (2, 104), (2, 105), (2, 106), (2, 107), (2, 108), (2, 109), (0, f82_82), (0, f82_84), (2, 110), (2, 111), (2, 112), (2, 113)]) h82_86 rfl rfl rfl (fun w93 hk94 hb95 => ?_)
    refine xg_t (xg_iload (va := (0, 1)) rfl rfl) ?_
    exact xg_e ⟨1, w93, ⟨rfl, rfl⟩, by first | decide | omega, xMnv.up (S := [82]) hI52 (xFr.of (S := [82]) hb95 (by decide)) (List.forall_mem_cons.mpr ⟨xqu82 (show cp82 (wget w93 82) from xmC82 f82_56 f82_58 f82_60 f82_62 f82_64 f82_66 f82_68 f82_70 f82_72 f82_74 f82_76 f82_77 0 f82_80 f82_82 f82_84 hk94 hb57 hb59 hb61 hb63 hb65 hb67 hb69 hb71 hb73 hb75 (by decide) hb81 hb83 hb85 (by omega)), fun _ h => absurd h List.not_mem_nil⟩), (((((xFr.of (S := [82, 95, 96, 97, 98, 99, 100, 101, 102]) hb39 (by decide)).tr (hF43.up (by decide))).tr (hF47.up (by decide))).tr (hF53.up (by decide))).tr (xFr.of (S := [82, 95, 96, 97, 98, 99, 100, 101, 102]) hb95 (by decide)))⟩
  · refine xg_t (xg_icT (u := n54) (v := u88) rfl xnm0 xnm0 (xj_neT hc92)) ?_
    refine xg_t (xg_blq rfl) ?_
    refine xg_t (xg_const) ?_
    refine xg_t (xg_blq rfl) ?_
    refine xg_t (xg_istore (l1 := [(0, (2, 82)), (1, (0, se))]) rfl rfl rfl) ?_
    refine xg_t (xg_aload (va := (2, 82)) rfl rfl) ?_
    refine xg_t (xg_const) ?_
    refine xg_putI (fl1 := [(2, 83), (2, 84), (0, f82_56), (0, f82_58), (0, f82_60), (0, f82_62), (0, f82_64), (0, f82_66), (0, f82_68), (0, f82_70), (0, f82_72), (2, 85), (2, 86), (2, 87), (0, f82_74), (2, 88), (2, 89), (2, 90), (2, 91), (2, 92), (2, 93), (2, 94), (4, f82_76), (4, f82_77), (0, 0), (2, 95), (2, 96), (2, 97), (2, 98), (2, 99), (2, 100), (2, 101), (2, 102), (0, f82_80), (2, 103), (2, 104), (2, 105), (2, 106), (2, 107), (2, 108), (2, 109), (0, f82_82), (0, f82_84), (2, 110), (2, 111), (2, 112), (2, 113)]) h82_86 rfl rfl rfl (fun w96 hk97 hb98 => ?_)
    refine xg_t (xg_iload (va := (0, 0)) rfl rfl) ?_
    exact xg_e ⟨0, w96, ⟨rfl, rfl⟩, by first | decide | omega, xMnv.up (S := [82]) hI52 (xFr.of (S := [82]) hb98 (by decide)) (List.forall_mem_cons.mpr ⟨xqu82 (show cp82 (wget w96 82) from xmC82 f82_56 f82_58 f82_60 f82_62 f82_64 f82_66 f82_68 f82_70 f82_72 f82_74 f82_76 f82_77 0 f82_80 f82_82 f82_84 hk97 hb57 hb59 hb61 hb63 hb65 hb67 hb69 hb71 hb73 hb75 (by decide) hb81 hb83 hb85 (by omega)), fun _ h => absurd h List.not_mem_nil⟩), (((((xFr.of (S := [82, 95, 96, 97, 98, 99, 100, 101, 102]) hb39 (by decide)).tr (hF43.up (by decide))).tr (hF47.up (by decide))).tr (hF53.up (by decide))).tr (xFr.of (S := [82, 95, 96, 97, 98, 99, 100, 101, 102]) hb98 (by decide)))⟩
theorem mMend {wh : Nat} (hI : xMnv w) (hwh : wh ≤ 4294967295) : xPi (d + 5) mX12_mend [(2, 82), (0, wh)] w bd fc rr (fun n w' => (n ≤ 4294967295) ∧ xMnv w' ∧ xFr [82, 95, 96, 97, 98, 99, 100, 101, 102] w w') := by
  refine xPi.of ?_
  show xTo (d + 5) mX12_mend (0, [], [(0, (2, 82)), (1, (0, wh))], [], (w, bd, fc, 0, 0, rr)) (fun φ => ∃ n w', xEnd 1 [(0, n)] (w', bd, fc, 0, 0, rr) φ ∧ (n ≤ 4294967295) ∧ xMnv w' ∧ xFr [82, 95, 96, 97, 98, 99, 100, 101, 102] w w')
  refine xoCh82 (xqc82 hI : cp82 (wget w 82)) (fun f82_1 f82_3 f82_5 f82_7 f82_9 f82_11 f82_13 f82_15 f82_17 f82_19 f82_21 f82_22 f82_23 f82_25 f82_27 f82_29 h82_31 hb2 hb4 hb6 hb8 hb10 hb12 hb14 hb16 hb18 hb20 hb24 hb26 hb28 hb30 hb32 => ?_)
  refine xoX83 (xqc83 hI : cpx83 (wget w 83)) (fun g83_33 h83_34 hb35 hx36 => ?_)
  refine xg_t (xg_blq rfl) ?_
  refine xg_t (xg_aload (va := (2, 82)) rfl rfl) ?_
  refine xg_cVi mX12_cracksSeen (vs := []) (rest := []) (cn1 := 0) (sl1 := 0) rfl (mSeen (hI)) rfl h82_31 rfl rfl rfl rfl rfl rfl (fun n41 w37 hq38 => ?_)
  obtain ⟨hn42, hI39, hF40⟩ := hq38
  refine xg_t (xg_istore (l1 := [(0, (2, 82)), (1, (0, wh))]) rfl rfl rfl) ?_
  refine xg_t (xg_iload (va := (0, n41)) rfl rfl) ?_
  refine xg_t (xg_bip) ?_
  by_cases hc43 : xbs 10 < xbs n41
  · have hc43u := hc43
    unfold xbs at hc43u
    have hn44 : n41 ≤ 2147483647 := by omega
    refine xg_t (xg_icT (u := n41) (v := 10) rfl xnm0 xnm0 (xjs_gtT hc43)) ?_
    refine xg_t (xg_blq rfl) ?_
    refine xg_t (xg_const) ?_
    exact xg_e ⟨4294967295, w37, ⟨rfl, rfl⟩, by first | decide | omega, hI39, (hF40.up (by decide))⟩
  · have hc43u := hc43
    unfold xbs at hc43u
    refine xg_t (xg_icF (u := n41) (v := 10) rfl xnm0 xnm0 (xjs_gtF hc43)) ?_
    refine xg_t (xg_iload (va := (0, wh)) rfl rfl) ?_
    refine xg_t (xg_const) ?_
    refine xg_t (xg_const) ?_
    refine xg_t (xg_cSr mX12_isIn (vs := [(0, wh), (0, 0), (0, 2)]) (rest := []) (rs := [(0, if 0 ≤ wh ∧ wh ≤ 2 then 1 else 0)]) (cn1 := 0) (sl1 := 0) rfl (mIsIn (by omega) (by omega) (by omega)) rfl rfl rfl rfl rfl rfl rfl rfl) ?_
    by_cases hc45 : 0 ≤ wh ∧ wh ≤ 2
    · refine xg_t (xg_ifT (u := (if 0 ≤ wh ∧ wh ≤ 2 then 1 else 0)) rfl xnm0 (xj_neT (xite1 hc45))) ?_
      refine xg_t (xg_blq rfl) ?_
      refine xg_t (xg_const) ?_
      refine xg_t (xg_istore (l1 := [(2, (0, n41)), (0, (2, 82)), (1, (0, wh))]) rfl rfl rfl) ?_
      refine xg_t (xg_const) ?_
      refine xg_t (xg_istore (l1 := [(3, (0, 4294967295)), (2, (0, n41)), (0, (2, 82)), (1, (0, wh))]) rfl rfl rfl) ?_
      refine xg_t (xg_const) ?_
      refine xg_t (xg_istore (l1 := [(4, (0, 0)), (3, (0, 4294967295)), (2, (0, n41)), (0, (2, 82)), (1, (0, wh))]) rfl rfl rfl) ?_
      refine xg_t (xg_drop (l1 := [(0, (2, 82)), (1, (0, wh)), (2, (0, n41)), (3, (0, 4294967295)), (4, (0, 0)), (5, (0, 0))]) (List.forall_mem_cons.mpr ⟨List.mem_cons_of_mem _ (List.mem_cons_of_mem _ (List.mem_cons_of_mem _ (List.mem_cons_of_mem _ (List.mem_cons_self)))), List.forall_mem_cons.mpr ⟨List.mem_cons_of_mem _ (List.mem_cons_of_mem _ (List.mem_cons_of_mem _ (List.mem_cons_of_mem _ (List.mem_cons_of_mem _ (List.mem_cons_self))))), List.forall_mem_cons.mpr ⟨List.mem_cons_of_mem _ (List.mem_cons_of_mem _ (List.mem_cons_of_mem _ (List.mem_cons_self))), List.forall_mem_cons.mpr ⟨List.mem_cons_of_mem _ (List.mem_cons_of_mem _ (List.mem_cons_self)), List.forall_mem_cons.mpr ⟨List.mem_cons_of_mem _ (List.mem_cons_self), List.forall_mem_cons.mpr ⟨List.mem_cons_self, fun _ h => absurd h List.not_mem_nil⟩⟩⟩⟩⟩⟩)) ?_
      have key46 : ∀ (m48 : Nat) (be lw st_ : Nat) (w49 : List (List xE)), 2147483648 - st_ < m48 → be ≤ 4294967295 → lw ≤ 4294967295 → st_ ≤ 2147483647 → xMnv w49 → xFr [82, 95, 96, 97, 98, 99, 100, 101, 102] w w49 → xTo (d + 5) mX12_mend (30, [], [(0, (2, 82)), (1, (0, wh)), (2, (0, n41)), (3, (0, be)), (4, (0, lw)), (5, (0, st_))], [], (w49, bd, fc, 0, 0, rr)) (fun φ => ∃ n w', xEnd 1 [(0, n)] (w', bd, fc, 0, 0, rr) φ ∧ (n ≤ 4294967295) ∧ xMnv w' ∧ xFr [82, 95, 96, 97, 98, 99, 100, 101, 102] w w') := by
        intro m48
        induction m48 with
        | zero => intro be lw st_ w49 hz; exact absurd hz (Nat.not_lt_zero _)
        | succ m48 ih47 =>
          intro be lw st_ w49 hm55 hn52 hn53 hn54 hI50 hF51
          refine xg_t (xg_blq rfl) ?_
          refine xg_t (xg_iload (va := (0, st_)) rfl rfl) ?_
          refine xg_t (xg_const) ?_
          refine xg_t (xg_iload (va := (0, n41)) rfl rfl) ?_
          refine xg_k (xg_ishlG (u := 1) (v := n41) xnm0 xnm0) (xpt_lt _) (fun z56 hz57 => ?_)
          by_cases hc58 : xbs st_ < xbs z56
          · have hc58u := hc58
            unfold xbs at hc58u
            have hn59 : st_ ≤ 2147483646 := by omega
            have hn60 : z56 ≤ 2147483647 := by omega
            refine xg_t (xg_icF (u := st_) (v := z56) rfl xnm0 xnm0 (xjs_geF hc58)) ?_
            refine xg_t (xg_const) ?_
            refine xg_t (xg_istore (l1 := [(0, (2, 82)), (1, (0, wh)), (2, (0, n41)), (3, (0, be)), (4, (0, lw)), (5, (0, st_))]) rfl rfl rfl) ?_
            refine xg_t (xg_const) ?_
            refine xg_t (xg_istore (l1 := [(6, (0, 0)), (0, (2, 82)), (1, (0, wh)), (2, (0, n41)), (3, (0, be)), (4, (0, lw)), (5, (0, st_))]) rfl rfl rfl) ?_
            refine xg_t (xg_drop (l1 := [(0, (2, 82)), (1, (0, wh)), (2, (0, n41)), (3, (0, be)), (4, (0, lw)), (5, (0, st_)), (6, (0, 0)), (7, (0, 0))]) (List.forall_mem_cons.mpr ⟨List.mem_cons_of_mem _ (List.mem_cons_of_mem _ (List.mem_cons_self)), List.forall_mem_cons.mpr ⟨List.mem_cons_of_mem _ (List.mem_cons_of_mem _ (List.mem_cons_of_mem _ (List.mem_cons_self))), List.forall_mem_cons.mpr ⟨List.mem_cons_of_mem _ (List.mem_cons_of_mem _ (List.mem_cons_of_mem _ (List.mem_cons_of_mem _ (List.mem_cons_self)))), List.forall_mem_cons.mpr ⟨List.mem_cons_of_mem _ (List.mem_cons_of_mem _ (List.mem_cons_of_mem _ (List.mem_cons_of_mem _ (List.mem_cons_of_mem _ (List.mem_cons_self))))), List.forall_mem_cons.mpr ⟨List.mem_cons_of_mem _ (List.mem_cons_of_mem _ (List.mem_cons_of_mem _ (List.mem_cons_of_mem _ (List.mem_cons_of_mem _ (List.mem_cons_of_mem _ (List.mem_cons_self)))))), List.forall_mem_cons.mpr ⟨List.mem_cons_of_mem _ (List.mem_cons_of_mem _ (List.mem_cons_of_mem _ (List.mem_cons_of_mem _ (List.mem_cons_of_mem _ (List.mem_cons_of_mem _ (List.mem_cons_of_mem _ (List.mem_cons_self))))))), List.forall_mem_cons.mpr ⟨List.mem_cons_of_mem _ (List.mem_cons_self), List.forall_mem_cons.mpr ⟨List.mem_cons_self, fun _ h => absurd h List.not_mem_nil⟩⟩⟩⟩⟩⟩⟩⟩)) ?_
            have key61 : ∀ (m63 : Nat) (co ki : Nat) (w64 : List (List xE)), 10 - ki < m63 → co ≤ 4294967295 → ki ≤ 10 → xMnv w64 → xFr [82, 95, 96, 97, 98, 99, 100, 101, 102] w w64 → xTo (d + 5) mX12_mend (44, [], [(0, (2, 82)), (1, (0, wh)), (2, (0, n41)), (3, (0, be)), (4, (0, lw)), (5, (0, st_)), (6, (0, co)), (7, (0, ki))], [], (w64, bd, fc, 0, 0, rr)) (fun φ => ∃ n w', xEnd 1 [(0, n)] (w', bd, fc, 0, 0, rr) φ ∧ (n ≤ 4294967295) ∧ xMnv w' ∧ xFr [82, 95, 96, 97, 98, 99, 100, 101, 102] w w') := by
              intro m63
              induction m63 with
              | zero => intro co ki w64 hz; exact absurd hz (Nat.not_lt_zero _)
              | succ m63 ih62 =>
                intro co ki w64 hm69 hn67 hn68 hI65 hF66
                refine xg_t (xg_blq rfl) ?_
                refine xg_t (xg_iload (va := (0, ki)) rfl rfl) ?_
                refine xg_t (xg_iload (va := (0, n41)) rfl rfl) ?_
                by_cases hc70 : xbs ki < xbs n41
                · have hc70u := hc70
                  unfold xbs at hc70u
                  have hn71 : ki ≤ 9 := by omega
                  have hn72 : n41 ≤ 10 := by omega
                  refine xg_t (xg_icF (u := ki) (v := n41) rfl xnm0 xnm0 (xjs_geF hc70)) ?_
                  refine xg_t (xg_iload (va := (0, co)) rfl rfl) ?_
                  refine xg_t (xg_iload (va := (0, st_)) rfl rfl) ?_
                  refine xg_t (xg_iload (va := (0, ki)) rfl rfl) ?_
                  refine xg_k (xg_ishrG (u := st_) (v := ki) xnm0 xnm0) (xpt_lt _) (fun z73 hz74 => ?_)
                  refine xg_t (xg_const) ?_
                  refine xg_k (xg_iand (z := Nat.land z73 1) (u := z73) (v := 1) xnm0 xnm0 rfl) (xland_lt (by omega)) (fun z75 hz76 => ?_)
                  refine xg_t (xg_const) ?_
                  by_cases hc77 : z75 = 1
                  · refine xg_t (xg_icF (u := z75) (v := 1) rfl xnm0 xnm0 (xj_neF hc77)) ?_
                    refine xg_t (xg_aload (va := (2, 82)) rfl rfl) ?_
                    refine xoCh82 (xqc82 hI65 : cp82 (wget w64 82)) (fun f82_78 f82_80 f82_82 f82_84 f82_86 f82_88 f82_90 f82_92 f82_94 f82_96 f82_98 f82_99 f82_100 f82_102 f82_104 f82_106 h82_108 hb79 hb81 hb83 hb85 hb87 hb89 hb91 hb93 hb95 hb97 hb101 hb103 hb105 hb107 hb109 => ?_)
                    refine xg_t (xg_getf (va := (2, 83)) h82_108 rfl) ?_
                    refine xg_t (xg_sip) ?_
                    refine xg_t (xg_iload (va := (0, ki)) rfl rfl) ?_
                    refine xg_t (xg_iadd (u := 910) (v := ki) (z := 910 + ki) xnm0 xnm0 (by omega)) ?_
                    refine xg_ialdB (n := 910 + ki) (B := 4294967295) (h83_34.fr hF66 (by decide)) (hb35) xnm0 (by omega) (fun u110 hu111 he112 => ?_)
                    refine xg_t (xg_goto) ?_
                    refine xg_t (xg_blq rfl) ?_
                    refine xg_k (xg_iadd (u := co) (v := u110) (z := (co + u110) % 4294967296) xnm0 xnm0 rfl) (Nat.mod_lt _ (by decide)) (fun z113 hz114 => ?_)
                    refine xg_t (xg_istore (l1 := [(0, (2, 82)), (1, (0, wh)), (2, (0, n41)), (3, (0, be)), (4, (0, lw)), (5, (0, st_)), (7, (0, ki))]) rfl rfl rfl) ?_
                    refine xg_t (xg_iinc (u := ki) (z := ki + 1) (l1 := [(6, (0, z113)), (0, (2, 82)), (1, (0, wh)), (2, (0, n41)), (3, (0, be)), (4, (0, lw)), (5, (0, st_))]) rfl rfl (by omega) rfl) ?_
                    refine xg_t (xg_goto) ?_
                    refine xg_t (xg_drop (l1 := [(0, (2, 82)), (1, (0, wh)), (2, (0, n41)), (3, (0, be)), (4, (0, lw)), (5, (0, st_)), (6, (0, z113)), (7, (0, ki + 1))]) (List.forall_mem_cons.mpr ⟨List.mem_cons_of_mem _ (List.mem_cons_of_mem _ (List.mem_cons_self)), List.forall_mem_cons.mpr ⟨List.mem_cons_of_mem _ (List.mem_cons_of_mem _ (List.mem_cons_of_mem _ (List.mem_cons_self))), List.forall_mem_cons.mpr ⟨List.mem_cons_of_mem _ (List.mem_cons_of_mem _ (List.mem_cons_of_mem _ (List.mem_cons_of_mem _ (List.mem_cons_self)))), List.forall_mem_cons.mpr ⟨List.mem_cons_of_mem _ (List.mem_cons_of_mem _ (List.mem_cons_of_mem _ (List.mem_cons_of_mem _ (List.mem_cons_of_mem _ (List.mem_cons_self))))), List.forall_mem_cons.mpr ⟨List.mem_cons_of_mem _ (List.mem_cons_of_mem _ (List.mem_cons_of_mem _ (List.mem_cons_of_mem _ (List.mem_cons_of_mem _ (List.mem_cons_of_mem _ (List.mem_cons_self)))))), List.forall_mem_cons.mpr ⟨List.mem_cons_of_mem _ (List.mem_cons_of_mem _ (List.mem_cons_of_mem _ (List.mem_cons_of_mem _ (List.mem_cons_of_mem _ (List.mem_cons_of_mem _ (List.mem_cons_of_mem _ (List.mem_cons_self))))))), List.forall_mem_cons.mpr ⟨List.mem_cons_of_mem _ (List.mem_cons_self), List.forall_mem_cons.mpr ⟨List.mem_cons_self, fun _ h => absurd h List.not_mem_nil⟩⟩⟩⟩⟩⟩⟩⟩)) ?_
                    exact ih62 z113 (ki + 1) w64 (by omega) (by omega) (by omega) (hI65) (hF66)
                  · refine xg_t (xg_icT (u := z75) (v := 1) rfl xnm0 xnm0 (xj_neT hc77)) ?_
                    refine xg_t (xg_blq rfl) ?_
                    refine xg_t (xg_const) ?_
                    refine xg_t (xg_blq rfl) ?_
                    refine xg_k (xg_iadd (u := co) (v := 0) (z := (co + 0) % 4294967296) xnm0 xnm0 rfl) (Nat.mod_lt _ (by decide)) (fun z115 hz116 => ?_)
                    refine xg_t (xg_istore (l1 := [(0, (2, 82)), (1, (0, wh)), (2, (0, n41)), (3, (0, be)), (4, (0, lw)), (5, (0, st_)), (7, (0, ki))]) rfl rfl rfl) ?_
                    refine xg_t (xg_iinc (u := ki) (z := ki + 1) (l1 := [(6, (0, z115)), (0, (2, 82)), (1, (0, wh)), (2, (0, n41)), (3, (0, be)), (4, (0, lw)), (5, (0, st_))]) rfl rfl (by omega) rfl) ?_
                    refine xg_t (xg_goto) ?_
                    refine xg_t (xg_drop (l1 := [(0, (2, 82)), (1, (0, wh)), (2, (0, n41)), (3, (0, be)), (4, (0, lw)), (5, (0, st_)), (6, (0, z115)), (7, (0, ki + 1))]) (List.forall_mem_cons.mpr ⟨List.mem_cons_of_mem _ (List.mem_cons_of_mem _ (List.mem_cons_self)), List.forall_mem_cons.mpr ⟨List.mem_cons_of_mem _ (List.mem_cons_of_mem _ (List.mem_cons_of_mem _ (List.mem_cons_self))), List.forall_mem_cons.mpr ⟨List.mem_cons_of_mem _ (List.mem_cons_of_mem _ (List.mem_cons_of_mem _ (List.mem_cons_of_mem _ (List.mem_cons_self)))), List.forall_mem_cons.mpr ⟨List.mem_cons_of_mem _ (List.mem_cons_of_mem _ (List.mem_cons_of_mem _ (List.mem_cons_of_mem _ (List.mem_cons_of_mem _ (List.mem_cons_self))))), List.forall_mem_cons.mpr ⟨List.mem_cons_of_mem _ (List.mem_cons_of_mem _ (List.mem_cons_of_mem _ (List.mem_cons_of_mem _ (List.mem_cons_of_mem _ (List.mem_cons_of_mem _ (List.mem_cons_self)))))), List.forall_mem_cons.mpr ⟨List.mem_cons_of_mem _ (List.mem_cons_of_mem _ (List.mem_cons_of_mem _ (List.mem_cons_of_mem _ (List.mem_cons_of_mem _ (List.mem_cons_of_mem _ (List.mem_cons_of_mem _ (List.mem_cons_self))))))), List.forall_mem_cons.mpr ⟨List.mem_cons_of_mem _ (List.mem_cons_self), List.forall_mem_cons.mpr ⟨List.mem_cons_self, fun _ h => absurd h List.not_mem_nil⟩⟩⟩⟩⟩⟩⟩⟩)) ?_
                    exact ih62 z115 (ki + 1) w64 (by omega) (by omega) (by omega) (hI65) (hF66)
                · have hc70u := hc70
                  unfold xbs at hc70u
                  have hn117 : ki ≤ 10 := by omega
                  refine xg_t (xg_icT (u := ki) (v := n41) rfl xnm0 xnm0 (xjs_geT hc70)) ?_
                  refine xg_t (xg_blq rfl) ?_
                  refine xg_t (xg_iload (va := (0, be)) rfl rfl) ?_
                  by_cases hc118 : be < 2147483648
                  · refine xg_t (xg_ifF (u := be) rfl xnm0 (xjz_ltF hc118)) ?_
                    refine xg_t (xg_iload (va := (0, co)) rfl rfl) ?_
                    refine xg_t (xg_iload (va := (0, lw)) rfl rfl) ?_
                    by_cases hc119 : xbs co < xbs lw
                    · have hc119u := hc119
                      unfold xbs at hc119u
                      refine xg_t (xg_icT (u := co) (v := lw) rfl xnm0 xnm0 (xjs_ltT hc119)) ?_
                      refine xg_t (xg_blq rfl) ?_
                      refine xg_t (xg_const) ?_
                      refine xg_t (xg_goto) ?_
                      refine xg_t (xg_blq rfl) ?_
                      refine xg_t (xg_istore (l1 := [(0, (2, 82)), (1, (0, wh)), (2, (0, n41)), (3, (0, be)), (4, (0, lw)), (5, (0, st_)), (6, (0, co))]) rfl rfl rfl) ?_
                      refine xg_t (xg_iload (va := (0, 1)) rfl rfl) ?_
                      refine xg_t (xg_ifF (u := 1) rfl xnm0 (by decide)) ?_
                      refine xg_t (xg_aload (va := (2, 82)) rfl rfl) ?_
                      refine xg_t (xg_iload (va := (0, st_)) rfl rfl) ?_
                      refine xoCh82 (xqc82 hI65 : cp82 (wget w64 82)) (fun f82_120 f82_122 f82_124 f82_126 f82_128 f82_130 f82_132 f82_134 f82_136 f82_138 f82_140 f82_141 f82_142 f82_144 f82_146 f82_148 h82_150 hb121 hb123 hb125 hb127 hb129 hb131 hb133 hb135 hb137 hb139 hb143 hb145 hb147 hb149 hb151 => ?_)
                      refine xg_cVi mX12_isFedBy (vs := [(0, st_)]) (rest := []) (cn1 := 0) (sl1 := 0) rfl (mFedBy (hI65) (by omega)) rfl h82_150 rfl rfl rfl rfl rfl rfl (fun n156 w152 hq153 => ?_)
                      obtain ⟨hn157, hI154, hF155⟩ := hq153
                      by_cases hc158 : n156 = 0
                      · refine xg_t (xg_ifF (u := n156) rfl xnm0 (xj_neF hc158)) ?_
                        refine xg_t (xg_goto) ?_
                        refine xg_t (xg_blq rfl) ?_
                        refine xg_t (xg_iinc (u := st_) (z := st_ + 1) (l1 := [(7, (0, 1)), (0, (2, 82)), (1, (0, wh)), (2, (0, n41)), (3, (0, be)), (4, (0, lw)), (6, (0, co))]) rfl rfl (by omega) rfl) ?_
                        refine xg_t (xg_goto) ?_
                        refine xg_t (xg_drop (l1 := [(0, (2, 82)), (1, (0, wh)), (2, (0, n41)), (3, (0, be)), (4, (0, lw)), (5, (0, st_ + 1))]) (List.forall_mem_cons.mpr ⟨List.mem_cons_of_mem _ (List.mem_cons_of_mem _ (List.mem_cons_self)), List.forall_mem_cons.mpr ⟨List.mem_cons_of_mem _ (List.mem_cons_of_mem _ (List.mem_cons_of_mem _ (List.mem_cons_self))), List.forall_mem_cons.mpr ⟨List.mem_cons_of_mem _ (List.mem_cons_of_mem _ (List.mem_cons_of_mem _ (List.mem_cons_of_mem _ (List.mem_cons_self)))), List.forall_mem_cons.mpr ⟨List.mem_cons_of_mem _ (List.mem_cons_of_mem _ (List.mem_cons_of_mem _ (List.mem_cons_of_mem _ (List.mem_cons_of_mem _ (List.mem_cons_self))))), List.forall_mem_cons.mpr ⟨List.mem_cons_of_mem _ (List.mem_cons_of_mem _ (List.mem_cons_of_mem _ (List.mem_cons_of_mem _ (List.mem_cons_of_mem _ (List.mem_cons_of_mem _ (List.mem_cons_self)))))), List.forall_mem_cons.mpr ⟨List.mem_cons_self, fun _ h => absurd h List.not_mem_nil⟩⟩⟩⟩⟩⟩)) ?_
                        exact ih47 be lw (st_ + 1) w152 (by omega) (by omega) (by omega) (by omega) (hI154) ((hF66.tr (hF155.up (by decide))))
                      · refine xg_t (xg_ifT (u := n156) rfl xnm0 (xj_neT hc158)) ?_
                        refine xg_t (xg_blq rfl) ?_
                        refine xg_t (xg_iload (va := (0, st_)) rfl rfl) ?_
                        refine xg_t (xg_istore (l1 := [(7, (0, 1)), (0, (2, 82)), (1, (0, wh)), (2, (0, n41)), (4, (0, lw)), (5, (0, st_)), (6, (0, co))]) rfl rfl rfl) ?_
                        refine xg_t (xg_iload (va := (0, co)) rfl rfl) ?_
                        refine xg_t (xg_istore (l1 := [(3, (0, st_)), (7, (0, 1)), (0, (2, 82)), (1, (0, wh)), (2, (0, n41)), (5, (0, st_)), (6, (0, co))]) rfl rfl rfl) ?_
                        refine xg_t (xg_blq rfl) ?_
                        refine xg_t (xg_iinc (u := st_) (z := st_ + 1) (l1 := [(4, (0, co)), (3, (0, st_)), (7, (0, 1)), (0, (2, 82)), (1, (0, wh)), (2, (0, n41)), (6, (0, co))]) rfl rfl (by omega) rfl) ?_
                        refine xg_t (xg_goto) ?_
                        refine xg_t (xg_drop (l1 := [(0, (2, 82)), (1, (0, wh)), (2, (0, n41)), (3, (0, st_)), (4, (0, co)), (5, (0, st_ + 1))]) (List.forall_mem_cons.mpr ⟨List.mem_cons_of_mem _ (List.mem_cons_of_mem _ (List.mem_cons_of_mem _ (List.mem_cons_of_mem _ (List.mem_cons_self)))), List.forall_mem_cons.mpr ⟨List.mem_cons_of_mem _ (List.mem_cons_of_mem _ (List.mem_cons_of_mem _ (List.mem_cons_of_mem _ (List.mem_cons_of_mem _ (List.mem_cons_self))))), List.forall_mem_cons.mpr ⟨List.mem_cons_of_mem _ (List.mem_cons_of_mem _ (List.mem_cons_of_mem _ (List.mem_cons_of_mem _ (List.mem_cons_of_mem _ (List.mem_cons_of_mem _ (List.mem_cons_self)))))), List.forall_mem_cons.mpr ⟨List.mem_cons_of_mem _ (List.mem_cons_of_mem _ (List.mem_cons_self)), List.forall_mem_cons.mpr ⟨List.mem_cons_of_mem _ (List.mem_cons_self), List.forall_mem_cons.mpr ⟨List.mem_cons_self, fun _ h => absurd h List.not_mem_nil⟩⟩⟩⟩⟩⟩)) ?_
                        exact ih47 st_ co (st_ + 1) w152 (by omega) (by omega) (by omega) (by omega) (hI154) ((hF66.tr (hF155.up (by decide))))
                    · have hc119u := hc119
                      unfold xbs at hc119u
                      refine xg_t (xg_icF (u := co) (v := lw) rfl xnm0 xnm0 (xjs_ltF hc119)) ?_
                      refine xg_t (xg_iload (va := (0, co)) rfl rfl) ?_
                      refine xg_t (xg_iload (va := (0, lw)) rfl rfl) ?_
                      by_cases hc159 : co = lw
                      · refine xg_t (xg_icF (u := co) (v := lw) rfl xnm0 xnm0 (xj_neF hc159)) ?_
                        refine xg_t (xg_iload (va := (0, st_)) rfl rfl) ?_
                        refine xg_cSi mX12_ones (vs := [(0, st_)]) (rest := []) (cn1 := 0) (sl1 := 0) rfl (mOnes (hI65) (by omega)) rfl rfl rfl rfl rfl rfl rfl (fun n164 w160 hq161 => ?_)
                        obtain ⟨hn165, hI162, hF163⟩ := hq161
                        refine xg_t (xg_iload (va := (0, be)) rfl rfl) ?_
                        refine xg_cSi mX12_ones (vs := [(0, be)]) (rest := [(0, n164)]) (cn1 := 0) (sl1 := 0) rfl (mOnes (hI162) (by omega)) rfl rfl rfl rfl rfl rfl rfl (fun n170 w166 hq167 => ?_)
                        obtain ⟨hn171, hI168, hF169⟩ := hq167
                        by_cases hc172 : xbs n164 < xbs n170
                        · have hc172u := hc172
                          unfold xbs at hc172u
                          refine xg_t (xg_icF (u := n164) (v := n170) rfl xnm0 xnm0 (xjs_geF hc172)) ?_
                          refine xg_t (xg_blq rfl) ?_
                          refine xg_t (xg_const) ?_
                          refine xg_t (xg_goto) ?_
                          refine xg_t (xg_blq rfl) ?_
                          refine xg_t (xg_istore (l1 := [(0, (2, 82)), (1, (0, wh)), (2, (0, n41)), (3, (0, be)), (4, (0, lw)), (5, (0, st_)), (6, (0, co))]) rfl rfl rfl) ?_
                          refine xg_t (xg_iload (va := (0, 1)) rfl rfl) ?_
                          refine xg_t (xg_ifF (u := 1) rfl xnm0 (by decide)) ?_
                          refine xg_t (xg_aload (va := (2, 82)) rfl rfl) ?_
                          refine xg_t (xg_iload (va := (0, st_)) rfl rfl) ?_
                          refine xoCh82 (xqc82 hI168 : cp82 (wget w166 82)) (fun f82_173 f82_175 f82_177 f82_179 f82_181 f82_183 f82_185 f82_187 f82_189 f82_191 f82_193 f82_194 f82_195 f82_197 f82_199 f82_201 h82_203 hb174 hb176 hb178 hb180 hb182 hb184 hb186 hb188 hb190 hb192 hb196 hb198 hb200 hb202 hb204 => ?_)
                          refine xg_cVi mX12_isFedBy (vs := [(0, st_)]) (rest := []) (cn1 := 0) (sl1 := 0) rfl (mFedBy (hI168) (by omega)) rfl h82_203 rfl rfl rfl rfl rfl rfl (fun n209 w205 hq206 => ?_)
                          obtain ⟨hn210, hI207, hF208⟩ := hq206
                          by_cases hc211 : n209 = 0
                          · refine xg_t (xg_ifF (u := n209) rfl xnm0 (xj_neF hc211)) ?_
                            refine xg_t (xg_goto) ?_
                            refine xg_t (xg_blq rfl) ?_
                            refine xg_t (xg_iinc (u := st_) (z := st_ + 1) (l1 := [(7, (0, 1)), (0, (2, 82)), (1, (0, wh)), (2, (0, n41)), (3, (0, be)), (4, (0, lw)), (6, (0, co))]) rfl rfl (by omega) rfl) ?_
                            refine xg_t (xg_goto) ?_
                            refine xg_t (xg_drop (l1 := [(0, (2, 82)), (1, (0, wh)), (2, (0, n41)), (3, (0, be)), (4, (0, lw)), (5, (0, st_ + 1))]) (List.forall_mem_cons.mpr ⟨List.mem_cons_of_mem _ (List.mem_cons_of_mem _ (List.mem_cons_self)), List.forall_mem_cons.mpr ⟨List.mem_cons_of_mem _ (List.mem_cons_of_mem _ (List.mem_cons_of_mem _ (List.mem_cons_self))), List.forall_mem_cons.mpr ⟨List.mem_cons_of_mem _ (List.mem_cons_of_mem _ (List.mem_cons_of_mem _ (List.mem_cons_of_mem _ (List.mem_cons_self)))), List.forall_mem_cons.mpr ⟨List.mem_cons_of_mem _ (List.mem_cons_of_mem _ (List.mem_cons_of_mem _ (List.mem_cons_of_mem _ (List.mem_cons_of_mem _ (List.mem_cons_self))))), List.forall_mem_cons.mpr ⟨List.mem_cons_of_mem _ (List.mem_cons_of_mem _ (List.mem_cons_of_mem _ (List.mem_cons_of_mem _ (List.mem_cons_of_mem _ (List.mem_cons_of_mem _ (List.mem_cons_self)))))), List.forall_mem_cons.mpr ⟨List.mem_cons_self, fun _ h => absurd h List.not_mem_nil⟩⟩⟩⟩⟩⟩)) ?_
                            exact ih47 be lw (st_ + 1) w205 (by omega) (by omega) (by omega) (by omega) (hI207) ((((hF66.tr (hF163.up (by decide))).tr (hF169.up (by decide))).tr (hF208.up (by decide))))
                          · refine xg_t (xg_ifT (u := n209) rfl xnm0 (xj_neT hc211)) ?_
                            refine xg_t (xg_blq rfl) ?_
                            refine xg_t (xg_iload (va := (0, st_)) rfl rfl) ?_
                            refine xg_t (xg_istore (l1 := [(7, (0, 1)), (0, (2, 82)), (1, (0, wh)), (2, (0, n41)), (4, (0, lw)), (5, (0, st_)), (6, (0, co))]) rfl rfl rfl) ?_
                            refine xg_t (xg_iload (va := (0, co)) rfl rfl) ?_
                            refine xg_t (xg_istore (l1 := [(3, (0, st_)), (7, (0, 1)), (0, (2, 82)), (1, (0, wh)), (2, (0, n41)), (5, (0, st_)), (6, (0, co))]) rfl rfl rfl) ?_
                            refine xg_t (xg_blq rfl) ?_
                            refine xg_t (xg_iinc (u := st_) (z := st_ + 1) (l1 := [(4, (0, co)), (3, (0, st_)), (7, (0, 1)), (0, (2, 82)), (1, (0, wh)), (2, (0, n41)), (6, (0, co))]) rfl rfl (by omega) rfl) ?_
                            refine xg_t (xg_goto) ?_
                            refine xg_t (xg_drop (l1 := [(0, (2, 82)), (1, (0, wh)), (2, (0, n41)), (3, (0, st_)), (4, (0, co)), (5, (0, st_ + 1))]) (List.forall_mem_cons.mpr ⟨List.mem_cons_of_mem _ (List.mem_cons_of_mem _ (List.mem_cons_of_mem _ (List.mem_cons_of_mem _ (List.mem_cons_self)))), List.forall_mem_cons.mpr ⟨List.mem_cons_of_mem _ (List.mem_cons_of_mem _ (List.mem_cons_of_mem _ (List.mem_cons_of_mem _ (List.mem_cons_of_mem _ (List.mem_cons_self))))), List.forall_mem_cons.mpr ⟨List.mem_cons_of_mem _ (List.mem_cons_of_mem _ (List.mem_cons_of_mem _ (List.mem_cons_of_mem _ (List.mem_cons_of_mem _ (List.mem_cons_of_mem _ (List.mem_cons_self)))))), List.forall_mem_cons.mpr ⟨List.mem_cons_of_mem _ (List.mem_cons_of_mem _ (List.mem_cons_self)), List.forall_mem_cons.mpr ⟨List.mem_cons_of_mem _ (List.mem_cons_self), List.forall_mem_cons.mpr ⟨List.mem_cons_self, fun _ h => absurd h List.not_mem_nil⟩⟩⟩⟩⟩⟩)) ?_
                            exact ih47 st_ co (st_ + 1) w205 (by omega) (by omega) (by omega) (by omega) (hI207) ((((hF66.tr (hF163.up (by decide))).tr (hF169.up (by decide))).tr (hF208.up (by decide))))
                        · have hc172u := hc172
                          unfold xbs at hc172u
                          refine xg_t (xg_icT (u := n164) (v := n170) rfl xnm0 xnm0 (xjs_geT hc172)) ?_
                          refine xg_t (xg_blq rfl) ?_
                          refine xg_t (xg_const) ?_
                          refine xg_t (xg_blq rfl) ?_
                          refine xg_t (xg_istore (l1 := [(0, (2, 82)), (1, (0, wh)), (2, (0, n41)), (3, (0, be)), (4, (0, lw)), (5, (0, st_)), (6, (0, co))]) rfl rfl rfl) ?_
                          refine xg_t (xg_iload (va := (0, 0)) rfl rfl) ?_
                          refine xg_t (xg_ifT (u := 0) rfl xnm0 (by decide)) ?_
                          refine xg_t (xg_blq rfl) ?_
                          refine xg_t (xg_iinc (u := st_) (z := st_ + 1) (l1 := [(7, (0, 0)), (0, (2, 82)), (1, (0, wh)), (2, (0, n41)), (3, (0, be)), (4, (0, lw)), (6, (0, co))]) rfl rfl (by omega) rfl) ?_
                          refine xg_t (xg_goto) ?_
                          refine xg_t (xg_drop (l1 := [(0, (2, 82)), (1, (0, wh)), (2, (0, n41)), (3, (0, be)), (4, (0, lw)), (5, (0, st_ + 1))]) (List.forall_mem_cons.mpr ⟨List.mem_cons_of_mem _ (List.mem_cons_of_mem _ (List.mem_cons_self)), List.forall_mem_cons.mpr ⟨List.mem_cons_of_mem _ (List.mem_cons_of_mem _ (List.mem_cons_of_mem _ (List.mem_cons_self))), List.forall_mem_cons.mpr ⟨List.mem_cons_of_mem _ (List.mem_cons_of_mem _ (List.mem_cons_of_mem _ (List.mem_cons_of_mem _ (List.mem_cons_self)))), List.forall_mem_cons.mpr ⟨List.mem_cons_of_mem _ (List.mem_cons_of_mem _ (List.mem_cons_of_mem _ (List.mem_cons_of_mem _ (List.mem_cons_of_mem _ (List.mem_cons_self))))), List.forall_mem_cons.mpr ⟨List.mem_cons_of_mem _ (List.mem_cons_of_mem _ (List.mem_cons_of_mem _ (List.mem_cons_of_mem _ (List.mem_cons_of_mem _ (List.mem_cons_of_mem _ (List.mem_cons_self)))))), List.forall_mem_cons.mpr ⟨List.mem_cons_self, fun _ h => absurd h List.not_mem_nil⟩⟩⟩⟩⟩⟩)) ?_
                          exact ih47 be lw (st_ + 1) w166 (by omega) (by omega) (by omega) (by omega) (hI168) (((hF66.tr (hF163.up (by decide))).tr (hF169.up (by decide))))
                      · refine xg_t (xg_icT (u := co) (v := lw) rfl xnm0 xnm0 (xj_neT hc159)) ?_
                        refine xg_t (xg_blq rfl) ?_
                        refine xg_t (xg_const) ?_
                        refine xg_t (xg_blq rfl) ?_
                        refine xg_t (xg_istore (l1 := [(0, (2, 82)), (1, (0, wh)), (2, (0, n41)), (3, (0, be)), (4, (0, lw)), (5, (0, st_)), (6, (0, co))]) rfl rfl rfl) ?_
                        refine xg_t (xg_iload (va := (0, 0)) rfl rfl) ?_
                        refine xg_t (xg_ifT (u := 0) rfl xnm0 (by decide)) ?_
                        refine xg_t (xg_blq rfl) ?_
                        refine xg_t (xg_iinc (u := st_) (z := st_ + 1) (l1 := [(7, (0, 0)), (0, (2, 82)), (1, (0, wh)), (2, (0, n41)), (3, (0, be)), (4, (0, lw)), (6, (0, co))]) rfl rfl (by omega) rfl) ?_
                        refine xg_t (xg_goto) ?_
                        refine xg_t (xg_drop (l1 := [(0, (2, 82)), (1, (0, wh)), (2, (0, n41)), (3, (0, be)), (4, (0, lw)), (5, (0, st_ + 1))]) (List.forall_mem_cons.mpr ⟨List.mem_cons_of_mem _ (List.mem_cons_of_mem _ (List.mem_cons_self)), List.forall_mem_cons.mpr ⟨List.mem_cons_of_mem _ (List.mem_cons_of_mem _ (List.mem_cons_of_mem _ (List.mem_cons_self))), List.forall_mem_cons.mpr ⟨List.mem_cons_of_mem _ (List.mem_cons_of_mem _ (List.mem_cons_of_mem _ (List.mem_cons_of_mem _ (List.mem_cons_self)))), List.forall_mem_cons.mpr ⟨List.mem_cons_of_mem _ (List.mem_cons_of_mem _ (List.mem_cons_of_mem _ (List.mem_cons_of_mem _ (List.mem_cons_of_mem _ (List.mem_cons_self))))), List.forall_mem_cons.mpr ⟨List.mem_cons_of_mem _ (List.mem_cons_of_mem _ (List.mem_cons_of_mem _ (List.mem_cons_of_mem _ (List.mem_cons_of_mem _ (List.mem_cons_of_mem _ (List.mem_cons_self)))))), List.forall_mem_cons.mpr ⟨List.mem_cons_self, fun _ h => absurd h List.not_mem_nil⟩⟩⟩⟩⟩⟩)) ?_
                        exact ih47 be lw (st_ + 1) w64 (by omega) (by omega) (by omega) (by omega) (hI65) (hF66)
                  · refine xg_t (xg_ifT (u := be) rfl xnm0 (xjz_ltT (by omega) (by omega))) ?_
                    refine xg_t (xg_blq rfl) ?_
                    refine xg_t (xg_const) ?_
                    refine xg_t (xg_goto) ?_
                    refine xg_t (xg_blq rfl) ?_
                    refine xg_t (xg_istore (l1 := [(0, (2, 82)), (1, (0, wh)), (2, (0, n41)), (3, (0, be)), (4, (0, lw)), (5, (0, st_)), (6, (0, co))]) rfl rfl rfl) ?_
                    refine xg_t (xg_iload (va := (0, 1)) rfl rfl) ?_
                    refine xg_t (xg_ifF (u := 1) rfl xnm0 (by decide)) ?_
                    refine xg_t (xg_aload (va := (2, 82)) rfl rfl) ?_
                    refine xg_t (xg_iload (va := (0, st_)) rfl rfl) ?_
                    refine xoCh82 (xqc82 hI65 : cp82 (wget w64 82)) (fun f82_212 f82_214 f82_216 f82_218 f82_220 f82_222 f82_224 f82_226 f82_228 f82_230 f82_232 f82_233 f82_234 f82_236 f82_238 f82_240 h82_242 hb213 hb215 hb217 hb219 hb221 hb223 hb225 hb227 hb229 hb231 hb235 hb237 hb239 hb241 hb243 => ?_)
                    refine xg_cVi mX12_isFedBy (vs := [(0, st_)]) (rest := []) (cn1 := 0) (sl1 := 0) rfl (mFedBy (hI65) (by omega)) rfl h82_242 rfl rfl rfl rfl rfl rfl (fun n248 w244 hq245 => ?_)
                    obtain ⟨hn249, hI246, hF247⟩ := hq245
                    by_cases hc250 : n248 = 0
                    · refine xg_t (xg_ifF (u := n248) rfl xnm0 (xj_neF hc250)) ?_
                      refine xg_t (xg_goto) ?_
                      refine xg_t (xg_blq rfl) ?_
                      refine xg_t (xg_iinc (u := st_) (z := st_ + 1) (l1 := [(7, (0, 1)), (0, (2, 82)), (1, (0, wh)), (2, (0, n41)), (3, (0, be)), (4, (0, lw)), (6, (0, co))]) rfl rfl (by omega) rfl) ?_
                      refine xg_t (xg_goto) ?_
                      refine xg_t (xg_drop (l1 := [(0, (2, 82)), (1, (0, wh)), (2, (0, n41)), (3, (0, be)), (4, (0, lw)), (5, (0, st_ + 1))]) (List.forall_mem_cons.mpr ⟨List.mem_cons_of_mem _ (List.mem_cons_of_mem _ (List.mem_cons_self)), List.forall_mem_cons.mpr ⟨List.mem_cons_of_mem _ (List.mem_cons_of_mem _ (List.mem_cons_of_mem _ (List.mem_cons_self))), List.forall_mem_cons.mpr ⟨List.mem_cons_of_mem _ (List.mem_cons_of_mem _ (List.mem_cons_of_mem _ (List.mem_cons_of_mem _ (List.mem_cons_self)))), List.forall_mem_cons.mpr ⟨List.mem_cons_of_mem _ (List.mem_cons_of_mem _ (List.mem_cons_of_mem _ (List.mem_cons_of_mem _ (List.mem_cons_of_mem _ (List.mem_cons_self))))), List.forall_mem_cons.mpr ⟨List.mem_cons_of_mem _ (List.mem_cons_of_mem _ (List.mem_cons_of_mem _ (List.mem_cons_of_mem _ (List.mem_cons_of_mem _ (List.mem_cons_of_mem _ (List.mem_cons_self)))))), List.forall_mem_cons.mpr ⟨List.mem_cons_self, fun _ h => absurd h List.not_mem_nil⟩⟩⟩⟩⟩⟩)) ?_
                      exact ih47 be lw (st_ + 1) w244 (by omega) (by omega) (by omega) (by omega) (hI246) ((hF66.tr (hF247.up (by decide))))
                    · refine xg_t (xg_ifT (u := n248) rfl xnm0 (xj_neT hc250)) ?_
                      refine xg_t (xg_blq rfl) ?_
                      refine xg_t (xg_iload (va := (0, st_)) rfl rfl) ?_
                      refine xg_t (xg_istore (l1 := [(7, (0, 1)), (0, (2, 82)), (1, (0, wh)), (2, (0, n41)), (4, (0, lw)), (5, (0, st_)), (6, (0, co))]) rfl rfl rfl) ?_
                      refine xg_t (xg_iload (va := (0, co)) rfl rfl) ?_
                      refine xg_t (xg_istore (l1 := [(3, (0, st_)), (7, (0, 1)), (0, (2, 82)), (1, (0, wh)), (2, (0, n41)), (5, (0, st_)), (6, (0, co))]) rfl rfl rfl) ?_
                      refine xg_t (xg_blq rfl) ?_
                      refine xg_t (xg_iinc (u := st_) (z := st_ + 1) (l1 := [(4, (0, co)), (3, (0, st_)), (7, (0, 1)), (0, (2, 82)), (1, (0, wh)), (2, (0, n41)), (6, (0, co))]) rfl rfl (by omega) rfl) ?_
                      refine xg_t (xg_goto) ?_
                      refine xg_t (xg_drop (l1 := [(0, (2, 82)), (1, (0, wh)), (2, (0, n41)), (3, (0, st_)), (4, (0, co)), (5, (0, st_ + 1))]) (List.forall_mem_cons.mpr ⟨List.mem_cons_of_mem _ (List.mem_cons_of_mem _ (List.mem_cons_of_mem _ (List.mem_cons_of_mem _ (List.mem_cons_self)))), List.forall_mem_cons.mpr ⟨List.mem_cons_of_mem _ (List.mem_cons_of_mem _ (List.mem_cons_of_mem _ (List.mem_cons_of_mem _ (List.mem_cons_of_mem _ (List.mem_cons_self))))), List.forall_mem_cons.mpr ⟨List.mem_cons_of_mem _ (List.mem_cons_of_mem _ (List.mem_cons_of_mem _ (List.mem_cons_of_mem _ (List.mem_cons_of_mem _ (List.mem_cons_of_mem _ (List.mem_cons_self)))))), List.forall_mem_cons.mpr ⟨List.mem_cons_of_mem _ (List.mem_cons_of_mem _ (List.mem_cons_self)), List.forall_mem_cons.mpr ⟨List.mem_cons_of_mem _ (List.mem_cons_self), List.forall_mem_cons.mpr ⟨List.mem_cons_self, fun _ h => absurd h List.not_mem_nil⟩⟩⟩⟩⟩⟩)) ?_
                      exact ih47 st_ co (st_ + 1) w244 (by omega) (by omega) (by omega) (by omega) (hI246) ((hF66.tr (hF247.up (by decide))))
            exact key61 _ 0 0 w49 (Nat.lt_succ_self _) (by omega) (by omega) (hI50) (hF51)
          · have hc58u := hc58
            unfold xbs at hc58u
            have hn251 : st_ ≤ 2147483647 := by omega
            refine xg_t (xg_icT (u := st_) (v := z56) rfl xnm0 xnm0 (xjs_geT hc58)) ?_
            refine xg_t (xg_blq rfl) ?_
            refine xg_t (xg_iload (va := (0, wh)) rfl rfl) ?_
            by_cases hc252 : wh = 0
            · refine xg_t (xg_ifF (u := wh) rfl xnm0 (xj_neF hc252)) ?_
              refine xg_t (xg_iload (va := (0, lw)) rfl rfl) ?_
              refine xg_t (xg_goto) ?_
              refine xg_t (xg_blq rfl) ?_
              exact xg_e ⟨lw, w49, ⟨rfl, rfl⟩, by omega, hI50, hF51⟩
            · refine xg_t (xg_ifT (u := wh) rfl xnm0 (xj_neT hc252)) ?_
              refine xg_t (xg_blq rfl) ?_
              refine xg_t (xg_iload (va := (0, wh)) rfl rfl) ?_
              refine xg_t (xg_const) ?_
              by_cases hc253 : wh = 1
              · refine xg_t (xg_icF (u := wh) (v := 1) rfl xnm0 xnm0 (xj_neF hc253)) ?_
                refine xg_t (xg_iload (va := (0, be)) rfl rfl) ?_
                refine xg_cSi mX12_ones (vs := [(0, be)]) (rest := []) (cn1 := 0) (sl1 := 0) rfl (mOnes (hI50) (by omega)) rfl rfl rfl rfl rfl rfl rfl (fun n258 w254 hq255 => ?_)
                obtain ⟨hn259, hI256, hF257⟩ := hq255
                refine xg_t (xg_goto) ?_
                refine xg_t (xg_blq rfl) ?_
                exact xg_e ⟨n258, w254, ⟨rfl, rfl⟩, by omega, hI256, (hF51.tr (hF257.up (by decide)))⟩
              · refine xg_t (xg_icT (u := wh) (v := 1) rfl xnm0 xnm0 (xj_neT hc253)) ?_
                refine xg_t (xg_blq rfl) ?_
                refine xg_t (xg_iload (va := (0, be)) rfl rfl) ?_
                refine xg_t (xg_blq rfl) ?_
                exact xg_e ⟨be, w49, ⟨rfl, rfl⟩, by omega, hI50, hF51⟩
      exact key46 _ 4294967295 0 0 w37 (Nat.lt_succ_self _) (by omega) (by omega) (by omega) (hI39) ((hF40.up (by decide)))
    · refine xg_t (xg_ifF (u := (if 0 ≤ wh ∧ wh ≤ 2 then 1 else 0)) rfl xnm0 (xj_neF (xite0 hc45))) ?_
      refine xg_t (xg_blq rfl) ?_
      refine xg_t (xg_const) ?_
      exact xg_e ⟨4294967295, w37, ⟨rfl, rfl⟩, by first | decide | omega, hI39, (hF40.up (by decide))⟩
theorem mDarkens (hI : xMnv w)  : xPi (d + 5) mX12_darkens [(2, 82)] w bd fc rr (fun n w' => (n ≤ 4294967295) ∧ xMnv w' ∧ xFr [82, 95, 96, 97, 98, 99, 100, 101, 102, 103, 104, 105] w w') := by
  refine xPi.of ?_
  show xTo (d + 5) mX12_darkens (0, [], [(0, (2, 82))], [], (w, bd, fc, 0, 0, rr)) (fun φ => ∃ n w', xEnd 1 [(0, n)] (w', bd, fc, 0, 0, rr) φ ∧ (n ≤ 4294967295) ∧ xMnv w' ∧ xFr [82, 95, 96, 97, 98, 99, 100, 101, 102, 103, 104, 105] w w')
  refine xoCh82 (xqc82 hI : cp82 (wget w 82)) (fun f82_1 f82_3 f82_5 f82_7 f82_9 f82_11 f82_13 f82_15 f82_17 f82_19 f82_21 f82_22 f82_23 f82_25 f82_27 f82_29 h82_31 hb2 hb4 hb6 hb8 hb10 hb12 hb14 hb16 hb18 hb20 hb24 hb26 hb28 hb30 hb32 => ?_)
  refine xoX83 (xqc83 hI : cpx83 (wget w 83)) (fun g83_33 h83_34 hb35 hx36 => ?_)
  refine xg_t (xg_blq rfl) ?_
  refine xg_t (xg_aload (va := (2, 82)) rfl rfl) ?_
  refine xg_cVv mX12_ages (vs := []) (rest := []) (cn1 := 0) (sl1 := 0) rfl (mAges (hI)) rfl h82_31 rfl rfl rfl rfl rfl rfl (fun w37 hq38 => ?_)
  obtain ⟨hI39, hF40⟩ := hq38
  refine xg_t (xg_aload (va := (2, 82)) rfl rfl) ?_
  refine xg_cVv mX12_damps (vs := []) (rest := []) (cn1 := 0) (sl1 := 0) rfl (mDamps (hI39)) rfl (hF40.get (by decide) h82_31) rfl rfl rfl rfl rfl rfl (fun w41 hq42 => ?_)
  obtain ⟨hI43, hF44⟩ := hq42
  refine xg_t (xg_aload (va := (2, 82)) rfl rfl) ?_
  refine xg_cVi mX12_fedRows (vs := []) (rest := []) (cn1 := 0) (sl1 := 0) rfl (mFedRows (hI43)) rfl (hF44.get (by decide) (hF40.get (by decide) h82_31)) rfl rfl rfl rfl rfl rfl (fun n49 w45 hq46 => ?_)
  obtain ⟨hn50, hI47, hF48⟩ := hq46
  exact xg_e ⟨n49, w45, ⟨rfl, rfl⟩, by omega, hI47, (((hF40.up (by decide)).tr (hF44.up (by decide))).tr (hF48.up (by decide)))⟩
theorem mIsDark {kk rw_ : Nat} (hI : xMnv w) (hkk : kk ≤ 35) (hrw_ : rw_ ≤ 4294967295) : xPi (d + 1) mX12_isDark [(2, 82), (0, kk), (0, rw_)] w bd fc rr (fun n w' => (n ≤ 1) ∧ xMnv w' ∧ xFr [] w w') := by
  refine xPi.of ?_
  show xTo (d + 1) mX12_isDark (0, [], [(0, (2, 82)), (1, (0, kk)), (2, (0, rw_))], [], (w, bd, fc, 0, 0, rr)) (fun φ => ∃ n w', xEnd 4 [(0, n)] (w', bd, fc, 0, 0, rr) φ ∧ (n ≤ 1) ∧ xMnv w' ∧ xFr [] w w')
  refine xoCh82 (xqc82 hI : cp82 (wget w 82)) (fun f82_1 f82_3 f82_5 f82_7 f82_9 f82_11 f82_13 f82_15 f82_17 f82_19 f82_21 f82_22 f82_23 f82_25 f82_27 f82_29 h82_31 hb2 hb4 hb6 hb8 hb10 hb12 hb14 hb16 hb18 hb20 hb24 hb26 hb28 hb30 hb32 => ?_)
  refine xoI (xqc104 hI : cpI 36 71 4294967295 (wget w 104)) (fun g104_33 h104_34 hb35 => ?_)
  refine xg_t (xg_blq rfl) ?_
  refine xg_t (xg_aload (va := (2, 82)) rfl rfl) ?_
  refine xg_t (xg_iload (va := (0, kk)) rfl rfl) ?_
  refine xg_cVi mX12_leftOf (vs := [(0, kk)]) (rest := []) (cn1 := 0) (sl1 := 0) rfl (mLeftOf (hI) (by omega)) rfl h82_31 rfl rfl rfl rfl rfl rfl (fun n40 w36 hq37 => ?_)
  obtain ⟨hn41, hI38, hF39⟩ := hq37
  by_cases hc42 : n40 = 0
  · refine xg_t (xg_ifT (u := n40) rfl xnm0 (xj_eqT hc42)) ?_
    refine xg_t (xg_blq rfl) ?_
    refine xg_t (xg_const) ?_
    refine xg_t (xg_goto) ?_
    refine xg_t (xg_blq rfl) ?_
    exact xg_e ⟨1, w36, ⟨rfl, rfl⟩, by first | decide | omega, hI38, (hF39.up (by decide))⟩
  · refine xg_t (xg_ifF (u := n40) rfl xnm0 (xj_eqF hc42)) ?_
    refine xg_t (xg_iload (va := (0, rw_)) rfl rfl) ?_
    refine xg_t (xg_iload (va := (0, kk)) rfl rfl) ?_
    refine xg_t (xg_bip) ?_
    refine xg_t (xg_idiv (u := kk) (v := 6) (z := kk / 6) xnm0 xnm0 (by omega) (by decide) (by decide) (rfl)) ?_
    refine xg_k (xg_ishrG (u := rw_) (v := kk / 6) xnm0 xnm0) (xpt_lt _) (fun z43 hz44 => ?_)
    refine xg_t (xg_const) ?_
    refine xg_k (xg_iand (z := Nat.land z43 1) (u := z43) (v := 1) xnm0 xnm0 rfl) (xland_lt (by omega)) (fun z45 hz46 => ?_)
    by_cases hc47 : z45 = 0
    · refine xg_t (xg_ifT (u := z45) rfl xnm0 (xj_eqT hc47)) ?_
      refine xg_t (xg_blq rfl) ?_
      refine xg_t (xg_const) ?_
      refine xg_t (xg_goto) ?_
      refine xg_t (xg_blq rfl) ?_
      exact xg_e ⟨1, w36, ⟨rfl, rfl⟩, by first | decide | omega, hI38, (hF39.up (by decide))⟩
    · refine xg_t (xg_ifF (u := z45) rfl xnm0 (xj_eqF hc47)) ?_
      refine xg_t (xg_aload (va := (2, 82)) rfl rfl) ?_
      refine xg_t (xg_getf (va := (2, 104)) (hF39.get (by decide) h82_31) rfl) ?_
      refine xg_t (xg_iload (va := (0, kk)) rfl rfl) ?_
      refine xg_ialdB (n := kk) (B := 4294967295) (h104_34.fr hF39 (by decide)) (hb35) xnm0 (by omega) (fun u48 hu49 he50 => ?_)
      refine xg_t (xg_bip) ?_
      by_cases hc51 : xbs u48 < xbs 50
      · have hc51u := hc51
        unfold xbs at hc51u
        refine xg_t (xg_icT (u := u48) (v := 50) rfl xnm0 xnm0 (xjs_ltT hc51)) ?_
        refine xg_t (xg_blq rfl) ?_
        refine xg_t (xg_const) ?_
        refine xg_t (xg_blq rfl) ?_
        exact xg_e ⟨0, w36, ⟨rfl, rfl⟩, by first | decide | omega, hI38, (hF39.up (by decide))⟩
      · have hc51u := hc51
        unfold xbs at hc51u
        have hn52 : u48 ≤ 2147483647 := by omega
        refine xg_t (xg_icF (u := u48) (v := 50) rfl xnm0 xnm0 (xjs_ltF hc51)) ?_
        refine xg_t (xg_blq rfl) ?_
        refine xg_t (xg_const) ?_
        refine xg_t (xg_goto) ?_
        refine xg_t (xg_blq rfl) ?_
        exact xg_e ⟨1, w36, ⟨rfl, rfl⟩, by first | decide | omega, hI38, (hF39.up (by decide))⟩
theorem mDark {ra ca : Nat} (hI : xMnv w) (hra : ra ≤ 4294967295) (hca : ca ≤ 4294967295) : xPi (d + 6) mX12_dark [(2, 82), (0, ra), (0, ca)] w bd fc rr (fun n w' => (n ≤ 1) ∧ xMnv w' ∧ xFr [82, 95, 96, 97, 98, 99, 100, 101, 102, 103, 104, 105] w w') := by
  refine xPi.of ?_
  show xTo (d + 6) mX12_dark (0, [], [(0, (2, 82)), (1, (0, ra)), (2, (0, ca))], [], (w, bd, fc, 0, 0, rr)) (fun φ => ∃ n w', xEnd 4 [(0, n)] (w', bd, fc, 0, 0, rr) φ ∧ (n ≤ 1) ∧ xMnv w' ∧ xFr [82, 95, 96, 97, 98, 99, 100, 101, 102, 103, 104, 105] w w')
  refine xoCh82 (xqc82 hI : cp82 (wget w 82)) (fun f82_1 f82_3 f82_5 f82_7 f82_9 f82_11 f82_13 f82_15 f82_17 f82_19 f82_21 f82_22 f82_23 f82_25 f82_27 f82_29 h82_31 hb2 hb4 hb6 hb8 hb10 hb12 hb14 hb16 hb18 hb20 hb24 hb26 hb28 hb30 hb32 => ?_)
  refine xoX83 (xqc83 hI : cpx83 (wget w 83)) (fun g83_33 h83_34 hb35 hx36 => ?_)
  refine xg_t (xg_blq rfl) ?_
  refine xg_t (xg_aload (va := (2, 82)) rfl rfl) ?_
  refine xg_t (xg_iload (va := (0, ra)) rfl rfl) ?_
  refine xg_t (xg_iload (va := (0, ca)) rfl rfl) ?_
  have hl37 := hx36.l5
  have hl38 := hx36.l6
  refine xg_cVi mX12_isPoint (vs := [(0, ra), (0, ca)]) (rest := []) (cn1 := 0) (sl1 := 0) rfl (mPoint (hI) (by omega) (by omega) h83_34 hb35 hx36) rfl h82_31 rfl rfl rfl rfl rfl rfl (fun n43 w39 hq40 => ?_)
  obtain ⟨hn44, hI41, hF42⟩ := hq40
  by_cases hc45 : n43 = 0
  · refine xg_t (xg_ifF (u := n43) rfl xnm0 (xj_neF hc45)) ?_
    refine xg_t (xg_const) ?_
    exact xg_e ⟨0, w39, ⟨rfl, rfl⟩, by first | decide | omega, hI41, (hF42.up (by decide))⟩
  · refine xg_t (xg_ifT (u := n43) rfl xnm0 (xj_neT hc45)) ?_
    refine xg_t (xg_blq rfl) ?_
    refine xg_t (xg_aload (va := (2, 82)) rfl rfl) ?_
    refine xg_cVi mX12_darkens (vs := []) (rest := []) (cn1 := 0) (sl1 := 0) rfl (mDarkens (hI41)) rfl (hF42.get (by decide) h82_31) rfl rfl rfl rfl rfl rfl (fun n50 w46 hq47 => ?_)
    obtain ⟨hn51, hI48, hF49⟩ := hq47
    refine xg_t (xg_istore (l1 := [(0, (2, 82)), (1, (0, ra)), (2, (0, ca))]) rfl rfl rfl) ?_
    refine xg_t (xg_aload (va := (2, 82)) rfl rfl) ?_
    refine xg_t (xg_bip) ?_
    refine xg_t (xg_iload (va := (0, ra)) rfl rfl) ?_
    refine xg_t (xg_imul (u := 6) (v := ra) (z := 6 * ra) xnm0 xnm0 (by omega)) ?_
    refine xg_t (xg_iload (va := (0, ca)) rfl rfl) ?_
    refine xg_t (xg_iadd (u := 6 * ra) (v := ca) (z := (6 * ra) + ca) xnm0 xnm0 (by omega)) ?_
    refine xg_t (xg_iload (va := (0, n50)) rfl rfl) ?_
    refine xoCh82 (xqc82 hI48 : cp82 (wget w46 82)) (fun f82_52 f82_54 f82_56 f82_58 f82_60 f82_62 f82_64 f82_66 f82_68 f82_70 f82_72 f82_73 f82_74 f82_76 f82_78 f82_80 h82_82 hb53 hb55 hb57 hb59 hb61 hb63 hb65 hb67 hb69 hb71 hb75 hb77 hb79 hb81 hb83 => ?_)
    refine xg_cVi mX12_isDark (vs := [(0, (6 * ra) + ca), (0, n50)]) (rest := []) (cn1 := 0) (sl1 := 0) rfl (mIsDark (hI48) (by omega) (by omega)) rfl h82_82 rfl rfl rfl rfl rfl rfl (fun n88 w84 hq85 => ?_)
    obtain ⟨hn89, hI86, hF87⟩ := hq85
    exact xg_e ⟨n88, w84, ⟨xret_b (by omega), rfl⟩, by omega, hI86, (((hF42.up (by decide)).tr (hF49.up (by decide))).tr (hF87.up (by decide)))⟩
theorem mDarks (hI : xMnv w)  : xPi (d + 6) mX12_darks [(2, 82)] w bd fc rr (fun n w' => (n ≤ 4294967295) ∧ xMnv w' ∧ xFr [82, 95, 96, 97, 98, 99, 100, 101, 102, 103, 104, 105] w w') := by
  refine xPi.of ?_
  show xTo (d + 6) mX12_darks (0, [], [(0, (2, 82))], [], (w, bd, fc, 0, 0, rr)) (fun φ => ∃ n w', xEnd 1 [(0, n)] (w', bd, fc, 0, 0, rr) φ ∧ (n ≤ 4294967295) ∧ xMnv w' ∧ xFr [82, 95, 96, 97, 98, 99, 100, 101, 102, 103, 104, 105] w w')
  refine xoCh82 (xqc82 hI : cp82 (wget w 82)) (fun f82_1 f82_3 f82_5 f82_7 f82_9 f82_11 f82_13 f82_15 f82_17 f82_19 f82_21 f82_22 f82_23 f82_25 f82_27 f82_29 h82_31 hb2 hb4 hb6 hb8 hb10 hb12 hb14 hb16 hb18 hb20 hb24 hb26 hb28 hb30 hb32 => ?_)
  refine xoX83 (xqc83 hI : cpx83 (wget w 83)) (fun g83_33 h83_34 hb35 hx36 => ?_)
  refine xg_t (xg_blq rfl) ?_
  refine xg_t (xg_aload (va := (2, 82)) rfl rfl) ?_
  refine xg_cVi mX12_darkens (vs := []) (rest := []) (cn1 := 0) (sl1 := 0) rfl (mDarkens (hI)) rfl h82_31 rfl rfl rfl rfl rfl rfl (fun n41 w37 hq38 => ?_)
  obtain ⟨hn42, hI39, hF40⟩ := hq38
  refine xg_t (xg_istore (l1 := [(0, (2, 82))]) rfl rfl rfl) ?_
  refine xg_t (xg_const) ?_
  refine xg_t (xg_istore (l1 := [(1, (0, n41)), (0, (2, 82))]) rfl rfl rfl) ?_
  refine xg_t (xg_const) ?_
  refine xg_t (xg_istore (l1 := [(2, (0, 0)), (1, (0, n41)), (0, (2, 82))]) rfl rfl rfl) ?_
  refine xg_t (xg_drop (l1 := [(0, (2, 82)), (1, (0, n41)), (2, (0, 0)), (3, (0, 0))]) (List.forall_mem_cons.mpr ⟨List.mem_cons_of_mem _ (List.mem_cons_of_mem _ (List.mem_cons_of_mem _ (List.mem_cons_self))), List.forall_mem_cons.mpr ⟨List.mem_cons_of_mem _ (List.mem_cons_of_mem _ (List.mem_cons_self)), List.forall_mem_cons.mpr ⟨List.mem_cons_of_mem _ (List.mem_cons_self), List.forall_mem_cons.mpr ⟨List.mem_cons_self, fun _ h => absurd h List.not_mem_nil⟩⟩⟩⟩)) ?_
  have key43 : ∀ (m45 : Nat) (nn ki : Nat) (w46 : List (List xE)), 36 - ki < m45 → nn ≤ 4294967295 → ki ≤ 36 → xMnv w46 → xFr [82, 95, 96, 97, 98, 99, 100, 101, 102, 103, 104, 105] w w46 → xTo (d + 6) mX12_darks (9, [], [(0, (2, 82)), (1, (0, n41)), (2, (0, nn)), (3, (0, ki))], [], (w46, bd, fc, 0, 0, rr)) (fun φ => ∃ n w', xEnd 1 [(0, n)] (w', bd, fc, 0, 0, rr) φ ∧ (n ≤ 4294967295) ∧ xMnv w' ∧ xFr [82, 95, 96, 97, 98, 99, 100, 101, 102, 103, 104, 105] w w') := by
    intro m45
    induction m45 with
    | zero => intro nn ki w46 hz; exact absurd hz (Nat.not_lt_zero _)
    | succ m45 ih44 =>
      intro nn ki w46 hm51 hn49 hn50 hI47 hF48
      refine xg_t (xg_blq rfl) ?_
      refine xg_t (xg_iload (va := (0, ki)) rfl rfl) ?_
      refine xg_t (xg_bip) ?_
      by_cases hc52 : ki < 36
      · refine xg_t (xg_icF (u := ki) (v := 36) rfl xnm0 xnm0 (xj_geF hc52 (by omega))) ?_
        refine xg_t (xg_iload (va := (0, nn)) rfl rfl) ?_
        refine xg_t (xg_aload (va := (2, 82)) rfl rfl) ?_
        refine xg_t (xg_iload (va := (0, ki)) rfl rfl) ?_
        refine xg_t (xg_bip) ?_
        refine xg_t (xg_idiv (u := ki) (v := 6) (z := ki / 6) xnm0 xnm0 (by omega) (by decide) (by decide) (rfl)) ?_
        refine xg_t (xg_iload (va := (0, ki)) rfl rfl) ?_
        refine xg_t (xg_bip) ?_
        refine xg_t (xg_irem (u := ki) (v := 6) (z := ki % 6) xnm0 xnm0 (by omega) (by decide) (by decide) (rfl)) ?_
        have hl53 := hx36.l5
        have hl54 := hx36.l6
        refine xoCh82 (xqc82 hI47 : cp82 (wget w46 82)) (fun f82_55 f82_57 f82_59 f82_61 f82_63 f82_65 f82_67 f82_69 f82_71 f82_73 f82_75 f82_76 f82_77 f82_79 f82_81 f82_83 h82_85 hb56 hb58 hb60 hb62 hb64 hb66 hb68 hb70 hb72 hb74 hb78 hb80 hb82 hb84 hb86 => ?_)
        refine xg_cVi mX12_isPoint (vs := [(0, ki / 6), (0, ki % 6)]) (rest := [(0, nn)]) (cn1 := 0) (sl1 := 0) rfl (mPoint (hI47) (by omega) (by omega) (h83_34.fr hF48 (by decide)) hb35 hx36) rfl h82_85 rfl rfl rfl rfl rfl rfl (fun n91 w87 hq88 => ?_)
        obtain ⟨hn92, hI89, hF90⟩ := hq88
        by_cases hc93 : n91 = 0
        · refine xg_t (xg_ifT (u := n91) rfl xnm0 (xj_eqT hc93)) ?_
          refine xg_t (xg_blq rfl) ?_
          refine xg_t (xg_const) ?_
          refine xg_t (xg_blq rfl) ?_
          refine xg_k (xg_iadd (u := nn) (v := 0) (z := (nn + 0) % 4294967296) xnm0 xnm0 rfl) (Nat.mod_lt _ (by decide)) (fun z94 hz95 => ?_)
          refine xg_t (xg_istore (l1 := [(0, (2, 82)), (1, (0, n41)), (3, (0, ki))]) rfl rfl rfl) ?_
          refine xg_t (xg_iinc (u := ki) (z := ki + 1) (l1 := [(2, (0, z94)), (0, (2, 82)), (1, (0, n41))]) rfl rfl (by omega) rfl) ?_
          refine xg_t (xg_goto) ?_
          refine xg_t (xg_drop (l1 := [(0, (2, 82)), (1, (0, n41)), (2, (0, z94)), (3, (0, ki + 1))]) (List.forall_mem_cons.mpr ⟨List.mem_cons_of_mem _ (List.mem_cons_of_mem _ (List.mem_cons_self)), List.forall_mem_cons.mpr ⟨List.mem_cons_of_mem _ (List.mem_cons_of_mem _ (List.mem_cons_of_mem _ (List.mem_cons_self))), List.forall_mem_cons.mpr ⟨List.mem_cons_of_mem _ (List.mem_cons_self), List.forall_mem_cons.mpr ⟨List.mem_cons_self, fun _ h => absurd h List.not_mem_nil⟩⟩⟩⟩)) ?_
          exact ih44 z94 (ki + 1) w87 (by omega) (by omega) (by omega) (hI89) ((hF48.tr (hF90.up (by decide))))
        · refine xg_t (xg_ifF (u := n91) rfl xnm0 (xj_eqF hc93)) ?_
          refine xg_t (xg_aload (va := (2, 82)) rfl rfl) ?_
          refine xg_t (xg_iload (va := (0, ki)) rfl rfl) ?_
          refine xg_t (xg_iload (va := (0, n41)) rfl rfl) ?_
          refine xg_cVi mX12_isDark (vs := [(0, ki), (0, n41)]) (rest := [(0, nn)]) (cn1 := 0) (sl1 := 0) rfl (mIsDark (hI89) (by omega) (by omega)) rfl (hF90.get (by decide) h82_85) rfl rfl rfl rfl rfl rfl (fun n100 w96 hq97 => ?_)
          obtain ⟨hn101, hI98, hF99⟩ := hq97
          by_cases hc102 : n100 = 0
          · refine xg_t (xg_ifT (u := n100) rfl xnm0 (xj_eqT hc102)) ?_
            refine xg_t (xg_blq rfl) ?_
            refine xg_t (xg_const) ?_
            refine xg_t (xg_blq rfl) ?_
            refine xg_k (xg_iadd (u := nn) (v := 0) (z := (nn + 0) % 4294967296) xnm0 xnm0 rfl) (Nat.mod_lt _ (by decide)) (fun z103 hz104 => ?_)
            refine xg_t (xg_istore (l1 := [(0, (2, 82)), (1, (0, n41)), (3, (0, ki))]) rfl rfl rfl) ?_
            refine xg_t (xg_iinc (u := ki) (z := ki + 1) (l1 := [(2, (0, z103)), (0, (2, 82)), (1, (0, n41))]) rfl rfl (by omega) rfl) ?_
            refine xg_t (xg_goto) ?_
            refine xg_t (xg_drop (l1 := [(0, (2, 82)), (1, (0, n41)), (2, (0, z103)), (3, (0, ki + 1))]) (List.forall_mem_cons.mpr ⟨List.mem_cons_of_mem _ (List.mem_cons_of_mem _ (List.mem_cons_self)), List.forall_mem_cons.mpr ⟨List.mem_cons_of_mem _ (List.mem_cons_of_mem _ (List.mem_cons_of_mem _ (List.mem_cons_self))), List.forall_mem_cons.mpr ⟨List.mem_cons_of_mem _ (List.mem_cons_self), List.forall_mem_cons.mpr ⟨List.mem_cons_self, fun _ h => absurd h List.not_mem_nil⟩⟩⟩⟩)) ?_
            exact ih44 z103 (ki + 1) w96 (by omega) (by omega) (by omega) (hI98) (((hF48.tr (hF90.up (by decide))).tr (hF99.up (by decide))))
          · refine xg_t (xg_ifF (u := n100) rfl xnm0 (xj_eqF hc102)) ?_
            refine xg_t (xg_const) ?_
            refine xg_t (xg_goto) ?_
            refine xg_t (xg_blq rfl) ?_
            refine xg_k (xg_iadd (u := nn) (v := 1) (z := (nn + 1) % 4294967296) xnm0 xnm0 rfl) (Nat.mod_lt _ (by decide)) (fun z105 hz106 => ?_)
            refine xg_t (xg_istore (l1 := [(0, (2, 82)), (1, (0, n41)), (3, (0, ki))]) rfl rfl rfl) ?_
            refine xg_t (xg_iinc (u := ki) (z := ki + 1) (l1 := [(2, (0, z105)), (0, (2, 82)), (1, (0, n41))]) rfl rfl (by omega) rfl) ?_
            refine xg_t (xg_goto) ?_
            refine xg_t (xg_drop (l1 := [(0, (2, 82)), (1, (0, n41)), (2, (0, z105)), (3, (0, ki + 1))]) (List.forall_mem_cons.mpr ⟨List.mem_cons_of_mem _ (List.mem_cons_of_mem _ (List.mem_cons_self)), List.forall_mem_cons.mpr ⟨List.mem_cons_of_mem _ (List.mem_cons_of_mem _ (List.mem_cons_of_mem _ (List.mem_cons_self))), List.forall_mem_cons.mpr ⟨List.mem_cons_of_mem _ (List.mem_cons_self), List.forall_mem_cons.mpr ⟨List.mem_cons_self, fun _ h => absurd h List.not_mem_nil⟩⟩⟩⟩)) ?_
            exact ih44 z105 (ki + 1) w96 (by omega) (by omega) (by omega) (hI98) (((hF48.tr (hF90.up (by decide))).tr (hF99.up (by decide))))
      · refine xg_t (xg_icT (u := ki) (v := 36) rfl xnm0 xnm0 (xj_geT (by omega) (by omega))) ?_
        refine xg_t (xg_blq rfl) ?_
        refine xg_t (xg_iload (va := (0, nn)) rfl rfl) ?_
        exact xg_e ⟨nn, w46, ⟨rfl, rfl⟩, by omega, hI47, hF48⟩
  exact key43 _ 0 0 w37 (Nat.lt_succ_self _) (by omega) (by omega) (hI39) ((hF40.up (by decide)))
end XM4
end
