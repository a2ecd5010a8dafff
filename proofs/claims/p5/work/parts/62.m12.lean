/-! the model: film; images -/
theorem okB_sh {f : Nat → Nat} {b : Nat} (h : okB f 0) : okB (fun j => f (j - b)) b := by
  unfold okB at h ⊢
  simp only [Nat.zero_add] at h
  have e : ∀ t, b + t - b = t := fun t => Nat.add_sub_cancel_left ..
  have e0 : b - b = 0 := Nat.sub_self b
  simp only [e, e0, Nat.add_assoc]
  simp only [Nat.add_assoc] at h
  exact h
theorem okB_dn {f : Nat → Nat} {b : Nat} (h : okB f b) : okB (fun j => f (b + j)) 0 := by
  unfold okB at h ⊢
  simp only [Nat.zero_add, Nat.add_zero]
  simp only [Nat.add_assoc] at h ⊢
  exact h
noncomputable def rwk (w : List (List xE)) (k j : Nat) : Nat := match wget w k with
  | some (.inr a) => (xat a.1 a.2.2.2 j).2
  | _ => 0
theorem rwk_of {w : List (List xE)} {kd tg k L t j : Nat} {f : Nat → Nat} (h : xRk kd tg w k L t f) (hj : j < L) : rwk w k j = f j := by
  obtain ⟨us, h1, h2⟩ := h
  unfold rwk
  rw [h1]
  show (xat kd us j).2 = f j
  rw [h2 j hj]
theorem rwk_eq {w w' : List (List xE)} {k j : Nat} (h : wget w' k = wget w k) : rwk w' k j = rwk w k j := by
  unfold rwk
  rw [h]
def dt (m r : Nat → Nat) : Prop := m 0 ≤ 6 ∧ m 1 ≤ 4 ∧ m 2 ≤ 6 ∧ m 3 ≤ 4 ∧ m 4 ≤ 20 ∧ (1 ≤ r 5 ∧ r 5 ≤ 6) ∧ (1 ≤ r 6 ∧ r 6 ≤ 6) ∧ (1 ≤ r 7 ∧ r 7 ≤ 10) ∧ (1 ≤ r 8 ∧ r 8 ≤ 10) ∧ (∀ k i, k < m 0 → i < 3 → 1 ≤ r (20 + 4 * k + i) ∧ r (20 + 4 * k + i) ≤ 99) ∧ ∀ k, k < m 1 → 1 ≤ r (51 + 2 * k) ∧ r (51 + 2 * k) ≤ 999
theorem DATA.toDt {w : List (List xE)} {m r : Nat → Nat} (h : DATA w) (h1 : xRow w 85 7 52 m) (h2 : xRow w 86 140 53 r) : dt m r := by
  obtain ⟨m0, m1, m2, m3, m4, r5, r6, r7, r8, d0, d1⟩ := h
  have e0 := rwv_of h1 (show 0 < 7 by decide)
  have e1 := rwv_of h1 (show 1 < 7 by decide)
  have e2 := rwv_of h1 (show 2 < 7 by decide)
  have e3 := rwv_of h1 (show 3 < 7 by decide)
  have e4 := rwv_of h1 (show 4 < 7 by decide)
  have f5 := rwv_of h2 (show 5 < 140 by decide)
  have f6 := rwv_of h2 (show 6 < 140 by decide)
  have f7 := rwv_of h2 (show 7 < 140 by decide)
  have f8 := rwv_of h2 (show 8 < 140 by decide)
  refine ⟨by omega, by omega, by omega, by omega, by omega, by omega, by omega, by omega, by omega, fun k i hk hi => ?_, fun k hk => ?_⟩
  · rw [← rwv_of h2 (show 20 + 4 * k + i < 140 by omega)]
    exact d0 k i (by omega) hi
  · rw [← rwv_of h2 (show 51 + 2 * k < 140 by omega)]
    exact d1 k (by omega)
theorem DATA.fr {S : List Nat} {w w' : List (List xE)} (h : DATA w) (hf : xFr S w w') (h1 : 85 ∉ S) (h2 : 86 ∉ S) : DATA w' := by
  unfold DATA
  simp only [fun j => rwv_fr (k := 85) (j := j) hf h1, fun j => rwv_fr (k := 86) (j := j) hf h2]
  exact h
theorem film_ok {f h m r : Nat → Nat} (hf : okA f) (D : dt m r) (a0 : h 0 = m 0) (a1 : h 1 = m 1) (a2 : h 2 = m 2) (a3 : h 3 = m 3) (a4 : h 4 = m 4) (a5 : h 5 = r 5) (a6 : h 6 = r 6) (a7 : h 7 = r 7) (a8 : h 8 = r 8) (a9 : h 9 = 0) (a10 : h 10 = 0) (hr : ∀ j, 20 ≤ j → j < 140 → h j = r j) (ho : ∀ j, 140 ≤ j ∨ j = 13 ∨ j = 15 → h j = f j) : okA h := by
  obtain ⟨m0, m1, m2, m3, m4, r5, r6, r7, r8, d0, d1⟩ := D
  have e13 := ho 13 (by omega)
  have e15 := ho 15 (by omega)
  have e900 := ho 900 (by omega)
  have e901 := ho 901 (by omega)
  have e902 := ho 902 (by omega)
  have b13 := hf.l13
  have b15 := hf.l15
  have b900 := hf.l900
  have b901 := hf.l901
  have b902 := hf.l902
  refine hf.mk0 (fun j hj => ho j (by omega)) (okB.of0 ⟨by omega, by omega, by omega, by omega, by omega, by omega, by omega, by omega, by omega, by omega, by omega, by omega, by omega, by omega, by omega, by omega, by omega⟩ ?_ ?_ ?_ ?_)
  · intro k i hk hi
    rw [hr _ (by omega) (by omega)]
    exact d0 k i (by omega) hi
  · intro k hk
    rw [hr _ (by omega) (by omega)]
    exact d1 k (by omega)
  · intro p i hk hi
    omega
  · intro l hk
    rw [ho _ (by omega)]
    exact hf.rul (by omega)
theorem okA.copy {f g : Nat → Nat} {B : Nat} (hf : okA f) (hB : B = 1340 ∨ B = 2680 ∨ B = 4020) (h1 : ∀ i, 0 ≤ i → i < 1340 → g (B + i) = f i) (h2 : ∀ j, j < B ∨ B + 1340 ≤ j → g j = f j) : okA g := by
  have key : ∀ b, (b = 0 ∨ b = 1340 ∨ b = 2680 ∨ b = 4020) → okB f b → okB g b := by
    intro b hb hk
    by_cases z : b = B
    · subst z
      have q : okB (fun j => f (j - b)) b := okB_sh hf.1
      exact okB_congr (fun t ht => by rw [h1 t (by omega) ht]; show _ = f (b + t - b); rw [Nat.add_sub_cancel_left]) q
    · exact okB_congr (fun t ht => h2 _ (by omega)) hk
  exact ⟨key 0 (by omega) hf.1, key 1340 (by omega) hf.2.1, key 2680 (by omega) hf.2.2.1, key 4020 (by omega) hf.2.2.2⟩
theorem okA.back {f g : Nat → Nat} {B : Nat} (hf : okA f) (hB : B = 1340 ∨ B = 2680 ∨ B = 4020) (h1 : ∀ i, 0 ≤ i → i < 1340 → g i = f (B + i)) (h2 : ∀ j, j < 0 ∨ 1340 ≤ j → g j = f j) : okA g := by
  have hb : okB f B := by
    rcases hB with rfl | rfl | rfl
    · exact hf.2.1
    · exact hf.2.2.1
    · exact hf.2.2.2
  refine hf.mk0 (fun j hj => h2 j (Or.inr hj)) ?_
  have q : okB (fun j => f (B + j)) 0 := okB_dn hb
  exact okB_congr (fun t ht => by show g (0 + t) = f (B + (0 + t)); rw [Nat.zero_add]; exact h1 t (by omega) ht) q
section XMC
variable {d : Nat} {w : List (List xE)} {bd : List (Nat × Nat)} {fc : List (Nat × Nat × Bool)} {rr : Nat × Nat}
theorem cpFilm {P : xS → Prop} {r : Nat → Nat} {q0 q1 q2 q3 q4 q5 q6 q7 q8 q9 q10 q11 q12 q13 q14 q15 : Nat} : ∀ (n k : Nat) (w : List (List xE)) (f : Nat → Nat), k + n = 140 → xRow w 83 5360 50 f → (∀ j, f j ≤ 4294967295) → xRow w 86 140 53 r → (∀ j, r j ≤ 4294967295) → wget w 82 = some (.inl (12, [(2, 83), (2, 84), (0, q0), (0, q1), (0, q2), (0, q3), (0, q4), (0, q5), (0, q6), (0, q7), (0, q8), (2, 85), (2, 86), (2, 87), (0, q9), (2, 88), (2, 89), (2, 90), (2, 91), (2, 92), (2, 93), (2, 94), (4, q10), (4, q11), (0, q12), (2, 95), (2, 96), (2, 97), (2, 98), (2, 99), (2, 100), (2, 101), (2, 102), (0, q13), (2, 103), (2, 104), (2, 105), (2, 106), (2, 107), (2, 108), (2, 109), (0, q14), (0, q15), (2, 110), (2, 111), (2, 112), (2, 113)])) → (∀ w2 f2, xRow w2 83 5360 50 f2 → (∀ j, f2 j ≤ 4294967295) → xBut 83 w w2 → (∀ i, k ≤ i → i < 140 → f2 (i) = r (i)) → (∀ j, j < k ∨ 140 ≤ j → f2 j = f j) → xTo d mX12_film (256, [], [(0, (2, 82)), (1, (0, 140))], [], (w2, bd, fc, 0, 0, rr)) P) → xTo d mX12_film (231, [], [(0, (2, 82)), (1, (0, k))], [], (w, bd, fc, 0, 0, rr)) P
  | 0, k, w, f, hn, h, hB, hs, hsB, hc, K => by
    refine xg_t (xg_blk (b := [(231, 1, 2, 1, 0, 0), (232, 3, 5, 140, 0, 0), (235, 3, 6, 256, 3, 0), (238, 1, 0, 0, 0, 0), (239, 3, 1, 12, 0, 7), (242, 1, 2, 1, 0, 0), (243, 1, 0, 0, 0, 0), (244, 3, 1, 12, 12, 20), (247, 1, 2, 1, 0, 0), (248, 1, 10, 0, 0, 0), (249, 1, 17, 0, 0, 0), (250, 3, 9, 1, 1, 0), (253, 3, 8, 231, 0, 0)]) rfl) ?_
    refine xg_t (xg_iload (va := (0, k)) rfl rfl) ?_
    refine xg_t (xg_sip) ?_
    refine xg_t (xg_icT (u := k) (v := 140) rfl xnm0 xnm0 (xj_geT (by omega) (by omega))) ?_
    have e : k = 140 := by omega
    subst e
    exact K w f h hB xBut.rf (fun i hi hl => absurd hl (by omega)) (fun j _ => rfl)
  | n + 1, k, w, f, hn, h, hB, hs, hsB, hc, K => by
    refine xg_t (xg_blk (b := [(231, 1, 2, 1, 0, 0), (232, 3, 5, 140, 0, 0), (235, 3, 6, 256, 3, 0), (238, 1, 0, 0, 0, 0), (239, 3, 1, 12, 0, 7), (242, 1, 2, 1, 0, 0), (243, 1, 0, 0, 0, 0), (244, 3, 1, 12, 12, 20), (247, 1, 2, 1, 0, 0), (248, 1, 10, 0, 0, 0), (249, 1, 17, 0, 0, 0), (250, 3, 9, 1, 1, 0), (253, 3, 8, 231, 0, 0)]) rfl) ?_
    refine xg_t (xg_iload (va := (0, k)) rfl rfl) ?_
    refine xg_t (xg_sip) ?_
    refine xg_t (xg_icF (u := k) (v := 140) rfl xnm0 xnm0 (xj_geF (by omega) (by omega))) ?_
    refine xg_t (xg_aload (va := (2, 82)) rfl rfl) ?_
    refine xg_t (xg_getf (va := (2, 83)) hc rfl) ?_
    refine xg_t (xg_iload (va := (0, k)) rfl rfl) ?_
    refine xg_t (xg_aload (va := (2, 82)) rfl rfl) ?_
    refine xg_t (xg_getf (va := (2, 86)) hc rfl) ?_
    refine xg_t (xg_iload (va := (0, k)) rfl rfl) ?_
    refine xg_t (xg_ialdR (n := k) (u := r k) hs xnm0 (by omega) rfl) ?_
    refine xg_iastK (n := k) (u := r k) h xnm0 xnm0 rfl (by omega) (fun w1 hr2 hb3 => ?_)
    refine xg_t (xg_iinc (u := k) (z := k + 1) (l1 := [(0, (2, 82))]) rfl rfl (by omega) rfl) ?_
    refine xg_t (xg_goto) ?_
    refine xg_t (xg_drop (l1 := [(0, (2, 82)), (1, (0, k + 1))]) (List.forall_mem_cons.mpr ⟨List.mem_cons_of_mem _ (List.mem_cons_self), List.forall_mem_cons.mpr ⟨List.mem_cons_self, fun _ h => absurd h List.not_mem_nil⟩⟩)) ?_
    refine cpFilm n (k + 1) w1 (fun j => if j = k then r k else f j) (by omega) hr2 (xrb (by have q := hsB k; omega) hB) (hs.but hb3 (by decide)) hsB (hb3.get (by decide) hc) (fun w2 f2 g1 g2 g3 g4 g5 => K w2 f2 g1 g2 (hb3.tr g3) (fun i hi hl => ?_) (fun j hj => ?_))
    · by_cases z : i = k
      · subst z
        rw [g5 _ (by omega)]
        exact if_pos rfl
      · exact g4 i (by omega) hl
    · rw [g5 j (by omega)]
      exact if_neg (by omega)
theorem cpImg0 {P : xS → Prop} {q0 q1 q2 q3 q4 q5 q6 q7 q8 q9 q10 q11 q12 q13 q14 q15 : Nat} : ∀ (n k : Nat) (w : List (List xE)) (f : Nat → Nat), k + n = 1340 → xRow w 83 5360 50 f → (∀ j, f j ≤ 4294967295) → wget w 82 = some (.inl (12, [(2, 83), (2, 84), (0, q0), (0, q1), (0, q2), (0, q3), (0, q4), (0, q5), (0, q6), (0, q7), (0, q8), (2, 85), (2, 86), (2, 87), (0, q9), (2, 88), (2, 89), (2, 90), (2, 91), (2, 92), (2, 93), (2, 94), (4, q10), (4, q11), (0, q12), (2, 95), (2, 96), (2, 97), (2, 98), (2, 99), (2, 100), (2, 101), (2, 102), (0, q13), (2, 103), (2, 104), (2, 105), (2, 106), (2, 107), (2, 108), (2, 109), (0, q14), (0, q15), (2, 110), (2, 111), (2, 112), (2, 113)])) → (∀ w2 f2, xRow w2 83 5360 50 f2 → (∀ j, f2 j ≤ 4294967295) → xBut 83 w w2 → (∀ i, k ≤ i → i < 1340 → f2 (1340 + i) = f (i)) → (∀ j, j < 1340 + k ∨ 1340 + 1340 ≤ j → f2 j = f j) → xTo d mX12_image (53, [], [(0, (2, 82)), (1, (0, 0)), (2, (0, 1340))], [], (w2, bd, fc, 0, 0, rr)) P) → xTo d mX12_image (20, [], [(0, (2, 82)), (1, (0, 0)), (2, (0, k))], [], (w, bd, fc, 0, 0, rr)) P
  | 0, k, w, f, hn, h, hB, hc, K => by
    refine xg_t (xg_blk (b := [(20, 1, 2, 2, 0, 0), (21, 3, 5, 1340, 0, 0), (24, 3, 6, 53, 3, 0), (27, 1, 0, 0, 0, 0), (28, 3, 1, 12, 0, 7), (31, 3, 5, 1340, 0, 0), (34, 1, 2, 1, 0, 0), (35, 1, 3, 1, 0, 0), (36, 1, 11, 0, 0, 0), (37, 1, 16, 0, 0, 0), (38, 1, 2, 2, 0, 0), (39, 1, 11, 0, 0, 0), (40, 1, 0, 0, 0, 0), (41, 3, 1, 12, 0, 7), (44, 1, 2, 2, 0, 0), (45, 1, 10, 0, 0, 0), (46, 1, 17, 0, 0, 0), (47, 3, 9, 2, 1, 0), (50, 3, 8, 20, 0, 0)]) rfl) ?_
    refine xg_t (xg_iload (va := (0, k)) rfl rfl) ?_
    refine xg_t (xg_sip) ?_
    refine xg_t (xg_icT (u := k) (v := 1340) rfl xnm0 xnm0 (xj_geT (by omega) (by omega))) ?_
    have e : k = 1340 := by omega
    subst e
    exact K w f h hB xBut.rf (fun i hi hl => absurd hl (by omega)) (fun j _ => rfl)
  | n + 1, k, w, f, hn, h, hB, hc, K => by
    refine xg_t (xg_blk (b := [(20, 1, 2, 2, 0, 0), (21, 3, 5, 1340, 0, 0), (24, 3, 6, 53, 3, 0), (27, 1, 0, 0, 0, 0), (28, 3, 1, 12, 0, 7), (31, 3, 5, 1340, 0, 0), (34, 1, 2, 1, 0, 0), (35, 1, 3, 1, 0, 0), (36, 1, 11, 0, 0, 0), (37, 1, 16, 0, 0, 0), (38, 1, 2, 2, 0, 0), (39, 1, 11, 0, 0, 0), (40, 1, 0, 0, 0, 0), (41, 3, 1, 12, 0, 7), (44, 1, 2, 2, 0, 0), (45, 1, 10, 0, 0, 0), (46, 1, 17, 0, 0, 0), (47, 3, 9, 2, 1, 0), (50, 3, 8, 20, 0, 0)]) rfl) ?_
    refine xg_t (xg_iload (va := (0, k)) rfl rfl) ?_
    refine xg_t (xg_sip) ?_
    refine xg_t (xg_icF (u := k) (v := 1340) rfl xnm0 xnm0 (xj_geF (by omega) (by omega))) ?_
    refine xg_t (xg_aload (va := (2, 82)) rfl rfl) ?_
    refine xg_t (xg_getf (va := (2, 83)) hc rfl) ?_
    refine xg_t (xg_sip) ?_
    refine xg_t (xg_iload (va := (0, 0)) rfl rfl) ?_
    refine xg_t (xg_const) ?_
    refine xg_t (xg_iadd (u := 0) (v := 1) (z := 1) xnm0 xnm0 (by decide)) ?_
    refine xg_t (xg_imul (u := 1340) (v := 1) (z := 1340) xnm0 xnm0 (by decide)) ?_
    refine xg_t (xg_iload (va := (0, k)) rfl rfl) ?_
    refine xg_t (xg_iadd (u := 1340) (v := k) (z := 1340 + k) xnm0 xnm0 (by omega)) ?_
    refine xg_t (xg_aload (va := (2, 82)) rfl rfl) ?_
    refine xg_t (xg_getf (va := (2, 83)) hc rfl) ?_
    refine xg_t (xg_iload (va := (0, k)) rfl rfl) ?_
    refine xg_t (xg_ialdR (n := k) (u := f k) h xnm0 (by omega) rfl) ?_
    refine xg_iastK (n := 1340 + k) (u := f k) h xnm0 xnm0 rfl (by omega) (fun w1 hr2 hb3 => ?_)
    refine xg_t (xg_iinc (u := k) (z := k + 1) (l1 := [(0, (2, 82)), (1, (0, 0))]) rfl rfl (by omega) rfl) ?_
    refine xg_t (xg_goto) ?_
    refine xg_t (xg_drop (l1 := [(0, (2, 82)), (1, (0, 0)), (2, (0, k + 1))]) (List.forall_mem_cons.mpr ⟨List.mem_cons_of_mem _ (List.mem_cons_self), List.forall_mem_cons.mpr ⟨List.mem_cons_of_mem _ (List.mem_cons_of_mem _ (List.mem_cons_self)), List.forall_mem_cons.mpr ⟨List.mem_cons_self, fun _ h => absurd h List.not_mem_nil⟩⟩⟩)) ?_
    refine cpImg0 n (k + 1) w1 (fun j => if j = 1340 + k then f k else f j) (by omega) hr2 (xrb (by have q := hB k; omega) hB) (hb3.get (by decide) hc) (fun w2 f2 g1 g2 g3 g4 g5 => K w2 f2 g1 g2 (hb3.tr g3) (fun i hi hl => ?_) (fun j hj => ?_))
    · by_cases z : i = k
      · subst z
        rw [g5 _ (by omega)]
        exact if_pos rfl
      · rw [g4 i (by omega) hl]
        exact if_neg (by omega)
    · rw [g5 j (by omega)]
      exact if_neg (by omega)
theorem cpAgn0 {P : xS → Prop} {q0 q1 q2 q3 q4 q5 q6 q7 q8 q9 q10 q11 q12 q13 q14 q15 : Nat} : ∀ (n k : Nat) (w : List (List xE)) (f : Nat → Nat), k + n = 1340 → xRow w 83 5360 50 f → (∀ j, f j ≤ 4294967295) → wget w 82 = some (.inl (12, [(2, 83), (2, 84), (0, q0), (0, q1), (0, q2), (0, q3), (0, q4), (0, q5), (0, q6), (0, q7), (0, q8), (2, 85), (2, 86), (2, 87), (0, q9), (2, 88), (2, 89), (2, 90), (2, 91), (2, 92), (2, 93), (2, 94), (4, q10), (4, q11), (0, q12), (2, 95), (2, 96), (2, 97), (2, 98), (2, 99), (2, 100), (2, 101), (2, 102), (0, q13), (2, 103), (2, 104), (2, 105), (2, 106), (2, 107), (2, 108), (2, 109), (0, q14), (0, q15), (2, 110), (2, 111), (2, 112), (2, 113)])) → (∀ w2 f2, xRow w2 83 5360 50 f2 → (∀ j, f2 j ≤ 4294967295) → xBut 83 w w2 → (∀ i, k ≤ i → i < 1340 → f2 (i) = f (1340 + i)) → (∀ j, j < k ∨ 1340 ≤ j → f2 j = f j) → xTo d mX12_again (55, [], [(0, (2, 82)), (1, (0, 0)), (2, (0, 1340))], [], (w2, bd, fc, 0, 0, rr)) P) → xTo d mX12_again (22, [], [(0, (2, 82)), (1, (0, 0)), (2, (0, k))], [], (w, bd, fc, 0, 0, rr)) P
  | 0, k, w, f, hn, h, hB, hc, K => by
    refine xg_t (xg_blk (b := [(22, 1, 2, 2, 0, 0), (23, 3, 5, 1340, 0, 0), (26, 3, 6, 55, 3, 0), (29, 1, 0, 0, 0, 0), (30, 3, 1, 12, 0, 7), (33, 1, 2, 2, 0, 0), (34, 1, 0, 0, 0, 0), (35, 3, 1, 12, 0, 7), (38, 3, 5, 1340, 0, 0), (41, 1, 2, 1, 0, 0), (42, 1, 3, 1, 0, 0), (43, 1, 11, 0, 0, 0), (44, 1, 16, 0, 0, 0), (45, 1, 2, 2, 0, 0), (46, 1, 11, 0, 0, 0), (47, 1, 10, 0, 0, 0), (48, 1, 17, 0, 0, 0), (49, 3, 9, 2, 1, 0), (52, 3, 8, 22, 0, 0)]) rfl) ?_
    refine xg_t (xg_iload (va := (0, k)) rfl rfl) ?_
    refine xg_t (xg_sip) ?_
    refine xg_t (xg_icT (u := k) (v := 1340) rfl xnm0 xnm0 (xj_geT (by omega) (by omega))) ?_
    have e : k = 1340 := by omega
    subst e
    exact K w f h hB xBut.rf (fun i hi hl => absurd hl (by omega)) (fun j _ => rfl)
  | n + 1, k, w, f, hn, h, hB, hc, K => by
    refine xg_t (xg_blk (b := [(22, 1, 2, 2, 0, 0), (23, 3, 5, 1340, 0, 0), (26, 3, 6, 55, 3, 0), (29, 1, 0, 0, 0, 0), (30, 3, 1, 12, 0, 7), (33, 1, 2, 2, 0, 0), (34, 1, 0, 0, 0, 0), (35, 3, 1, 12, 0, 7), (38, 3, 5, 1340, 0, 0), (41, 1, 2, 1, 0, 0), (42, 1, 3, 1, 0, 0), (43, 1, 11, 0, 0, 0), (44, 1, 16, 0, 0, 0), (45, 1, 2, 2, 0, 0), (46, 1, 11, 0, 0, 0), (47, 1, 10, 0, 0, 0), (48, 1, 17, 0, 0, 0), (49, 3, 9, 2, 1, 0), (52, 3, 8, 22, 0, 0)]) rfl) ?_
    refine xg_t (xg_iload (va := (0, k)) rfl rfl) ?_
    refine xg_t (xg_sip) ?_
    refine xg_t (xg_icF (u := k) (v := 1340) rfl xnm0 xnm0 (xj_geF (by omega) (by omega))) ?_
    refine xg_t (xg_aload (va := (2, 82)) rfl rfl) ?_
    refine xg_t (xg_getf (va := (2, 83)) hc rfl) ?_
    refine xg_t (xg_iload (va := (0, k)) rfl rfl) ?_
    refine xg_t (xg_aload (va := (2, 82)) rfl rfl) ?_
    refine xg_t (xg_getf (va := (2, 83)) hc rfl) ?_
    refine xg_t (xg_sip) ?_
    refine xg_t (xg_iload (va := (0, 0)) rfl rfl) ?_
    refine xg_t (xg_const) ?_
    refine xg_t (xg_iadd (u := 0) (v := 1) (z := 1) xnm0 xnm0 (by decide)) ?_
    refine xg_t (xg_imul (u := 1340) (v := 1) (z := 1340) xnm0 xnm0 (by decide)) ?_
    refine xg_t (xg_iload (va := (0, k)) rfl rfl) ?_
    refine xg_t (xg_iadd (u := 1340) (v := k) (z := 1340 + k) xnm0 xnm0 (by omega)) ?_
    refine xg_t (xg_ialdR (n := 1340 + k) (u := f (1340 + k)) h xnm0 (by omega) rfl) ?_
    refine xg_iastK (n := k) (u := f (1340 + k)) h xnm0 xnm0 rfl (by omega) (fun w1 hr2 hb3 => ?_)
    refine xg_t (xg_iinc (u := k) (z := k + 1) (l1 := [(0, (2, 82)), (1, (0, 0))]) rfl rfl (by omega) rfl) ?_
    refine xg_t (xg_goto) ?_
    refine xg_t (xg_drop (l1 := [(0, (2, 82)), (1, (0, 0)), (2, (0, k + 1))]) (List.forall_mem_cons.mpr ⟨List.mem_cons_of_mem _ (List.mem_cons_self), List.forall_mem_cons.mpr ⟨List.mem_cons_of_mem _ (List.mem_cons_of_mem _ (List.mem_cons_self)), List.forall_mem_cons.mpr ⟨List.mem_cons_self, fun _ h => absurd h List.not_mem_nil⟩⟩⟩)) ?_
    refine cpAgn0 n (k + 1) w1 (fun j => if j = k then f (1340 + k) else f j) (by omega) hr2 (xrb (by have q := hB (1340 + k); omega) hB) (hb3.get (by decide) hc) (fun w2 f2 g1 g2 g3 g4 g5 => K w2 f2 g1 g2 (hb3.tr g3) (fun i hi hl => ?_) (fun j hj => ?_))
    · by_cases z : i = k
      · subst z
        rw [g5 _ (by omega)]
        exact if_pos rfl
      · rw [g4 i (by omega) hl]
        exact if_neg (by omega)
    · rw [g5 j (by omega)]
      exact if_neg (by omega)
theorem cpImg1 {P : xS → Prop} {q0 q1 q2 q3 q4 q5 q6 q7 q8 q9 q10 q11 q12 q13 q14 q15 : Nat} : ∀ (n k : Nat) (w : List (List xE)) (f : Nat → Nat), k + n = 1340 → xRow w 83 5360 50 f → (∀ j, f j ≤ 4294967295) → wget w 82 = some (.inl (12, [(2, 83), (2, 84), (0, q0), (0, q1), (0, q2), (0, q3), (0, q4), (0, q5), (0, q6), (0, q7), (0, q8), (2, 85), (2, 86), (2, 87), (0, q9), (2, 88), (2, 89), (2, 90), (2, 91), (2, 92), (2, 93), (2, 94), (4, q10), (4, q11), (0, q12), (2, 95), (2, 96), (2, 97), (2, 98), (2, 99), (2, 100), (2, 101), (2, 102), (0, q13), (2, 103), (2, 104), (2, 105), (2, 106), (2, 107), (2, 108), (2, 109), (0, q14), (0, q15), (2, 110), (2, 111), (2, 112), (2, 113)])) → (∀ w2 f2, xRow w2 83 5360 50 f2 → (∀ j, f2 j ≤ 4294967295) → xBut 83 w w2 → (∀ i, k ≤ i → i < 1340 → f2 (2680 + i) = f (i)) → (∀ j, j < 2680 + k ∨ 2680 + 1340 ≤ j → f2 j = f j) → xTo d mX12_image (53, [], [(0, (2, 82)), (1, (0, 1)), (2, (0, 1340))], [], (w2, bd, fc, 0, 0, rr)) P) → xTo d mX12_image (20, [], [(0, (2, 82)), (1, (0, 1)), (2, (0, k))], [], (w, bd, fc, 0, 0, rr)) P
  | 0, k, w, f, hn, h, hB, hc, K => by
    refine xg_t (xg_blk (b := [(20, 1, 2, 2, 0, 0), (21, 3, 5, 1340, 0, 0), (24, 3, 6, 53, 3, 0), (27, 1, 0, 0, 0, 0), (28, 3, 1, 12, 0, 7), (31, 3, 5, 1340, 0, 0), (34, 1, 2, 1, 0, 0), (35, 1, 3, 1, 0, 0), (36, 1, 11, 0, 0, 0), (37, 1, 16, 0, 0, 0), (38, 1, 2, 2, 0, 0), (39, 1, 11, 0, 0, 0), (40, 1, 0, 0, 0, 0), (41, 3, 1, 12, 0, 7), (44, 1, 2, 2, 0, 0), (45, 1, 10, 0, 0, 0), (46, 1, 17, 0, 0, 0), (47, 3, 9, 2, 1, 0), (50, 3, 8, 20, 0, 0)]) rfl) ?_
    refine xg_t (xg_iload (va := (0, k)) rfl rfl) ?_
    refine xg_t (xg_sip) ?_
    refine xg_t (xg_icT (u := k) (v := 1340) rfl xnm0 xnm0 (xj_geT (by omega) (by omega))) ?_
    have e : k = 1340 := by omega
    subst e
    exact K w f h hB xBut.rf (fun i hi hl => absurd hl (by omega)) (fun j _ => rfl)
  | n + 1, k, w, f, hn, h, hB, hc, K => by
    refine xg_t (xg_blk (b := [(20, 1, 2, 2, 0, 0), (21, 3, 5, 1340, 0, 0), (24, 3, 6, 53, 3, 0), (27, 1, 0, 0, 0, 0), (28, 3, 1, 12, 0, 7), (31, 3, 5, 1340, 0, 0), (34, 1, 2, 1, 0, 0), (35, 1, 3, 1, 0, 0), (36, 1, 11, 0, 0, 0), (37, 1, 16, 0, 0, 0), (38, 1, 2, 2, 0, 0), (39, 1, 11, 0, 0, 0), (40, 1, 0, 0, 0, 0), (41, 3, 1, 12, 0, 7), (44, 1, 2, 2, 0, 0), (45, 1, 10, 0, 0, 0), (46, 1, 17, 0, 0, 0), (47, 3, 9, 2, 1, 0), (50, 3, 8, 20, 0, 0)]) rfl) ?_
    refine xg_t (xg_iload (va := (0, k)) rfl rfl) ?_
    refine xg_t (xg_sip) ?_
    refine xg_t (xg_icF (u := k) (v := 1340) rfl xnm0 xnm0 (xj_geF (by omega) (by omega))) ?_
    refine xg_t (xg_aload (va := (2, 82)) rfl rfl) ?_
    refine xg_t (xg_getf (va := (2, 83)) hc rfl) ?_
    refine xg_t (xg_sip) ?_
    refine xg_t (xg_iload (va := (0, 1)) rfl rfl) ?_
    refine xg_t (xg_const) ?_
    refine xg_t (xg_iadd (u := 1) (v := 1) (z := 2) xnm0 xnm0 (by decide)) ?_
    refine xg_t (xg_imul (u := 1340) (v := 2) (z := 2680) xnm0 xnm0 (by decide)) ?_
    refine xg_t (xg_iload (va := (0, k)) rfl rfl) ?_
    refine xg_t (xg_iadd (u := 2680) (v := k) (z := 2680 + k) xnm0 xnm0 (by omega)) ?_
    refine xg_t (xg_aload (va := (2, 82)) rfl rfl) ?_
    refine xg_t (xg_getf (va := (2, 83)) hc rfl) ?_
    refine xg_t (xg_iload (va := (0, k)) rfl rfl) ?_
    refine xg_t (xg_ialdR (n := k) (u := f k) h xnm0 (by omega) rfl) ?_
    refine xg_iastK (n := 2680 + k) (u := f k) h xnm0 xnm0 rfl (by omega) (fun w1 hr2 hb3 => ?_)
    refine xg_t (xg_iinc (u := k) (z := k + 1) (l1 := [(0, (2, 82)), (1, (0, 1))]) rfl rfl (by omega) rfl) ?_
    refine xg_t (xg_goto) ?_
    refine xg_t (xg_drop (l1 := [(0, (2, 82)), (1, (0, 1)), (2, (0, k + 1))]) (List.forall_mem_cons.mpr ⟨List.mem_cons_of_mem _ (List.mem_cons_self), List.forall_mem_cons.mpr ⟨List.mem_cons_of_mem _ (List.mem_cons_of_mem _ (List.mem_cons_self)), List.forall_mem_cons.mpr ⟨List.mem_cons_self, fun _ h => absurd h List.not_mem_nil⟩⟩⟩)) ?_
    refine cpImg1 n (k + 1) w1 (fun j => if j = 2680 + k then f k else f j) (by omega) hr2 (xrb (by have q := hB k; omega) hB) (hb3.get (by decide) hc) (fun w2 f2 g1 g2 g3 g4 g5 => K w2 f2 g1 g2 (hb3.tr g3) (fun i hi hl => ?_) (fun j hj => ?_))
    · by_cases z : i = k
      · subst z
        rw [g5 _ (by omega)]
        exact if_pos rfl
      · rw [g4 i (by omega) hl]
        exact if_neg (by omega)
    · rw [g5 j (by omega)]
      exact if_neg (by omega)
theorem cpAgn1 {P : xS → Prop} {q0 q1 q2 q3 q4 q5 q6 q7 q8 q9 q10 q11 q12 q13 q14 q15 : Nat} : ∀ (n k : Nat) (w : List (List xE)) (f : Nat → Nat), k + n = 1340 → xRow w 83 5360 50 f → (∀ j, f j ≤ 4294967295) → wget w 82 = some (.inl (12, [(2, 83), (2, 84), (0, q0), (0, q1), (0, q2), (0, q3), (0, q4), (0, q5), (0, q6), (0, q7), (0, q8), (2, 85), (2, 86), (2, 87), (0, q9), (2, 88), (2, 89), (2, 90), (2, 91), (2, 92), (2, 93), (2, 94), (4, q10), (4, q11), (0, q12), (2, 95), (2, 96), (2, 97), (2, 98), (2, 99), (2, 100), (2, 101), (2, 102), (0, q13), (2, 103), (2, 104), (2, 105), (2, 106), (2, 107), (2, 108), (2, 109), (0, q14), (0, q15), (2, 110), (2, 111), (2, 112), (2, 113)])) → (∀ w2 f2, xRow w2 83 5360 50 f2 → (∀ j, f2 j ≤ 4294967295) → xBut 83 w w2 → (∀ i, k ≤ i → i < 1340 → f2 (i) = f (2680 + i)) → (∀ j, j < k ∨ 1340 ≤ j → f2 j = f j) → xTo d mX12_again (55, [], [(0, (2, 82)), (1, (0, 1)), (2, (0, 1340))], [], (w2, bd, fc, 0, 0, rr)) P) → xTo d mX12_again (22, [], [(0, (2, 82)), (1, (0, 1)), (2, (0, k))], [], (w, bd, fc, 0, 0, rr)) P
  | 0, k, w, f, hn, h, hB, hc, K => by
    refine xg_t (xg_blk (b := [(22, 1, 2, 2, 0, 0), (23, 3, 5, 1340, 0, 0), (26, 3, 6, 55, 3, 0), (29, 1, 0, 0, 0, 0), (30, 3, 1, 12, 0, 7), (33, 1, 2, 2, 0, 0), (34, 1, 0, 0, 0, 0), (35, 3, 1, 12, 0, 7), (38, 3, 5, 1340, 0, 0), (41, 1, 2, 1, 0, 0), (42, 1, 3, 1, 0, 0), (43, 1, 11, 0, 0, 0), (44, 1, 16, 0, 0, 0), (45, 1, 2, 2, 0, 0), (46, 1, 11, 0, 0, 0), (47, 1, 10, 0, 0, 0), (48, 1, 17, 0, 0, 0), (49, 3, 9, 2, 1, 0), (52, 3, 8, 22, 0, 0)]) rfl) ?_
    refine xg_t (xg_iload (va := (0, k)) rfl rfl) ?_
    refine xg_t (xg_sip) ?_
    refine xg_t (xg_icT (u := k) (v := 1340) rfl xnm0 xnm0 (xj_geT (by omega) (by omega))) ?_
    have e : k = 1340 := by omega
    subst e
    exact K w f h hB xBut.rf (fun i hi hl => absurd hl (by omega)) (fun j _ => rfl)
  | n + 1, k, w, f, hn, h, hB, hc, K => by
    refine xg_t (xg_blk (b := [(22, 1, 2, 2, 0, 0), (23, 3, 5, 1340, 0, 0), (26, 3, 6, 55, 3, 0), (29, 1, 0, 0, 0, 0), (30, 3, 1, 12, 0, 7), (33, 1, 2, 2, 0, 0), (34, 1, 0, 0, 0, 0), (35, 3, 1, 12, 0, 7), (38, 3, 5, 1340, 0, 0), (41, 1, 2, 1, 0, 0), (42, 1, 3, 1, 0, 0), (43, 1, 11, 0, 0, 0), (44, 1, 16, 0, 0, 0), (45, 1, 2, 2, 0, 0), (46, 1, 11, 0, 0, 0), (47, 1, 10, 0, 0, 0), (48, 1, 17, 0, 0, 0), (49, 3, 9, 2, 1, 0), (52, 3, 8, 22, 0, 0)]) rfl) ?_
    refine xg_t (xg_iload (va := (0, k)) rfl rfl) ?_
    refine xg_t (xg_sip) ?_
    refine xg_t (xg_icF (u := k) (v := 1340) rfl xnm0 xnm0 (xj_geF (by omega) (by omega))) ?_
    refine xg_t (xg_aload (va := (2, 82)) rfl rfl) ?_
    refine xg_t (xg_getf (va := (2, 83)) hc rfl) ?_
    refine xg_t (xg_iload (va := (0, k)) rfl rfl) ?_
    refine xg_t (xg_aload (va := (2, 82)) rfl rfl) ?_
    refine xg_t (xg_getf (va := (2, 83)) hc rfl) ?_
    refine xg_t (xg_sip) ?_
    refine xg_t (xg_iload (va := (0, 1)) rfl rfl) ?_
    refine xg_t (xg_const) ?_
    refine xg_t (xg_iadd (u := 1) (v := 1) (z := 2) xnm0 xnm0 (by decide)) ?_
    refine xg_t (xg_imul (u := 1340) (v := 2) (z := 2680) xnm0 xnm0 (by decide)) ?_
    refine xg_t (xg_iload (va := (0, k)) rfl rfl) ?_
    refine xg_t (xg_iadd (u := 2680) (v := k) (z := 2680 + k) xnm0 xnm0 (by omega)) ?_
    refine xg_t (xg_ialdR (n := 2680 + k) (u := f (2680 + k)) h xnm0 (by omega) rfl) ?_
    refine xg_iastK (n := k) (u := f (2680 + k)) h xnm0 xnm0 rfl (by omega) (fun w1 hr2 hb3 => ?_)
    refine xg_t (xg_iinc (u := k) (z := k + 1) (l1 := [(0, (2, 82)), (1, (0, 1))]) rfl rfl (by omega) rfl) ?_
    refine xg_t (xg_goto) ?_
    refine xg_t (xg_drop (l1 := [(0, (2, 82)), (1, (0, 1)), (2, (0, k + 1))]) (List.forall_mem_cons.mpr ⟨List.mem_cons_of_mem _ (List.mem_cons_self), List.forall_mem_cons.mpr ⟨List.mem_cons_of_mem _ (List.mem_cons_of_mem _ (List.mem_cons_self)), List.forall_mem_cons.mpr ⟨List.mem_cons_self, fun _ h => absurd h List.not_mem_nil⟩⟩⟩)) ?_
    refine cpAgn1 n (k + 1) w1 (fun j => if j = k then f (2680 + k) else f j) (by omega) hr2 (xrb (by have q := hB (2680 + k); omega) hB) (hb3.get (by decide) hc) (fun w2 f2 g1 g2 g3 g4 g5 => K w2 f2 g1 g2 (hb3.tr g3) (fun i hi hl => ?_) (fun j hj => ?_))
    · by_cases z : i = k
      · subst z
        rw [g5 _ (by omega)]
        exact if_pos rfl
      · rw [g4 i (by omega) hl]
        exact if_neg (by omega)
    · rw [g5 j (by omega)]
      exact if_neg (by omega)
theorem cpImg2 {P : xS → Prop} {q0 q1 q2 q3 q4 q5 q6 q7 q8 q9 q10 q11 q12 q13 q14 q15 : Nat} : ∀ (n k : Nat) (w : List (List xE)) (f : Nat → Nat), k + n = 1340 → xRow w 83 5360 50 f → (∀ j, f j ≤ 4294967295) → wget w 82 = some (.inl (12, [(2, 83), (2, 84), (0, q0), (0, q1), (0, q2), (0, q3), (0, q4), (0, q5), (0, q6), (0, q7), (0, q8), (2, 85), (2, 86), (2, 87), (0, q9), (2, 88), (2, 89), (2, 90), (2, 91), (2, 92), (2, 93), (2, 94), (4, q10), (4, q11), (0, q12), (2, 95), (2, 96), (2, 97), (2, 98), (2, 99), (2, 100), (2, 101), (2, 102), (0, q13), (2, 103), (2, 104), (2, 105), (2, 106), (2, 107), (2, 108), (2, 109), (0, q14), (0, q15), (2, 110), (2, 111), (2, 112), (2, 113)])) → (∀ w2 f2, xRow w2 83 5360 50 f2 → (∀ j, f2 j ≤ 4294967295) → xBut 83 w w2 → (∀ i, k ≤ i → i < 1340 → f2 (4020 + i) = f (i)) → (∀ j, j < 4020 + k ∨ 4020 + 1340 ≤ j → f2 j = f j) → xTo d mX12_image (53, [], [(0, (2, 82)), (1, (0, 2)), (2, (0, 1340))], [], (w2, bd, fc, 0, 0, rr)) P) → xTo d mX12_image (20, [], [(0, (2, 82)), (1, (0, 2)), (2, (0, k))], [], (w, bd, fc, 0, 0, rr)) P
  | 0, k, w, f, hn, h, hB, hc, K => by
    refine xg_t (xg_blk (b := [(20, 1, 2, 2, 0, 0), (21, 3, 5, 1340, 0, 0), (24, 3, 6, 53, 3, 0), (27, 1, 0, 0, 0, 0), (28, 3, 1, 12, 0, 7), (31, 3, 5, 1340, 0, 0), (34, 1, 2, 1, 0, 0), (35, 1, 3, 1, 0, 0), (36, 1, 11, 0, 0, 0), (37, 1, 16, 0, 0, 0), (38, 1, 2, 2, 0, 0), (39, 1, 11, 0, 0, 0), (40, 1, 0, 0, 0, 0), (41, 3, 1, 12, 0, 7), (44, 1, 2, 2, 0, 0), (45, 1, 10, 0, 0, 0), (46, 1, 17, 0, 0, 0), (47, 3, 9, 2, 1, 0), (50, 3, 8, 20, 0, 0)]) rfl) ?_
    refine xg_t (xg_iload (va := (0, k)) rfl rfl) ?_
    refine xg_t (xg_sip) ?_
    refine xg_t (xg_icT (u := k) (v := 1340) rfl xnm0 xnm0 (xj_geT (by omega) (by omega))) ?_
    have e : k = 1340 := by omega
    subst e
    exact K w f h hB xBut.rf (fun i hi hl => absurd hl (by omega)) (fun j _ => rfl)
  | n + 1, k, w, f, hn, h, hB, hc, K => by
    refine xg_t (xg_blk (b := [(20, 1, 2, 2, 0, 0), (21, 3, 5, 1340, 0, 0), (24, 3, 6, 53, 3, 0), (27, 1, 0, 0, 0, 0), (28, 3, 1, 12, 0, 7), (31, 3, 5, 1340, 0, 0), (34, 1, 2, 1, 0, 0), (35, 1, 3, 1, 0, 0), (36, 1, 11, 0, 0, 0), (37, 1, 16, 0, 0, 0), (38, 1, 2, 2, 0, 0), (39, 1, 11, 0, 0, 0), (40, 1, 0, 0, 0, 0), (41, 3, 1, 12, 0, 7), (44, 1, 2, 2, 0, 0), (45, 1, 10, 0, 0, 0), (46, 1, 17, 0, 0, 0), (47, 3, 9, 2, 1, 0), (50, 3, 8, 20, 0, 0)]) rfl) ?_
    refine xg_t (xg_iload (va := (0, k)) rfl rfl) ?_
    refine xg_t (xg_sip) ?_
    refine xg_t (xg_icF (u := k) (v := 1340) rfl xnm0 xnm0 (xj_geF (by omega) (by omega))) ?_
    refine xg_t (xg_aload (va := (2, 82)) rfl rfl) ?_
    refine xg_t (xg_getf (va := (2, 83)) hc rfl) ?_
    refine xg_t (xg_sip) ?_
    refine xg_t (xg_iload (va := (0, 2)) rfl rfl) ?_
    refine xg_t (xg_const) ?_
    refine xg_t (xg_iadd (u := 2) (v := 1) (z := 3) xnm0 xnm0 (by decide)) ?_
    refine xg_t (xg_imul (u := 1340) (v := 3) (z := 4020) xnm0 xnm0 (by decide)) ?_
    refine xg_t (xg_iload (va := (0, k)) rfl rfl) ?_
    refine xg_t (xg_iadd (u := 4020) (v := k) (z := 4020 + k) xnm0 xnm0 (by omega)) ?_
    refine xg_t (xg_aload (va := (2, 82)) rfl rfl) ?_
    refine xg_t (xg_getf (va := (2, 83)) hc rfl) ?_
    refine xg_t (xg_iload (va := (0, k)) rfl rfl) ?_
    refine xg_t (xg_ialdR (n := k) (u := f k) h xnm0 (by omega) rfl) ?_
    refine xg_iastK (n := 4020 + k) (u := f k) h xnm0 xnm0 rfl (by omega) (fun w1 hr2 hb3 => ?_)
    refine xg_t (xg_iinc (u := k) (z := k + 1) (l1 := [(0, (2, 82)), (1, (0, 2))]) rfl rfl (by omega) rfl) ?_
    refine xg_t (xg_goto) ?_
    refine xg_t (xg_drop (l1 := [(0, (2, 82)), (1, (0, 2)), (2, (0, k + 1))]) (List.forall_mem_cons.mpr ⟨List.mem_cons_of_mem _ (List.mem_cons_self), List.forall_mem_cons.mpr ⟨List.mem_cons_of_mem _ (List.mem_cons_of_mem _ (List.mem_cons_self)), List.forall_mem_cons.mpr ⟨List.mem_cons_self, fun _ h => absurd h List.not_mem_nil⟩⟩⟩)) ?_
    refine cpImg2 n (k + 1) w1 (fun j => if j = 4020 + k then f k else f j) (by omega) hr2 (xrb (by have q := hB k; omega) hB) (hb3.get (by decide) hc) (fun w2 f2 g1 g2 g3 g4 g5 => K w2 f2 g1 g2 (hb3.tr g3) (fun i hi hl => ?_) (fun j hj => ?_))
    · by_cases z : i = k
      · subst z
        rw [g5 _ (by omega)]
        exact if_pos rfl
      · rw [g4 i (by omega) hl]
        exact if_neg (by omega)
    · rw [g5 j (by omega)]
      exact if_neg (by omega)
theorem cpAgn2 {P : xS → Prop} {q0 q1 q2 q3 q4 q5 q6 q7 q8 q9 q10 q11 q12 q13 q14 q15 : Nat} : ∀ (n k : Nat) (w : List (List xE)) (f : Nat → Nat), k + n = 1340 → xRow w 83 5360 50 f → (∀ j, f j ≤ 4294967295) → wget w 82 = some (.inl (12, [(2, 83), (2, 84), (0, q0), (0, q1), (0, q2), (0, q3), (0, q4), (0, q5), (0, q6), (0, q7), (0, q8), (2, 85), (2, 86), (2, 87), (0, q9), (2, 88), (2, 89), (2, 90), (2, 91), (2, 92), (2, 93), (2, 94), (4, q10), (4, q11), (0, q12), (2, 95), (2, 96), (2, 97), (2, 98), (2, 99), (2, 100), (2, 101), (2, 102), (0, q13), (2, 103), (2, 104), (2, 105), (2, 106), (2, 107), (2, 108), (2, 109), (0, q14), (0, q15), (2, 110), (2, 111), (2, 112), (2, 113)])) → (∀ w2 f2, xRow w2 83 5360 50 f2 → (∀ j, f2 j ≤ 4294967295) → xBut 83 w w2 → (∀ i, k ≤ i → i < 1340 → f2 (i) = f (4020 + i)) → (∀ j, j < k ∨ 1340 ≤ j → f2 j = f j) → xTo d mX12_again (55, [], [(0, (2, 82)), (1, (0, 2)), (2, (0, 1340))], [], (w2, bd, fc, 0, 0, rr)) P) → xTo d mX12_again (22, [], [(0, (2, 82)), (1, (0, 2)), (2, (0, k))], [], (w, bd, fc, 0, 0, rr)) P
  | 0, k, w, f, hn, h, hB, hc, K => by
    refine xg_t (xg_blk (b := [(22, 1, 2, 2, 0, 0), (23, 3, 5, 1340, 0, 0), (26, 3, 6, 55, 3, 0), (29, 1, 0, 0, 0, 0), (30, 3, 1, 12, 0, 7), (33, 1, 2, 2, 0, 0), (34, 1, 0, 0, 0, 0), (35, 3, 1, 12, 0, 7), (38, 3, 5, 1340, 0, 0), (41, 1, 2, 1, 0, 0), (42, 1, 3, 1, 0, 0), (43, 1, 11, 0, 0, 0), (44, 1, 16, 0, 0, 0), (45, 1, 2, 2, 0, 0), (46, 1, 11, 0, 0, 0), (47, 1, 10, 0, 0, 0), (48, 1, 17, 0, 0, 0), (49, 3, 9, 2, 1, 0), (52, 3, 8, 22, 0, 0)]) rfl) ?_
    refine xg_t (xg_iload (va := (0, k)) rfl rfl) ?_
    refine xg_t (xg_sip) ?_
    refine xg_t (xg_icT (u := k) (v := 1340) rfl xnm0 xnm0 (xj_geT (by omega) (by omega))) ?_
    have e : k = 1340 := by omega
    subst e
    exact K w f h hB xBut.rf (fun i hi hl => absurd hl (by omega)) (fun j _ => rfl)
  | n + 1, k, w, f, hn, h, hB, hc, K => by
    refine xg_t (xg_blk (b := [(22, 1, 2, 2, 0, 0), (23, 3, 5, 1340, 0, 0), (26, 3, 6, 55, 3, 0), (29, 1, 0, 0, 0, 0), (30, 3, 1, 12, 0, 7), (33, 1, 2, 2, 0, 0), (34, 1, 0, 0, 0, 0), (35, 3, 1, 12, 0, 7), (38, 3, 5, 1340, 0, 0), (41, 1, 2, 1, 0, 0), (42, 1, 3, 1, 0, 0), (43, 1, 11, 0, 0, 0), (44, 1, 16, 0, 0, 0), (45, 1, 2, 2, 0, 0), (46, 1, 11, 0, 0, 0), (47, 1, 10, 0, 0, 0), (48, 1, 17, 0, 0, 0), (49, 3, 9, 2, 1, 0), (52, 3, 8, 22, 0, 0)]) rfl) ?_
    refine xg_t (xg_iload (va := (0, k)) rfl rfl) ?_
    refine xg_t (xg_sip) ?_
    refine xg_t (xg_icF (u := k) (v := 1340) rfl xnm0 xnm0 (xj_geF (by omega) (by omega))) ?_
    refine xg_t (xg_aload (va := (2, 82)) rfl rfl) ?_
    refine xg_t (xg_getf (va := (2, 83)) hc rfl) ?_
    refine xg_t (xg_iload (va := (0, k)) rfl rfl) ?_
    refine xg_t (xg_aload (va := (2, 82)) rfl rfl) ?_
    refine xg_t (xg_getf (va := (2, 83)) hc rfl) ?_
    refine xg_t (xg_sip) ?_
    refine xg_t (xg_iload (va := (0, 2)) rfl rfl) ?_
    refine xg_t (xg_const) ?_
    refine xg_t (xg_iadd (u := 2) (v := 1) (z := 3) xnm0 xnm0 (by decide)) ?_
    refine xg_t (xg_imul (u := 1340) (v := 3) (z := 4020) xnm0 xnm0 (by decide)) ?_
    refine xg_t (xg_iload (va := (0, k)) rfl rfl) ?_
    refine xg_t (xg_iadd (u := 4020) (v := k) (z := 4020 + k) xnm0 xnm0 (by omega)) ?_
    refine xg_t (xg_ialdR (n := 4020 + k) (u := f (4020 + k)) h xnm0 (by omega) rfl) ?_
    refine xg_iastK (n := k) (u := f (4020 + k)) h xnm0 xnm0 rfl (by omega) (fun w1 hr2 hb3 => ?_)
    refine xg_t (xg_iinc (u := k) (z := k + 1) (l1 := [(0, (2, 82)), (1, (0, 2))]) rfl rfl (by omega) rfl) ?_
    refine xg_t (xg_goto) ?_
    refine xg_t (xg_drop (l1 := [(0, (2, 82)), (1, (0, 2)), (2, (0, k + 1))]) (List.forall_mem_cons.mpr ⟨List.mem_cons_of_mem _ (List.mem_cons_self), List.forall_mem_cons.mpr ⟨List.mem_cons_of_mem _ (List.mem_cons_of_mem _ (List.mem_cons_self)), List.forall_mem_cons.mpr ⟨List.mem_cons_self, fun _ h => absurd h List.not_mem_nil⟩⟩⟩)) ?_
    refine cpAgn2 n (k + 1) w1 (fun j => if j = k then f (4020 + k) else f j) (by omega) hr2 (xrb (by have q := hB (4020 + k); omega) hB) (hb3.get (by decide) hc) (fun w2 f2 g1 g2 g3 g4 g5 => K w2 f2 g1 g2 (hb3.tr g3) (fun i hi hl => ?_) (fun j hj => ?_))
    · by_cases z : i = k
      · subst z
        rw [g5 _ (by omega)]
        exact if_pos rfl
      · rw [g4 i (by omega) hl]
        exact if_neg (by omega)
    · rw [g5 j (by omega)]
      exact if_neg (by omega)
theorem cpRul {P : xS → Prop} {r : Nat → Nat} {q0 q1 q2 q3 q4 q5 q6 q7 q8 q9 q10 q11 q12 q13 q14 q15 : Nat} : ∀ (n k : Nat) (w : List (List xE)) (f : Nat → Nat), k + n = 320 → xRow w 83 5360 50 f → (∀ j, f j ≤ 4294967295) → xRow w 112 320 79 r → (∀ j, r j ≤ 4294967295) → wget w 82 = some (.inl (12, [(2, 83), (2, 84), (0, q0), (0, q1), (0, q2), (0, q3), (0, q4), (0, q5), (0, q6), (0, q7), (0, q8), (2, 85), (2, 86), (2, 87), (0, q9), (2, 88), (2, 89), (2, 90), (2, 91), (2, 92), (2, 93), (2, 94), (4, q10), (4, q11), (0, q12), (2, 95), (2, 96), (2, 97), (2, 98), (2, 99), (2, 100), (2, 101), (2, 102), (0, q13), (2, 103), (2, 104), (2, 105), (2, 106), (2, 107), (2, 108), (2, 109), (0, q14), (0, q15), (2, 110), (2, 111), (2, 112), (2, 113)])) → (∀ w2 f2, xRow w2 83 5360 50 f2 → (∀ j, f2 j ≤ 4294967295) → xBut 83 w w2 → (∀ i, k ≤ i → i < 320 → f2 (1020 + i) = r (i)) → (∀ j, j < 1020 + k ∨ 1020 + 320 ≤ j → f2 j = f j) → xTo d mX12_rules (73, [], [(0, (2, 82)), (1, (0, 320))], [], (w2, bd, fc, 0, 0, rr)) P) → xTo d mX12_rules (44, [], [(0, (2, 82)), (1, (0, k))], [], (w, bd, fc, 0, 0, rr)) P
  | 0, k, w, f, hn, h, hB, hs, hsB, hc, K => by
    refine xg_t (xg_blk (b := [(44, 1, 2, 1, 0, 0), (45, 3, 5, 320, 0, 0), (48, 3, 6, 73, 3, 0), (51, 1, 0, 0, 0, 0), (52, 3, 1, 12, 0, 7), (55, 3, 5, 1020, 0, 0), (58, 1, 2, 1, 0, 0), (59, 1, 11, 0, 0, 0), (60, 1, 0, 0, 0, 0), (61, 3, 1, 12, 45, 99), (64, 1, 2, 1, 0, 0), (65, 1, 10, 0, 0, 0), (66, 1, 17, 0, 0, 0), (67, 3, 9, 1, 1, 0), (70, 3, 8, 44, 0, 0)]) rfl) ?_
    refine xg_t (xg_iload (va := (0, k)) rfl rfl) ?_
    refine xg_t (xg_sip) ?_
    refine xg_t (xg_icT (u := k) (v := 320) rfl xnm0 xnm0 (xj_geT (by omega) (by omega))) ?_
    have e : k = 320 := by omega
    subst e
    exact K w f h hB xBut.rf (fun i hi hl => absurd hl (by omega)) (fun j _ => rfl)
  | n + 1, k, w, f, hn, h, hB, hs, hsB, hc, K => by
    refine xg_t (xg_blk (b := [(44, 1, 2, 1, 0, 0), (45, 3, 5, 320, 0, 0), (48, 3, 6, 73, 3, 0), (51, 1, 0, 0, 0, 0), (52, 3, 1, 12, 0, 7), (55, 3, 5, 1020, 0, 0), (58, 1, 2, 1, 0, 0), (59, 1, 11, 0, 0, 0), (60, 1, 0, 0, 0, 0), (61, 3, 1, 12, 45, 99), (64, 1, 2, 1, 0, 0), (65, 1, 10, 0, 0, 0), (66, 1, 17, 0, 0, 0), (67, 3, 9, 1, 1, 0), (70, 3, 8, 44, 0, 0)]) rfl) ?_
    refine xg_t (xg_iload (va := (0, k)) rfl rfl) ?_
    refine xg_t (xg_sip) ?_
    refine xg_t (xg_icF (u := k) (v := 320) rfl xnm0 xnm0 (xj_geF (by omega) (by omega))) ?_
    refine xg_t (xg_aload (va := (2, 82)) rfl rfl) ?_
    refine xg_t (xg_getf (va := (2, 83)) hc rfl) ?_
    refine xg_t (xg_sip) ?_
    refine xg_t (xg_iload (va := (0, k)) rfl rfl) ?_
    refine xg_t (xg_iadd (u := 1020) (v := k) (z := 1020 + k) xnm0 xnm0 (by omega)) ?_
    refine xg_t (xg_aload (va := (2, 82)) rfl rfl) ?_
    refine xg_t (xg_getf (va := (2, 112)) hc rfl) ?_
    refine xg_t (xg_iload (va := (0, k)) rfl rfl) ?_
    refine xg_t (xg_ialdR (n := k) (u := r k) hs xnm0 (by omega) rfl) ?_
    refine xg_iastK (n := 1020 + k) (u := r k) h xnm0 xnm0 rfl (by omega) (fun w1 hr2 hb3 => ?_)
    refine xg_t (xg_iinc (u := k) (z := k + 1) (l1 := [(0, (2, 82))]) rfl rfl (by omega) rfl) ?_
    refine xg_t (xg_goto) ?_
    refine xg_t (xg_drop (l1 := [(0, (2, 82)), (1, (0, k + 1))]) (List.forall_mem_cons.mpr ⟨List.mem_cons_of_mem _ (List.mem_cons_self), List.forall_mem_cons.mpr ⟨List.mem_cons_self, fun _ h => absurd h List.not_mem_nil⟩⟩)) ?_
    refine cpRul n (k + 1) w1 (fun j => if j = 1020 + k then r k else f j) (by omega) hr2 (xrb (by have q := hsB k; omega) hB) (hs.but hb3 (by decide)) hsB (hb3.get (by decide) hc) (fun w2 f2 g1 g2 g3 g4 g5 => K w2 f2 g1 g2 (hb3.tr g3) (fun i hi hl => ?_) (fun j hj => ?_))
    · by_cases z : i = k
      · subst z
        rw [g5 _ (by omega)]
        exact if_pos rfl
      · exact g4 i (by omega) hl
    · rw [g5 j (by omega)]
      exact if_neg (by omega)
end XMC
