section
/-! the model: film; images -/
theorem okB_sh {f : Nat → Nat} {b : Nat} (h : okB f 0) : okB (fun j => f (j - b)) b := by
  unfold okB at h ⊢
  simp only [Nat.zero_add] at h
  have e : ∀ t, b + t - b = t := fun t => Nat.add_sub_cancel_left ..
  have e0 : b - b = 0 := Nat.sub_self b
  simp only [e, e0, Nat.add_assoc]
  simp only [Nat.add_assoc] at h
  exact h
theorem okB_dn {f : Nat → Nat} {b : Nat} (h : okB f b) : okB (fun j => f (b + j)) 0 := by
  unfold okB at h ⊢
  simp only [Nat.zero_add, Nat.add_zero]
  simp only [Nat.add_assoc] at h ⊢
  exact h
noncomputable def rwk (w : List (List xE)) (k j : Nat) : Nat := match wget w k with
  | some (.inr a) => (xat a.1 a.2.2.2 j).2
  | _ => 0
theorem rwk_of {w : List (List xE)} {kd tg k L t j : Nat} {f : Nat → Nat} (h : xRk kd tg w k L t f) (hj : j < L) : rwk w k j = f j := by
  obtain ⟨us, h1, h2⟩ := h
  unfold rwk
  rw [h1]
  show (xat kd us j).2 = f j
  rw [h2 j hj]
theorem rwk_eq {w w' : List (List xE)} {k j : Nat} (h : wget w' k = wget w k) : rwk w' k j = rwk w k j := by
  unfold rwk
  rw [h]
def dt (m r : Nat → Nat) : Prop := m 0 ≤ 6 ∧ m 1 ≤ 4 ∧ m 2 ≤ 6 ∧ m 3 ≤ 4 ∧ m 4 ≤ 20 ∧ (1 ≤ r 5 ∧ r 5 ≤ 6) ∧ (1 ≤ r 6 ∧ r 6 ≤ 6) ∧ (1 ≤ r 7 ∧ r 7 ≤ 10) ∧ (1 ≤ r 8 ∧ r 8 ≤ 10) ∧ (∀ k i, k < m 0 → i < 3 → 1 ≤ r (20 + 4 * k + i) ∧ r (20 + 4 * k + i) ≤ 99) ∧ ∀ k, k < m 1 → 1 ≤ r (51 + 2 * k) ∧ r (51 + 2 * k) ≤ 999
theorem DATA.toDt {w : List (List xE)} {m r : Nat → Nat} (h : DATA w) (h1 : xRow w 85 7 52 m) (h2 : xRow w 86 140 53 r) : dt m r := by
  obtain ⟨m0, m1, m2, m3, m4, r5, r6, r7, r8, d0, d1⟩ := h
  have e0 := rwv_of h1 (show 0 < 7 by decide)
  have e1 := rwv_of h1 (show 1 < 7 by decide)
  have e2 := rwv_of h1 (show 2 < 7 by decide)
  have e3 := rwv_of h1 (show 3 < 7 by decide)
  have e4 := rwv_of h1 (show 4 < 7 by decide)
  have f5 := rwv_of h2 (show 5 < 140 by decide)
  have f6 := rwv_of h2 (show 6 < 140 by decide)
  have f7 := rwv_of h2 (show 7 < 140 by decide)
  have f8 := rwv_of h2 (show 8 < 140 by decide)
  refine ⟨by omega, by omega, by omega, by omega, by omega, by omega, by omega, by omega, by omega, fun k i hk hi => ?_, fun k hk => ?_⟩
  · rw [← rwv_of h2 (show 20 + 4 * k + i < 140 by omega)]
    exact d0 k i (by omega) hi
  · rw [← rwv_of h2 (show 51 + 2 * k < 140 by omega)]
    exact d1 k (by omega)
theorem DATA.fr {S : List Nat} {w w' : List (List xE)} (h : DATA w) (hf : xFr S w w') (h1 : 85 ∉ S) (h2 : 86 ∉ S) : DATA w' := by
  unfold DATA
  simp only [fun j => rwv_fr (k := 85) (j := j) hf h1, fun j => rwv_fr (k := 86) (j := j) hf h2]
  exact h
theorem film_ok {f h m r : Nat → Nat} (hf : okA f) (D : dt m r) (a0 : h 0 = m 0) (a1 : h 1 = m 1) (a2 : h 2 = m 2) (a3 : h 3 = m 3) (a4 : h 4 = m 4) (a5 : h 5 = r 5) (a6 : h 6 = r 6) (a7 : h 7 = r 7) (a8 : h 8 = r 8) (a9 : h 9 = 0) (a10 : h 10 = 0) (hr : ∀ j, 20 ≤ j → j < 140 → h j = r j) (ho : ∀ j, 140 ≤ j ∨ j = 13 ∨ j = 15 → h j = f j) : okA h := by
  obtain ⟨m0, m1, m2, m3, m4, r5, r6, r7, r8, d0, d1⟩ := D
  have e13 := ho 13 (by omega)
  have e15 := ho 15 (by omega)
  have e900 := ho 900 (by omega)
  have e901 := ho 901 (by omega)
  have e902 := ho 902 (by omega)
  have b13 := hf.l13
  have b15 := hf.l15
  have b900 := hf.l900
  have b901 := hf.l901
  have b902 := hf.l902
  refine hf.mk0 (fun j hj => ho j (by omega)) (okB.of0 ⟨by omega, by omega, by omega, by omega, by omega, by omega, by omega, by omega, by omega, by omega, by omega, by omega, by omega, by omega, by omega, by omega, by omega⟩ ?_ ?_ ?_ ?_)
  · intro k i hk hi
    rw [hr _ (by omega) (by omega)]
    exact d0 k i (by omega) hi
  · intro k hk
    rw [hr _ (by omega) (by omega)]
    exact d1 k (by omega)
  · intro p i hk hi
    omega
  · intro l hk
    rw [ho _ (by omega)]
    exact hf.rul (by omega)
theorem okA.copy {f g : Nat → Nat} {B : Nat} (hf : okA f) (hB : B = 1340 ∨ B = 2680 ∨ B = 4020) (h1 : ∀ i, 0 ≤ i → i < 1340 → g (B + i) = f i) (h2 : ∀ j, j < B ∨ B + 1340 ≤ j → g j = f j) : okA g := by
  have key : ∀ b, (b = 0 ∨ b = 1340 ∨ b = 2680 ∨ b = 4020) → okB f b → okB g b := by
    intro b hb hk
    by_cases z : b = B
    · subst z
      have q : okB (fun j => f (j - b)) b := okB_sh hf.1
      exact okB_congr (fun t ht => by rw [h1 t (by omega) ht]; show _ = f (b + t - b); rw [Nat.add_sub_cancel_left]) q
    · exact okB_congr (fun t ht => h2 _ (by omega)) hk
  exact ⟨key 0 (by omega) hf.1, key 1340 (by omega) hf.2.1, key 2680 (by omega) hf.2.2.1, key 4020 (by omega) hf.2.2.2⟩
theorem okA.back {f g : Nat → Nat} {B : Nat} (hf : okA f) (hB : B = 1340 ∨ B = 2680 ∨ B = 4020) (h1 : ∀ i, 0 ≤ i → i < 1340 → g i = f (B + i)) (h2 : ∀ j, j < 0 ∨ 1340 ≤ j → g j = f j) : okA g := by
  have hb : okB f B := by
    rcases hB with rfl | rfl | rfl
    · exact hf.2.1
    · exact hf.2.2.1
    · exact hf.2.2.2
  refine hf.mk0 (fun j hj => h2 j (Or.inr hj)) ?_
  have q : okB (fun j => f (B + j)) 0 := okB_dn hb
  exact okB_congr (fun t ht => by show g (0 + t) = f (B + (0 + t)); rw [Nat.zero_add]; exact h1 t (by omega) ht) q
section XMC
variable {d : Nat} {w : List (List xE)} {bd : List (Nat × Nat)} {fc : List (Nat × Nat × Bool)} {rr : Nat × Nat}
theorem cpFilm {P : xS → Prop} {r : Nat → Nat} {q0 q1 q2 q3 q4 q5 q6 q7 q8 q9 q10 q11 q12 q13 q14 q15 : Nat} : ∀ (n k : Nat) (w : List (List xE)) (f : Nat → Nat), k + n = 140 → xRow w 83 5360 50 f → (∀ j, f j ≤ 4294967295) → xRow w 86 140 53 r → (∀ j, r j ≤ 4294967295) → wget w 82 = some (.inl (12, [(2, 83), (2, 84), (0, q0), (0, q1), (0, q2), (0, q3), (0, q4), (0, q5), (0, q6), (0, q7), (0, q8), (2, 85), (2, 86), (2, 87), (0, q9), (2, 88), (2, 89), (2, 90), (2, 91), (2, 92), (2, 93), (2, 94), (4, q10), (4, q11), (0, q12), (2, 95), (2, 96), (2, 97), (2, 98), (2, 99), (2, 100), (2, 101), (2, 102), (0, q13), (2, 103), (2, 104), (2, 105), (2, 106), (2, 107), (2, 108), (2, 109), (0, q14), (0, q15), (2, 110), (2, 111), (2, 112), (2, 113)])) → (∀ w2 f2, xRow w2 83 5360 50 f2 → (∀ j, f2 j ≤ 4294967295) → xBut 83 w w2 → (∀ i, k ≤ i → i < 140 → f2 (i) = r (i)) → (∀ j, j < k ∨ 140 ≤ j → f2 j = f j) → xTo d mX12_film (256, [], [(0, (2, 82)), (1, (0, 140))], [], (w2, bd, fc, 0, 0, rr)) P) → xTo d mX12_film (231, [], [(0, (2, 82)), (1, (0, k))], [], (w, bd, fc, 0, 0, rr)) P
  | 0, k, w, f, hn, h, hB, hs, hsB, hc, K => by
    refine xg_t (xg_blk (b := [(231, 1, 2, 1, 0, 0), (232, 3, 5, 140, 0, 0), (235, 3, 6, 256, 3, 0), (238, 1, 0, 0, 0, 0), (239, 3, 1, 12, 0, 7), (242, 1, 2, 1, 0, 0), (243, 1, 0, 0, 0, 0), (244, 3, 1, 12, 12, 20), (247, 1, 2, 1, 0, 0), (248, 1, 10, 0, 0, 0), (249, 1, 17, 0, 0, 0), (250, 3, 9, 1, 1, 0), (253, 3, 8, 231, 0, 0)]) rfl) ?_
    refine xg_t (xg_iload (va := (0, k)) rfl rfl) ?_
    refine xg_t (xg_sip) ?_
    refine xg_t (xg_icT (u := k) (v := 140) rfl xnm0 xnm0 (xj_geT (by omega) (by omega))) ?_
    have e : k = 140 := by omega
    subst e
    exact K w f h hB xBut.rf (fun i hi hl => absurd hl (by omega)) (fun j _ => rfl)
  | n + 1, k, w, f, hn, h, hB, hs, hsB, hc, K => by
    refine xg_t (xg_blk (b := [(231, 1, 2, 1, 0, 0), (232, 3, 5, 140, 0, 0), (235, 3, 6, 256, 3, 0), (238, 1, 0, 0, 0, 0), (239, 3, 1, 12, 0, 7), (242, 1, 2, 1, 0, 0), (243, 1, 0, 0, 0, 0), (244, 3, 1, 12, 12, 20), (247, 1, 2, 1, 0, 0), (248, 1, 10, 0, 0, 0), (249, 1, 17, 0, 0, 0), (250, 3, 9, 1, 1, 0), (253, 3, 8, 231, 0, 0)]) rfl) ?_
    refine xg_t (xg_iload (va := (0, k)) rfl rfl) ?_
    refine xg_t (xg_sip) ?_
    refine xg_t (xg_icF (u := k) (v := 140) rfl xnm0 xnm0 (xj_geF (by omega) (by omega))) ?_
    refine xg_t (xg_aload (va := (2, 82)) rfl rfl) ?_
    refine xg_t (xg_getf (va := (2, 83)) hc rfl) ?_
    refine xg_t (xg_iload (va := (0, k)) rfl rfl) ?_
    refine xg_t (xg_aload (va := (2, 82)) rfl rfl) ?_
    refine xg_t (xg_getf (va := (2, 86)) hc rfl) ?_
    refine xg_t (xg_iload (va := (0, k)) rfl rfl) ?_
    refine xg_t (xg_ialdR (n := k) (u := r k) hs xnm0 (by omega) rfl) ?_
    refine xg_iastK (n := k) (u := r k) h xnm0 xnm0 rfl (by omega) (fun w1 hr2 hb3 => ?_)
    refine xg_t (xg_iinc (u := k) (z := k + 1) (l1 := [(0, (2, 82))]) rfl rfl (by omega) rfl) ?_
    refine xg_t (xg_goto) ?_
    refine xg_t (xg_drop (l1 := [(0, (2, 82)), (1, (0, k + 1))]) (List.forall_mem_cons.mpr ⟨List.mem_cons_of_mem _ (List.mem_cons_self), List.forall_mem_cons.mpr ⟨List.mem_cons_self, fun _ h => absurd h List.not_mem_nil⟩⟩)) ?_
    refine cpFilm n (k + 1) w1 (fun j => if j = k then r k else f j) (by omega) hr2 (xrb (by have q := hsB k; omega) hB) (hs.but hb3 (by decide)) hsB (hb3.get (by decide) hc) (fun w2 f2 g1 g2 g3 g4 g5 => K w2 f2 g1 g2 (hb3.tr g3) (fun i hi hl => ?_) (fun j hj => ?_))
    · by_cases z : i = k
      · subst z
        rw [g5 _ (by omega)]
        exact if_pos rfl
      · exact g4 i (by omega) hl
    · rw [g5 j (by omega)]
      exact if_neg (by omega)
theorem cpImg0 {P : xS → Prop} {q0 q1 q2 q3 q4 q5 q6 q7 q8 q9 q10 q11 q12 q13 q14 q15 : Nat} : ∀ (n k : Nat) (w : List (List xE)) (f : Nat → Nat), k + n = 1340 → xRow w 83 5360 50 f → (∀ j, f j ≤ 4294967295) → wget w 82 = some (.inl (12, [(2, 83), (2, 84), (0, q0), (0, q1), (0, q2), (0, q3), (0, q4), (0, q5), (0, q6), (0, q7), (0, q8), (2, 85), (2, 86), (2, 87), (0, q9), (2, 88), (2, 89), (2, 90), (2, 91), (2, 92), (2, 93), (2, 94), (4, q10), (4, q11), (0, q12), (2, 95), (2, 96), (2, 97), (2, 98), (2, 99), (2, 100), (2, 101), (2, 102), (0, q13), (2, 103), (2, 104), (2, 105), (2, 106), (2, 107), (2, 108), (2, 109), (0, q14), (0, q15), (2, 110), (2, 111), (2, 112), (2, 113)])) → (∀ w2 f2, xRow w2 83 5360 50 f2 → (∀ j, f2 j ≤ 4294967295) → xBut 83 w w2 → (∀ i, k ≤ i → i < 1340 → f2 (1340 + i) = f (i)) → (∀ j, j < 1340 + k ∨ 1340 + 1340 ≤ j → f2 j = f j) → xTo d mX12_image (53, [], [(0, (2, 82)), (1, (0, 0)), (2, (0, 1340))], [], (w2, bd, fc, 0, 0, rr)) P) → xTo d mX12_image (20, [], [(0, (2, 82)), (1, (0, 0)), (2, (0, k))], [], (w, bd, fc, 0, 0, rr)) P
  | 0, k, w, f, hn, h, hB, hc, K => by
    refine xg_t (xg_blk (b := [(20, 1, 2, 2, 0, 0), (21, 3, 5, 1340, 0, 0), (24, 3, 6, 53, 3, 0), (27, 1, 0, 0, 0, 0), (28, 3, 1, 12, 0, 7), (31, 3, 5, 1340, 0, 0), (34, 1, 2, 1, 0, 0), (35, 1, 3, 1, 0, 0), (36, 1, 11, 0, 0, 0), (37, 1, 16, 0, 0, 0), (38, 1, 2, 2, 0, 0), (39, 1, 11, 0, 0, 0), (40, 1, 0, 0, 0, 0), (41, 3, 1, 12, 0, 7), (44, 1, 2, 2, 0, 0), (45, 1, 10, 0, 0, 0), (46, 1, 17, 0, 0, 0), (47, 3, 9, 2, 1, 0), (50, 3, 8, 20, 0, 0)]) rfl) ?_
    refine xg_t (xg_iload (va := (0, k)) rfl rfl) ?_
    refine xg_t (xg_sip) ?_
    refine xg_t (xg_icT (u := k) (v := 1340) rfl xnm0 xnm0 (xj_geT (by omega) (by omega))) ?_
    have e : k = 1340 := by omega
    subst e
    exact K w f h hB xBut.rf (fun i hi hl => absurd hl (by omega)) (fun j _ => rfl)
  | n + 1, k, w, f, hn, h, hB, hc, K => by
    refine xg_t (xg_blk (b := [(20, 1, 2, 2, 0, 0), (21, 3, 5, 1340, 0, 0), (24, 3, 6, 53, 3, 0), (27, 1, 0, 0, 0, 0), (28, 3, 1, 12, 0, 7), (31, 3, 5, 1340, 0, 0), (34, 1, 2, 1, 0, 0), (35, 1, 3, 1, 0, 0), (36, 1, 11, 0, 0, 0), (37, 1, 16, 0, 0, 0), (38, 1, 2, 2, 0, 0), (39, 1, 11, 0, 0, 0), (40, 1, 0, 0, 0, 0), (41, 3, 1, 12, 0, 7), (44, 1, 2, 2, 0, 0), (45, 1, 10, 0, 0, 0), (46, 1, 17, 0, 0, 0), (47, 3, 9, 2, 1, 0), (50, 3, 8, 20, 0, 0)]) rfl) ?_
    refine xg_t (xg_iload (va := (0, k)) rfl rfl) ?_
    refine xg_t (xg_sip) ?_
    refine xg_t (xg_icF (u := k) (v := 1340) rfl xnm0 xnm0 (xj_geF (by omega) (by omega))) ?_
    refine xg_t (xg_aload (va := (2, 82)) rfl rfl) ?_
    refine xg_t (xg_getf (va := (2, 83)) hc rfl) ?_
    refine xg_t (xg_sip) ?_
    refine xg_t (xg_iload (va := (0, 0)) rfl rfl) ?_
    refine xg_t (xg_const) ?_
    refine xg_t (xg_iadd (u := 0) (v := 1) (z := 1) xnm0 xnm0 (by decide)) ?_
    refine xg_t (xg_imul (u := 1340) (v := 1) (z := 1340) xnm0 xnm0 (by decide)) ?_
    refine xg_t (xg_iload (va := (0, k)) rfl rfl) ?_
    refine xg_t (xg_iadd (u := 1340) (v := k) (z := 1340 + k) xnm0 xnm0 (by omega)) ?_
    refine xg_t (xg_aload (va := (2, 82)) rfl rfl) ?_
    refine xg_t (xg_getf (va := (2, 83)) hc rfl) ?_
    refine xg_t (xg_iload (va := (0, k)) rfl rfl) ?_
    refine xg_t (xg_ialdR (n := k) (u := f k) h xnm0 (by omega) rfl) ?_
    refine xg_iastK (n := 1340 + k) (u := f k) h xnm0 xnm0 rfl (by omega) (fun w1 hr2 hb3 => ?_)
    refine xg_t (xg_iinc (u := k) (z := k + 1) (l1 := [(0, (2, 82)), (1, (0, 0))]) rfl rfl (by omega) rfl) ?_
    refine xg_t (xg_goto) ?_
    refine xg_t (xg_drop (l1 := [(0, (2, 82)), (1, (0, 0)), (2, (0, k + 1))]) (List.forall_mem_cons.mpr ⟨List.mem_cons_of_mem _ (List.mem_cons_self), List.forall_mem_cons.mpr ⟨List.mem_cons_of_mem _ (List.mem_cons_of_mem _ (List.mem_cons_self)), List.forall_mem_cons.mpr ⟨List.mem_cons_self, fun _ h => absurd h List.not_mem_nil⟩⟩⟩)) ?_
    refine cpImg0 n (k + 1) w1 (fun j => if j = 1340 + k then f k else f j) (by omega) hr2 (xrb (by have q := hB k; omega) hB) (hb3.get (by decide) hc) (fun w2 f2 g1 g2 g3 g4 g5 => K w2 f2 g1 g2 (hb3.tr g3) (fun i hi hl => ?_) (fun j hj => ?_))
    · by_cases z : i = k
      · subst z
        rw [g5 _ (by omega)]
        exact if_pos rfl
      · rw [g4 i (by omega) hl]
        exact if_neg (by omega)
    · rw [g5 j (by omega)]
      exact if_neg (by omega)
theorem cpAgn0 {P : xS → Prop} {q0 q1 q2 q3 q4 q5 q6 q7 q8 q9 q10 q11 q12 q13 q14 q15 : Nat} : ∀ (n k : Nat) (w : List (List xE)) (f : Nat → Nat), k + n = 1340 → xRow w 83 5360 50 f → (∀ j, f j ≤ 4294967295) → wget w 82 = some (.inl (12, [(2, 83), (2, 84), (0, q0), (0, q1), (0, q2), (0, q3), (0, q4), (0, q5), (0, q6), (0, q7), (0, q8), (2, 85), (2, 86), (2, 87), (0, q9), (2, 88), (2, 89), (2, 90), (2, 91), (2, 92), (2, 93), (2, 94), (4, q10), (4, q11), (0, q12), (2, 95), (2, 96), (2, 97), (2, 98), (2, 99), (2, 100), (2, 101), (2, 102), (0, q13), (2, 103), (2, 104), (2, 105), (2, 106), (2, 107), (2, 108), (2, 109), (0, q14), (0, q15), (2, 110), (2, 111), (2, 112), (2, 113)])) → (∀ w2 f2, xRow w2 83 5360 50 f2 → (∀ j, f2 j ≤ 4294967295) → xBut 83 w w2 → (∀ i, k ≤ i → i < 1340 → f2 (i) = f (1340 + i)) → (∀ j, j < k ∨ 1340 ≤ j → f2 j = f j) → xTo d mX12_again (55, [], [(0, (2, 82)), (1, (0, 0)), (2, (0, 1340))], [], (w2, bd, fc, 0, 0, rr)) P) → xTo d mX12_again (22, [], [(0, (2, 82)), (1, (0, 0)), (2, (0, k))], [], (w, bd, fc, 0, 0, rr)) P
  | 0, k, w, f, hn, h, hB, hc, K => by
    refine xg_t (xg_blk (b := [(22, 1, 2, 2, 0, 0), (23, 3, 5, 1340, 0, 0), (26, 3, 6, 55, 3, 0), (29, 1, 0, 0, 0, 0), (30, 3, 1, 12, 0, 7), (33, 1, 2, 2, 0, 0), (34, 1, 0, 0, 0, 0), (35, 3, 1, 12, 0, 7), (38, 3, 5, 1340, 0, 0), (41, 1, 2, 1, 0, 0), (42, 1, 3, 1, 0, 0), (43, 1, 11, 0, 0, 0), (44, 1, 16, 0, 0, 0), (45, 1, 2, 2, 0, 0), (46, 1, 11, 0, 0, 0), (47, 1, 10, 0, 0, 0), (48, 1, 17, 0, 0, 0), (49, 3, 9, 2, 1, 0), (52, 3, 8, 22, 0, 0)]) rfl) ?_
    refine xg_t (xg_iload (va := (0, k)) rfl rfl) ?_
    refine xg_t (xg_sip) ?_
    refine xg_t (xg_icT (u := k) (v := 1340) rfl xnm0 xnm0 (xj_geT (by omega) (by omega))) ?_
    have e : k = 1340 := by omega
    subst e
    exact K w f h hB xBut.rf (fun i hi hl => absurd hl (by omega)) (fun j _ => rfl)
  | n + 1, k, w, f, hn, h, hB, hc, K => by
    refine xg_t (xg_blk (b := [(22, 1, 2, 2, 0, 0), (23, 3, 5, 1340, 0, 0), (26, 3, 6, 55, 3, 0), (29, 1, 0, 0, 0, 0), (30, 3, 1, 12, 0, 7), (33, 1, 2, 2, 0, 0), (34, 1, 0, 0, 0, 0), (35, 3, 1, 12, 0, 7), (38, 3, 5, 1340, 0, 0), (41, 1, 2, 1, 0, 0), (42, 1, 3, 1, 0, 0), (43, 1, 11, 0, 0, 0), (44, 1, 16, 0, 0, 0), (45, 1, 2, 2, 0, 0), (46, 1, 11, 0, 0, 0), (47, 1, 10, 0, 0, 0), (48, 1, 17, 0, 0, 0), (49, 3, 9, 2, 1, 0), (52, 3, 8, 22, 0, 0)]) rfl) ?_
    refine xg_t (xg_iload (va := (0, k)) rfl rfl) ?_
    refine xg_t (xg_sip) ?_
    refine xg_t (xg_icF (u := k) (v := 1340) rfl xnm0 xnm0 (xj_geF (by omega) (by omega))) ?_
    refine xg_t (xg_aload (va := (2, 82)) rfl rfl) ?_
    refine xg_t (xg_getf (va := (2, 83)) hc rfl) ?_
    refine xg_t (xg_iload (va := (0, k)) rfl rfl) ?_
    refine xg_t (xg_aload (va := (2, 82)) rfl rfl) ?_
    refine xg_t (xg_getf (va := (2, 83)) hc rfl) ?_
    refine xg_t (xg_sip) ?_
    refine xg_t (xg_iload (va := (0, 0)) rfl rfl) ?_
    refine xg_t (xg_const) ?_
    refine xg_t (xg_iadd (u := 0) (v := 1) (z := 1) xnm0 xnm0 (by decide)) ?_
    refine xg_t (xg_imul (u := 1340) (v := 1) (z := 1340) xnm0 xnm0 (by decide)) ?_
    refine xg_t (xg_iload (va := (0, k)) rfl rfl) ?_
    refine xg_t (xg_iadd (u := 1340) (v := k) (z := 1340 + k) xnm0 xnm0 (by omega)) ?_
    refine xg_t (xg_ialdR (n := 1340 + k) (u := f (1340 + k)) h xnm0 (by omega) rfl) ?_
    refine xg_iastK (n := k) (u := f (1340 + k)) h xnm0 xnm0 rfl (by omega) (fun w1 hr2 hb3 => ?_)
    refine xg_t (xg_iinc (u := k) (z := k + 1) (l1 := [(0, (2, 82)), (1, (0, 0))]) rfl rfl (by omega) rfl) ?_
    refine xg_t (xg_goto) ?_
    refine xg_t (xg_drop (l1 := [(0, (2, 82)), (1, (0, 0)), (2, (0, k + 1))]) (List.forall_mem_cons.mpr ⟨List.mem_cons_of_mem _ (List.mem_cons_self), List.forall_mem_cons.mpr ⟨List.mem_cons_of_mem _ (List.mem_cons_of_mem _ (List.mem_cons_self)), List.forall_mem_cons.mpr ⟨List.mem_cons_self, fun _ h => absurd h List.not_mem_nil⟩⟩⟩)) ?_
    refine cpAgn0 n (k + 1) w1 (fun j => if j = k then f (1340 + k) else f j) (by omega) hr2 (xrb (by have q := hB (1340 + k); omega) hB) (hb3.get (by decide) hc) (fun w2 f2 g1 g2 g3 g4 g5 => K w2 f2 g1 g2 (hb3.tr g3) (fun i hi hl => ?_) (fun j hj => ?_))
    · by_cases z : i = k
      · subst z
        rw [g5 _ (by omega)]
        exact if_pos rfl
      · rw [g4 i (by omega) hl]
        exact if_neg (by omega)
    · rw [g5 j (by omega)]
      exact if_neg (by omega)
theorem cpImg1 {P : xS → Prop} {q0 q1 q2 q3 q4 q5 q6 q7 q8 q9 q10 q11 q12 q13 q14 q15 : Nat} : ∀ (n k : Nat) (w : List (List xE)) (f : Nat → Nat), k + n = 1340 → xRow w 83 5360 50 f → (∀ j, f j ≤ 4294967295) → wget w 82 = some (.inl (12, [(2, 83), (2, 84), (0, q0), (0, q1), (0, q2), (0, q3), (0, q4), (0, q5), (0, q6), (0, q7), (0, q8), (2, 85), (2, 86), (2, 87), (0, q9), (2, 88), (2, 89), (2, 90), (2, 91), (2, 92), (2, 93), (2, 94), (4, q10), (4, q11), (0, q12), (2, 95), (2, 96), (2, 97), (2, 98), (2, 99), (2, 100), (2, 101), (2, 102), (0, q13), (2, 103), (2, 104), (2, 105), (2, 106), (2, 107), (2, 108), (2, 109), (0, q14), (0, q15), (2, 110), (2, 111), (2, 112), (2, 113)])) → (∀ w2 f2, xRow w2 83 5360 50 f2 → (∀ j, f2 j ≤ 4294967295) → xBut 83 w w2 → (∀ i, k ≤ i → i < 1340 → f2 (2680 + i) = f (i)) → (∀ j, j < 2680 + k ∨ 2680 + 1340 ≤ j → f2 j = f j) → xTo d mX12_image (53, [], [(0, (2, 82)), (1, (0, 1)), (2, (0, 1340))], [], (w2, bd, fc, 0, 0, rr)) P) → xTo d mX12_image (20, [], [(0, (2, 82)), (1, (0, 1)), (2, (0, k))], [], (w, bd, fc, 0, 0, rr)) P
  | 0, k, w, f, hn, h, hB, hc, K => by
    refine xg_t (xg_blk (b := [(20, 1, 2, 2, 0, 0), (21, 3, 5, 1340, 0, 0), (24, 3, 6, 53, 3, 0), (27, 1, 0, 0, 0, 0), (28, 3, 1, 12, 0, 7), (31, 3, 5, 1340, 0, 0), (34, 1, 2, 1, 0, 0), (35, 1, 3, 1, 0, 0), (36, 1, 11, 0, 0, 0), (37, 1, 16, 0, 0, 0), (38, 1, 2, 2, 0, 0), (39, 1, 11, 0, 0, 0), (40, 1, 0, 0, 0, 0), (41, 3, 1, 12, 0, 7), (44, 1, 2, 2, 0, 0), (45, 1, 10, 0, 0, 0), (46, 1, 17, 0, 0, 0), (47, 3, 9, 2, 1, 0), (50, 3, 8, 20, 0, 0)]) rfl) ?_
    refine xg_t (xg_iload (va := (0, k)) rfl rfl) ?_
    refine xg_t (xg_sip) ?_
    refine xg_t (xg_icT (u := k) (v := 1340) rfl xnm0 xnm0 (xj_geT (by omega) (by omega))) ?_
    have e : k = 1340 := by omega
    subst e
    exact K w f h hB xBut.rf (fun i hi hl => absurd hl (by omega)) (fun j _ => rfl)
  | n + 1, k, w, f, hn, h, hB, hc, K => by
    refine xg_t (xg_blk (b := [(20, 1, 2, 2, 0, 0), (21, 3, 5, 1340, 0, 0), (24, 3, 6, 53, 3, 0), (27, 1, 0, 0, 0, 0), (28, 3, 1, 12, 0, 7), (31, 3, 5, 1340, 0, 0), (34, 1, 2, 1, 0, 0), (35, 1, 3, 1, 0, 0), (36, 1, 11, 0, 0, 0), (37, 1, 16, 0, 0, 0), (38, 1, 2, 2, 0, 0), (39, 1, 11, 0, 0, 0), (40, 1, 0, 0, 0, 0), (41, 3, 1, 12, 0, 7), (44, 1, 2, 2, 0, 0), (45, 1, 10, 0, 0, 0), (46, 1, 17, 0, 0, 0), (47, 3, 9, 2, 1, 0), (50, 3, 8, 20, 0, 0)]) rfl) ?_
    refine xg_t (xg_iload (va := (0, k)) rfl rfl) ?_
    refine xg_t (xg_sip) ?_
    refine xg_t (xg_icF (u := k) (v := 1340) rfl xnm0 xnm0 (xj_geF (by omega) (by omega))) ?_
    refine xg_t (xg_aload (va := (2, 82)) rfl rfl) ?_
    refine xg_t (xg_getf (va := (2, 83)) hc rfl) ?_
    refine xg_t (xg_sip) ?_
    refine xg_t (xg_iload (va := (0, 1)) rfl rfl) ?_
    refine xg_t (xg_const) ?_
    refine xg_t (xg_iadd (u := 1) (v := 1) (z := 2) xnm0 xnm0 (by decide)) ?_
    refine xg_t (xg_imul (u := 1340) (v := 2) (z := 2680) xnm0 xnm0 (by decide)) ?_
    refine xg_t (xg_iload (va := (0, k)) rfl rfl) ?_
    refine xg_t (xg_iadd (u := 2680) (v := k) (z := 2680 + k) xnm0 xnm0 (by omega)) ?_
    refine xg_t (xg_aload (va := (2, 82)) rfl rfl) ?_
    refine xg_t (xg_getf (va := (2, 83)) hc rfl) ?_
    refine xg_t (xg_iload (va := (0, k)) rfl rfl) ?_
    refine xg_t (xg_ialdR (n := k) (u := f k) h xnm0 (by omega) rfl) ?_
    refine xg_iastK (n := 2680 + k) (u := f k) h xnm0 xnm0 rfl (by omega) (fun w1 hr2 hb3 => ?_)
    refine xg_t (xg_iinc (u := k) (z := k + 1) (l1 := [(0, (2, 82)), (1, (0, 1))]) rfl rfl (by omega) rfl) ?_
    refine xg_t (xg_goto) ?_
    refine xg_t (xg_drop (l1 := [(0, (2, 82)), (1, (0, 1)), (2, (0, k + 1))]) (List.forall_mem_cons.mpr ⟨List.mem_cons_of_mem _ (List.mem_cons_self), List.forall_mem_cons.mpr ⟨List.mem_cons_of_mem _ (List.mem_cons_of_mem _ (List.mem_cons_self)), List.forall_mem_cons.mpr ⟨List.mem_cons_self, fun _ h => absurd h List.not_mem_nil⟩⟩⟩)) ?_
    refine cpImg1 n (k + 1) w1 (fun j => if j = 2680 + k then f k else f j) (by omega) hr2 (xrb (by have q := hB k; omega) hB) (hb3.get (by decide) hc) (fun w2 f2 g1 g2 g3 g4 g5 => K w2 f2 g1 g2 (hb3.tr g3) (fun i hi hl => ?_) (fun j hj => ?_))
    · by_cases z : i = k
      · subst z
        rw [g5 _ (by omega)]
        exact if_pos rfl
      · rw [g4 i (by omega) hl]
        exact if_neg (by omega)
    · rw [g5 j (by omega)]
      exact if_neg (by omega)
theorem cpAgn1 {P : xS → Prop} {q0 q1 q2 q3 q4 q5 q6 q7 q8 q9 q10 q11 q12 q13 q14 q15 : Nat} : ∀ (n k : Nat) (w : List (List xE)) (f : Nat → Nat), k + n = 1340 → xRow w 83 5360 50 f → (∀ j, f j ≤ 4294967295) → wget w 82 = some (.inl (12, [(2, 83), (2, 84), (0, q0), (0, q1), (0, q2), (0, q3), (0, q4), (0, q5), (0, q6), (0, q7), (0, q8), (2, 85), (2, 86), (2, 87), (0, q9), (2, 88), (2, 89), (2, 90), (2, 91), (2, 92), (2, 93), (2, 94), (4, q10), (4, q11), (0, q12), (2, 95), (2, 96), (2, 97), (2, 98), (2, 99), (2, 100), (2, 101), (2, 102), (0, q13), (2, 103), (2, 104), (2, 105), (2, 106), (2, 107), (2, 108), (2, 109), (0, q14), (0, q15), (2, 110), (2, 111), (2, 112), (2, 113)])) → (∀ w2 f2, xRow w2 83 5360 50 f2 → (∀ j, f2 j ≤ 4294967295) → xBut 83 w w2 → (∀ i, k ≤ i → i < 1340 → f2 (i) = f (2680 + i)) → (∀ j, j < k ∨ 1340 ≤ j → f2 j = f j) → xTo d mX12_again (55, [], [(0, (2, 82)), (1, (0, 1)), (2, (0, 1340))], [], (w2, bd, fc, 0, 0, rr)) P) → xTo d mX12_again (22, [], [(0, (2, 82)), (1, (0, 1)), (2, (0, k))], [], (w, bd, fc, 0, 0, rr)) P
  | 0, k, w, f, hn, h, hB, hc, K => by
    refine xg_t (xg_blk (b := [(22, 1, 2, 2, 0, 0), (23, 3, 5, 1340, 0, 0), (26, 3, 6, 55, 3, 0), (29, 1, 0, 0, 0, 0), (30, 3, 1, 12, 0, 7), (33, 1, 2, 2, 0, 0), (34, 1, 0, 0, 0, 0), (35, 3, 1, 12, 0, 7), (38, 3, 5, 1340, 0, 0), (41, 1, 2, 1, 0, 0), (42, 1, 3, 1, 0, 0), (43, 1, 11, 0, 0, 0), (44, 1, 16, 0, 0, 0), (45, 1, 2, 2, 0, 0), (46, 1, 11, 0, 0, 0), (47, 1, 10, 0, 0, 0), (48, 1, 17, 0, 0, 0), (49, 3, 9, 2, 1, 0), (52, 3, 8, 22, 0, 0)]) rfl) ?_
    refine xg_t (xg_iload (va := (0, k)) rfl rfl) ?_
    refine xg_t (xg_sip) ?_
    refine xg_t (xg_icT (u := k) (v := 1340) rfl xnm0 xnm0 (xj_geT (by omega) (by omega))) ?_
    have e : k = 1340 := by omega
    subst e
    exact K w f h hB xBut.rf (fun i hi hl => absurd hl (by omega)) (fun j _ => rfl)
  | n + 1, k, w, f, hn, h, hB, hc, K => by
    refine xg_t (xg_blk (b := [(22, 1, 2, 2, 0, 0), (23, 3, 5, 1340, 0, 0), (26, 3, 6, 55, 3, 0), (29, 1, 0, 0, 0, 0), (30, 3, 1, 12, 0, 7), (33, 1, 2, 2, 0, 0), (34, 1, 0, 0, 0, 0), (35, 3, 1, 12, 0, 7), (38, 3, 5, 1340, 0, 0), (41, 1, 2, 1, 0, 0), (42, 1, 3, 1, 0, 0), (43, 1, 11, 0, 0, 0), (44, 1, 16, 0, 0, 0), (45, 1, 2, 2, 0, 0), (46, 1, 11, 0, 0, 0), (47, 1, 10, 0, 0, 0), (48, 1, 17, 0, 0, 0), (49, 3, 9, 2, 1, 0), (52, 3, 8, 22, 0, 0)]) rfl) ?_
    refine xg_t (xg_iload (va := (0, k)) rfl rfl) ?_
    refine xg_t (xg_sip) ?_
    refine xg_t (xg_icF (u := k) (v := 1340) rfl xnm0 xnm0 (xj_geF (by omega) (by omega))) ?_
    refine xg_t (xg_aload (va := (2, 82)) rfl rfl) ?_
    refine xg_t (xg_getf (va := (2, 83)) hc rfl) ?_
    refine xg_t (xg_iload (va := (0, k)) rfl rfl) ?_
    refine xg_t (xg_aload (va := (2, 82)) rfl rfl) ?_
    refine xg_t (xg_getf (va := (2, 83)) hc rfl) ?_
    refine xg_t (xg_sip) ?_
    refine xg_t (xg_iload (va := (0, 1)) rfl rfl) ?_
    refine xg_t (xg_const) ?_
    refine xg_t (xg_iadd (u := 1) (v := 1) (z := 2) xnm0 xnm0 (by decide)) ?_
    refine xg_t (xg_imul (u := 1340) (v := 2) (z := 2680) xnm0 xnm0 (by decide)) ?_
    refine xg_t (xg_iload (va := (0, k)) rfl rfl) ?_
    refine xg_t (xg_iadd (u := 2680) (v := k) (z := 2680 + k) xnm0 xnm0 (by omega)) ?_
    refine xg_t (xg_ialdR (n := 2680 + k) (u := f (2680 + k)) h xnm0 (by omega) rfl) ?_
    refine xg_iastK (n := k) (u := f (2680 + k)) h xnm0 xnm0 rfl (by omega) (fun w1 hr2 hb3 => ?_)
    refine xg_t (xg_iinc (u := k) (z := k + 1) (l1 := [(0, (2, 82)), (1, (0, 1))]) rfl rfl (by omega) rfl) ?_
    refine xg_t (xg_goto) ?_
    refine xg_t (xg_drop (l1 := [(0, (2, 82)), (1, (0, 1)), (2, (0, k + 1))]) (List.forall_mem_cons.mpr ⟨List.mem_cons_of_mem _ (List.mem_cons_self), List.forall_mem_cons.mpr ⟨List.mem_cons_of_mem _ (List.mem_cons_of_mem _ (List.mem_cons_self)), List.forall_mem_cons.mpr ⟨List.mem_cons_self, fun _ h => absurd h List.not_mem_nil⟩⟩⟩)) ?_
    refine cpAgn1 n (k + 1) w1 (fun j => if j = k then f (2680 + k) else f j) (by omega) hr2 (xrb (by have q := hB (2680 + k); omega) hB) (hb3.get (by decide) hc) (fun w2 f2 g1 g2 g3 g4 g5 => K w2 f2 g1 g2 (hb3.tr g3) (fun i hi hl => ?_) (fun j hj => ?_))
    · by_cases z : i = k
      · subst z
        rw [g5 _ (by omega)]
        exact if_pos rfl
      · rw [g4 i (by omega) hl]
        exact if_neg (by omega)
    · rw [g5 j (by omega)]
      exact if_neg (by omega)
theorem cpImg2 {P : xS → Prop} {q0 q1 q2 q3 q4 q5 q6 q7 q8 q9 q10 q11 q12 q13 q14 q15 : Nat} : ∀ (n k : Nat) (w : List (List xE)) (f : Nat → Nat), k + n = 1340 → xRow w 83 5360 50 f → (∀ j, f j ≤ 4294967295) → wget w 82 = some (.inl (12, [(2, 83), (2, 84), (0, q0), (0, q1), (0, q2), (0, q3), (0, q4), (0, q5), (0, q6), (0, q7), (0, q8), (2, 85), (2, 86), (2, 87), (0, q9), (2, 88), (2, 89), (2, 90), (2, 91), (2, 92), (2, 93), (2, 94), (4, q10), (4, q11), (0, q12), (2, 95), (2, 96), (2, 97), (2, 98), (2, 99), (2, 100), (2, 101), (2, 102), (0, q13), (2, 103), (2, 104), (2, 105), (2, 106), (2, 107), (2, 108), (2, 109), (0, q14), (0, q15), (2, 110), (2, 111), (2, 112), (2, 113)])) → (∀ w2 f2, xRow w2 83 5360 50 f2 → (∀ j, f2 j ≤ 4294967295) → xBut 83 w w2 → (∀ i, k ≤ i → i < 1340 → f2 (4020 + i) = f (i)) → (∀ j, j < 4020 + k ∨ 4020 + 1340 ≤ j → f2 j = f j) → xTo d mX12_image (53, [], [(0, (2, 82)), (1, (0, 2)), (2, (0, 1340))], [], (w2, bd, fc, 0, 0, rr)) P) → xTo d mX12_image (20, [], [(0, (2, 82)), (1, (0, 2)), (2, (0, k))], [], (w, bd, fc, 0, 0, rr)) P
  | 0, k, w, f, hn, h, hB, hc, K => by
    refine xg_t (xg_blk (b := [(20, 1, 2, 2, 0, 0), (21, 3, 5, 1340, 0, 0), (24, 3, 6, 53, 3, 0), (27, 1, 0, 0, 0, 0), (28, 3, 1, 12, 0, 7), (31, 3, 5, 1340, 0, 0), (34, 1, 2, 1, 0, 0), (35, 1, 3, 1, 0, 0), (36, 1, 11, 0, 0, 0), (37, 1, 16, 0, 0, 0), (38, 1, 2, 2, 0, 0), (39, 1, 11, 0, 0, 0), (40, 1, 0, 0, 0, 0), (41, 3, 1, 12, 0, 7), (44, 1, 2, 2, 0, 0), (45, 1, 10, 0, 0, 0), (46, 1, 17, 0, 0, 0), (47, 3, 9, 2, 1, 0), (50, 3, 8, 20, 0, 0)]) rfl) ?_
    refine xg_t (xg_iload (va := (0, k)) rfl rfl) ?_
    refine xg_t (xg_sip) ?_
    refine xg_t (xg_icT (u := k) (v := 1340) rfl xnm0 xnm0 (xj_geT (by omega) (by omega))) ?_
    have e : k = 1340 := by omega
    subst e
    exact K w f h hB xBut.rf (fun i hi hl => absurd hl (by omega)) (fun j _ => rfl)
  | n + 1, k, w, f, hn, h, hB, hc, K => by
    refine xg_t (xg_blk (b := [(20, 1, 2, 2, 0, 0), (21, 3, 5, 1340, 0, 0), (24, 3, 6, 53, 3, 0), (27, 1, 0, 0, 0, 0), (28, 3, 1, 12, 0, 7), (31, 3, 5, 1340, 0, 0), (34, 1, 2, 1, 0, 0), (35, 1, 3, 1, 0, 0), (36, 1, 11, 0, 0, 0), (37, 1, 16, 0, 0, 0), (38, 1, 2, 2, 0, 0), (39, 1, 11, 0, 0, 0), (40, 1, 0, 0, 0, 0), (41, 3, 1, 12, 0, 7), (44, 1, 2, 2, 0, 0), (45, 1, 10, 0, 0, 0), (46, 1, 17, 0, 0, 0), (47, 3, 9, 2, 1, 0), (50, 3, 8, 20, 0, 0)]) rfl) ?_
    refine xg_t (xg_iload (va := (0, k)) rfl rfl) ?_
    refine xg_t (xg_sip) ?_
    refine xg_t (xg_icF (u := k) (v := 1340) rfl xnm0 xnm0 (xj_geF (by omega) (by omega))) ?_
    refine xg_t (xg_aload (va := (2, 82)) rfl rfl) ?_
    refine xg_t (xg_getf (va := (2, 83)) hc rfl) ?_
    refine xg_t (xg_sip) ?_
    refine xg_t (xg_iload (va := (0, 2)) rfl rfl) ?_
    refine xg_t (xg_const) ?_
    refine xg_t (xg_iadd (u := 2) (v := 1) (z := 3) xnm0 xnm0 (by decide)) ?_
    refine xg_t (xg_imul (u := 1340) (v := 3) (z := 4020) xnm0 xnm0 (by decide)) ?_
    refine xg_t (xg_iload (va := (0, k)) rfl rfl) ?_
    refine xg_t (xg_iadd (u := 4020) (v := k) (z := 4020 + k) xnm0 xnm0 (by omega)) ?_
    refine xg_t (xg_aload (va := (2, 82)) rfl rfl) ?_
    refine xg_t (xg_getf (va := (2, 83)) hc rfl) ?_
    refine xg_t (xg_iload (va := (0, k)) rfl rfl) ?_
    refine xg_t (xg_ialdR (n := k) (u := f k) h xnm0 (by omega) rfl) ?_
    refine xg_iastK (n := 4020 + k) (u := f k) h xnm0 xnm0 rfl (by omega) (fun w1 hr2 hb3 => ?_)
    refine xg_t (xg_iinc (u := k) (z := k + 1) (l1 := [(0, (2, 82)), (1, (0, 2))]) rfl rfl (by omega) rfl) ?_
    refine xg_t (xg_goto) ?_
    refine xg_t (xg_drop (l1 := [(0, (2, 82)), (1, (0, 2)), (2, (0, k + 1))]) (List.forall_mem_cons.mpr ⟨List.mem_cons_of_mem _ (List.mem_cons_self), List.forall_mem_cons.mpr ⟨List.mem_cons_of_mem _ (List.mem_cons_of_mem _ (List.mem_cons_self)), List.forall_mem_cons.mpr ⟨List.mem_cons_self, fun _ h => absurd h List.not_mem_nil⟩⟩⟩)) ?_
    refine cpImg2 n (k + 1) w1 (fun j => if j = 4020 + k then f k else f j) (by omega) hr2 (xrb (by have q := hB k; omega) hB) (hb3.get (by decide) hc) (fun w2 f2 g1 g2 g3 g4 g5 => K w2 f2 g1 g2 (hb3.tr g3) (fun i hi hl => ?_) (fun j hj => ?_))
    · by_cases z : i = k
      · subst z
        rw [g5 _ (by omega)]
        exact if_pos rfl
      · rw [g4 i (by omega) hl]
        exact if_neg (by omega)
    · rw [g5 j (by omega)]
      exact if_neg (by omega)
theorem cpAgn2 {P : xS → Prop} {q0 q1 q2 q3 q4 q5 q6 q7 q8 q9 q10 q11 q12 q13 q14 q15 : Nat} : ∀ (n k : Nat) (w : List (List xE)) (f : Nat → Nat), k + n = 1340 → xRow w 83 5360 50 f → (∀ j, f j ≤ 4294967295) → wget w 82 = some (.inl (12, [(2, 83), (2, 84), (0, q0), (0, q1), (0, q2), (0, q3), (0, q4), (0, q5), (0, q6), (0, q7), (0, q8), (2, 85), (2, 86), (2, 87), (0, q9), (2, 88), (2, 89), (2, 90), (2, 91), (2, 92), (2, 93), (2, 94), (4, q10), (4, q11), (0, q12), (2, 95), (2, 96), (2, 97), (2, 98), (2, 99), (2, 100), (2, 101), (2, 102), (0, q13), (2, 103), (2, 104), (2, 105), (2, 106), (2, 107), (2, 108), (2, 109), (0, q14), (0, q15), (2, 110), (2, 111), (2, 112), (2, 113)])) → (∀ w2 f2, xRow w2 83 5360 50 f2 → (∀ j, f2 j ≤ 4294967295) → xBut 83 w w2 → (∀ i, k ≤ i → i < 1340 → f2 (i) = f (4020 + i)) → (∀ j, j < k ∨ 1340 ≤ j → f2 j = f j) → xTo d mX12_again (55, [], [(0, (2, 82)), (1, (0, 2)), (2, (0, 1340))], [], (w2, bd, fc, 0, 0, rr)) P) → xTo d mX12_again (22, [], [(0, (2, 82)), (1, (0, 2)), (2, (0, k))], [], (w, bd, fc, 0, 0, rr)) P
  | 0, k, w, f, hn, h, hB, hc, K => by
    refine xg_t (xg_blk (b := [(22, 1, 2, 2, 0, 0), (23, 3, 5, 1340, 0, 0), (26, 3, 6, 55, 3, 0), (29, 1, 0, 0, 0, 0), (30, 3, 1, 12, 0, 7), (33, 1, 2, 2, 0, 0), (34, 1, 0, 0, 0, 0), (35, 3, 1, 12, 0, 7), (38, 3, 5, 1340, 0, 0), (41, 1, 2, 1, 0, 0), (42, 1, 3, 1, 0, 0), (43, 1, 11, 0, 0, 0), (44, 1, 16, 0, 0, 0), (45, 1, 2, 2, 0, 0), (46, 1, 11, 0, 0, 0), (47, 1, 10, 0, 0, 0), (48, 1, 17, 0, 0, 0), (49, 3, 9, 2, 1, 0), (52, 3, 8, 22, 0, 0)]) rfl) ?_
    refine xg_t (xg_iload (va := (0, k)) rfl rfl) ?_
    refine xg_t (xg_sip) ?_
    refine xg_t (xg_icT (u := k) (v := 1340) rfl xnm0 xnm0 (xj_geT (by omega) (by omega))) ?_
    have e : k = 1340 := by omega
    subst e
    exact K w f h hB xBut.rf (fun i hi hl => absurd hl (by omega)) (fun j _ => rfl)
  | n + 1, k, w, f, hn, h, hB, hc, K => by
    refine xg_t (xg_blk (b := [(22, 1, 2, 2, 0, 0), (23, 3, 5, 1340, 0, 0), (26, 3, 6, 55, 3, 0), (29, 1, 0, 0, 0, 0), (30, 3, 1, 12, 0, 7), (33, 1, 2, 2, 0, 0), (34, 1, 0, 0, 0, 0), (35, 3, 1, 12, 0, 7), (38, 3, 5, 1340, 0, 0), (41, 1, 2, 1, 0, 0), (42, 1, 3, 1, 0, 0), (43, 1, 11, 0, 0, 0), (44, 1, 16, 0, 0, 0), (45, 1, 2, 2, 0, 0), (46, 1, 11, 0, 0, 0), (47, 1, 10, 0, 0, 0), (48, 1, 17, 0, 0, 0), (49, 3, 9, 2, 1, 0), (52, 3, 8, 22, 0, 0)]) rfl) ?_
    refine xg_t (xg_iload (va := (0, k)) rfl rfl) ?_
    refine xg_t (xg_sip) ?_
    refine xg_t (xg_icF (u := k) (v := 1340) rfl xnm0 xnm0 (xj_geF (by omega) (by omega))) ?_
    refine xg_t (xg_aload (va := (2, 82)) rfl rfl) ?_
    refine xg_t (xg_getf (va := (2, 83)) hc rfl) ?_
    refine xg_t (xg_iload (va := (0, k)) rfl rfl) ?_
    refine xg_t (xg_aload (va := (2, 82)) rfl rfl) ?_
    refine xg_t (xg_getf (va := (2, 83)) hc rfl) ?_
    refine xg_t (xg_sip) ?_
    refine xg_t (xg_iload (va := (0, 2)) rfl rfl) ?_
    refine xg_t (xg_const) ?_
    refine xg_t (xg_iadd (u := 2) (v := 1) (z := 3) xnm0 xnm0 (by decide)) ?_
    refine xg_t (xg_imul (u := 1340) (v := 3) (z := 4020) xnm0 xnm0 (by decide)) ?_
    refine xg_t (xg_iload (va := (0, k)) rfl rfl) ?_
    refine xg_t (xg_iadd (u := 4020) (v := k) (z := 4020 + k) xnm0 xnm0 (by omega)) ?_
    refine xg_t (xg_ialdR (n := 4020 + k) (u := f (4020 + k)) h xnm0 (by omega) rfl) ?_
    refine xg_iastK (n := k) (u := f (4020 + k)) h xnm0 xnm0 rfl (by omega) (fun w1 hr2 hb3 => ?_)
    refine xg_t (xg_iinc (u := k) (z := k + 1) (l1 := [(0, (2, 82)), (1, (0, 2))]) rfl rfl (by omega) rfl) ?_
    refine xg_t (xg_goto) ?_
    refine xg_t (xg_drop (l1 := [(0, (2, 82)), (1, (0, 2)), (2, (0, k + 1))]) (List.forall_mem_cons.mpr ⟨List.mem_cons_of_mem _ (List.mem_cons_self), List.forall_mem_cons.mpr ⟨List.mem_cons_of_mem _ (List.mem_cons_of_mem _ (List.mem_cons_self)), List.forall_mem_cons.mpr ⟨List.mem_cons_self, fun _ h => absurd h List.not_mem_nil⟩⟩⟩)) ?_
    refine cpAgn2 n (k + 1) w1 (fun j => if j = k then f (4020 + k) else f j) (by omega) hr2 (xrb (by have q := hB (4020 + k); omega) hB) (hb3.get (by decide) hc) (fun w2 f2 g1 g2 g3 g4 g5 => K w2 f2 g1 g2 (hb3.tr g3) (fun i hi hl => ?_) (fun j hj => ?_))
    · by_cases z : i = k
      · subst z
        rw [g5 _ (by omega)]
        exact if_pos rfl
      · rw [g4 i (by omega) hl]
        exact if_neg (by omega)
    · rw [g5 j (by omega)]
      exact if_neg (by omega)
theorem cpRul {P : xS → Prop} {r : Nat → Nat} {q0 q1 q2 q3 q4 q5 q6 q7 q8 q9 q10 q11 q12 q13 q14 q15 : Nat} : ∀ (n k : Nat) (w : List (List xE)) (f : Nat → Nat), k + n = 320 → xRow w 83 5360 50 f → (∀ j, f j ≤ 4294967295) → xRow w 112 320 79 r → (∀ j, r j ≤ 4294967295) → wget w 82 = some (.inl (12, [(2, 83), (2, 84), (0, q0), (0, q1), (0, q2), (0, q3), (0, q4), (0, q5), (0, q6), (0, q7), (0, q8), (2, 85), (2, 86), (2, 87), (0, q9), (2, 88), (2, 89), (2, 90), (2, 91), (2, 92), (2, 93), (2, 94), (4, q10), (4, q11), (0, q12), (2, 95), (2, 96), (2, 97), (2, 98), (2, 99), (2, 100), (2, 101), (2, 102), (0, q13), (2, 103), (2, 104), (2, 105), (2, 106), (2, 107), (2, 108), (2, 109), (0, q14), (0, q15), (2, 110), (2, 111), (2, 112), (2, 113)])) → (∀ w2 f2, xRow w2 83 5360 50 f2 → (∀ j, f2 j ≤ 4294967295) → xBut 83 w w2 → (∀ i, k ≤ i → i < 320 → f2 (1020 + i) = r (i)) → (∀ j, j < 1020 + k ∨ 1020 + 320 ≤ j → f2 j = f j) → xTo d mX12_rules (73, [], [(0, (2, 82)), (1, (0, 320))], [], (w2, bd, fc, 0, 0, rr)) P) → xTo d mX12_rules (44, [], [(0, (2, 82)), (1, (0, k))], [], (w, bd, fc, 0, 0, rr)) P
  | 0, k, w, f, hn, h, hB, hs, hsB, hc, K => by
    refine xg_t (xg_blk (b := [(44, 1, 2, 1, 0, 0), (45, 3, 5, 320, 0, 0), (48, 3, 6, 73, 3, 0), (51, 1, 0, 0, 0, 0), (52, 3, 1, 12, 0, 7), (55, 3, 5, 1020, 0, 0), (58, 1, 2, 1, 0, 0), (59, 1, 11, 0, 0, 0), (60, 1, 0, 0, 0, 0), (61, 3, 1, 12, 45, 99), (64, 1, 2, 1, 0, 0), (65, 1, 10, 0, 0, 0), (66, 1, 17, 0, 0, 0), (67, 3, 9, 1, 1, 0), (70, 3, 8, 44, 0, 0)]) rfl) ?_
    refine xg_t (xg_iload (va := (0, k)) rfl rfl) ?_
    refine xg_t (xg_sip) ?_
    refine xg_t (xg_icT (u := k) (v := 320) rfl xnm0 xnm0 (xj_geT (by omega) (by omega))) ?_
    have e : k = 320 := by omega
    subst e
    exact K w f h hB xBut.rf (fun i hi hl => absurd hl (by omega)) (fun j _ => rfl)
  | n + 1, k, w, f, hn, h, hB, hs, hsB, hc, K => by
    refine xg_t (xg_blk (b := [(44, 1, 2, 1, 0, 0), (45, 3, 5, 320, 0, 0), (48, 3, 6, 73, 3, 0), (51, 1, 0, 0, 0, 0), (52, 3, 1, 12, 0, 7), (55, 3, 5, 1020, 0, 0), (58, 1, 2, 1, 0, 0), (59, 1, 11, 0, 0, 0), (60, 1, 0, 0, 0, 0), (61, 3, 1, 12, 45, 99), (64, 1, 2, 1, 0, 0), (65, 1, 10, 0, 0, 0), (66, 1, 17, 0, 0, 0), (67, 3, 9, 1, 1, 0), (70, 3, 8, 44, 0, 0)]) rfl) ?_
    refine xg_t (xg_iload (va := (0, k)) rfl rfl) ?_
    refine xg_t (xg_sip) ?_
    refine xg_t (xg_icF (u := k) (v := 320) rfl xnm0 xnm0 (xj_geF (by omega) (by omega))) ?_
    refine xg_t (xg_aload (va := (2, 82)) rfl rfl) ?_
    refine xg_t (xg_getf (va := (2, 83)) hc rfl) ?_
    refine xg_t (xg_sip) ?_
    refine xg_t (xg_iload (va := (0, k)) rfl rfl) ?_
    refine xg_t (xg_iadd (u := 1020) (v := k) (z := 1020 + k) xnm0 xnm0 (by omega)) ?_
    refine xg_t (xg_aload (va := (2, 82)) rfl rfl) ?_
    refine xg_t (xg_getf (va := (2, 112)) hc rfl) ?_
    refine xg_t (xg_iload (va := (0, k)) rfl rfl) ?_
    refine xg_t (xg_ialdR (n := k) (u := r k) hs xnm0 (by omega) rfl) ?_
    refine xg_iastK (n := 1020 + k) (u := r k) h xnm0 xnm0 rfl (by omega) (fun w1 hr2 hb3 => ?_)
    refine xg_t (xg_iinc (u := k) (z := k + 1) (l1 := [(0, (2, 82))]) rfl rfl (by omega) rfl) ?_
    refine xg_t (xg_goto) ?_
    refine xg_t (xg_drop (l1 := [(0, (2, 82)), (1, (0, k + 1))]) (List.forall_mem_cons.mpr ⟨List.mem_cons_of_mem _ (List.mem_cons_self), List.forall_mem_cons.mpr ⟨List.mem_cons_self, fun _ h => absurd h List.not_mem_nil⟩⟩)) ?_
    refine cpRul n (k + 1) w1 (fun j => if j = 1020 + k then r k else f j) (by omega) hr2 (xrb (by have q := hsB k; omega) hB) (hs.but hb3 (by decide)) hsB (hb3.get (by decide) hc) (fun w2 f2 g1 g2 g3 g4 g5 => K w2 f2 g1 g2 (hb3.tr g3) (fun i hi hl => ?_) (fun j hj => ?_))
    · by_cases z : i = k
      · subst z
        rw [g5 _ (by omega)]
        exact if_pos rfl
      · exact g4 i (by omega) hl
    · rw [g5 j (by omega)]
      exact if_neg (by omega)
end XMC
end
section
/-! the model: film -/
/-- behind a text: the tape is empty, the rest of row 83 as it was, but for the fault and its place -/
def K15 (w w' : List (List xE)) : Prop := rwv w' 83 15 = 0 ∧ ∀ j, j < 5360 → j ≠ 15 → j ≠ 16 → j ≠ 17 → rwv w' 83 j = rwv w 83 j
theorem K15.k {w1 w2 w3 : List (List xE)} (h : K15 w1 w2) (k : K83 w2 w3) : K15 w1 w3 := ⟨(k 15 (by decide) (by decide) (by decide)).trans h.1, fun j a b c d => (k j a c d).trans (h.2 j a b c d)⟩
section XMD
variable {d : Nat} {w : List (List xE)} {bd : List (Nat × Nat)} {fc : List (Nat × Nat × Bool)} {rr : Nat × Nat}
theorem mBegins1 (hI : xMnv w)  : xPq d mX12_begins [(2, 82), (0, 1)] w bd fc rr [] (fun w' => xMnv w' ∧ xFr [82, 83] w w' ∧ (FA w' = 0 ∧ fld w' 82 10 = 0 ∧ fld w' 82 14 = 0 ∧ mu w' ≤ 1001 ∧ K15 w w')) := by
  refine xPq.of ?_
  show xTo d mX12_begins (0, [], [(0, (2, 82)), (1, (0, 1))], [], (w, bd, fc, 0, 0, rr)) (fun φ => ∃ w', xEnd 0 [] (w', bd, fc, 0, 0, rr) φ ∧ xMnv w' ∧ xFr [82, 83] w w' ∧ (FA w' = 0 ∧ fld w' 82 10 = 0 ∧ fld w' 82 14 = 0 ∧ mu w' ≤ 1001 ∧ K15 w w'))
  refine xoCh82 (hI 82 (by decide) (by decide) : cp82 (wget w 82)) (fun f82_1 f82_3 f82_5 f82_7 f82_9 f82_11 f82_13 f82_15 f82_17 f82_19 f82_21 f82_22 f82_23 f82_25 f82_27 f82_29 h82_31 hb2 hb4 hb6 hb8 hb10 hb12 hb14 hb16 hb18 hb20 hb24 hb26 hb28 hb30 hb32 => ?_)
  refine xoX83 (hI 83 (by decide) (by decide) : cpx83 (wget w 83)) (fun g83_33 h83_34 hb35 hx36 => ?_)
  refine xg_t (xg_blk (b := [(0, 1, 0, 0, 0, 0), (1, 1, 2, 1, 0, 0), (2, 3, 59, 12, 2, 137), (5, 1, 0, 0, 0, 0), (6, 1, 0, 0, 0, 0), (7, 3, 1, 12, 0, 7), (10, 2, 4, 15, 0, 0), (12, 1, 10, 0, 0, 0), (13, 3, 14, 12, 4, 109), (16, 1, 0, 0, 0, 0), (17, 3, 1, 12, 0, 7), (20, 2, 4, 15, 0, 0), (22, 1, 3, 0, 0, 0), (23, 1, 17, 0, 0, 0), (24, 1, 0, 0, 0, 0), (25, 1, 3, 0, 0, 0), (26, 3, 14, 12, 5, 141), (29, 1, 0, 0, 0, 0), (30, 3, 1, 12, 0, 7), (33, 2, 4, 16, 0, 0), (35, 1, 3, 0, 0, 0), (36, 1, 17, 0, 0, 0), (37, 1, 0, 0, 0, 0), (38, 3, 1, 12, 0, 7), (41, 2, 4, 17, 0, 0), (43, 1, 3, 4294967295, 0, 0), (44, 1, 17, 0, 0, 0), (45, 1, 0, 0, 0, 0), (46, 1, 3, 0, 0, 0), (47, 3, 59, 12, 10, 180), (50, 1, 0, 0, 0, 0), (51, 1, 3, 0, 0, 0), (52, 3, 14, 12, 14, 212), (55, 1, 12, 0, 0, 0)]) rfl) ?_
  refine xg_t (xg_aload (va := (2, 82)) rfl rfl) ?_
  refine xg_t (xg_iload (va := (0, 1)) rfl rfl) ?_
  refine xg_putZ (fl1 := [(2, 83), (2, 84), (0, 1), (0, f82_3), (0, f82_5), (0, f82_7), (0, f82_9), (0, f82_11), (0, f82_13), (0, f82_15), (0, f82_17), (2, 85), (2, 86), (2, 87), (0, f82_19), (2, 88), (2, 89), (2, 90), (2, 91), (2, 92), (2, 93), (2, 94), (4, f82_21), (4, f82_22), (0, f82_23), (2, 95), (2, 96), (2, 97), (2, 98), (2, 99), (2, 100), (2, 101), (2, 102), (0, f82_25), (2, 103), (2, 104), (2, 105), (2, 106), (2, 107), (2, 108), (2, 109), (0, f82_27), (0, f82_29), (2, 110), (2, 111), (2, 112), (2, 113)]) h82_31 rfl rfl rfl (fun w37 hk38 hb39 => ?_)
  refine xg_t (xg_aload (va := (2, 82)) rfl rfl) ?_
  refine xg_t (xg_aload (va := (2, 82)) rfl rfl) ?_
  refine xg_t (xg_getf (va := (2, 83)) hk38 rfl) ?_
  refine xg_t (xg_bip) ?_
  refine xg_ialdB (n := 15) (B := 4294967295) (h83_34.but hb39 (by decide)) (hb35) xnm0 (by first | decide | omega) (fun u40 hu41 he42 => ?_)
  have hl43 : u40 ≤ 500 := by rw [← he42]; exact hx36.l15
  refine xg_putI (fl1 := [(2, 83), (2, 84), (0, 1), (0, f82_3), (0, u40), (0, f82_7), (0, f82_9), (0, f82_11), (0, f82_13), (0, f82_15), (0, f82_17), (2, 85), (2, 86), (2, 87), (0, f82_19), (2, 88), (2, 89), (2, 90), (2, 91), (2, 92), (2, 93), (2, 94), (4, f82_21), (4, f82_22), (0, f82_23), (2, 95), (2, 96), (2, 97), (2, 98), (2, 99), (2, 100), (2, 101), (2, 102), (0, f82_25), (2, 103), (2, 104), (2, 105), (2, 106), (2, 107), (2, 108), (2, 109), (0, f82_27), (0, f82_29), (2, 110), (2, 111), (2, 112), (2, 113)]) hk38 rfl rfl rfl (fun w44 hk45 hb46 => ?_)
  refine xg_t (xg_aload (va := (2, 82)) rfl rfl) ?_
  refine xg_t (xg_getf (va := (2, 83)) hk45 rfl) ?_
  refine xg_t (xg_bip) ?_
  refine xg_t (xg_const) ?_
  refine xg_iastK (n := 15) (u := 0) ((h83_34.but hb39 (by decide)).but hb46 (by decide)) xnm0 xnm0 rfl (by first | decide | omega) (fun w47 hr48 hb49 => ?_)
  have hx50 : okA (fun j => if j = 15 then 0 else g83_33 j) := hx36.upd (by omega) (by omega) (by omega) (fun _ => by omega) (by omega) (fun _ => by omega) (fun _ => by omega) (fun _ => by omega) (fun _ => by omega) (by omega) (fun _ _ => by omega)
  have hb51 : ∀ j, (fun j => if j = 15 then 0 else g83_33 j) j ≤ 4294967295 := xrb (by omega) (hb35)
  obtain ⟨g52, hg53⟩ : ∃ g : Nat → Nat, g = (fun j => if j = 15 then 0 else g83_33 j) := ⟨_, rfl⟩
  rw [← hg53] at hr48
  have he54 : g52 15 = 0 := by rw [hg53]; exact if_pos rfl
  have hk55 : ∀ j, j ≠ 15 → g52 j = g83_33 j := fun j hj => by rw [hg53]; exact if_neg hj
  rw [← hg53] at hx50
  rw [← hg53] at hb51
  have hk56 : g52 16 = g83_33 16 := hk55 16 (by omega)
  refine xg_t (xg_aload (va := (2, 82)) rfl rfl) ?_
  refine xg_t (xg_const) ?_
  refine xg_putI (fl1 := [(2, 83), (2, 84), (0, 1), (0, f82_3), (0, u40), (0, 0), (0, f82_9), (0, f82_11), (0, f82_13), (0, f82_15), (0, f82_17), (2, 85), (2, 86), (2, 87), (0, f82_19), (2, 88), (2, 89), (2, 90), (2, 91), (2, 92), (2, 93), (2, 94), (4, f82_21), (4, f82_22), (0, f82_23), (2, 95), (2, 96), (2, 97), (2, 98), (2, 99), (2, 100), (2, 101), (2, 102), (0, f82_25), (2, 103), (2, 104), (2, 105), (2, 106), (2, 107), (2, 108), (2, 109), (0, f82_27), (0, f82_29), (2, 110), (2, 111), (2, 112), (2, 113)]) (hb49.get (by decide) hk45) rfl rfl rfl (fun w57 hk58 hb59 => ?_)
  refine xg_t (xg_aload (va := (2, 82)) rfl rfl) ?_
  refine xg_t (xg_getf (va := (2, 83)) hk58 rfl) ?_
  refine xg_t (xg_bip) ?_
  refine xg_t (xg_const) ?_
  refine xg_iastK (n := 16) (u := 0) (hr48.but hb59 (by decide)) xnm0 xnm0 rfl (by first | decide | omega) (fun w60 hr61 hb62 => ?_)
  have hx63 : okA (fun j => if j = 16 then 0 else g52 j) := hx50.upd (by omega) (by omega) (by omega) (fun _ => by omega) (by omega) (fun _ => by omega) (fun _ => by omega) (fun _ => by omega) (fun _ => by omega) (by omega) (fun _ _ => by omega)
  have hb64 : ∀ j, (fun j => if j = 16 then 0 else g52 j) j ≤ 4294967295 := xrb (by omega) (hb51)
  obtain ⟨g65, hg66⟩ : ∃ g : Nat → Nat, g = (fun j => if j = 16 then 0 else g52 j) := ⟨_, rfl⟩
  rw [← hg66] at hr61
  have he67 : g65 16 = 0 := by rw [hg66]; exact if_pos rfl
  have hk68 : ∀ j, j ≠ 16 → g65 j = g52 j := fun j hj => by rw [hg66]; exact if_neg hj
  rw [← hg66] at hx63
  rw [← hg66] at hb64
  refine xg_t (xg_aload (va := (2, 82)) rfl rfl) ?_
  refine xg_t (xg_getf (va := (2, 83)) (hb62.get (by decide) hk58) rfl) ?_
  refine xg_t (xg_bip) ?_
  refine xg_t (xg_const) ?_
  refine xg_iastK (n := 17) (u := 4294967295) hr61 xnm0 xnm0 rfl (by first | decide | omega) (fun w69 hr70 hb71 => ?_)
  have hx72 : okA (fun j => if j = 17 then 4294967295 else g65 j) := hx63.upd (by omega) (by omega) (by omega) (fun _ => by omega) (by omega) (fun _ => by omega) (fun _ => by omega) (fun _ => by omega) (fun _ => by omega) (by omega) (fun _ _ => by omega)
  have hb73 : ∀ j, (fun j => if j = 17 then 4294967295 else g65 j) j ≤ 4294967295 := xrb (by omega) (hb64)
  obtain ⟨g74, hg75⟩ : ∃ g : Nat → Nat, g = (fun j => if j = 17 then 4294967295 else g65 j) := ⟨_, rfl⟩
  rw [← hg75] at hr70
  have he76 : g74 17 = 4294967295 := by rw [hg75]; exact if_pos rfl
  have hk77 : ∀ j, j ≠ 17 → g74 j = g65 j := fun j hj => by rw [hg75]; exact if_neg hj
  rw [← hg75] at hx72
  rw [← hg75] at hb73
  have hk78 : g74 16 = g65 16 := hk77 16 (by omega)
  refine xg_t (xg_aload (va := (2, 82)) rfl rfl) ?_
  refine xg_t (xg_const) ?_
  refine xg_putZ (fl1 := [(2, 83), (2, 84), (0, 1), (0, f82_3), (0, u40), (0, 0), (0, f82_9), (0, f82_11), (0, f82_13), (0, f82_15), (0, 0), (2, 85), (2, 86), (2, 87), (0, f82_19), (2, 88), (2, 89), (2, 90), (2, 91), (2, 92), (2, 93), (2, 94), (4, f82_21), (4, f82_22), (0, f82_23), (2, 95), (2, 96), (2, 97), (2, 98), (2, 99), (2, 100), (2, 101), (2, 102), (0, f82_25), (2, 103), (2, 104), (2, 105), (2, 106), (2, 107), (2, 108), (2, 109), (0, f82_27), (0, f82_29), (2, 110), (2, 111), (2, 112), (2, 113)]) (hb71.get (by decide) (hb62.get (by decide) hk58)) rfl rfl rfl (fun w79 hk80 hb81 => ?_)
  refine xg_t (xg_aload (va := (2, 82)) rfl rfl) ?_
  refine xg_t (xg_const) ?_
  refine xg_putI (fl1 := [(2, 83), (2, 84), (0, 1), (0, f82_3), (0, u40), (0, 0), (0, f82_9), (0, f82_11), (0, f82_13), (0, f82_15), (0, 0), (2, 85), (2, 86), (2, 87), (0, 0), (2, 88), (2, 89), (2, 90), (2, 91), (2, 92), (2, 93), (2, 94), (4, f82_21), (4, f82_22), (0, f82_23), (2, 95), (2, 96), (2, 97), (2, 98), (2, 99), (2, 100), (2, 101), (2, 102), (0, f82_25), (2, 103), (2, 104), (2, 105), (2, 106), (2, 107), (2, 108), (2, 109), (0, f82_27), (0, f82_29), (2, 110), (2, 111), (2, 112), (2, 113)]) hk80 rfl rfl rfl (fun w82 hk83 hb84 => ?_)
  have hf85 : fld w82 82 4 = u40 := fld_of hk83
  have hf86 : fld w82 82 5 = 0 := fld_of hk83
  have hf87 : fld w82 82 7 = f82_11 := fld_of hk83
  have hf88 : fld w82 82 10 = 0 := fld_of hk83
  have hf89 : fld w82 82 14 = 0 := fld_of hk83
  have hu90 : mu w82 = 2 * (fld w82 82 4 - fld w82 82 5) + min 1 (fld w82 82 7) := rfl
  have hA91 : FA w82 = g74 16 := rwv_of ((hr70.but hb81 (by decide)).but hb84 (by decide)) (by decide)
  exact xg_e ⟨w82, ⟨rfl, rfl⟩, xMnv.up (S := [82, 83]) hI ((((((((xFr.of (S := [82, 83]) hb39 (by decide)).tr (xFr.of (S := [82, 83]) hb46 (by decide))).tr (xFr.of (S := [82, 83]) hb49 (by decide))).tr (xFr.of (S := [82, 83]) hb59 (by decide))).tr (xFr.of (S := [82, 83]) hb62 (by decide))).tr (xFr.of (S := [82, 83]) hb71 (by decide))).tr (xFr.of (S := [82, 83]) hb81 (by decide))).tr (xFr.of (S := [82, 83]) hb84 (by decide))) (List.forall_mem_cons.mpr ⟨(show cp82 (wget w82 82) from xmC82 1 f82_3 u40 0 f82_9 f82_11 f82_13 f82_15 0 0 f82_21 f82_22 f82_23 f82_25 f82_27 f82_29 hk83 (by decide) hb4 (by omega) (by decide) hb10 hb12 hb14 hb16 (by decide) (by decide) hb24 hb26 hb28 hb30 (by omega)), List.forall_mem_cons.mpr ⟨(show cpx83 (wget w82 83) from ⟨_, ((hr70.but hb81 (by decide)).but hb84 (by decide)), hb73, hx72⟩), fun _ h => absurd h List.not_mem_nil⟩⟩), ((((((((xFr.of (S := [82, 83]) hb39 (by decide)).tr (xFr.of (S := [82, 83]) hb46 (by decide))).tr (xFr.of (S := [82, 83]) hb49 (by decide))).tr (xFr.of (S := [82, 83]) hb59 (by decide))).tr (xFr.of (S := [82, 83]) hb62 (by decide))).tr (xFr.of (S := [82, 83]) hb71 (by decide))).tr (xFr.of (S := [82, 83]) hb81 (by decide))).tr (xFr.of (S := [82, 83]) hb84 (by decide))), ⟨by omega, by omega, by omega, by omega, ⟨(rwv_of ((hr70.but hb81 (by decide)).but hb84 (by decide)) (by decide)).trans (by rw [hk77 15 (by decide), hk68 15 (by decide), he54]), fun j a b c d => (rwv_of ((hr70.but hb81 (by decide)).but hb84 (by decide)) a).trans (Eq.trans (by rw [hk77 j (by omega), hk68 j (by omega), hk55 j (by omega)]) (rwv_of h83_34 a).symm)⟩⟩⟩
end XMD
end
section
/-! the law, and the world behind both constructors -/
def bLk_0 : Nat × List xI := (0, [(0, 3, 24, 11, 0, 7), (3, 1, 19, 0, 0, 0), (4, 3, 13, 67, 92, 9), (7, 1, 27, 1, 0, 0), (8, 3, 24, 12, 0, 10), (11, 1, 19, 0, 0, 0), (12, 3, 13, 156, 100, 12), (15, 1, 27, 2, 0, 0), (16, 1, 3, 0, 0, 0), (17, 1, 15, 3, 0, 0)])
def bLk_1 : Nat × List xI := (18, [(18, 1, 2, 3, 0, 0), (19, 1, 0, 0, 0, 0), (20, 1, 31, 0, 0, 0), (21, 2, 4, 7, 0, 0), (23, 1, 18, 0, 0, 0), (24, 3, 6, 1711, 4, 0), (27, 1, 0, 0, 0, 0), (28, 1, 2, 3, 0, 0), (29, 1, 10, 0, 0, 0), (30, 2, 4, 63, 0, 0), (32, 1, 30, 0, 0, 0)])
def bLk_2 : Nat × List xI := (252, [(252, 1, 0, 1, 0, 0), (253, 1, 0, 0, 0, 0), (254, 1, 2, 3, 0, 0), (255, 1, 3, 1, 0, 0), (256, 1, 11, 0, 0, 0), (257, 1, 10, 0, 0, 0), (258, 1, 0, 0, 0, 0), (259, 1, 2, 3, 0, 0), (260, 1, 3, 2, 0, 0), (261, 1, 11, 0, 0, 0), (262, 1, 10, 0, 0, 0), (263, 1, 0, 0, 0, 0), (264, 1, 2, 3, 0, 0), (265, 1, 3, 3, 0, 0), (266, 1, 11, 0, 0, 0), (267, 1, 10, 0, 0, 0), (268, 1, 0, 0, 0, 0), (269, 1, 2, 3, 0, 0), (270, 1, 3, 4, 0, 0), (271, 1, 11, 0, 0, 0), (272, 1, 10, 0, 0, 0), (273, 1, 0, 0, 0, 0), (274, 1, 2, 3, 0, 0), (275, 1, 3, 5, 0, 0), (276, 1, 11, 0, 0, 0), (277, 1, 10, 0, 0, 0), (278, 3, 13, 59, 88, 13), (281, 1, 40, 0, 0, 0), (282, 1, 0, 2, 0, 0), (283, 1, 0, 0, 0, 0), (284, 1, 2, 3, 0, 0), (285, 1, 3, 1, 0, 0), (286, 1, 11, 0, 0, 0), (287, 1, 10, 0, 0, 0), (288, 1, 0, 0, 0, 0), (289, 1, 2, 3, 0, 0), (290, 1, 3, 2, 0, 0), (291, 1, 11, 0, 0, 0), (292, 1, 10, 0, 0, 0), (293, 1, 0, 0, 0, 0), (294, 1, 2, 3, 0, 0), (295, 1, 3, 3, 0, 0), (296, 1, 11, 0, 0, 0), (297, 1, 10, 0, 0, 0), (298, 1, 0, 0, 0, 0), (299, 1, 2, 3, 0, 0), (300, 1, 3, 4, 0, 0), (301, 1, 11, 0, 0, 0), (302, 1, 10, 0, 0, 0), (303, 1, 0, 0, 0, 0), (304, 1, 2, 3, 0, 0), (305, 1, 3, 5, 0, 0), (306, 1, 11, 0, 0, 0), (307, 1, 10, 0, 0, 0), (308, 3, 13, 144, 96, 17), (311, 1, 40, 0, 0, 0), (312, 3, 8, 1705, 0, 0)])
def bLk_3 : Nat × List xI := (315, [(315, 1, 0, 1, 0, 0), (316, 1, 0, 0, 0, 0), (317, 1, 2, 3, 0, 0), (318, 1, 3, 1, 0, 0), (319, 1, 11, 0, 0, 0), (320, 1, 10, 0, 0, 0), (321, 3, 13, 56, 88, 18), (324, 1, 40, 0, 0, 0), (325, 1, 0, 2, 0, 0), (326, 1, 0, 0, 0, 0), (327, 1, 2, 3, 0, 0), (328, 1, 3, 1, 0, 0), (329, 1, 11, 0, 0, 0), (330, 1, 10, 0, 0, 0), (331, 3, 13, 139, 96, 22), (334, 1, 40, 0, 0, 0), (335, 3, 8, 1705, 0, 0)])
def bLk_4 : Nat × List xI := (338, [(338, 1, 0, 1, 0, 0), (339, 3, 13, 60, 88, 23), (342, 1, 40, 0, 0, 0), (343, 1, 0, 2, 0, 0), (344, 3, 13, 145, 96, 27), (347, 1, 40, 0, 0, 0), (348, 3, 8, 1705, 0, 0)])
def bLk_5 : Nat × List xI := (351, [(351, 1, 0, 1, 0, 0), (352, 1, 0, 0, 0, 0), (353, 1, 2, 3, 0, 0), (354, 1, 3, 1, 0, 0), (355, 1, 11, 0, 0, 0), (356, 1, 10, 0, 0, 0), (357, 3, 13, 57, 88, 28), (360, 1, 40, 0, 0, 0), (361, 1, 0, 2, 0, 0), (362, 1, 0, 0, 0, 0), (363, 1, 2, 3, 0, 0), (364, 1, 3, 1, 0, 0), (365, 1, 11, 0, 0, 0), (366, 1, 10, 0, 0, 0), (367, 3, 13, 141, 96, 31), (370, 1, 40, 0, 0, 0), (371, 3, 8, 1705, 0, 0)])
def bLk_6 : Nat × List xI := (374, [(374, 1, 0, 1, 0, 0), (375, 1, 0, 0, 0, 0), (376, 1, 2, 3, 0, 0), (377, 1, 3, 1, 0, 0), (378, 1, 11, 0, 0, 0), (379, 1, 10, 0, 0, 0), (380, 1, 0, 0, 0, 0), (381, 1, 2, 3, 0, 0), (382, 1, 3, 2, 0, 0), (383, 1, 11, 0, 0, 0), (384, 1, 10, 0, 0, 0), (385, 3, 13, 76, 88, 32), (388, 1, 40, 0, 0, 0), (389, 1, 0, 2, 0, 0), (390, 1, 0, 0, 0, 0), (391, 1, 2, 3, 0, 0), (392, 1, 3, 1, 0, 0), (393, 1, 11, 0, 0, 0), (394, 1, 10, 0, 0, 0), (395, 1, 0, 0, 0, 0), (396, 1, 2, 3, 0, 0), (397, 1, 3, 2, 0, 0), (398, 1, 11, 0, 0, 0), (399, 1, 10, 0, 0, 0), (400, 3, 13, 180, 96, 36), (403, 1, 40, 0, 0, 0), (404, 3, 8, 1705, 0, 0)])
def bLk_7 : Nat × List xI := (407, [(407, 1, 0, 1, 0, 0), (408, 1, 0, 0, 0, 0), (409, 1, 2, 3, 0, 0), (410, 1, 3, 1, 0, 0), (411, 1, 11, 0, 0, 0), (412, 1, 10, 0, 0, 0), (413, 3, 13, 83, 88, 37), (416, 1, 40, 0, 0, 0), (417, 1, 0, 2, 0, 0), (418, 1, 0, 0, 0, 0), (419, 1, 2, 3, 0, 0), (420, 1, 3, 1, 0, 0), (421, 1, 11, 0, 0, 0), (422, 1, 10, 0, 0, 0), (423, 3, 13, 196, 96, 40), (426, 1, 40, 0, 0, 0), (427, 3, 8, 1705, 0, 0)])
def bLk_8 : Nat × List xI := (430, [(430, 1, 0, 1, 0, 0), (431, 1, 0, 0, 0, 0), (432, 1, 2, 3, 0, 0), (433, 1, 3, 1, 0, 0), (434, 1, 11, 0, 0, 0), (435, 1, 10, 0, 0, 0), (436, 1, 0, 0, 0, 0), (437, 1, 2, 3, 0, 0), (438, 1, 3, 2, 0, 0), (439, 1, 11, 0, 0, 0), (440, 1, 10, 0, 0, 0), (441, 3, 13, 97, 88, 41), (444, 1, 40, 0, 0, 0), (445, 1, 0, 2, 0, 0), (446, 1, 0, 0, 0, 0), (447, 1, 2, 3, 0, 0), (448, 1, 3, 1, 0, 0), (449, 1, 11, 0, 0, 0), (450, 1, 10, 0, 0, 0), (451, 1, 0, 0, 0, 0), (452, 1, 2, 3, 0, 0), (453, 1, 3, 2, 0, 0), (454, 1, 11, 0, 0, 0), (455, 1, 10, 0, 0, 0), (456, 3, 13, 225, 96, 44), (459, 1, 40, 0, 0, 0), (460, 3, 8, 1705, 0, 0)])
def bLk_9 : Nat × List xI := (463, [(463, 1, 0, 1, 0, 0), (464, 1, 0, 0, 0, 0), (465, 1, 2, 3, 0, 0), (466, 1, 3, 1, 0, 0), (467, 1, 11, 0, 0, 0), (468, 1, 10, 0, 0, 0), (469, 1, 0, 0, 0, 0), (470, 1, 2, 3, 0, 0), (471, 1, 3, 2, 0, 0), (472, 1, 11, 0, 0, 0), (473, 1, 10, 0, 0, 0), (474, 3, 13, 39, 88, 45), (477, 1, 40, 0, 0, 0), (478, 1, 0, 2, 0, 0), (479, 1, 0, 0, 0, 0), (480, 1, 2, 3, 0, 0), (481, 1, 3, 1, 0, 0), (482, 1, 11, 0, 0, 0), (483, 1, 10, 0, 0, 0), (484, 1, 0, 0, 0, 0), (485, 1, 2, 3, 0, 0), (486, 1, 3, 2, 0, 0), (487, 1, 11, 0, 0, 0), (488, 1, 10, 0, 0, 0), (489, 3, 13, 120, 96, 49), (492, 1, 40, 0, 0, 0), (493, 3, 8, 1705, 0, 0)])
def bLk_10 : Nat × List xI := (496, [(496, 1, 0, 1, 0, 0), (497, 3, 13, 78, 88, 50), (500, 1, 40, 0, 0, 0), (501, 1, 0, 2, 0, 0), (502, 3, 13, 184, 96, 53), (505, 1, 40, 0, 0, 0), (506, 3, 8, 1705, 0, 0)])
def bLk_11 : Nat × List xI := (509, [(509, 1, 0, 1, 0, 0), (510, 1, 0, 0, 0, 0), (511, 1, 2, 3, 0, 0), (512, 1, 3, 1, 0, 0), (513, 1, 11, 0, 0, 0), (514, 1, 10, 0, 0, 0), (515, 3, 13, 105, 88, 54), (518, 1, 40, 0, 0, 0), (519, 1, 0, 2, 0, 0), (520, 1, 0, 0, 0, 0), (521, 1, 2, 3, 0, 0), (522, 1, 3, 1, 0, 0), (523, 1, 11, 0, 0, 0), (524, 1, 10, 0, 0, 0), (525, 3, 13, 239, 96, 57), (528, 1, 40, 0, 0, 0), (529, 3, 8, 1705, 0, 0)])
def bLk_12 : Nat × List xI := (532, [(532, 1, 0, 1, 0, 0), (533, 1, 0, 0, 0, 0), (534, 1, 2, 3, 0, 0), (535, 1, 3, 1, 0, 0), (536, 1, 11, 0, 0, 0), (537, 1, 10, 0, 0, 0), (538, 3, 13, 85, 88, 58), (541, 1, 40, 0, 0, 0), (542, 1, 0, 2, 0, 0), (543, 1, 0, 0, 0, 0), (544, 1, 2, 3, 0, 0), (545, 1, 3, 1, 0, 0), (546, 1, 11, 0, 0, 0), (547, 1, 10, 0, 0, 0), (548, 3, 13, 201, 96, 61), (551, 1, 40, 0, 0, 0), (552, 3, 8, 1705, 0, 0)])
def bLk_13 : Nat × List xI := (555, [(555, 1, 0, 1, 0, 0), (556, 1, 0, 0, 0, 0), (557, 1, 2, 3, 0, 0), (558, 1, 3, 1, 0, 0), (559, 1, 11, 0, 0, 0), (560, 1, 10, 0, 0, 0), (561, 1, 0, 0, 0, 0), (562, 1, 2, 3, 0, 0), (563, 1, 3, 2, 0, 0), (564, 1, 11, 0, 0, 0), (565, 1, 10, 0, 0, 0), (566, 3, 13, 100, 88, 62), (569, 1, 0, 2, 0, 0), (570, 1, 0, 0, 0, 0), (571, 1, 2, 3, 0, 0), (572, 1, 3, 1, 0, 0), (573, 1, 11, 0, 0, 0), (574, 1, 10, 0, 0, 0), (575, 1, 0, 0, 0, 0), (576, 1, 2, 3, 0, 0), (577, 1, 3, 2, 0, 0), (578, 1, 11, 0, 0, 0), (579, 1, 10, 0, 0, 0), (580, 3, 13, 230, 96, 65), (583, 3, 6, 1705, 0, 0), (586, 1, 3, 0, 0, 0), (587, 1, 12, 0, 1, 0)])
def bLk_14 : Nat × List xI := (588, [(588, 1, 0, 1, 0, 0), (589, 1, 0, 0, 0, 0), (590, 1, 2, 3, 0, 0), (591, 1, 3, 1, 0, 0), (592, 1, 11, 0, 0, 0), (593, 1, 10, 0, 0, 0), (594, 3, 13, 48, 88, 66), (597, 1, 40, 0, 0, 0), (598, 1, 0, 2, 0, 0), (599, 1, 0, 0, 0, 0), (600, 1, 2, 3, 0, 0), (601, 1, 3, 1, 0, 0), (602, 1, 11, 0, 0, 0), (603, 1, 10, 0, 0, 0), (604, 3, 13, 129, 96, 69), (607, 1, 40, 0, 0, 0), (608, 3, 8, 1705, 0, 0)])
def bLk_15 : Nat × List xI := (611, [(611, 1, 0, 1, 0, 0), (612, 1, 0, 0, 0, 0), (613, 1, 2, 3, 0, 0), (614, 1, 3, 1, 0, 0), (615, 1, 11, 0, 0, 0), (616, 1, 10, 0, 0, 0), (617, 3, 13, 54, 88, 70), (620, 1, 40, 0, 0, 0), (621, 1, 0, 2, 0, 0), (622, 1, 0, 0, 0, 0), (623, 1, 2, 3, 0, 0), (624, 1, 3, 1, 0, 0), (625, 1, 11, 0, 0, 0), (626, 1, 10, 0, 0, 0), (627, 3, 13, 138, 96, 74), (630, 1, 40, 0, 0, 0), (631, 3, 8, 1705, 0, 0)])
def bLk_16 : Nat × List xI := (634, [(634, 1, 0, 1, 0, 0), (635, 1, 0, 0, 0, 0), (636, 1, 2, 3, 0, 0), (637, 1, 3, 1, 0, 0), (638, 1, 11, 0, 0, 0), (639, 1, 10, 0, 0, 0), (640, 3, 13, 103, 88, 75), (643, 1, 40, 0, 0, 0), (644, 1, 0, 2, 0, 0), (645, 1, 0, 0, 0, 0), (646, 1, 2, 3, 0, 0), (647, 1, 3, 1, 0, 0), (648, 1, 11, 0, 0, 0), (649, 1, 10, 0, 0, 0), (650, 3, 13, 235, 96, 78), (653, 1, 40, 0, 0, 0), (654, 3, 8, 1705, 0, 0)])
def bLk_17 : Nat × List xI := (657, [(657, 1, 0, 1, 0, 0), (658, 1, 0, 0, 0, 0), (659, 1, 2, 3, 0, 0), (660, 1, 3, 1, 0, 0), (661, 1, 11, 0, 0, 0), (662, 1, 10, 0, 0, 0), (663, 3, 7, 670, 0, 0), (666, 1, 3, 1, 0, 0), (667, 3, 8, 671, 0, 0)])
def bLk_18 : Nat × List xI := (670, [(670, 1, 3, 0, 0, 0)])
def bLk_19 : Nat × List xI := (671, [(671, 1, 0, 0, 0, 0), (672, 1, 2, 3, 0, 0), (673, 1, 3, 2, 0, 0), (674, 1, 11, 0, 0, 0), (675, 1, 10, 0, 0, 0), (676, 1, 0, 0, 0, 0), (677, 1, 2, 3, 0, 0), (678, 1, 3, 3, 0, 0), (679, 1, 11, 0, 0, 0), (680, 1, 10, 0, 0, 0), (681, 3, 13, 47, 88, 79), (684, 1, 40, 0, 0, 0), (685, 1, 0, 2, 0, 0), (686, 1, 0, 0, 0, 0), (687, 1, 2, 3, 0, 0), (688, 1, 3, 1, 0, 0), (689, 1, 11, 0, 0, 0), (690, 1, 10, 0, 0, 0), (691, 3, 7, 698, 0, 0), (694, 1, 3, 1, 0, 0), (695, 3, 8, 699, 0, 0)])
def bLk_20 : Nat × List xI := (698, [(698, 1, 3, 0, 0, 0)])
def bLk_21 : Nat × List xI := (699, [(699, 1, 0, 0, 0, 0), (700, 1, 2, 3, 0, 0), (701, 1, 3, 2, 0, 0), (702, 1, 11, 0, 0, 0), (703, 1, 10, 0, 0, 0), (704, 1, 0, 0, 0, 0), (705, 1, 2, 3, 0, 0), (706, 1, 3, 3, 0, 0), (707, 1, 11, 0, 0, 0), (708, 1, 10, 0, 0, 0), (709, 3, 13, 128, 96, 83), (712, 1, 40, 0, 0, 0), (713, 3, 8, 1705, 0, 0)])
def bLk_22 : Nat × List xI := (716, [(716, 1, 0, 1, 0, 0), (717, 1, 0, 0, 0, 0), (718, 1, 2, 3, 0, 0), (719, 1, 3, 1, 0, 0), (720, 1, 11, 0, 0, 0), (721, 1, 10, 0, 0, 0), (722, 3, 7, 729, 0, 0), (725, 1, 3, 1, 0, 0), (726, 3, 8, 730, 0, 0)])
def bLk_23 : Nat × List xI := (729, [(729, 1, 3, 0, 0, 0)])
def bLk_24 : Nat × List xI := (730, [(730, 1, 0, 0, 0, 0), (731, 1, 2, 3, 0, 0), (732, 1, 3, 2, 0, 0), (733, 1, 11, 0, 0, 0), (734, 1, 10, 0, 0, 0), (735, 1, 0, 0, 0, 0), (736, 1, 2, 3, 0, 0), (737, 1, 3, 3, 0, 0), (738, 1, 11, 0, 0, 0), (739, 1, 10, 0, 0, 0), (740, 3, 13, 77, 88, 84), (743, 1, 40, 0, 0, 0), (744, 1, 0, 2, 0, 0), (745, 1, 0, 0, 0, 0), (746, 1, 2, 3, 0, 0), (747, 1, 3, 1, 0, 0), (748, 1, 11, 0, 0, 0), (749, 1, 10, 0, 0, 0), (750, 3, 7, 757, 0, 0), (753, 1, 3, 1, 0, 0), (754, 3, 8, 758, 0, 0)])
def bLk_25 : Nat × List xI := (757, [(757, 1, 3, 0, 0, 0)])
def bLk_26 : Nat × List xI := (758, [(758, 1, 0, 0, 0, 0), (759, 1, 2, 3, 0, 0), (760, 1, 3, 2, 0, 0), (761, 1, 11, 0, 0, 0), (762, 1, 10, 0, 0, 0), (763, 1, 0, 0, 0, 0), (764, 1, 2, 3, 0, 0), (765, 1, 3, 3, 0, 0), (766, 1, 11, 0, 0, 0), (767, 1, 10, 0, 0, 0), (768, 3, 13, 183, 96, 87), (771, 1, 40, 0, 0, 0), (772, 3, 8, 1705, 0, 0)])
def bLk_27 : Nat × List xI := (775, [(775, 1, 0, 1, 0, 0), (776, 3, 13, 82, 88, 88), (779, 1, 40, 0, 0, 0), (780, 1, 0, 2, 0, 0), (781, 3, 13, 193, 96, 91), (784, 1, 40, 0, 0, 0), (785, 3, 8, 1705, 0, 0)])
def bLk_28 : Nat × List xI := (788, [(788, 1, 0, 1, 0, 0), (789, 1, 0, 0, 0, 0), (790, 1, 2, 3, 0, 0), (791, 1, 3, 1, 0, 0), (792, 1, 11, 0, 0, 0), (793, 1, 10, 0, 0, 0), (794, 3, 13, 58, 88, 92), (797, 1, 40, 0, 0, 0), (798, 1, 0, 2, 0, 0), (799, 1, 0, 0, 0, 0), (800, 1, 2, 3, 0, 0), (801, 1, 3, 1, 0, 0), (802, 1, 11, 0, 0, 0), (803, 1, 10, 0, 0, 0), (804, 3, 13, 142, 96, 95), (807, 1, 40, 0, 0, 0), (808, 3, 8, 1705, 0, 0)])
def bLk_29 : Nat × List xI := (811, [(811, 1, 0, 1, 0, 0), (812, 1, 0, 0, 0, 0), (813, 1, 2, 3, 0, 0), (814, 1, 3, 1, 0, 0), (815, 1, 11, 0, 0, 0), (816, 1, 10, 0, 0, 0), (817, 3, 13, 50, 88, 96), (820, 1, 40, 0, 0, 0), (821, 1, 0, 2, 0, 0), (822, 1, 0, 0, 0, 0), (823, 1, 2, 3, 0, 0), (824, 1, 3, 1, 0, 0), (825, 1, 11, 0, 0, 0), (826, 1, 10, 0, 0, 0), (827, 3, 13, 131, 96, 99), (830, 1, 40, 0, 0, 0), (831, 3, 8, 1705, 0, 0)])
def bLk_30 : Nat × List xI := (834, [(834, 1, 0, 1, 0, 0), (835, 1, 0, 0, 0, 0), (836, 1, 2, 3, 0, 0), (837, 1, 3, 1, 0, 0), (838, 1, 11, 0, 0, 0), (839, 1, 10, 0, 0, 0), (840, 1, 0, 0, 0, 0), (841, 1, 2, 3, 0, 0), (842, 1, 3, 2, 0, 0), (843, 1, 11, 0, 0, 0), (844, 1, 10, 0, 0, 0), (845, 1, 0, 0, 0, 0), (846, 1, 2, 3, 0, 0), (847, 1, 3, 3, 0, 0), (848, 1, 11, 0, 0, 0), (849, 1, 10, 0, 0, 0), (850, 3, 13, 66, 88, 100), (853, 1, 40, 0, 0, 0), (854, 1, 0, 2, 0, 0), (855, 1, 0, 0, 0, 0), (856, 1, 2, 3, 0, 0), (857, 1, 3, 1, 0, 0), (858, 1, 11, 0, 0, 0), (859, 1, 10, 0, 0, 0), (860, 1, 0, 0, 0, 0), (861, 1, 2, 3, 0, 0), (862, 1, 3, 2, 0, 0), (863, 1, 11, 0, 0, 0), (864, 1, 10, 0, 0, 0), (865, 1, 0, 0, 0, 0), (866, 1, 2, 3, 0, 0), (867, 1, 3, 3, 0, 0), (868, 1, 11, 0, 0, 0), (869, 1, 10, 0, 0, 0), (870, 3, 13, 154, 96, 104), (873, 1, 40, 0, 0, 0), (874, 3, 8, 1705, 0, 0)])
def bLk_31 : Nat × List xI := (877, [(877, 1, 0, 1, 0, 0), (878, 1, 0, 0, 0, 0), (879, 1, 2, 3, 0, 0), (880, 1, 3, 1, 0, 0), (881, 1, 11, 0, 0, 0), (882, 1, 10, 0, 0, 0), (883, 1, 0, 0, 0, 0), (884, 1, 2, 3, 0, 0), (885, 1, 3, 2, 0, 0), (886, 1, 11, 0, 0, 0), (887, 1, 10, 0, 0, 0), (888, 1, 0, 0, 0, 0), (889, 1, 2, 3, 0, 0), (890, 1, 3, 3, 0, 0), (891, 1, 11, 0, 0, 0), (892, 1, 10, 0, 0, 0), (893, 1, 0, 0, 0, 0), (894, 1, 2, 3, 0, 0), (895, 1, 3, 4, 0, 0), (896, 1, 11, 0, 0, 0), (897, 1, 10, 0, 0, 0), (898, 1, 0, 0, 0, 0), (899, 1, 2, 3, 0, 0), (900, 1, 3, 5, 0, 0), (901, 1, 11, 0, 0, 0), (902, 1, 10, 0, 0, 0), (903, 1, 0, 0, 0, 0), (904, 1, 2, 3, 0, 0), (905, 2, 4, 6, 0, 0), (907, 1, 11, 0, 0, 0), (908, 1, 10, 0, 0, 0), (909, 3, 13, 88, 88, 105), (912, 1, 40, 0, 0, 0), (913, 1, 0, 2, 0, 0), (914, 1, 0, 0, 0, 0), (915, 1, 2, 3, 0, 0), (916, 1, 3, 1, 0, 0), (917, 1, 11, 0, 0, 0), (918, 1, 10, 0, 0, 0), (919, 1, 0, 0, 0, 0), (920, 1, 2, 3, 0, 0), (921, 1, 3, 2, 0, 0), (922, 1, 11, 0, 0, 0), (923, 1, 10, 0, 0, 0), (924, 1, 0, 0, 0, 0), (925, 1, 2, 3, 0, 0), (926, 1, 3, 3, 0, 0), (927, 1, 11, 0, 0, 0), (928, 1, 10, 0, 0, 0), (929, 1, 0, 0, 0, 0), (930, 1, 2, 3, 0, 0), (931, 1, 3, 4, 0, 0), (932, 1, 11, 0, 0, 0), (933, 1, 10, 0, 0, 0), (934, 1, 0, 0, 0, 0), (935, 1, 2, 3, 0, 0), (936, 1, 3, 5, 0, 0), (937, 1, 11, 0, 0, 0), (938, 1, 10, 0, 0, 0), (939, 1, 0, 0, 0, 0), (940, 1, 2, 3, 0, 0), (941, 2, 4, 6, 0, 0), (943, 1, 11, 0, 0, 0), (944, 1, 10, 0, 0, 0), (945, 3, 13, 205, 96, 109), (948, 1, 40, 0, 0, 0), (949, 3, 8, 1705, 0, 0)])
def bLk_32 : Nat × List xI := (952, [(952, 1, 0, 1, 0, 0), (953, 1, 0, 0, 0, 0), (954, 1, 2, 3, 0, 0), (955, 1, 3, 1, 0, 0), (956, 1, 11, 0, 0, 0), (957, 1, 10, 0, 0, 0), (958, 1, 0, 0, 0, 0), (959, 1, 2, 3, 0, 0), (960, 1, 3, 2, 0, 0), (961, 1, 11, 0, 0, 0), (962, 1, 10, 0, 0, 0), (963, 3, 13, 79, 88, 110), (966, 1, 40, 0, 0, 0), (967, 1, 0, 2, 0, 0), (968, 1, 0, 0, 0, 0), (969, 1, 2, 3, 0, 0), (970, 1, 3, 1, 0, 0), (971, 1, 11, 0, 0, 0), (972, 1, 10, 0, 0, 0), (973, 1, 0, 0, 0, 0), (974, 1, 2, 3, 0, 0), (975, 1, 3, 2, 0, 0), (976, 1, 11, 0, 0, 0), (977, 1, 10, 0, 0, 0), (978, 3, 13, 186, 96, 113), (981, 1, 40, 0, 0, 0), (982, 3, 8, 1705, 0, 0)])
def bLk_33 : Nat × List xI := (985, [(985, 1, 0, 1, 0, 0), (986, 3, 13, 101, 88, 114), (989, 1, 40, 0, 0, 0), (990, 1, 0, 2, 0, 0), (991, 3, 13, 232, 96, 117), (994, 1, 40, 0, 0, 0), (995, 3, 8, 1705, 0, 0)])
def bLk_34 : Nat × List xI := (998, [(998, 1, 0, 1, 0, 0), (999, 1, 0, 0, 0, 0), (1000, 1, 2, 3, 0, 0), (1001, 1, 3, 1, 0, 0), (1002, 1, 11, 0, 0, 0), (1003, 1, 10, 0, 0, 0), (1004, 3, 13, 104, 88, 118), (1007, 1, 40, 0, 0, 0), (1008, 1, 0, 2, 0, 0), (1009, 1, 0, 0, 0, 0), (1010, 1, 2, 3, 0, 0), (1011, 1, 3, 1, 0, 0), (1012, 1, 11, 0, 0, 0), (1013, 1, 10, 0, 0, 0), (1014, 3, 13, 236, 96, 121), (1017, 1, 40, 0, 0, 0), (1018, 3, 8, 1705, 0, 0)])
def bLk_35 : Nat × List xI := (1021, [(1021, 1, 0, 1, 0, 0), (1022, 1, 0, 0, 0, 0), (1023, 1, 2, 3, 0, 0), (1024, 1, 3, 1, 0, 0), (1025, 1, 11, 0, 0, 0), (1026, 1, 10, 0, 0, 0), (1027, 1, 0, 0, 0, 0), (1028, 1, 2, 3, 0, 0), (1029, 1, 3, 2, 0, 0), (1030, 1, 11, 0, 0, 0), (1031, 1, 10, 0, 0, 0), (1032, 3, 13, 51, 88, 122), (1035, 1, 40, 0, 0, 0), (1036, 1, 0, 2, 0, 0), (1037, 1, 0, 0, 0, 0), (1038, 1, 2, 3, 0, 0), (1039, 1, 3, 1, 0, 0), (1040, 1, 11, 0, 0, 0), (1041, 1, 10, 0, 0, 0), (1042, 1, 0, 0, 0, 0), (1043, 1, 2, 3, 0, 0), (1044, 1, 3, 2, 0, 0), (1045, 1, 11, 0, 0, 0), (1046, 1, 10, 0, 0, 0), (1047, 3, 13, 133, 96, 125), (1050, 1, 40, 0, 0, 0), (1051, 3, 8, 1705, 0, 0)])
def bLk_36 : Nat × List xI := (1054, [(1054, 1, 0, 1, 0, 0), (1055, 1, 0, 0, 0, 0), (1056, 1, 2, 3, 0, 0), (1057, 1, 3, 1, 0, 0), (1058, 1, 11, 0, 0, 0), (1059, 1, 10, 0, 0, 0), (1060, 1, 0, 0, 0, 0), (1061, 1, 2, 3, 0, 0), (1062, 1, 3, 2, 0, 0), (1063, 1, 11, 0, 0, 0), (1064, 1, 10, 0, 0, 0), (1065, 3, 13, 52, 88, 126), (1068, 1, 40, 0, 0, 0), (1069, 1, 0, 2, 0, 0), (1070, 1, 0, 0, 0, 0), (1071, 1, 2, 3, 0, 0), (1072, 1, 3, 1, 0, 0), (1073, 1, 11, 0, 0, 0), (1074, 1, 10, 0, 0, 0), (1075, 1, 0, 0, 0, 0), (1076, 1, 2, 3, 0, 0), (1077, 1, 3, 2, 0, 0), (1078, 1, 11, 0, 0, 0), (1079, 1, 10, 0, 0, 0), (1080, 3, 13, 135, 96, 129), (1083, 1, 40, 0, 0, 0), (1084, 3, 8, 1705, 0, 0)])
def bLk_37 : Nat × List xI := (1087, [(1087, 1, 0, 1, 0, 0), (1088, 3, 13, 53, 88, 130), (1091, 1, 40, 0, 0, 0), (1092, 1, 0, 2, 0, 0), (1093, 3, 13, 137, 96, 133), (1096, 1, 40, 0, 0, 0), (1097, 3, 8, 1705, 0, 0)])
def bLk_38 : Nat × List xI := (1100, [(1100, 1, 0, 1, 0, 0), (1101, 1, 0, 0, 0, 0), (1102, 1, 2, 3, 0, 0), (1103, 1, 3, 1, 0, 0), (1104, 1, 11, 0, 0, 0), (1105, 1, 10, 0, 0, 0), (1106, 1, 0, 0, 0, 0), (1107, 1, 2, 3, 0, 0), (1108, 1, 3, 2, 0, 0), (1109, 1, 11, 0, 0, 0), (1110, 1, 10, 0, 0, 0), (1111, 1, 0, 0, 0, 0), (1112, 1, 2, 3, 0, 0), (1113, 1, 3, 3, 0, 0), (1114, 1, 11, 0, 0, 0), (1115, 1, 10, 0, 0, 0), (1116, 1, 0, 0, 0, 0), (1117, 1, 2, 3, 0, 0), (1118, 1, 3, 4, 0, 0), (1119, 1, 11, 0, 0, 0), (1120, 1, 10, 0, 0, 0), (1121, 3, 13, 102, 88, 134), (1124, 1, 40, 0, 0, 0), (1125, 1, 0, 2, 0, 0), (1126, 1, 0, 0, 0, 0), (1127, 1, 2, 3, 0, 0), (1128, 1, 3, 1, 0, 0), (1129, 1, 11, 0, 0, 0), (1130, 1, 10, 0, 0, 0), (1131, 1, 0, 0, 0, 0), (1132, 1, 2, 3, 0, 0), (1133, 1, 3, 2, 0, 0), (1134, 1, 11, 0, 0, 0), (1135, 1, 10, 0, 0, 0), (1136, 1, 0, 0, 0, 0), (1137, 1, 2, 3, 0, 0), (1138, 1, 3, 3, 0, 0), (1139, 1, 11, 0, 0, 0), (1140, 1, 10, 0, 0, 0), (1141, 1, 0, 0, 0, 0), (1142, 1, 2, 3, 0, 0), (1143, 1, 3, 4, 0, 0), (1144, 1, 11, 0, 0, 0), (1145, 1, 10, 0, 0, 0), (1146, 3, 13, 233, 96, 138), (1149, 1, 40, 0, 0, 0), (1150, 3, 8, 1705, 0, 0)])
def bLk_39 : Nat × List xI := (1153, [(1153, 1, 0, 1, 0, 0), (1154, 3, 13, 87, 88, 139), (1157, 1, 40, 0, 0, 0), (1158, 1, 0, 2, 0, 0), (1159, 3, 13, 204, 96, 142), (1162, 1, 40, 0, 0, 0), (1163, 3, 8, 1705, 0, 0)])
def bLk_40 : Nat × List xI := (1166, [(1166, 1, 0, 1, 0, 0), (1167, 1, 0, 0, 0, 0), (1168, 1, 2, 3, 0, 0), (1169, 1, 3, 1, 0, 0), (1170, 1, 11, 0, 0, 0), (1171, 1, 10, 0, 0, 0), (1172, 1, 0, 0, 0, 0), (1173, 1, 2, 3, 0, 0), (1174, 1, 3, 2, 0, 0), (1175, 1, 11, 0, 0, 0), (1176, 1, 10, 0, 0, 0), (1177, 3, 13, 86, 88, 143), (1180, 1, 40, 0, 0, 0), (1181, 1, 0, 2, 0, 0), (1182, 1, 0, 0, 0, 0), (1183, 1, 2, 3, 0, 0), (1184, 1, 3, 1, 0, 0), (1185, 1, 11, 0, 0, 0), (1186, 1, 10, 0, 0, 0), (1187, 1, 0, 0, 0, 0), (1188, 1, 2, 3, 0, 0), (1189, 1, 3, 2, 0, 0), (1190, 1, 11, 0, 0, 0), (1191, 1, 10, 0, 0, 0), (1192, 3, 13, 202, 96, 146), (1195, 1, 40, 0, 0, 0), (1196, 3, 8, 1705, 0, 0)])
def bLk_41 : Nat × List xI := (1199, [(1199, 1, 0, 1, 0, 0), (1200, 1, 0, 0, 0, 0), (1201, 1, 2, 3, 0, 0), (1202, 1, 3, 1, 0, 0), (1203, 1, 11, 0, 0, 0), (1204, 1, 10, 0, 0, 0), (1205, 1, 0, 0, 0, 0), (1206, 1, 2, 3, 0, 0), (1207, 1, 3, 2, 0, 0), (1208, 1, 11, 0, 0, 0), (1209, 1, 10, 0, 0, 0), (1210, 3, 13, 42, 88, 147), (1213, 1, 40, 0, 0, 0), (1214, 1, 0, 2, 0, 0), (1215, 1, 0, 0, 0, 0), (1216, 1, 2, 3, 0, 0), (1217, 1, 3, 1, 0, 0), (1218, 1, 11, 0, 0, 0), (1219, 1, 10, 0, 0, 0), (1220, 1, 0, 0, 0, 0), (1221, 1, 2, 3, 0, 0), (1222, 1, 3, 2, 0, 0), (1223, 1, 11, 0, 0, 0), (1224, 1, 10, 0, 0, 0), (1225, 3, 13, 126, 96, 150), (1228, 1, 40, 0, 0, 0), (1229, 3, 8, 1705, 0, 0)])
def bLk_42 : Nat × List xI := (1232, [(1232, 1, 0, 1, 0, 0), (1233, 1, 0, 0, 0, 0), (1234, 1, 2, 3, 0, 0), (1235, 1, 3, 1, 0, 0), (1236, 1, 11, 0, 0, 0), (1237, 1, 10, 0, 0, 0), (1238, 3, 13, 81, 88, 151), (1241, 1, 40, 0, 0, 0), (1242, 1, 0, 2, 0, 0), (1243, 1, 0, 0, 0, 0), (1244, 1, 2, 3, 0, 0), (1245, 1, 3, 1, 0, 0), (1246, 1, 11, 0, 0, 0), (1247, 1, 10, 0, 0, 0), (1248, 3, 13, 192, 96, 154), (1251, 1, 40, 0, 0, 0), (1252, 3, 8, 1705, 0, 0)])
def bLk_43 : Nat × List xI := (1255, [(1255, 1, 0, 1, 0, 0), (1256, 1, 0, 0, 0, 0), (1257, 1, 2, 3, 0, 0), (1258, 1, 3, 1, 0, 0), (1259, 1, 11, 0, 0, 0), (1260, 1, 10, 0, 0, 0), (1261, 1, 0, 0, 0, 0), (1262, 1, 2, 3, 0, 0), (1263, 1, 3, 2, 0, 0), (1264, 1, 11, 0, 0, 0), (1265, 1, 10, 0, 0, 0), (1266, 1, 0, 0, 0, 0), (1267, 1, 2, 3, 0, 0), (1268, 1, 3, 3, 0, 0), (1269, 1, 11, 0, 0, 0), (1270, 1, 10, 0, 0, 0), (1271, 3, 13, 62, 88, 155), (1274, 1, 40, 0, 0, 0), (1275, 1, 0, 2, 0, 0), (1276, 1, 0, 0, 0, 0), (1277, 1, 2, 3, 0, 0), (1278, 1, 3, 1, 0, 0), (1279, 1, 11, 0, 0, 0), (1280, 1, 10, 0, 0, 0), (1281, 1, 0, 0, 0, 0), (1282, 1, 2, 3, 0, 0), (1283, 1, 3, 2, 0, 0), (1284, 1, 11, 0, 0, 0), (1285, 1, 10, 0, 0, 0), (1286, 1, 0, 0, 0, 0), (1287, 1, 2, 3, 0, 0), (1288, 1, 3, 3, 0, 0), (1289, 1, 11, 0, 0, 0), (1290, 1, 10, 0, 0, 0), (1291, 3, 13, 150, 96, 159), (1294, 1, 40, 0, 0, 0), (1295, 3, 8, 1705, 0, 0)])
def bLk_44 : Nat × List xI := (1298, [(1298, 1, 0, 1, 0, 0), (1299, 1, 0, 0, 0, 0), (1300, 1, 2, 3, 0, 0), (1301, 1, 3, 1, 0, 0), (1302, 1, 11, 0, 0, 0), (1303, 1, 10, 0, 0, 0), (1304, 1, 0, 0, 0, 0), (1305, 1, 2, 3, 0, 0), (1306, 1, 3, 2, 0, 0), (1307, 1, 11, 0, 0, 0), (1308, 1, 10, 0, 0, 0), (1309, 3, 13, 40, 88, 160), (1312, 1, 40, 0, 0, 0), (1313, 1, 0, 2, 0, 0), (1314, 1, 0, 0, 0, 0), (1315, 1, 2, 3, 0, 0), (1316, 1, 3, 1, 0, 0), (1317, 1, 11, 0, 0, 0), (1318, 1, 10, 0, 0, 0), (1319, 1, 0, 0, 0, 0), (1320, 1, 2, 3, 0, 0), (1321, 1, 3, 2, 0, 0), (1322, 1, 11, 0, 0, 0), (1323, 1, 10, 0, 0, 0), (1324, 3, 13, 124, 96, 163), (1327, 1, 40, 0, 0, 0), (1328, 3, 8, 1705, 0, 0)])
def bLk_45 : Nat × List xI := (1331, [(1331, 1, 0, 1, 0, 0), (1332, 1, 0, 0, 0, 0), (1333, 1, 2, 3, 0, 0), (1334, 1, 3, 1, 0, 0), (1335, 1, 11, 0, 0, 0), (1336, 1, 10, 0, 0, 0), (1337, 3, 13, 94, 88, 164), (1340, 1, 40, 0, 0, 0), (1341, 1, 0, 2, 0, 0), (1342, 1, 0, 0, 0, 0), (1343, 1, 2, 3, 0, 0), (1344, 1, 3, 1, 0, 0), (1345, 1, 11, 0, 0, 0), (1346, 1, 10, 0, 0, 0), (1347, 3, 13, 217, 96, 167), (1350, 1, 40, 0, 0, 0), (1351, 3, 8, 1705, 0, 0)])
def bLk_46 : Nat × List xI := (1354, [(1354, 1, 0, 1, 0, 0), (1355, 1, 0, 0, 0, 0), (1356, 1, 2, 3, 0, 0), (1357, 1, 3, 1, 0, 0), (1358, 1, 11, 0, 0, 0), (1359, 1, 10, 0, 0, 0), (1360, 3, 13, 90, 88, 168), (1363, 1, 40, 0, 0, 0), (1364, 1, 0, 2, 0, 0), (1365, 1, 0, 0, 0, 0), (1366, 1, 2, 3, 0, 0), (1367, 1, 3, 1, 0, 0), (1368, 1, 11, 0, 0, 0), (1369, 1, 10, 0, 0, 0), (1370, 3, 13, 210, 96, 171), (1373, 1, 40, 0, 0, 0), (1374, 3, 8, 1705, 0, 0)])
def bLk_47 : Nat × List xI := (1377, [(1377, 1, 0, 1, 0, 0), (1378, 1, 0, 0, 0, 0), (1379, 1, 2, 3, 0, 0), (1380, 1, 3, 1, 0, 0), (1381, 1, 11, 0, 0, 0), (1382, 1, 10, 0, 0, 0), (1383, 3, 13, 74, 88, 172), (1386, 1, 40, 0, 0, 0), (1387, 1, 0, 2, 0, 0), (1388, 1, 0, 0, 0, 0), (1389, 1, 2, 3, 0, 0), (1390, 1, 3, 1, 0, 0), (1391, 1, 11, 0, 0, 0), (1392, 1, 10, 0, 0, 0), (1393, 3, 13, 176, 96, 175), (1396, 1, 40, 0, 0, 0), (1397, 3, 8, 1705, 0, 0)])
def bLk_48 : Nat × List xI := (1400, [(1400, 1, 0, 1, 0, 0), (1401, 3, 13, 95, 88, 176), (1404, 1, 40, 0, 0, 0), (1405, 1, 0, 2, 0, 0), (1406, 3, 13, 219, 96, 179), (1409, 1, 40, 0, 0, 0), (1410, 3, 8, 1705, 0, 0)])
def bLk_49 : Nat × List xI := (1413, [(1413, 1, 0, 1, 0, 0), (1414, 1, 0, 0, 0, 0), (1415, 1, 2, 3, 0, 0), (1416, 1, 3, 1, 0, 0), (1417, 1, 11, 0, 0, 0), (1418, 1, 10, 0, 0, 0), (1419, 1, 0, 0, 0, 0), (1420, 1, 2, 3, 0, 0), (1421, 1, 3, 2, 0, 0), (1422, 1, 11, 0, 0, 0), (1423, 1, 10, 0, 0, 0), (1424, 1, 0, 0, 0, 0), (1425, 1, 2, 3, 0, 0), (1426, 1, 3, 3, 0, 0), (1427, 1, 11, 0, 0, 0), (1428, 1, 10, 0, 0, 0), (1429, 1, 0, 0, 0, 0), (1430, 1, 2, 3, 0, 0), (1431, 1, 3, 4, 0, 0), (1432, 1, 11, 0, 0, 0), (1433, 1, 10, 0, 0, 0), (1434, 3, 13, 98, 88, 180), (1437, 1, 40, 0, 0, 0), (1438, 1, 0, 2, 0, 0), (1439, 1, 0, 0, 0, 0), (1440, 1, 2, 3, 0, 0), (1441, 1, 3, 1, 0, 0), (1442, 1, 11, 0, 0, 0), (1443, 1, 10, 0, 0, 0), (1444, 1, 0, 0, 0, 0), (1445, 1, 2, 3, 0, 0), (1446, 1, 3, 2, 0, 0), (1447, 1, 11, 0, 0, 0), (1448, 1, 10, 0, 0, 0), (1449, 1, 0, 0, 0, 0), (1450, 1, 2, 3, 0, 0), (1451, 1, 3, 3, 0, 0), (1452, 1, 11, 0, 0, 0), (1453, 1, 10, 0, 0, 0), (1454, 1, 0, 0, 0, 0), (1455, 1, 2, 3, 0, 0), (1456, 1, 3, 4, 0, 0), (1457, 1, 11, 0, 0, 0), (1458, 1, 10, 0, 0, 0), (1459, 3, 13, 228, 96, 183), (1462, 1, 40, 0, 0, 0), (1463, 3, 8, 1705, 0, 0)])
def bLk_50 : Nat × List xI := (1466, [(1466, 1, 0, 1, 0, 0), (1467, 3, 13, 73, 88, 184), (1470, 1, 40, 0, 0, 0), (1471, 1, 0, 2, 0, 0), (1472, 3, 13, 175, 96, 187), (1475, 1, 40, 0, 0, 0), (1476, 3, 8, 1705, 0, 0)])
def bLk_51 : Nat × List xI := (1479, [(1479, 1, 0, 1, 0, 0), (1480, 1, 0, 0, 0, 0), (1481, 1, 2, 3, 0, 0), (1482, 1, 3, 1, 0, 0), (1483, 1, 11, 0, 0, 0), (1484, 1, 10, 0, 0, 0), (1485, 3, 13, 75, 88, 188), (1488, 1, 40, 0, 0, 0), (1489, 1, 0, 2, 0, 0), (1490, 1, 0, 0, 0, 0), (1491, 1, 2, 3, 0, 0), (1492, 1, 3, 1, 0, 0), (1493, 1, 11, 0, 0, 0), (1494, 1, 10, 0, 0, 0), (1495, 3, 13, 178, 96, 191), (1498, 1, 40, 0, 0, 0), (1499, 3, 8, 1705, 0, 0)])
def bLk_52 : Nat × List xI := (1502, [(1502, 1, 0, 1, 0, 0), (1503, 1, 0, 0, 0, 0), (1504, 1, 2, 3, 0, 0), (1505, 1, 3, 1, 0, 0), (1506, 1, 11, 0, 0, 0), (1507, 1, 10, 0, 0, 0), (1508, 1, 0, 0, 0, 0), (1509, 1, 2, 3, 0, 0), (1510, 1, 3, 2, 0, 0), (1511, 1, 11, 0, 0, 0), (1512, 1, 10, 0, 0, 0), (1513, 3, 7, 1520, 0, 0), (1516, 1, 3, 1, 0, 0), (1517, 3, 8, 1521, 0, 0)])
def bLk_53 : Nat × List xI := (1520, [(1520, 1, 3, 0, 0, 0)])
def bLk_54 : Nat × List xI := (1521, [(1521, 3, 13, 96, 88, 192), (1524, 1, 40, 0, 0, 0), (1525, 1, 0, 2, 0, 0), (1526, 1, 0, 0, 0, 0), (1527, 1, 2, 3, 0, 0), (1528, 1, 3, 1, 0, 0), (1529, 1, 11, 0, 0, 0), (1530, 1, 10, 0, 0, 0), (1531, 1, 0, 0, 0, 0), (1532, 1, 2, 3, 0, 0), (1533, 1, 3, 2, 0, 0), (1534, 1, 11, 0, 0, 0), (1535, 1, 10, 0, 0, 0), (1536, 3, 7, 1543, 0, 0), (1539, 1, 3, 1, 0, 0), (1540, 3, 8, 1544, 0, 0)])
def bLk_55 : Nat × List xI := (1543, [(1543, 1, 3, 0, 0, 0)])
def bLk_56 : Nat × List xI := (1544, [(1544, 3, 13, 223, 96, 196), (1547, 1, 40, 0, 0, 0), (1548, 3, 8, 1705, 0, 0)])
def bLk_57 : Nat × List xI := (1551, [(1551, 1, 0, 1, 0, 0), (1552, 1, 0, 0, 0, 0), (1553, 1, 2, 3, 0, 0), (1554, 1, 3, 1, 0, 0), (1555, 1, 11, 0, 0, 0), (1556, 1, 10, 0, 0, 0), (1557, 3, 13, 91, 88, 197), (1560, 1, 40, 0, 0, 0), (1561, 1, 0, 2, 0, 0), (1562, 1, 0, 0, 0, 0), (1563, 1, 2, 3, 0, 0), (1564, 1, 3, 1, 0, 0), (1565, 1, 11, 0, 0, 0), (1566, 1, 10, 0, 0, 0), (1567, 3, 13, 212, 96, 200), (1570, 1, 40, 0, 0, 0), (1571, 3, 8, 1705, 0, 0)])
def bLk_58 : Nat × List xI := (1574, [(1574, 1, 0, 1, 0, 0), (1575, 1, 0, 0, 0, 0), (1576, 1, 2, 3, 0, 0), (1577, 1, 3, 1, 0, 0), (1578, 1, 11, 0, 0, 0), (1579, 1, 10, 0, 0, 0), (1580, 3, 13, 84, 88, 201), (1583, 1, 40, 0, 0, 0), (1584, 1, 0, 2, 0, 0), (1585, 1, 0, 0, 0, 0), (1586, 1, 2, 3, 0, 0), (1587, 1, 3, 1, 0, 0), (1588, 1, 11, 0, 0, 0), (1589, 1, 10, 0, 0, 0), (1590, 3, 13, 197, 96, 204), (1593, 1, 40, 0, 0, 0), (1594, 3, 8, 1705, 0, 0)])
def bLk_59 : Nat × List xI := (1597, [(1597, 1, 0, 1, 0, 0), (1598, 3, 13, 93, 88, 205), (1601, 1, 40, 0, 0, 0), (1602, 1, 0, 2, 0, 0), (1603, 3, 13, 216, 96, 208), (1606, 1, 40, 0, 0, 0), (1607, 3, 8, 1705, 0, 0)])
def bLk_60 : Nat × List xI := (1610, [(1610, 1, 0, 1, 0, 0), (1611, 3, 13, 38, 88, 209), (1614, 1, 40, 0, 0, 0), (1615, 1, 0, 2, 0, 0), (1616, 3, 13, 119, 96, 212), (1619, 1, 40, 0, 0, 0), (1620, 3, 8, 1705, 0, 0)])
def bLk_61 : Nat × List xI := (1623, [(1623, 1, 0, 1, 0, 0), (1624, 3, 13, 89, 88, 213), (1627, 1, 40, 0, 0, 0), (1628, 1, 0, 2, 0, 0), (1629, 3, 13, 209, 96, 216), (1632, 1, 40, 0, 0, 0), (1633, 3, 8, 1705, 0, 0)])
def bLk_62 : Nat × List xI := (1636, [(1636, 1, 0, 1, 0, 0), (1637, 1, 0, 0, 0, 0), (1638, 1, 2, 3, 0, 0), (1639, 1, 3, 1, 0, 0), (1640, 1, 11, 0, 0, 0), (1641, 1, 10, 0, 0, 0), (1642, 3, 13, 44, 88, 217), (1645, 1, 40, 0, 0, 0), (1646, 1, 0, 2, 0, 0), (1647, 1, 0, 0, 0, 0), (1648, 1, 2, 3, 0, 0), (1649, 1, 3, 1, 0, 0), (1650, 1, 11, 0, 0, 0), (1651, 1, 10, 0, 0, 0), (1652, 3, 13, 127, 96, 220), (1655, 1, 40, 0, 0, 0), (1656, 3, 8, 1705, 0, 0)])
def bLk_63 : Nat × List xI := (1659, [(1659, 1, 0, 1, 0, 0), (1660, 1, 0, 0, 0, 0), (1661, 1, 2, 3, 0, 0), (1662, 1, 3, 1, 0, 0), (1663, 1, 11, 0, 0, 0), (1664, 1, 10, 0, 0, 0), (1665, 3, 13, 65, 88, 221), (1668, 1, 40, 0, 0, 0), (1669, 1, 0, 2, 0, 0), (1670, 1, 0, 0, 0, 0), (1671, 1, 2, 3, 0, 0), (1672, 1, 3, 1, 0, 0), (1673, 1, 11, 0, 0, 0), (1674, 1, 10, 0, 0, 0), (1675, 3, 13, 153, 96, 224), (1678, 1, 40, 0, 0, 0), (1679, 3, 8, 1705, 0, 0)])
def bLk_64 : Nat × List xI := (1682, [(1682, 1, 0, 1, 0, 0), (1683, 1, 0, 0, 0, 0), (1684, 1, 2, 3, 0, 0), (1685, 1, 3, 1, 0, 0), (1686, 1, 11, 0, 0, 0), (1687, 1, 10, 0, 0, 0), (1688, 3, 13, 37, 88, 225), (1691, 1, 40, 0, 0, 0), (1692, 1, 0, 2, 0, 0), (1693, 1, 0, 0, 0, 0), (1694, 1, 2, 3, 0, 0), (1695, 1, 3, 1, 0, 0), (1696, 1, 11, 0, 0, 0), (1697, 1, 10, 0, 0, 0), (1698, 3, 13, 111, 96, 228), (1701, 1, 40, 0, 0, 0), (1702, 3, 8, 1705, 0, 0)])
def bLk_65 : Nat × List xI := (1705, [(1705, 3, 9, 3, 7, 0), (1708, 3, 8, 18, 0, 0)])
def bLk_66 : Nat × List xI := (1711, [(1711, 1, 3, 1, 0, 0), (1712, 1, 12, 0, 1, 0)])
def bL_p : List (Nat × List xI) := [bLk_0]
def bL_a : List (Nat × List xI) := [bLk_0, bLk_1, bLk_2, bLk_3, bLk_4, bLk_5, bLk_6, bLk_7, bLk_8, bLk_9, bLk_10, bLk_11, bLk_12, bLk_13, bLk_14, bLk_15, bLk_16, bLk_17, bLk_18, bLk_19, bLk_20, bLk_21, bLk_22, bLk_23, bLk_24, bLk_25, bLk_26, bLk_27, bLk_28, bLk_29, bLk_30, bLk_31, bLk_32, bLk_33, bLk_34, bLk_35, bLk_36, bLk_37, bLk_38, bLk_39, bLk_40, bLk_41, bLk_42, bLk_43, bLk_44, bLk_45, bLk_46, bLk_47, bLk_48, bLk_49, bLk_50, bLk_51, bLk_52, bLk_53, bLk_54, bLk_55, bLk_56, bLk_57, bLk_58, bLk_59, bLk_60, bLk_61, bLk_62, bLk_63, bLk_64, bLk_65, bLk_66]
def mLp : xM := (yL_law, cL_law, 4, some .boolean, 1, 4, 600000, 7302250, bL_p)
def mLa : xM := (yL_law, cL_law, 4, some .boolean, 1, 4, 600000, 7302250, bL_a)
def xW0 : List (List xE) := [[.inl (11, [(2, 1), (2, 26), (2, 27), (2, 43), (2, 49), (2, 58), (2, 68), (2, 72), (2, 76), (2, 80), (2, 81)]), .inl (9, [(2, 2), (0, 0), (0, 0), (0, 4294967295), (2, 3), (2, 14), (0, 0), (0, 4294967295), (2, 16), (0, 0), (2, 18), (2, 20), (2, 22), (2, 24)]), .inr (1, 500, 0, []), .inl (1, [(2, 4), (2, 6), (2, 8), (2, 10), (2, 12), (0, 1), (0, 1), (0, 1), (0, 1), (0, 0)]), .inl (5, [(0, 6), (0, 4), (2, 5), (0, 0)]), .inr (0, 24, 1, []), .inl (5, [(0, 4), (0, 2), (2, 7), (0, 0)]), .inr (0, 8, 2, []), .inl (5, [(0, 6), (0, 2), (2, 9), (0, 0)]), .inr (0, 12, 3, [])],
  [.inl (5, [(0, 4), (0, 3), (2, 11), (0, 0)]), .inr (0, 12, 4, []), .inl (5, [(0, 20), (0, 2), (2, 13), (0, 0)]), .inr (0, 40, 5, []), .inl (5, [(0, 40), (0, 5), (2, 15), (0, 0)]), .inr (0, 200, 6, []), .inl (5, [(0, 12), (0, 5), (2, 17), (0, 0)]), .inr (0, 60, 7, []), .inl (5, [(0, 4), (0, 3), (2, 19), (0, 0)]), .inr (0, 12, 8, [])],
  [.inl (5, [(0, 12), (0, 4), (2, 21), (0, 0)]), .inr (0, 48, 9, []), .inl (5, [(0, 16), (0, 2), (2, 23), (0, 0)]), .inr (0, 32, 10, []), .inl (5, [(0, 64), (0, 5), (2, 25), (0, 0)]), .inr (0, 320, 11, []), .inr (4, 3, 12, []), .inl (2, [(2, 1), (2, 42), (2, 28), (2, 39), (2, 40), (2, 41), (0, 0), (0, 0), (0, 0), (0, 0), (0, 0)]), .inl (1, [(2, 29), (2, 31), (2, 33), (2, 35), (2, 37), (0, 1), (0, 1), (0, 1), (0, 1), (0, 0)]), .inl (5, [(0, 6), (0, 4), (2, 30), (0, 0)])],
  [.inr (0, 24, 13, []), .inl (5, [(0, 4), (0, 2), (2, 32), (0, 0)]), .inr (0, 8, 14, []), .inl (5, [(0, 6), (0, 2), (2, 34), (0, 0)]), .inr (0, 12, 15, []), .inl (5, [(0, 4), (0, 3), (2, 36), (0, 0)]), .inr (0, 12, 16, []), .inl (5, [(0, 20), (0, 2), (2, 38), (0, 0)]), .inr (0, 40, 17, []), .inr (0, 3, 18, [])],
  [.inr (0, 3, 19, []), .inr (0, 20, 20, []), .inl (8, [(2, 2), (0, 0), (0, 0), (0, 0), (0, 0), (0, 0)]), .inl (6, [(2, 1), (2, 48), (2, 44), (2, 46), (0, 0), (0, 0)]), .inl (5, [(0, 16), (0, 2), (2, 45), (0, 0)]), .inr (0, 32, 21, []), .inl (5, [(0, 64), (0, 5), (2, 47), (0, 0)]), .inr (0, 320, 22, []), .inl (8, [(2, 2), (0, 0), (0, 0), (0, 0), (0, 0), (0, 0)]), .inl (0, [(2, 3), (2, 50), (2, 51), (2, 52), (2, 53), (2, 54), (2, 55), (2, 56), (2, 57), (0, 0), (0, 0)])],
  [.inr (0, 6, 23, []), .inr (0, 6, 24, []), .inr (0, 6, 25, []), .inr (3, 6, 26, []), .inr (3, 6, 27, []), .inr (3, 6, 28, []), .inr (3, 4, 29, []), .inr (0, 6, 30, []), .inl (10, [(2, 1), (2, 59), (2, 60), (2, 61), (2, 62), (2, 63), (2, 64), (2, 65), (2, 66), (2, 67), (0, 0), (0, 0), (0, 0)]), .inr (2, 36, 31, [])],
  [.inr (2, 36, 32, []), .inr (0, 36, 33, []), .inr (0, 36, 34, []), .inr (2, 6, 35, []), .inr (2, 6, 36, []), .inr (2, 6, 37, []), .inr (0, 36, 38, []), .inr (0, 36, 39, []), .inl (3, [(2, 1), (2, 69), (2, 70), (2, 71), (0, 0), (0, 0)]), .inr (0, 36, 40, [])],
  [.inr (0, 36, 41, []), .inr (0, 36, 42, []), .inl (7, [(2, 3), (2, 73), (2, 74), (0, 0), (0, 0)]), .inr (0, 3025, 43, []), .inl (5, [(0, 100), (0, 3), (2, 75), (0, 0)]), .inr (0, 300, 44, []), .inl (4, [(2, 20), (2, 77), (2, 78), (2, 79), (0, 0), (0, 0), (0, 0), (0, 0), (0, 0), (0, 0), (0, 0), (0, 0)]), .inr (0, 240, 45, []), .inr (0, 15, 46, []), .inr (0, 15, 47, [])],
  [.inr (0, 11, 48, []), .inr (2, 16, 49, []), .inl (12, [(2, 83), (2, 84), (0, 0), (0, 0), (0, 0), (0, 0), (0, 0), (0, 0), (0, 0), (0, 0), (0, 0), (2, 85), (2, 86), (2, 87), (0, 0), (2, 88), (2, 89), (2, 90), (2, 91), (2, 92), (2, 93), (2, 94), (4, 0), (4, 0), (0, 0), (2, 95), (2, 96), (2, 97), (2, 98), (2, 99), (2, 100), (2, 101), (2, 102), (0, 0), (2, 103), (2, 104), (2, 105), (2, 106), (2, 107), (2, 108), (2, 109), (0, 0), (0, 0), (2, 110), (2, 111), (2, 112), (2, 113)]), .inr (0, 5360, 50, [(8, (0, 1)), (7, (0, 1)), (6, (0, 1)), (5, (0, 1)), (17, (0, 4294967295)), (12, (0, 4294967295))]), .inr (2, 3, 51, []), .inr (0, 7, 52, []), .inr (0, 140, 53, []), .inr (0, 20, 54, []), .inr (0, 6, 55, []), .inr (0, 6, 56, [])],
  [.inr (0, 6, 57, []), .inr (0, 6, 58, []), .inr (3, 6, 59, []), .inr (3, 6, 60, []), .inr (3, 6, 61, []), .inr (0, 36, 62, []), .inr (0, 36, 63, []), .inr (0, 6, 64, []), .inr (0, 6, 65, []), .inr (2, 36, 66, [])],
  [.inr (2, 36, 67, []), .inr (0, 36, 68, []), .inr (0, 36, 69, []), .inr (0, 36, 70, []), .inr (0, 36, 71, []), .inr (0, 36, 72, []), .inr (0, 14641, 73, []), .inr (2, 14641, 74, []), .inr (0, 200, 75, []), .inr (0, 300, 76, [])],
  [.inr (0, 36, 77, []), .inr (0, 240, 78, []), .inr (0, 320, 79, []), .inr (0, 4, 80, [])]]
def xbd0 : List (Nat × Nat) := [(0, 4294967295), (0, 4294967295), (0, 4294967295), (0, 4294967295), (0, 4294967295), (0, 4294967295), (0, 4294967295)]
def xhp0 : xH := (xW0, xbd0, [], 114, 46853, 81, 114)
def xlo0 (v : xV) : xLo := [(3, (0, 0)), (2, (2, 82)), (1, (2, 0)), (0, v)]
end
section
theorem lw_lk_0 : xLq RL (3, 24, 11, 0, 7) := ⟨by decide, _, rfl, ⟨rfl, (RX11, TX11, 11), rfl, xtc1 22 rfl rfl, xtc1 23 rfl rfl, xtc1 1 rfl rfl⟩⟩
theorem lw_lk_1 : xLq RL (3, 13, 67, 92, 9) := ⟨by decide, _, rfl, ⟨rfl, mX11_init, rfl, xtc1 24 rfl rfl, rfl, rfl, rfl, xtc1 25 rfl rfl⟩⟩
theorem lw_lk_2 : xLq RL (3, 24, 12, 0, 10) := ⟨by decide, _, rfl, ⟨rfl, (RX12, TX12, 47), rfl, xtc6 207 rfl rfl, xtc6 208 rfl rfl, xtc1 13 rfl rfl⟩⟩
theorem lw_lk_3 : xLq RL (3, 13, 156, 100, 12) := ⟨by decide, _, rfl, ⟨rfl, mX12_init, rfl, xtc6 209 rfl rfl, rfl, rfl, rfl, xtc6 210 rfl rfl⟩⟩
theorem lw_lk_4 : xLq RL (3, 13, 59, 88, 13) := ⟨by decide, _, rfl, ⟨rfl, mX11_feed, rfl, xtc3 49 rfl rfl, xtc3 50 rfl rfl, xtc3 51 rfl rfl, (RX11, TX11, 11), rfl, rfl⟩⟩
theorem lw_lk_5 : xLq RL (3, 13, 144, 96, 17) := ⟨by decide, _, rfl, ⟨rfl, mX12_feed, rfl, xtc7 115 rfl rfl, xtc7 116 rfl rfl, xtc7 117 rfl rfl, (RX12, TX12, 47), rfl, rfl⟩⟩
theorem lw_lk_6 : xLq RL (3, 13, 56, 88, 18) := ⟨by decide, _, rfl, ⟨rfl, mX11_end, rfl, xtc3 57 rfl rfl, xtc3 58 rfl rfl, xtc3 59 rfl rfl, (RX11, TX11, 11), rfl, rfl⟩⟩
theorem lw_lk_7 : xLq RL (3, 13, 139, 96, 22) := ⟨by decide, _, rfl, ⟨rfl, mX12_end, rfl, xtc7 119 rfl rfl, xtc7 120 rfl rfl, xtc7 121 rfl rfl, (RX12, TX12, 47), rfl, rfl⟩⟩
theorem lw_lk_8 : xLq RL (3, 13, 60, 88, 23) := ⟨by decide, _, rfl, ⟨rfl, mX11_film, rfl, xtc3 61 rfl rfl, xtc3 62 rfl rfl, xtc3 63 rfl rfl, (RX11, TX11, 11), rfl, rfl⟩⟩
theorem lw_lk_9 : xLq RL (3, 13, 145, 96, 27) := ⟨by decide, _, rfl, ⟨rfl, mX12_film, rfl, xtc7 123 rfl rfl, xtc7 124 rfl rfl, xtc7 125 rfl rfl, (RX12, TX12, 47), rfl, rfl⟩⟩
theorem lw_lk_10 : xLq RL (3, 13, 57, 88, 28) := ⟨by decide, _, rfl, ⟨rfl, mX11_fault, rfl, xtc4 33 rfl rfl, xtc4 34 rfl rfl, xtc4 35 rfl rfl, (RX11, TX11, 11), rfl, rfl⟩⟩
theorem lw_lk_11 : xLq RL (3, 13, 141, 96, 31) := ⟨by decide, _, rfl, ⟨rfl, mX12_fault, rfl, xtc7 205 rfl rfl, xtc7 206 rfl rfl, xtc7 207 rfl rfl, (RX12, TX12, 47), rfl, rfl⟩⟩
theorem lw_lk_12 : xLq RL (3, 13, 76, 88, 32) := ⟨by decide, _, rfl, ⟨rfl, mX11_layer, rfl, xtc4 37 rfl rfl, xtc4 38 rfl rfl, xtc4 39 rfl rfl, (RX11, TX11, 11), rfl, rfl⟩⟩
theorem lw_lk_13 : xLq RL (3, 13, 180, 96, 36) := ⟨by decide, _, rfl, ⟨rfl, mX12_layer, rfl, xtc7 209 rfl rfl, xtc7 210 rfl rfl, xtc7 211 rfl rfl, (RX12, TX12, 47), rfl, rfl⟩⟩
theorem lw_lk_14 : xLq RL (3, 13, 83, 88, 37) := ⟨by decide, _, rfl, ⟨rfl, mX11_neutral, rfl, xtc4 56 rfl rfl, xtc4 57 rfl rfl, xtc4 58 rfl rfl, (RX11, TX11, 11), rfl, rfl⟩⟩
theorem lw_lk_15 : xLq RL (3, 13, 196, 96, 40) := ⟨by decide, _, rfl, ⟨rfl, mX12_neutral, rfl, xtc7 237 rfl rfl, xtc7 238 rfl rfl, xtc7 239 rfl rfl, (RX12, TX12, 47), rfl, rfl⟩⟩
theorem lw_lk_16 : xLq RL (3, 13, 97, 88, 41) := ⟨by decide, _, rfl, ⟨rfl, mX11_stretch, rfl, xtc4 68 rfl rfl, xtc4 69 rfl rfl, xtc4 70 rfl rfl, (RX11, TX11, 11), rfl, rfl⟩⟩
theorem lw_lk_17 : xLq RL (3, 13, 225, 96, 44) := ⟨by decide, _, rfl, ⟨rfl, mX12_stretch, rfl, xtc8 2 rfl rfl, xtc8 3 rfl rfl, xtc8 4 rfl rfl, (RX12, TX12, 47), rfl, rfl⟩⟩
theorem lw_lk_18 : xLq RL (3, 13, 39, 88, 45) := ⟨by decide, _, rfl, ⟨rfl, mX11_bears, rfl, xtc4 82 rfl rfl, xtc4 83 rfl rfl, xtc4 84 rfl rfl, (RX11, TX11, 11), rfl, rfl⟩⟩
theorem lw_lk_19 : xLq RL (3, 13, 120, 96, 49) := ⟨by decide, _, rfl, ⟨rfl, mX12_bears, rfl, xtc8 12 rfl rfl, xtc8 13 rfl rfl, xtc8 14 rfl rfl, (RX12, TX12, 47), rfl, rfl⟩⟩
theorem lw_lk_20 : xLq RL (3, 13, 78, 88, 50) := ⟨by decide, _, rfl, ⟨rfl, mX11_least, rfl, xtc4 94 rfl rfl, xtc4 95 rfl rfl, xtc4 96 rfl rfl, (RX11, TX11, 11), rfl, rfl⟩⟩
theorem lw_lk_21 : xLq RL (3, 13, 184, 96, 53) := ⟨by decide, _, rfl, ⟨rfl, mX12_least, rfl, xtc8 16 rfl rfl, xtc8 17 rfl rfl, xtc8 18 rfl rfl, (RX12, TX12, 47), rfl, rfl⟩⟩
theorem lw_lk_22 : xLq RL (3, 13, 105, 88, 54) := ⟨by decide, _, rfl, ⟨rfl, mX11_worst, rfl, xtc4 109 rfl rfl, xtc4 110 rfl rfl, xtc4 111 rfl rfl, (RX11, TX11, 11), rfl, rfl⟩⟩
theorem lw_lk_23 : xLq RL (3, 13, 239, 96, 57) := ⟨by decide, _, rfl, ⟨rfl, mX12_worst, rfl, xtc8 25 rfl rfl, xtc8 26 rfl rfl, xtc8 27 rfl rfl, (RX12, TX12, 47), rfl, rfl⟩⟩
theorem lw_lk_24 : xLq RL (3, 13, 85, 88, 58) := ⟨by decide, _, rfl, ⟨rfl, mX11_order, rfl, xtc4 117 rfl rfl, xtc4 118 rfl rfl, xtc4 119 rfl rfl, (RX11, TX11, 11), rfl, rfl⟩⟩
theorem lw_lk_25 : xLq RL (3, 13, 201, 96, 61) := ⟨by decide, _, rfl, ⟨rfl, mX12_order, rfl, xtc8 29 rfl rfl, xtc8 30 rfl rfl, xtc8 31 rfl rfl, (RX12, TX12, 47), rfl, rfl⟩⟩
theorem lw_lk_26 : xLq RL (3, 13, 100, 88, 62) := ⟨by decide, _, rfl, ⟨rfl, mX11_tired, rfl, xtc4 140 rfl rfl, xtc4 141 rfl rfl, xtc4 142 rfl rfl, (RX11, TX11, 11), rfl, rfl⟩⟩
theorem lw_lk_27 : xLq RL (3, 13, 230, 96, 65) := ⟨by decide, _, rfl, ⟨rfl, mX12_tired, rfl, xtc8 41 rfl rfl, xtc8 42 rfl rfl, xtc8 43 rfl rfl, (RX12, TX12, 47), rfl, rfl⟩⟩
theorem lw_lk_28 : xLq RL (3, 13, 48, 88, 66) := ⟨by decide, _, rfl, ⟨rfl, mX11_cracks, rfl, xtc4 171 rfl rfl, xtc4 172 rfl rfl, xtc4 173 rfl rfl, (RX11, TX11, 11), rfl, rfl⟩⟩
theorem lw_lk_29 : xLq RL (3, 13, 129, 96, 69) := ⟨by decide, _, rfl, ⟨rfl, mX12_cracks, rfl, xtc8 53 rfl rfl, xtc8 54 rfl rfl, xtc8 55 rfl rfl, (RX12, TX12, 47), rfl, rfl⟩⟩
theorem lw_lk_30 : xLq RL (3, 13, 54, 88, 70) := ⟨by decide, _, rfl, ⟨rfl, mX11_day, rfl, xtc4 179 rfl rfl, xtc4 180 rfl rfl, xtc4 181 rfl rfl, (RX11, TX11, 11), rfl, rfl⟩⟩
theorem lw_lk_31 : xLq RL (3, 13, 138, 96, 74) := ⟨by decide, _, rfl, ⟨rfl, mX12_day, rfl, xtc8 57 rfl rfl, xtc8 58 rfl rfl, xtc8 59 rfl rfl, (RX12, TX12, 47), rfl, rfl⟩⟩
theorem lw_lk_32 : xLq RL (3, 13, 103, 88, 75) := ⟨by decide, _, rfl, ⟨rfl, mX11_view, rfl, xtc4 183 rfl rfl, xtc4 184 rfl rfl, xtc4 185 rfl rfl, (RX11, TX11, 11), rfl, rfl⟩⟩
theorem lw_lk_33 : xLq RL (3, 13, 235, 96, 78) := ⟨by decide, _, rfl, ⟨rfl, mX12_view, rfl, xtc8 61 rfl rfl, xtc8 62 rfl rfl, xtc8 63 rfl rfl, (RX12, TX12, 47), rfl, rfl⟩⟩
theorem lw_lk_34 : xLq RL (3, 13, 47, 88, 79) := ⟨by decide, _, rfl, ⟨rfl, mX11_crack, rfl, xtc4 187 rfl rfl, xtc4 188 rfl rfl, xtc4 189 rfl rfl, (RX11, TX11, 11), rfl, rfl⟩⟩
theorem lw_lk_35 : xLq RL (3, 13, 128, 96, 83) := ⟨by decide, _, rfl, ⟨rfl, mX12_crack, rfl, xtc8 65 rfl rfl, xtc8 66 rfl rfl, xtc8 67 rfl rfl, (RX12, TX12, 47), rfl, rfl⟩⟩
theorem lw_lk_36 : xLq RL (3, 13, 77, 88, 84) := ⟨by decide, _, rfl, ⟨rfl, mX11_leads, rfl, xtc4 207 rfl rfl, xtc4 208 rfl rfl, xtc4 209 rfl rfl, (RX11, TX11, 11), rfl, rfl⟩⟩
theorem lw_lk_37 : xLq RL (3, 13, 183, 96, 87) := ⟨by decide, _, rfl, ⟨rfl, mX12_leads, rfl, xtc8 77 rfl rfl, xtc8 78 rfl rfl, xtc8 79 rfl rfl, (RX12, TX12, 47), rfl, rfl⟩⟩
theorem lw_lk_38 : xLq RL (3, 13, 82, 88, 88) := ⟨by decide, _, rfl, ⟨rfl, mX11_most, rfl, xtc4 215 rfl rfl, xtc4 216 rfl rfl, xtc4 217 rfl rfl, (RX11, TX11, 11), rfl, rfl⟩⟩
theorem lw_lk_39 : xLq RL (3, 13, 193, 96, 91) := ⟨by decide, _, rfl, ⟨rfl, mX12_most, rfl, xtc8 85 rfl rfl, xtc8 86 rfl rfl, xtc8 87 rfl rfl, (RX12, TX12, 47), rfl, rfl⟩⟩
theorem lw_lk_40 : xLq RL (3, 13, 58, 88, 92) := ⟨by decide, _, rfl, ⟨rfl, mX11_fed, rfl, xtc5 16 rfl rfl, xtc5 17 rfl rfl, xtc5 18 rfl rfl, (RX11, TX11, 11), rfl, rfl⟩⟩
theorem lw_lk_41 : xLq RL (3, 13, 142, 96, 95) := ⟨by decide, _, rfl, ⟨rfl, mX12_fed, rfl, xtc8 113 rfl rfl, xtc8 114 rfl rfl, xtc8 115 rfl rfl, (RX12, TX12, 47), rfl, rfl⟩⟩
theorem lw_lk_42 : xLq RL (3, 13, 50, 88, 96) := ⟨by decide, _, rfl, ⟨rfl, mX11_cut, rfl, xtc5 20 rfl rfl, xtc5 21 rfl rfl, xtc5 22 rfl rfl, (RX11, TX11, 11), rfl, rfl⟩⟩
theorem lw_lk_43 : xLq RL (3, 13, 131, 96, 99) := ⟨by decide, _, rfl, ⟨rfl, mX12_cut, rfl, xtc8 121 rfl rfl, xtc8 122 rfl rfl, xtc8 123 rfl rfl, (RX12, TX12, 47), rfl, rfl⟩⟩
theorem lw_lk_44 : xLq RL (3, 13, 66, 88, 100) := ⟨by decide, _, rfl, ⟨rfl, mX11_inCut, rfl, xtc5 32 rfl rfl, xtc5 33 rfl rfl, xtc5 34 rfl rfl, (RX11, TX11, 11), rfl, rfl⟩⟩
theorem lw_lk_45 : xLq RL (3, 13, 154, 96, 104) := ⟨by decide, _, rfl, ⟨rfl, mX12_inCut, rfl, xtc8 137 rfl rfl, xtc8 138 rfl rfl, xtc8 139 rfl rfl, (RX12, TX12, 47), rfl, rfl⟩⟩
theorem lw_lk_46 : xLq RL (3, 13, 88, 88, 105) := ⟨by decide, _, rfl, ⟨rfl, mX11_picture, rfl, xtc5 59 rfl rfl, xtc5 60 rfl rfl, xtc5 61 rfl rfl, (RX11, TX11, 11), rfl, rfl⟩⟩
theorem lw_lk_47 : xLq RL (3, 13, 205, 96, 109) := ⟨by decide, _, rfl, ⟨rfl, mX12_picture, rfl, xtc8 141 rfl rfl, xtc8 142 rfl rfl, xtc8 143 rfl rfl, (RX12, TX12, 47), rfl, rfl⟩⟩
theorem lw_lk_48 : xLq RL (3, 13, 79, 88, 110) := ⟨by decide, _, rfl, ⟨rfl, mX11_left, rfl, xtc5 63 rfl rfl, xtc5 64 rfl rfl, xtc5 65 rfl rfl, (RX11, TX11, 11), rfl, rfl⟩⟩
theorem lw_lk_49 : xLq RL (3, 13, 186, 96, 113) := ⟨by decide, _, rfl, ⟨rfl, mX12_left, rfl, xtc8 145 rfl rfl, xtc8 146 rfl rfl, xtc8 147 rfl rfl, (RX12, TX12, 47), rfl, rfl⟩⟩
theorem lw_lk_50 : xLq RL (3, 13, 101, 88, 114) := ⟨by decide, _, rfl, ⟨rfl, mX11_unlike, rfl, xtc5 85 rfl rfl, xtc5 86 rfl rfl, xtc5 87 rfl rfl, (RX11, TX11, 11), rfl, rfl⟩⟩
theorem lw_lk_51 : xLq RL (3, 13, 232, 96, 117) := ⟨by decide, _, rfl, ⟨rfl, mX12_unlike, rfl, xtc8 161 rfl rfl, xtc8 162 rfl rfl, xtc8 163 rfl rfl, (RX12, TX12, 47), rfl, rfl⟩⟩
theorem lw_lk_52 : xLq RL (3, 13, 104, 88, 118) := ⟨by decide, _, rfl, ⟨rfl, mX11_wet, rfl, xtc5 94 rfl rfl, xtc5 95 rfl rfl, xtc5 96 rfl rfl, (RX11, TX11, 11), rfl, rfl⟩⟩
theorem lw_lk_53 : xLq RL (3, 13, 236, 96, 121) := ⟨by decide, _, rfl, ⟨rfl, mX12_wet, rfl, xtc8 165 rfl rfl, xtc8 166 rfl rfl, xtc8 167 rfl rfl, (RX12, TX12, 47), rfl, rfl⟩⟩
theorem lw_lk_54 : xLq RL (3, 13, 51, 88, 122) := ⟨by decide, _, rfl, ⟨rfl, mX11_damp, rfl, xtc5 98 rfl rfl, xtc5 99 rfl rfl, xtc5 100 rfl rfl, (RX11, TX11, 11), rfl, rfl⟩⟩
theorem lw_lk_55 : xLq RL (3, 13, 133, 96, 125) := ⟨by decide, _, rfl, ⟨rfl, mX12_damp, rfl, xtc8 169 rfl rfl, xtc8 170 rfl rfl, xtc8 171 rfl rfl, (RX12, TX12, 47), rfl, rfl⟩⟩
theorem lw_lk_56 : xLq RL (3, 13, 52, 88, 126) := ⟨by decide, _, rfl, ⟨rfl, mX11_dark, rfl, xtc5 115 rfl rfl, xtc5 116 rfl rfl, xtc5 117 rfl rfl, (RX11, TX11, 11), rfl, rfl⟩⟩
theorem lw_lk_57 : xLq RL (3, 13, 135, 96, 129) := ⟨by decide, _, rfl, ⟨rfl, mX12_dark, rfl, xtc8 181 rfl rfl, xtc8 182 rfl rfl, xtc8 183 rfl rfl, (RX12, TX12, 47), rfl, rfl⟩⟩
theorem lw_lk_58 : xLq RL (3, 13, 53, 88, 130) := ⟨by decide, _, rfl, ⟨rfl, mX11_darks, rfl, xtc5 131 rfl rfl, xtc5 132 rfl rfl, xtc5 133 rfl rfl, (RX11, TX11, 11), rfl, rfl⟩⟩
theorem lw_lk_59 : xLq RL (3, 13, 137, 96, 133) := ⟨by decide, _, rfl, ⟨rfl, mX12_darks, rfl, xtc8 193 rfl rfl, xtc8 194 rfl rfl, xtc8 195 rfl rfl, (RX12, TX12, 47), rfl, rfl⟩⟩
theorem lw_lk_60 : xLq RL (3, 13, 102, 88, 134) := ⟨by decide, _, rfl, ⟨rfl, mX11_value, rfl, xtc5 159 rfl rfl, xtc5 160 rfl rfl, xtc5 161 rfl rfl, (RX11, TX11, 11), rfl, rfl⟩⟩
theorem lw_lk_61 : xLq RL (3, 13, 233, 96, 138) := ⟨by decide, _, rfl, ⟨rfl, mX12_value, rfl, xtc8 197 rfl rfl, xtc8 198 rfl rfl, xtc8 199 rfl rfl, (RX12, TX12, 47), rfl, rfl⟩⟩
theorem lw_lk_62 : xLq RL (3, 13, 87, 88, 139) := ⟨by decide, _, rfl, ⟨rfl, mX11_panels, rfl, xtc5 198 rfl rfl, xtc5 199 rfl rfl, xtc5 200 rfl rfl, (RX11, TX11, 11), rfl, rfl⟩⟩
theorem lw_lk_63 : xLq RL (3, 13, 204, 96, 142) := ⟨by decide, _, rfl, ⟨rfl, mX12_panels, rfl, xtc8 220 rfl rfl, xtc8 221 rfl rfl, xtc8 222 rfl rfl, (RX12, TX12, 47), rfl, rfl⟩⟩
theorem lw_lk_64 : xLq RL (3, 13, 86, 88, 143) := ⟨by decide, _, rfl, ⟨rfl, mX11_panel, rfl, xtc5 218 rfl rfl, xtc5 219 rfl rfl, xtc5 220 rfl rfl, (RX11, TX11, 11), rfl, rfl⟩⟩
theorem lw_lk_65 : xLq RL (3, 13, 202, 96, 146) := ⟨by decide, _, rfl, ⟨rfl, mX12_panel, rfl, xtc8 236 rfl rfl, xtc8 237 rfl rfl, xtc8 238 rfl rfl, (RX12, TX12, 47), rfl, rfl⟩⟩
theorem lw_lk_66 : xLq RL (3, 13, 42, 88, 147) := ⟨by decide, _, rfl, ⟨rfl, mX11_cost, rfl, xtc5 37 rfl rfl, xtc5 38 rfl rfl, xtc5 39 rfl rfl, (RX11, TX11, 11), rfl, rfl⟩⟩
theorem lw_lk_67 : xLq RL (3, 13, 126, 96, 150) := ⟨by decide, _, rfl, ⟨rfl, mX12_cost, rfl, xtc9 0 rfl rfl, xtc9 1 rfl rfl, xtc9 2 rfl rfl, (RX12, TX12, 47), rfl, rfl⟩⟩
theorem lw_lk_68 : xLq RL (3, 13, 81, 88, 151) := ⟨by decide, _, rfl, ⟨rfl, mX11_mend, rfl, xtc5 41 rfl rfl, xtc5 42 rfl rfl, xtc5 43 rfl rfl, (RX11, TX11, 11), rfl, rfl⟩⟩
theorem lw_lk_69 : xLq RL (3, 13, 192, 96, 154) := ⟨by decide, _, rfl, ⟨rfl, mX12_mend, rfl, xtc9 4 rfl rfl, xtc9 5 rfl rfl, xtc9 6 rfl rfl, (RX12, TX12, 47), rfl, rfl⟩⟩
theorem lw_lk_70 : xLq RL (3, 13, 62, 88, 155) := ⟨by decide, _, rfl, ⟨rfl, mX11_hand, rfl, xtc5 222 rfl rfl, xtc5 223 rfl rfl, xtc5 224 rfl rfl, (RX11, TX11, 11), rfl, rfl⟩⟩
theorem lw_lk_71 : xLq RL (3, 13, 150, 96, 159) := ⟨by decide, _, rfl, ⟨rfl, mX12_hand, rfl, xtc9 19 rfl rfl, xtc9 20 rfl rfl, xtc9 21 rfl rfl, (RX12, TX12, 47), rfl, rfl⟩⟩
theorem lw_lk_72 : xLq RL (3, 13, 40, 88, 160) := ⟨by decide, _, rfl, ⟨rfl, mX11_broken, rfl, xtc5 226 rfl rfl, xtc5 227 rfl rfl, xtc5 228 rfl rfl, (RX11, TX11, 11), rfl, rfl⟩⟩
theorem lw_lk_73 : xLq RL (3, 13, 124, 96, 163) := ⟨by decide, _, rfl, ⟨rfl, mX12_broken, rfl, xtc9 23 rfl rfl, xtc9 24 rfl rfl, xtc9 25 rfl rfl, (RX12, TX12, 47), rfl, rfl⟩⟩
theorem lw_lk_74 : xLq RL (3, 13, 94, 88, 164) := ⟨by decide, _, rfl, ⟨rfl, mX11_share, rfl, xtc6 2 rfl rfl, xtc6 3 rfl rfl, xtc6 4 rfl rfl, (RX11, TX11, 11), rfl, rfl⟩⟩
theorem lw_lk_75 : xLq RL (3, 13, 217, 96, 167) := ⟨by decide, _, rfl, ⟨rfl, mX12_share, rfl, xtc9 32 rfl rfl, xtc9 33 rfl rfl, xtc9 34 rfl rfl, (RX12, TX12, 47), rfl, rfl⟩⟩
theorem lw_lk_76 : xLq RL (3, 13, 90, 88, 168) := ⟨by decide, _, rfl, ⟨rfl, mX11_promise, rfl, xtc6 12 rfl rfl, xtc6 13 rfl rfl, xtc6 14 rfl rfl, (RX11, TX11, 11), rfl, rfl⟩⟩
theorem lw_lk_77 : xLq RL (3, 13, 210, 96, 171) := ⟨by decide, _, rfl, ⟨rfl, mX12_promise, rfl, xtc9 40 rfl rfl, xtc9 41 rfl rfl, xtc9 42 rfl rfl, (RX12, TX12, 47), rfl, rfl⟩⟩
theorem lw_lk_78 : xLq RL (3, 13, 74, 88, 172) := ⟨by decide, _, rfl, ⟨rfl, mX11_lasts, rfl, xtc5 139 rfl rfl, xtc5 140 rfl rfl, xtc5 141 rfl rfl, (RX11, TX11, 11), rfl, rfl⟩⟩
theorem lw_lk_79 : xLq RL (3, 13, 176, 96, 175) := ⟨by decide, _, rfl, ⟨rfl, mX12_lasts, rfl, xtc9 44 rfl rfl, xtc9 45 rfl rfl, xtc9 46 rfl rfl, (RX12, TX12, 47), rfl, rfl⟩⟩
theorem lw_lk_80 : xLq RL (3, 13, 95, 88, 176) := ⟨by decide, _, rfl, ⟨rfl, mX11_shift, rfl, xtc5 155 rfl rfl, xtc5 156 rfl rfl, xtc5 157 rfl rfl, (RX11, TX11, 11), rfl, rfl⟩⟩
theorem lw_lk_81 : xLq RL (3, 13, 219, 96, 179) := ⟨by decide, _, rfl, ⟨rfl, mX12_shift, rfl, xtc9 52 rfl rfl, xtc9 53 rfl rfl, xtc9 54 rfl rfl, (RX12, TX12, 47), rfl, rfl⟩⟩
theorem lw_lk_82 : xLq RL (3, 13, 98, 88, 180) := ⟨by decide, _, rfl, ⟨rfl, mX11_test, rfl, xtc6 16 rfl rfl, xtc6 17 rfl rfl, xtc6 18 rfl rfl, (RX11, TX11, 11), rfl, rfl⟩⟩
theorem lw_lk_83 : xLq RL (3, 13, 228, 96, 183) := ⟨by decide, _, rfl, ⟨rfl, mX12_test, rfl, xtc9 56 rfl rfl, xtc9 57 rfl rfl, xtc9 58 rfl rfl, (RX12, TX12, 47), rfl, rfl⟩⟩
theorem lw_lk_84 : xLq RL (3, 13, 73, 88, 184) := ⟨by decide, _, rfl, ⟨rfl, mX11_kept, rfl, xtc6 25 rfl rfl, xtc6 26 rfl rfl, xtc6 27 rfl rfl, (RX11, TX11, 11), rfl, rfl⟩⟩
theorem lw_lk_85 : xLq RL (3, 13, 175, 96, 187) := ⟨by decide, _, rfl, ⟨rfl, mX12_kept, rfl, xtc9 61 rfl rfl, xtc9 62 rfl rfl, xtc9 63 rfl rfl, (RX12, TX12, 47), rfl, rfl⟩⟩
theorem lw_lk_86 : xLq RL (3, 13, 75, 88, 188) := ⟨by decide, _, rfl, ⟨rfl, mX11_law, rfl, xtc6 44 rfl rfl, xtc6 45 rfl rfl, xtc6 46 rfl rfl, (RX11, TX11, 11), rfl, rfl⟩⟩
theorem lw_lk_87 : xLq RL (3, 13, 178, 96, 191) := ⟨by decide, _, rfl, ⟨rfl, mX12_law, rfl, xtc9 84 rfl rfl, xtc9 85 rfl rfl, xtc9 86 rfl rfl, (RX12, TX12, 47), rfl, rfl⟩⟩
theorem lw_lk_88 : xLq RL (3, 13, 96, 88, 192) := ⟨by decide, _, rfl, ⟨rfl, mX11_span, rfl, xtc6 52 rfl rfl, xtc6 53 rfl rfl, xtc6 54 rfl rfl, (RX11, TX11, 11), rfl, rfl⟩⟩
theorem lw_lk_89 : xLq RL (3, 13, 223, 96, 196) := ⟨by decide, _, rfl, ⟨rfl, mX12_span, rfl, xtc9 88 rfl rfl, xtc9 89 rfl rfl, xtc9 90 rfl rfl, (RX12, TX12, 47), rfl, rfl⟩⟩
theorem lw_lk_90 : xLq RL (3, 13, 91, 88, 197) := ⟨by decide, _, rfl, ⟨rfl, mX11_quarrel, rfl, xtc6 67 rfl rfl, xtc6 68 rfl rfl, xtc6 69 rfl rfl, (RX11, TX11, 11), rfl, rfl⟩⟩
theorem lw_lk_91 : xLq RL (3, 13, 212, 96, 200) := ⟨by decide, _, rfl, ⟨rfl, mX12_quarrel, rfl, xtc9 92 rfl rfl, xtc9 93 rfl rfl, xtc9 94 rfl rfl, (RX12, TX12, 47), rfl, rfl⟩⟩
theorem lw_lk_92 : xLq RL (3, 13, 84, 88, 201) := ⟨by decide, _, rfl, ⟨rfl, mX11_next, rfl, xtc6 84 rfl rfl, xtc6 85 rfl rfl, xtc6 86 rfl rfl, (RX11, TX11, 11), rfl, rfl⟩⟩
theorem lw_lk_93 : xLq RL (3, 13, 197, 96, 204) := ⟨by decide, _, rfl, ⟨rfl, mX12_next, rfl, xtc9 100 rfl rfl, xtc9 101 rfl rfl, xtc9 102 rfl rfl, (RX12, TX12, 47), rfl, rfl⟩⟩
theorem lw_lk_94 : xLq RL (3, 13, 93, 88, 205) := ⟨by decide, _, rfl, ⟨rfl, mX11_rules, rfl, xtc6 97 rfl rfl, xtc6 98 rfl rfl, xtc6 99 rfl rfl, (RX11, TX11, 11), rfl, rfl⟩⟩
theorem lw_lk_95 : xLq RL (3, 13, 216, 96, 208) := ⟨by decide, _, rfl, ⟨rfl, mX12_rules, rfl, xtc9 104 rfl rfl, xtc9 105 rfl rfl, xtc9 106 rfl rfl, (RX12, TX12, 47), rfl, rfl⟩⟩
theorem lw_lk_96 : xLq RL (3, 13, 38, 88, 209) := ⟨by decide, _, rfl, ⟨rfl, mX11_barred, rfl, xtc6 156 rfl rfl, xtc6 157 rfl rfl, xtc6 158 rfl rfl, (RX11, TX11, 11), rfl, rfl⟩⟩
theorem lw_lk_97 : xLq RL (3, 13, 119, 96, 212) := ⟨by decide, _, rfl, ⟨rfl, mX12_barred, rfl, xtc9 132 rfl rfl, xtc9 133 rfl rfl, xtc9 134 rfl rfl, (RX12, TX12, 47), rfl, rfl⟩⟩
theorem lw_lk_98 : xLq RL (3, 13, 89, 88, 213) := ⟨by decide, _, rfl, ⟨rfl, mX11_price, rfl, xtc6 178 rfl rfl, xtc6 179 rfl rfl, xtc6 180 rfl rfl, (RX11, TX11, 11), rfl, rfl⟩⟩
theorem lw_lk_99 : xLq RL (3, 13, 209, 96, 216) := ⟨by decide, _, rfl, ⟨rfl, mX12_price, rfl, xtc9 152 rfl rfl, xtc9 153 rfl rfl, xtc9 154 rfl rfl, (RX12, TX12, 47), rfl, rfl⟩⟩
theorem lw_lk_100 : xLq RL (3, 13, 44, 88, 217) := ⟨by decide, _, rfl, ⟨rfl, mX11_count, rfl, xtc6 183 rfl rfl, xtc6 184 rfl rfl, xtc6 185 rfl rfl, (RX11, TX11, 11), rfl, rfl⟩⟩
theorem lw_lk_101 : xLq RL (3, 13, 127, 96, 220) := ⟨by decide, _, rfl, ⟨rfl, mX12_count, rfl, xtc9 156 rfl rfl, xtc9 157 rfl rfl, xtc9 158 rfl rfl, (RX12, TX12, 47), rfl, rfl⟩⟩
theorem lw_lk_102 : xLq RL (3, 13, 65, 88, 221) := ⟨by decide, _, rfl, ⟨rfl, mX11_image, rfl, xtc6 192 rfl rfl, xtc6 193 rfl rfl, xtc6 194 rfl rfl, (RX11, TX11, 11), rfl, rfl⟩⟩
theorem lw_lk_103 : xLq RL (3, 13, 153, 96, 224) := ⟨by decide, _, rfl, ⟨rfl, mX12_image, rfl, xtc9 160 rfl rfl, xtc9 161 rfl rfl, xtc9 162 rfl rfl, (RX12, TX12, 47), rfl, rfl⟩⟩
theorem lw_lk_104 : xLq RL (3, 13, 37, 88, 225) := ⟨by decide, _, rfl, ⟨rfl, mX11_again, rfl, xtc6 203 rfl rfl, xtc6 204 rfl rfl, xtc6 205 rfl rfl, (RX11, TX11, 11), rfl, rfl⟩⟩
theorem lw_lk_105 : xLq RL (3, 13, 111, 96, 228) := ⟨by decide, _, rfl, ⟨rfl, mX12_again, rfl, xtc9 164 rfl rfl, xtc9 165 rfl rfl, xtc9 166 rfl rfl, (RX12, TX12, 47), rfl, rfl⟩⟩
end
section
def lL_b0 : List xL := [(3, 24, 11, 0, 7), (3, 13, 67, 92, 9), (3, 24, 12, 0, 10), (3, 13, 156, 100, 12)]
theorem kL_b0 : ∀ q ∈ lL_b0, xLq RL q := List.forall_mem_cons.mpr ⟨lw_lk_0, List.forall_mem_cons.mpr ⟨lw_lk_1, List.forall_mem_cons.mpr ⟨lw_lk_2, List.forall_mem_cons.mpr ⟨lw_lk_3, fun _ h => absurd h List.not_mem_nil⟩⟩⟩⟩
theorem bL_b0_ok : ∀ b ∈ [bLk_0], xbok RL cL_law b := xbF_ok (lk := lL_b0) (ls := []) kL_b0 xno_sw (by decide +kernel)
def lL_b1 : List xL := []
theorem kL_b1 : ∀ q ∈ lL_b1, xLq RL q := fun _ h => absurd h List.not_mem_nil
theorem bL_b1_ok : ∀ b ∈ [bLk_1], xbok RL cL_law b := xbF_ok (lk := lL_b1) (ls := []) kL_b1 xno_sw (by decide +kernel)
def lL_b2 : List xL := [(3, 13, 59, 88, 13), (3, 13, 144, 96, 17)]
theorem kL_b2 : ∀ q ∈ lL_b2, xLq RL q := List.forall_mem_cons.mpr ⟨lw_lk_4, List.forall_mem_cons.mpr ⟨lw_lk_5, fun _ h => absurd h List.not_mem_nil⟩⟩
theorem bL_b2_ok : ∀ b ∈ [bLk_2], xbok RL cL_law b := xbF_ok (lk := lL_b2) (ls := []) kL_b2 xno_sw (by decide +kernel)
def lL_b3 : List xL := [(3, 13, 56, 88, 18), (3, 13, 139, 96, 22)]
theorem kL_b3 : ∀ q ∈ lL_b3, xLq RL q := List.forall_mem_cons.mpr ⟨lw_lk_6, List.forall_mem_cons.mpr ⟨lw_lk_7, fun _ h => absurd h List.not_mem_nil⟩⟩
theorem bL_b3_ok : ∀ b ∈ [bLk_3], xbok RL cL_law b := xbF_ok (lk := lL_b3) (ls := []) kL_b3 xno_sw (by decide +kernel)
def lL_b4 : List xL := [(3, 13, 60, 88, 23), (3, 13, 145, 96, 27)]
theorem kL_b4 : ∀ q ∈ lL_b4, xLq RL q := List.forall_mem_cons.mpr ⟨lw_lk_8, List.forall_mem_cons.mpr ⟨lw_lk_9, fun _ h => absurd h List.not_mem_nil⟩⟩
theorem bL_b4_ok : ∀ b ∈ [bLk_4], xbok RL cL_law b := xbF_ok (lk := lL_b4) (ls := []) kL_b4 xno_sw (by decide +kernel)
def lL_b5 : List xL := [(3, 13, 57, 88, 28), (3, 13, 141, 96, 31)]
theorem kL_b5 : ∀ q ∈ lL_b5, xLq RL q := List.forall_mem_cons.mpr ⟨lw_lk_10, List.forall_mem_cons.mpr ⟨lw_lk_11, fun _ h => absurd h List.not_mem_nil⟩⟩
theorem bL_b5_ok : ∀ b ∈ [bLk_5], xbok RL cL_law b := xbF_ok (lk := lL_b5) (ls := []) kL_b5 xno_sw (by decide +kernel)
def lL_b6 : List xL := [(3, 13, 76, 88, 32), (3, 13, 180, 96, 36)]
theorem kL_b6 : ∀ q ∈ lL_b6, xLq RL q := List.forall_mem_cons.mpr ⟨lw_lk_12, List.forall_mem_cons.mpr ⟨lw_lk_13, fun _ h => absurd h List.not_mem_nil⟩⟩
theorem bL_b6_ok : ∀ b ∈ [bLk_6], xbok RL cL_law b := xbF_ok (lk := lL_b6) (ls := []) kL_b6 xno_sw (by decide +kernel)
def lL_b7 : List xL := [(3, 13, 83, 88, 37), (3, 13, 196, 96, 40)]
theorem kL_b7 : ∀ q ∈ lL_b7, xLq RL q := List.forall_mem_cons.mpr ⟨lw_lk_14, List.forall_mem_cons.mpr ⟨lw_lk_15, fun _ h => absurd h List.not_mem_nil⟩⟩
theorem bL_b7_ok : ∀ b ∈ [bLk_7], xbok RL cL_law b := xbF_ok (lk := lL_b7) (ls := []) kL_b7 xno_sw (by decide +kernel)
def lL_b8 : List xL := [(3, 13, 97, 88, 41), (3, 13, 225, 96, 44)]
theorem kL_b8 : ∀ q ∈ lL_b8, xLq RL q := List.forall_mem_cons.mpr ⟨lw_lk_16, List.forall_mem_cons.mpr ⟨lw_lk_17, fun _ h => absurd h List.not_mem_nil⟩⟩
theorem bL_b8_ok : ∀ b ∈ [bLk_8], xbok RL cL_law b := xbF_ok (lk := lL_b8) (ls := []) kL_b8 xno_sw (by decide +kernel)
def lL_b9 : List xL := [(3, 13, 39, 88, 45), (3, 13, 120, 96, 49)]
theorem kL_b9 : ∀ q ∈ lL_b9, xLq RL q := List.forall_mem_cons.mpr ⟨lw_lk_18, List.forall_mem_cons.mpr ⟨lw_lk_19, fun _ h => absurd h List.not_mem_nil⟩⟩
theorem bL_b9_ok : ∀ b ∈ [bLk_9], xbok RL cL_law b := xbF_ok (lk := lL_b9) (ls := []) kL_b9 xno_sw (by decide +kernel)
def lL_b10 : List xL := [(3, 13, 78, 88, 50), (3, 13, 184, 96, 53)]
theorem kL_b10 : ∀ q ∈ lL_b10, xLq RL q := List.forall_mem_cons.mpr ⟨lw_lk_20, List.forall_mem_cons.mpr ⟨lw_lk_21, fun _ h => absurd h List.not_mem_nil⟩⟩
theorem bL_b10_ok : ∀ b ∈ [bLk_10], xbok RL cL_law b := xbF_ok (lk := lL_b10) (ls := []) kL_b10 xno_sw (by decide +kernel)
def lL_b11 : List xL := [(3, 13, 105, 88, 54), (3, 13, 239, 96, 57)]
theorem kL_b11 : ∀ q ∈ lL_b11, xLq RL q := List.forall_mem_cons.mpr ⟨lw_lk_22, List.forall_mem_cons.mpr ⟨lw_lk_23, fun _ h => absurd h List.not_mem_nil⟩⟩
theorem bL_b11_ok : ∀ b ∈ [bLk_11], xbok RL cL_law b := xbF_ok (lk := lL_b11) (ls := []) kL_b11 xno_sw (by decide +kernel)
def lL_b12 : List xL := [(3, 13, 85, 88, 58), (3, 13, 201, 96, 61)]
theorem kL_b12 : ∀ q ∈ lL_b12, xLq RL q := List.forall_mem_cons.mpr ⟨lw_lk_24, List.forall_mem_cons.mpr ⟨lw_lk_25, fun _ h => absurd h List.not_mem_nil⟩⟩
theorem bL_b12_ok : ∀ b ∈ [bLk_12], xbok RL cL_law b := xbF_ok (lk := lL_b12) (ls := []) kL_b12 xno_sw (by decide +kernel)
def lL_b13 : List xL := [(3, 13, 100, 88, 62), (3, 13, 230, 96, 65)]
theorem kL_b13 : ∀ q ∈ lL_b13, xLq RL q := List.forall_mem_cons.mpr ⟨lw_lk_26, List.forall_mem_cons.mpr ⟨lw_lk_27, fun _ h => absurd h List.not_mem_nil⟩⟩
theorem bL_b13_ok : ∀ b ∈ [bLk_13], xbok RL cL_law b := xbF_ok (lk := lL_b13) (ls := []) kL_b13 xno_sw (by decide +kernel)
def lL_b14 : List xL := [(3, 13, 48, 88, 66), (3, 13, 129, 96, 69)]
theorem kL_b14 : ∀ q ∈ lL_b14, xLq RL q := List.forall_mem_cons.mpr ⟨lw_lk_28, List.forall_mem_cons.mpr ⟨lw_lk_29, fun _ h => absurd h List.not_mem_nil⟩⟩
theorem bL_b14_ok : ∀ b ∈ [bLk_14], xbok RL cL_law b := xbF_ok (lk := lL_b14) (ls := []) kL_b14 xno_sw (by decide +kernel)
def lL_b15 : List xL := [(3, 13, 54, 88, 70), (3, 13, 138, 96, 74)]
theorem kL_b15 : ∀ q ∈ lL_b15, xLq RL q := List.forall_mem_cons.mpr ⟨lw_lk_30, List.forall_mem_cons.mpr ⟨lw_lk_31, fun _ h => absurd h List.not_mem_nil⟩⟩
theorem bL_b15_ok : ∀ b ∈ [bLk_15], xbok RL cL_law b := xbF_ok (lk := lL_b15) (ls := []) kL_b15 xno_sw (by decide +kernel)
def lL_b16 : List xL := [(3, 13, 103, 88, 75), (3, 13, 235, 96, 78)]
theorem kL_b16 : ∀ q ∈ lL_b16, xLq RL q := List.forall_mem_cons.mpr ⟨lw_lk_32, List.forall_mem_cons.mpr ⟨lw_lk_33, fun _ h => absurd h List.not_mem_nil⟩⟩
theorem bL_b16_ok : ∀ b ∈ [bLk_16], xbok RL cL_law b := xbF_ok (lk := lL_b16) (ls := []) kL_b16 xno_sw (by decide +kernel)
def lL_b17 : List xL := []
theorem kL_b17 : ∀ q ∈ lL_b17, xLq RL q := fun _ h => absurd h List.not_mem_nil
theorem bL_b17_ok : ∀ b ∈ [bLk_17], xbok RL cL_law b := xbF_ok (lk := lL_b17) (ls := []) kL_b17 xno_sw (by decide +kernel)
def lL_b18 : List xL := []
theorem kL_b18 : ∀ q ∈ lL_b18, xLq RL q := fun _ h => absurd h List.not_mem_nil
theorem bL_b18_ok : ∀ b ∈ [bLk_18], xbok RL cL_law b := xbF_ok (lk := lL_b18) (ls := []) kL_b18 xno_sw (by decide +kernel)
def lL_b19 : List xL := [(3, 13, 47, 88, 79)]
theorem kL_b19 : ∀ q ∈ lL_b19, xLq RL q := List.forall_mem_cons.mpr ⟨lw_lk_34, fun _ h => absurd h List.not_mem_nil⟩
theorem bL_b19_ok : ∀ b ∈ [bLk_19], xbok RL cL_law b := xbF_ok (lk := lL_b19) (ls := []) kL_b19 xno_sw (by decide +kernel)
def lL_b20 : List xL := []
theorem kL_b20 : ∀ q ∈ lL_b20, xLq RL q := fun _ h => absurd h List.not_mem_nil
theorem bL_b20_ok : ∀ b ∈ [bLk_20], xbok RL cL_law b := xbF_ok (lk := lL_b20) (ls := []) kL_b20 xno_sw (by decide +kernel)
def lL_b21 : List xL := [(3, 13, 128, 96, 83)]
theorem kL_b21 : ∀ q ∈ lL_b21, xLq RL q := List.forall_mem_cons.mpr ⟨lw_lk_35, fun _ h => absurd h List.not_mem_nil⟩
theorem bL_b21_ok : ∀ b ∈ [bLk_21], xbok RL cL_law b := xbF_ok (lk := lL_b21) (ls := []) kL_b21 xno_sw (by decide +kernel)
def lL_b22 : List xL := []
theorem kL_b22 : ∀ q ∈ lL_b22, xLq RL q := fun _ h => absurd h List.not_mem_nil
theorem bL_b22_ok : ∀ b ∈ [bLk_22], xbok RL cL_law b := xbF_ok (lk := lL_b22) (ls := []) kL_b22 xno_sw (by decide +kernel)
def lL_b23 : List xL := []
theorem kL_b23 : ∀ q ∈ lL_b23, xLq RL q := fun _ h => absurd h List.not_mem_nil
theorem bL_b23_ok : ∀ b ∈ [bLk_23], xbok RL cL_law b := xbF_ok (lk := lL_b23) (ls := []) kL_b23 xno_sw (by decide +kernel)
def lL_b24 : List xL := [(3, 13, 77, 88, 84)]
theorem kL_b24 : ∀ q ∈ lL_b24, xLq RL q := List.forall_mem_cons.mpr ⟨lw_lk_36, fun _ h => absurd h List.not_mem_nil⟩
theorem bL_b24_ok : ∀ b ∈ [bLk_24], xbok RL cL_law b := xbF_ok (lk := lL_b24) (ls := []) kL_b24 xno_sw (by decide +kernel)
def lL_b25 : List xL := []
theorem kL_b25 : ∀ q ∈ lL_b25, xLq RL q := fun _ h => absurd h List.not_mem_nil
theorem bL_b25_ok : ∀ b ∈ [bLk_25], xbok RL cL_law b := xbF_ok (lk := lL_b25) (ls := []) kL_b25 xno_sw (by decide +kernel)
def lL_b26 : List xL := [(3, 13, 183, 96, 87)]
theorem kL_b26 : ∀ q ∈ lL_b26, xLq RL q := List.forall_mem_cons.mpr ⟨lw_lk_37, fun _ h => absurd h List.not_mem_nil⟩
theorem bL_b26_ok : ∀ b ∈ [bLk_26], xbok RL cL_law b := xbF_ok (lk := lL_b26) (ls := []) kL_b26 xno_sw (by decide +kernel)
def lL_b27 : List xL := [(3, 13, 82, 88, 88), (3, 13, 193, 96, 91)]
theorem kL_b27 : ∀ q ∈ lL_b27, xLq RL q := List.forall_mem_cons.mpr ⟨lw_lk_38, List.forall_mem_cons.mpr ⟨lw_lk_39, fun _ h => absurd h List.not_mem_nil⟩⟩
theorem bL_b27_ok : ∀ b ∈ [bLk_27], xbok RL cL_law b := xbF_ok (lk := lL_b27) (ls := []) kL_b27 xno_sw (by decide +kernel)
def lL_b28 : List xL := [(3, 13, 58, 88, 92), (3, 13, 142, 96, 95)]
theorem kL_b28 : ∀ q ∈ lL_b28, xLq RL q := List.forall_mem_cons.mpr ⟨lw_lk_40, List.forall_mem_cons.mpr ⟨lw_lk_41, fun _ h => absurd h List.not_mem_nil⟩⟩
theorem bL_b28_ok : ∀ b ∈ [bLk_28], xbok RL cL_law b := xbF_ok (lk := lL_b28) (ls := []) kL_b28 xno_sw (by decide +kernel)
def lL_b29 : List xL := [(3, 13, 50, 88, 96), (3, 13, 131, 96, 99)]
theorem kL_b29 : ∀ q ∈ lL_b29, xLq RL q := List.forall_mem_cons.mpr ⟨lw_lk_42, List.forall_mem_cons.mpr ⟨lw_lk_43, fun _ h => absurd h List.not_mem_nil⟩⟩
theorem bL_b29_ok : ∀ b ∈ [bLk_29], xbok RL cL_law b := xbF_ok (lk := lL_b29) (ls := []) kL_b29 xno_sw (by decide +kernel)
def lL_b30 : List xL := [(3, 13, 66, 88, 100), (3, 13, 154, 96, 104)]
theorem kL_b30 : ∀ q ∈ lL_b30, xLq RL q := List.forall_mem_cons.mpr ⟨lw_lk_44, List.forall_mem_cons.mpr ⟨lw_lk_45, fun _ h => absurd h List.not_mem_nil⟩⟩
theorem bL_b30_ok : ∀ b ∈ [bLk_30], xbok RL cL_law b := xbF_ok (lk := lL_b30) (ls := []) kL_b30 xno_sw (by decide +kernel)
def lL_b31 : List xL := [(3, 13, 88, 88, 105), (3, 13, 205, 96, 109)]
theorem kL_b31 : ∀ q ∈ lL_b31, xLq RL q := List.forall_mem_cons.mpr ⟨lw_lk_46, List.forall_mem_cons.mpr ⟨lw_lk_47, fun _ h => absurd h List.not_mem_nil⟩⟩
theorem bL_b31_ok : ∀ b ∈ [bLk_31], xbok RL cL_law b := xbF_ok (lk := lL_b31) (ls := []) kL_b31 xno_sw (by decide +kernel)
def lL_b32 : List xL := [(3, 13, 79, 88, 110), (3, 13, 186, 96, 113)]
theorem kL_b32 : ∀ q ∈ lL_b32, xLq RL q := List.forall_mem_cons.mpr ⟨lw_lk_48, List.forall_mem_cons.mpr ⟨lw_lk_49, fun _ h => absurd h List.not_mem_nil⟩⟩
theorem bL_b32_ok : ∀ b ∈ [bLk_32], xbok RL cL_law b := xbF_ok (lk := lL_b32) (ls := []) kL_b32 xno_sw (by decide +kernel)
def lL_b33 : List xL := [(3, 13, 101, 88, 114), (3, 13, 232, 96, 117)]
theorem kL_b33 : ∀ q ∈ lL_b33, xLq RL q := List.forall_mem_cons.mpr ⟨lw_lk_50, List.forall_mem_cons.mpr ⟨lw_lk_51, fun _ h => absurd h List.not_mem_nil⟩⟩
theorem bL_b33_ok : ∀ b ∈ [bLk_33], xbok RL cL_law b := xbF_ok (lk := lL_b33) (ls := []) kL_b33 xno_sw (by decide +kernel)
def lL_b34 : List xL := [(3, 13, 104, 88, 118), (3, 13, 236, 96, 121)]
theorem kL_b34 : ∀ q ∈ lL_b34, xLq RL q := List.forall_mem_cons.mpr ⟨lw_lk_52, List.forall_mem_cons.mpr ⟨lw_lk_53, fun _ h => absurd h List.not_mem_nil⟩⟩
theorem bL_b34_ok : ∀ b ∈ [bLk_34], xbok RL cL_law b := xbF_ok (lk := lL_b34) (ls := []) kL_b34 xno_sw (by decide +kernel)
def lL_b35 : List xL := [(3, 13, 51, 88, 122), (3, 13, 133, 96, 125)]
theorem kL_b35 : ∀ q ∈ lL_b35, xLq RL q := List.forall_mem_cons.mpr ⟨lw_lk_54, List.forall_mem_cons.mpr ⟨lw_lk_55, fun _ h => absurd h List.not_mem_nil⟩⟩
theorem bL_b35_ok : ∀ b ∈ [bLk_35], xbok RL cL_law b := xbF_ok (lk := lL_b35) (ls := []) kL_b35 xno_sw (by decide +kernel)
def lL_b36 : List xL := [(3, 13, 52, 88, 126), (3, 13, 135, 96, 129)]
theorem kL_b36 : ∀ q ∈ lL_b36, xLq RL q := List.forall_mem_cons.mpr ⟨lw_lk_56, List.forall_mem_cons.mpr ⟨lw_lk_57, fun _ h => absurd h List.not_mem_nil⟩⟩
theorem bL_b36_ok : ∀ b ∈ [bLk_36], xbok RL cL_law b := xbF_ok (lk := lL_b36) (ls := []) kL_b36 xno_sw (by decide +kernel)
def lL_b37 : List xL := [(3, 13, 53, 88, 130), (3, 13, 137, 96, 133)]
theorem kL_b37 : ∀ q ∈ lL_b37, xLq RL q := List.forall_mem_cons.mpr ⟨lw_lk_58, List.forall_mem_cons.mpr ⟨lw_lk_59, fun _ h => absurd h List.not_mem_nil⟩⟩
theorem bL_b37_ok : ∀ b ∈ [bLk_37], xbok RL cL_law b := xbF_ok (lk := lL_b37) (ls := []) kL_b37 xno_sw (by decide +kernel)
def lL_b38 : List xL := [(3, 13, 102, 88, 134), (3, 13, 233, 96, 138)]
theorem kL_b38 : ∀ q ∈ lL_b38, xLq RL q := List.forall_mem_cons.mpr ⟨lw_lk_60, List.forall_mem_cons.mpr ⟨lw_lk_61, fun _ h => absurd h List.not_mem_nil⟩⟩
theorem bL_b38_ok : ∀ b ∈ [bLk_38], xbok RL cL_law b := xbF_ok (lk := lL_b38) (ls := []) kL_b38 xno_sw (by decide +kernel)
def lL_b39 : List xL := [(3, 13, 87, 88, 139), (3, 13, 204, 96, 142)]
theorem kL_b39 : ∀ q ∈ lL_b39, xLq RL q := List.forall_mem_cons.mpr ⟨lw_lk_62, List.forall_mem_cons.mpr ⟨lw_lk_63, fun _ h => absurd h List.not_mem_nil⟩⟩
theorem bL_b39_ok : ∀ b ∈ [bLk_39], xbok RL cL_law b := xbF_ok (lk := lL_b39) (ls := []) kL_b39 xno_sw (by decide +kernel)
def lL_b40 : List xL := [(3, 13, 86, 88, 143), (3, 13, 202, 96, 146)]
theorem kL_b40 : ∀ q ∈ lL_b40, xLq RL q := List.forall_mem_cons.mpr ⟨lw_lk_64, List.forall_mem_cons.mpr ⟨lw_lk_65, fun _ h => absurd h List.not_mem_nil⟩⟩
theorem bL_b40_ok : ∀ b ∈ [bLk_40], xbok RL cL_law b := xbF_ok (lk := lL_b40) (ls := []) kL_b40 xno_sw (by decide +kernel)
def lL_b41 : List xL := [(3, 13, 42, 88, 147), (3, 13, 126, 96, 150)]
theorem kL_b41 : ∀ q ∈ lL_b41, xLq RL q := List.forall_mem_cons.mpr ⟨lw_lk_66, List.forall_mem_cons.mpr ⟨lw_lk_67, fun _ h => absurd h List.not_mem_nil⟩⟩
theorem bL_b41_ok : ∀ b ∈ [bLk_41], xbok RL cL_law b := xbF_ok (lk := lL_b41) (ls := []) kL_b41 xno_sw (by decide +kernel)
def lL_b42 : List xL := [(3, 13, 81, 88, 151), (3, 13, 192, 96, 154)]
theorem kL_b42 : ∀ q ∈ lL_b42, xLq RL q := List.forall_mem_cons.mpr ⟨lw_lk_68, List.forall_mem_cons.mpr ⟨lw_lk_69, fun _ h => absurd h List.not_mem_nil⟩⟩
theorem bL_b42_ok : ∀ b ∈ [bLk_42], xbok RL cL_law b := xbF_ok (lk := lL_b42) (ls := []) kL_b42 xno_sw (by decide +kernel)
def lL_b43 : List xL := [(3, 13, 62, 88, 155), (3, 13, 150, 96, 159)]
theorem kL_b43 : ∀ q ∈ lL_b43, xLq RL q := List.forall_mem_cons.mpr ⟨lw_lk_70, List.forall_mem_cons.mpr ⟨lw_lk_71, fun _ h => absurd h List.not_mem_nil⟩⟩
theorem bL_b43_ok : ∀ b ∈ [bLk_43], xbok RL cL_law b := xbF_ok (lk := lL_b43) (ls := []) kL_b43 xno_sw (by decide +kernel)
def lL_b44 : List xL := [(3, 13, 40, 88, 160), (3, 13, 124, 96, 163)]
theorem kL_b44 : ∀ q ∈ lL_b44, xLq RL q := List.forall_mem_cons.mpr ⟨lw_lk_72, List.forall_mem_cons.mpr ⟨lw_lk_73, fun _ h => absurd h List.not_mem_nil⟩⟩
theorem bL_b44_ok : ∀ b ∈ [bLk_44], xbok RL cL_law b := xbF_ok (lk := lL_b44) (ls := []) kL_b44 xno_sw (by decide +kernel)
def lL_b45 : List xL := [(3, 13, 94, 88, 164), (3, 13, 217, 96, 167)]
theorem kL_b45 : ∀ q ∈ lL_b45, xLq RL q := List.forall_mem_cons.mpr ⟨lw_lk_74, List.forall_mem_cons.mpr ⟨lw_lk_75, fun _ h => absurd h List.not_mem_nil⟩⟩
theorem bL_b45_ok : ∀ b ∈ [bLk_45], xbok RL cL_law b := xbF_ok (lk := lL_b45) (ls := []) kL_b45 xno_sw (by decide +kernel)
def lL_b46 : List xL := [(3, 13, 90, 88, 168), (3, 13, 210, 96, 171)]
theorem kL_b46 : ∀ q ∈ lL_b46, xLq RL q := List.forall_mem_cons.mpr ⟨lw_lk_76, List.forall_mem_cons.mpr ⟨lw_lk_77, fun _ h => absurd h List.not_mem_nil⟩⟩
theorem bL_b46_ok : ∀ b ∈ [bLk_46], xbok RL cL_law b := xbF_ok (lk := lL_b46) (ls := []) kL_b46 xno_sw (by decide +kernel)
def lL_b47 : List xL := [(3, 13, 74, 88, 172), (3, 13, 176, 96, 175)]
theorem kL_b47 : ∀ q ∈ lL_b47, xLq RL q := List.forall_mem_cons.mpr ⟨lw_lk_78, List.forall_mem_cons.mpr ⟨lw_lk_79, fun _ h => absurd h List.not_mem_nil⟩⟩
theorem bL_b47_ok : ∀ b ∈ [bLk_47], xbok RL cL_law b := xbF_ok (lk := lL_b47) (ls := []) kL_b47 xno_sw (by decide +kernel)
def lL_b48 : List xL := [(3, 13, 95, 88, 176), (3, 13, 219, 96, 179)]
theorem kL_b48 : ∀ q ∈ lL_b48, xLq RL q := List.forall_mem_cons.mpr ⟨lw_lk_80, List.forall_mem_cons.mpr ⟨lw_lk_81, fun _ h => absurd h List.not_mem_nil⟩⟩
theorem bL_b48_ok : ∀ b ∈ [bLk_48], xbok RL cL_law b := xbF_ok (lk := lL_b48) (ls := []) kL_b48 xno_sw (by decide +kernel)
def lL_b49 : List xL := [(3, 13, 98, 88, 180), (3, 13, 228, 96, 183)]
theorem kL_b49 : ∀ q ∈ lL_b49, xLq RL q := List.forall_mem_cons.mpr ⟨lw_lk_82, List.forall_mem_cons.mpr ⟨lw_lk_83, fun _ h => absurd h List.not_mem_nil⟩⟩
theorem bL_b49_ok : ∀ b ∈ [bLk_49], xbok RL cL_law b := xbF_ok (lk := lL_b49) (ls := []) kL_b49 xno_sw (by decide +kernel)
def lL_b50 : List xL := [(3, 13, 73, 88, 184), (3, 13, 175, 96, 187)]
theorem kL_b50 : ∀ q ∈ lL_b50, xLq RL q := List.forall_mem_cons.mpr ⟨lw_lk_84, List.forall_mem_cons.mpr ⟨lw_lk_85, fun _ h => absurd h List.not_mem_nil⟩⟩
theorem bL_b50_ok : ∀ b ∈ [bLk_50], xbok RL cL_law b := xbF_ok (lk := lL_b50) (ls := []) kL_b50 xno_sw (by decide +kernel)
def lL_b51 : List xL := [(3, 13, 75, 88, 188), (3, 13, 178, 96, 191)]
theorem kL_b51 : ∀ q ∈ lL_b51, xLq RL q := List.forall_mem_cons.mpr ⟨lw_lk_86, List.forall_mem_cons.mpr ⟨lw_lk_87, fun _ h => absurd h List.not_mem_nil⟩⟩
theorem bL_b51_ok : ∀ b ∈ [bLk_51], xbok RL cL_law b := xbF_ok (lk := lL_b51) (ls := []) kL_b51 xno_sw (by decide +kernel)
def lL_b52 : List xL := []
theorem kL_b52 : ∀ q ∈ lL_b52, xLq RL q := fun _ h => absurd h List.not_mem_nil
theorem bL_b52_ok : ∀ b ∈ [bLk_52], xbok RL cL_law b := xbF_ok (lk := lL_b52) (ls := []) kL_b52 xno_sw (by decide +kernel)
def lL_b53 : List xL := []
theorem kL_b53 : ∀ q ∈ lL_b53, xLq RL q := fun _ h => absurd h List.not_mem_nil
theorem bL_b53_ok : ∀ b ∈ [bLk_53], xbok RL cL_law b := xbF_ok (lk := lL_b53) (ls := []) kL_b53 xno_sw (by decide +kernel)
def lL_b54 : List xL := [(3, 13, 96, 88, 192)]
theorem kL_b54 : ∀ q ∈ lL_b54, xLq RL q := List.forall_mem_cons.mpr ⟨lw_lk_88, fun _ h => absurd h List.not_mem_nil⟩
theorem bL_b54_ok : ∀ b ∈ [bLk_54], xbok RL cL_law b := xbF_ok (lk := lL_b54) (ls := []) kL_b54 xno_sw (by decide +kernel)
def lL_b55 : List xL := []
theorem kL_b55 : ∀ q ∈ lL_b55, xLq RL q := fun _ h => absurd h List.not_mem_nil
theorem bL_b55_ok : ∀ b ∈ [bLk_55], xbok RL cL_law b := xbF_ok (lk := lL_b55) (ls := []) kL_b55 xno_sw (by decide +kernel)
def lL_b56 : List xL := [(3, 13, 223, 96, 196)]
theorem kL_b56 : ∀ q ∈ lL_b56, xLq RL q := List.forall_mem_cons.mpr ⟨lw_lk_89, fun _ h => absurd h List.not_mem_nil⟩
theorem bL_b56_ok : ∀ b ∈ [bLk_56], xbok RL cL_law b := xbF_ok (lk := lL_b56) (ls := []) kL_b56 xno_sw (by decide +kernel)
def lL_b57 : List xL := [(3, 13, 91, 88, 197), (3, 13, 212, 96, 200)]
theorem kL_b57 : ∀ q ∈ lL_b57, xLq RL q := List.forall_mem_cons.mpr ⟨lw_lk_90, List.forall_mem_cons.mpr ⟨lw_lk_91, fun _ h => absurd h List.not_mem_nil⟩⟩
theorem bL_b57_ok : ∀ b ∈ [bLk_57], xbok RL cL_law b := xbF_ok (lk := lL_b57) (ls := []) kL_b57 xno_sw (by decide +kernel)
def lL_b58 : List xL := [(3, 13, 84, 88, 201), (3, 13, 197, 96, 204)]
theorem kL_b58 : ∀ q ∈ lL_b58, xLq RL q := List.forall_mem_cons.mpr ⟨lw_lk_92, List.forall_mem_cons.mpr ⟨lw_lk_93, fun _ h => absurd h List.not_mem_nil⟩⟩
theorem bL_b58_ok : ∀ b ∈ [bLk_58], xbok RL cL_law b := xbF_ok (lk := lL_b58) (ls := []) kL_b58 xno_sw (by decide +kernel)
def lL_b59 : List xL := [(3, 13, 93, 88, 205), (3, 13, 216, 96, 208)]
theorem kL_b59 : ∀ q ∈ lL_b59, xLq RL q := List.forall_mem_cons.mpr ⟨lw_lk_94, List.forall_mem_cons.mpr ⟨lw_lk_95, fun _ h => absurd h List.not_mem_nil⟩⟩
theorem bL_b59_ok : ∀ b ∈ [bLk_59], xbok RL cL_law b := xbF_ok (lk := lL_b59) (ls := []) kL_b59 xno_sw (by decide +kernel)
def lL_b60 : List xL := [(3, 13, 38, 88, 209), (3, 13, 119, 96, 212)]
theorem kL_b60 : ∀ q ∈ lL_b60, xLq RL q := List.forall_mem_cons.mpr ⟨lw_lk_96, List.forall_mem_cons.mpr ⟨lw_lk_97, fun _ h => absurd h List.not_mem_nil⟩⟩
theorem bL_b60_ok : ∀ b ∈ [bLk_60], xbok RL cL_law b := xbF_ok (lk := lL_b60) (ls := []) kL_b60 xno_sw (by decide +kernel)
def lL_b61 : List xL := [(3, 13, 89, 88, 213), (3, 13, 209, 96, 216)]
theorem kL_b61 : ∀ q ∈ lL_b61, xLq RL q := List.forall_mem_cons.mpr ⟨lw_lk_98, List.forall_mem_cons.mpr ⟨lw_lk_99, fun _ h => absurd h List.not_mem_nil⟩⟩
theorem bL_b61_ok : ∀ b ∈ [bLk_61], xbok RL cL_law b := xbF_ok (lk := lL_b61) (ls := []) kL_b61 xno_sw (by decide +kernel)
def lL_b62 : List xL := [(3, 13, 44, 88, 217), (3, 13, 127, 96, 220)]
theorem kL_b62 : ∀ q ∈ lL_b62, xLq RL q := List.forall_mem_cons.mpr ⟨lw_lk_100, List.forall_mem_cons.mpr ⟨lw_lk_101, fun _ h => absurd h List.not_mem_nil⟩⟩
theorem bL_b62_ok : ∀ b ∈ [bLk_62], xbok RL cL_law b := xbF_ok (lk := lL_b62) (ls := []) kL_b62 xno_sw (by decide +kernel)
def lL_b63 : List xL := [(3, 13, 65, 88, 221), (3, 13, 153, 96, 224)]
theorem kL_b63 : ∀ q ∈ lL_b63, xLq RL q := List.forall_mem_cons.mpr ⟨lw_lk_102, List.forall_mem_cons.mpr ⟨lw_lk_103, fun _ h => absurd h List.not_mem_nil⟩⟩
theorem bL_b63_ok : ∀ b ∈ [bLk_63], xbok RL cL_law b := xbF_ok (lk := lL_b63) (ls := []) kL_b63 xno_sw (by decide +kernel)
def lL_b64 : List xL := [(3, 13, 37, 88, 225), (3, 13, 111, 96, 228)]
theorem kL_b64 : ∀ q ∈ lL_b64, xLq RL q := List.forall_mem_cons.mpr ⟨lw_lk_104, List.forall_mem_cons.mpr ⟨lw_lk_105, fun _ h => absurd h List.not_mem_nil⟩⟩
theorem bL_b64_ok : ∀ b ∈ [bLk_64], xbok RL cL_law b := xbF_ok (lk := lL_b64) (ls := []) kL_b64 xno_sw (by decide +kernel)
def lL_b65 : List xL := []
theorem kL_b65 : ∀ q ∈ lL_b65, xLq RL q := fun _ h => absurd h List.not_mem_nil
theorem bL_b65_ok : ∀ b ∈ [bLk_65], xbok RL cL_law b := xbF_ok (lk := lL_b65) (ls := []) kL_b65 xno_sw (by decide +kernel)
def lL_b66 : List xL := []
theorem kL_b66 : ∀ q ∈ lL_b66, xLq RL q := fun _ h => absurd h List.not_mem_nil
theorem bL_b66_ok : ∀ b ∈ [bLk_66], xbok RL cL_law b := xbF_ok (lk := lL_b66) (ls := []) kL_b66 xno_sw (by decide +kernel)
theorem bL_a_ok : ∀ b ∈ bL_a, xbok RL cL_law b := List.forall_mem_cons.mpr ⟨bL_b0_ok _ List.mem_cons_self, List.forall_mem_cons.mpr ⟨bL_b1_ok _ List.mem_cons_self, List.forall_mem_cons.mpr ⟨bL_b2_ok _ List.mem_cons_self, List.forall_mem_cons.mpr ⟨bL_b3_ok _ List.mem_cons_self, List.forall_mem_cons.mpr ⟨bL_b4_ok _ List.mem_cons_self, List.forall_mem_cons.mpr ⟨bL_b5_ok _ List.mem_cons_self, List.forall_mem_cons.mpr ⟨bL_b6_ok _ List.mem_cons_self, List.forall_mem_cons.mpr ⟨bL_b7_ok _ List.mem_cons_self, List.forall_mem_cons.mpr ⟨bL_b8_ok _ List.mem_cons_self, List.forall_mem_cons.mpr ⟨bL_b9_ok _ List.mem_cons_self, List.forall_mem_cons.mpr ⟨bL_b10_ok _ List.mem_cons_self, List.forall_mem_cons.mpr ⟨bL_b11_ok _ List.mem_cons_self, List.forall_mem_cons.mpr ⟨bL_b12_ok _ List.mem_cons_self, List.forall_mem_cons.mpr ⟨bL_b13_ok _ List.mem_cons_self, List.forall_mem_cons.mpr ⟨bL_b14_ok _ List.mem_cons_self, List.forall_mem_cons.mpr ⟨bL_b15_ok _ List.mem_cons_self, List.forall_mem_cons.mpr ⟨bL_b16_ok _ List.mem_cons_self, List.forall_mem_cons.mpr ⟨bL_b17_ok _ List.mem_cons_self, List.forall_mem_cons.mpr ⟨bL_b18_ok _ List.mem_cons_self, List.forall_mem_cons.mpr ⟨bL_b19_ok _ List.mem_cons_self, List.forall_mem_cons.mpr ⟨bL_b20_ok _ List.mem_cons_self, List.forall_mem_cons.mpr ⟨bL_b21_ok _ List.mem_cons_self, List.forall_mem_cons.mpr ⟨bL_b22_ok _ List.mem_cons_self, List.forall_mem_cons.mpr ⟨bL_b23_ok _ List.mem_cons_self, List.forall_mem_cons.mpr ⟨bL_b24_ok _ List.mem_cons_self, List.forall_mem_cons.mpr ⟨bL_b25_ok _ List.mem_cons_self, List.forall_mem_cons.mpr ⟨bL_b26_ok _ List.mem_cons_self, List.forall_mem_cons.mpr ⟨bL_b27_ok _ List.mem_cons_self, List.forall_mem_cons.mpr ⟨bL_b28_ok _ List.mem_cons_self, List.forall_mem_cons.mpr ⟨bL_b29_ok _ List.mem_cons_self, List.forall_mem_cons.mpr ⟨bL_b30_ok _ List.mem_cons_self, List.forall_mem_cons.mpr ⟨bL_b31_ok _ List.mem_cons_self, List.forall_mem_cons.mpr ⟨bL_b32_ok _ List.mem_cons_self, List.forall_mem_cons.mpr ⟨bL_b33_ok _ List.mem_cons_self, List.forall_mem_cons.mpr ⟨bL_b34_ok _ List.mem_cons_self, List.forall_mem_cons.mpr ⟨bL_b35_ok _ List.mem_cons_self, List.forall_mem_cons.mpr ⟨bL_b36_ok _ List.mem_cons_self, List.forall_mem_cons.mpr ⟨bL_b37_ok _ List.mem_cons_self, List.forall_mem_cons.mpr ⟨bL_b38_ok _ List.mem_cons_self, List.forall_mem_cons.mpr ⟨bL_b39_ok _ List.mem_cons_self, List.forall_mem_cons.mpr ⟨bL_b40_ok _ List.mem_cons_self, List.forall_mem_cons.mpr ⟨bL_b41_ok _ List.mem_cons_self, List.forall_mem_cons.mpr ⟨bL_b42_ok _ List.mem_cons_self, List.forall_mem_cons.mpr ⟨bL_b43_ok _ List.mem_cons_self, List.forall_mem_cons.mpr ⟨bL_b44_ok _ List.mem_cons_self, List.forall_mem_cons.mpr ⟨bL_b45_ok _ List.mem_cons_self, List.forall_mem_cons.mpr ⟨bL_b46_ok _ List.mem_cons_self, List.forall_mem_cons.mpr ⟨bL_b47_ok _ List.mem_cons_self, List.forall_mem_cons.mpr ⟨bL_b48_ok _ List.mem_cons_self, List.forall_mem_cons.mpr ⟨bL_b49_ok _ List.mem_cons_self, List.forall_mem_cons.mpr ⟨bL_b50_ok _ List.mem_cons_self, List.forall_mem_cons.mpr ⟨bL_b51_ok _ List.mem_cons_self, List.forall_mem_cons.mpr ⟨bL_b52_ok _ List.mem_cons_self, List.forall_mem_cons.mpr ⟨bL_b53_ok _ List.mem_cons_self, List.forall_mem_cons.mpr ⟨bL_b54_ok _ List.mem_cons_self, List.forall_mem_cons.mpr ⟨bL_b55_ok _ List.mem_cons_self, List.forall_mem_cons.mpr ⟨bL_b56_ok _ List.mem_cons_self, List.forall_mem_cons.mpr ⟨bL_b57_ok _ List.mem_cons_self, List.forall_mem_cons.mpr ⟨bL_b58_ok _ List.mem_cons_self, List.forall_mem_cons.mpr ⟨bL_b59_ok _ List.mem_cons_self, List.forall_mem_cons.mpr ⟨bL_b60_ok _ List.mem_cons_self, List.forall_mem_cons.mpr ⟨bL_b61_ok _ List.mem_cons_self, List.forall_mem_cons.mpr ⟨bL_b62_ok _ List.mem_cons_self, List.forall_mem_cons.mpr ⟨bL_b63_ok _ List.mem_cons_self, List.forall_mem_cons.mpr ⟨bL_b64_ok _ List.mem_cons_self, List.forall_mem_cons.mpr ⟨bL_b65_ok _ List.mem_cons_self, List.forall_mem_cons.mpr ⟨bL_b66_ok _ List.mem_cons_self, fun _ h => absurd h List.not_mem_nil⟩⟩⟩⟩⟩⟩⟩⟩⟩⟩⟩⟩⟩⟩⟩⟩⟩⟩⟩⟩⟩⟩⟩⟩⟩⟩⟩⟩⟩⟩⟩⟩⟩⟩⟩⟩⟩⟩⟩⟩⟩⟩⟩⟩⟩⟩⟩⟩⟩⟩⟩⟩⟩⟩⟩⟩⟩⟩⟩⟩⟩⟩⟩⟩⟩⟩⟩
theorem bL_p_ok : ∀ b ∈ bL_p, xbok RL cL_law b := bL_b0_ok
end
section
/-! the law's own steps: the script is a row of L ints that nobody changes -/
def xSX (L : Nat) (us : Nat → Nat) (g : xG) (A : Nat → Prop) (s : State) : Prop := ∃ xs : Nat → Int32, va_X (g.2.2 99) L xs s s.heap ∧ g.2.2 99 < s.heap.size ∧ ¬ A (g.2.2 99) ∧ ∀ j, j < L → xs j = nI (us j) ∧ us j < 4294967296
def xLdX (L : Nat) (us : Nat → Nat) (d : Nat) (M : xM) (σ : xS) (fs : List xS) : Prop := xMb M → xpos M σ → ∀ (p : Program) (l : Launch) (e : Env) (R : Room) (s : State) (m : MethodId) (args : Array Value) (below : List Frame) (meth : Method) (c : Code) (D : va_G) (A : Nat → Prop) (g : xG) (cw0 : xWc) (tys0 : xTy) (io0 : List Nat) (Q : State → Prop), xCx p R s m args meth c A g io0 d M → xSX L us g A s → (∀ φ ∈ fs, xpos M φ → xOk p l e R s m args below meth c D A M.2.2.1 g cw0 tys0 io0 Q φ) → xOk p l e R s m args below meth c D A M.2.2.1 g cw0 tys0 io0 Q σ
def xToX (L : Nat) (us : Nat → Nat) (d : Nat) (M : xM) (σ : xS) (P : xS → Prop) : Prop := ∃ τ, xLdX L us d M σ [τ] ∧ P τ
section XLX
variable {L d p0 pc ln x y ix n : Nat} {us : Nat → Nat} {M : xM} {σ τ : xS} {fs : List xS} {P P' : xS → Prop} {tl : List xI} {lo : xLo} {st : List xV} {hp : xH} {va : xV}
theorem xLd.toX (h : xLd d M σ fs) : xLdX L us d M σ fs := fun hM hpos p l e R s m args below meth c D A g cw0 tys0 io0 Q C _ hQ => h hM hpos p l e R s m args below meth c D A g cw0 tys0 io0 Q C hQ
theorem xthenX (h1 : xLdX L us d M σ [τ]) (h2 : xLdX L us d M τ fs) : xLdX L us d M σ fs := fun hM hpos p l e R s m args below meth c D A g cw0 tys0 io0 Q C X hQ => h1 hM hpos p l e R s m args below meth c D A g cw0 tys0 io0 Q C X (fun φ hφ hp => by
  have e1 := List.mem_singleton.mp hφ
  subst e1
  exact h2 hM hp p l e R s m args below meth c D A g cw0 tys0 io0 Q C X hQ)
theorem xTo.toX (h : xTo d M σ P) : xToX L us d M σ P := by
  obtain ⟨τ, h1, h2⟩ := h
  exact ⟨τ, h1.toX, h2⟩
theorem xg_tX (h1 : xLdX L us d M σ [τ]) (h2 : xToX L us d M τ P) : xToX L us d M σ P := by
  obtain ⟨φ, h3, h4⟩ := h2
  exact ⟨φ, xthenX h1 h3, h4⟩
theorem xToX.bind (h1 : xToX L us d M σ P) (h2 : ∀ τ, P τ → xToX L us d M τ P') : xToX L us d M σ P' := by
  obtain ⟨φ, h3, h4⟩ := h1
  exact xg_tX h3 (h2 φ h4)
theorem xg_sldX (hn : xnm hp.2.1 va = (0, n)) (h : n < L) (hL : L < 2147483648) : xLdX L us d M (p0, (pc, ln, 10, x, y, ix) :: tl, lo, va :: (8, 99) :: st, hp) [(pc + ln, tl, lo, (0, us n) :: st, hp)] := by
  intro hM hpos p l e R s m args below meth c D A g cw0 tys0 io0 Q C X hQ cw tys io H locs ls lv sv hE hK hP hD hS hlv hlo hsv hh
  obtain ⟨q1, q2, q3, q4⟩ := hpos
  have q1 : pc = p0 := q1
  subst q1
  obtain ⟨t', z3, hdec, c0⟩ := q2
  have z4 : xget xopi 10 = some (fun _ => .iaload, xPn 1) := rfl
  have z3 : xget xopi 10 = some t' := z3
  rw [z4] at z3
  cases z3
  have a1 : ln = 1 := c0
  subst a1
  have hdec : decode M.2.1 pc = .ok (.iaload, 1) := hdec
  obtain ⟨wa, sv1, rfl, r1, hs1⟩ := xrel_cons hsv
  have e1 := xnm_ok hh.2.1 r1
  rw [hn] at e1
  obtain ⟨-, e1⟩ := e1
  subst e1
  obtain ⟨wb, sv2, rfl, r2, hs2⟩ := xrel_cons hs1
  have e2 : wb = .ref (g.2.2 99) := r2
  subst e2
  obtain ⟨hx, hb, -⟩ := id C
  obtain ⟨xs, x1, x2, x3, x4⟩ := X
  obtain ⟨x5, x6⟩ := x4 n h
  refine va_sld (xs := xs) hx hb x1 x2 x3 hS (vp_in_nI h (by omega)) hdec ?_
  rw [nI_clamp (by omega), x5]
  refine hQ _ List.mem_cons_self ⟨?_, q4⟩ cw tys io H locs ls lv (.int _ :: sv2) hE hK hP hD hS hlv hlo ⟨⟨x6, rfl⟩, hs2⟩ hh
  cases tl with
  | nil => trivial
  | cons a b => exact q3
theorem xg_slnX (hL : L < 2147483648) : xLdX L us d M (p0, (pc, ln, 31, x, y, ix) :: tl, lo, (8, 99) :: st, hp) [(pc + ln, tl, lo, (0, L) :: st, hp)] := by
  intro hM hpos p l e R s m args below meth c D A g cw0 tys0 io0 Q C X hQ cw tys io H locs ls lv sv hE hK hP hD hS hlv hlo hsv hh
  obtain ⟨q1, q2, q3, q4⟩ := hpos
  have q1 : pc = p0 := q1
  subst q1
  obtain ⟨t', z3, hdec, c0⟩ := q2
  have z4 : xget xopi 31 = some (fun _ => .arraylength, xPn 1) := rfl
  have z3 : xget xopi 31 = some t' := z3
  rw [z4] at z3
  cases z3
  have a1 : ln = 1 := c0
  subst a1
  have hdec : decode M.2.1 pc = .ok (.arraylength, 1) := hdec
  obtain ⟨wb, sv2, rfl, r2, hs2⟩ := xrel_cons hsv
  have e2 : wb = .ref (g.2.2 99) := r2
  subst e2
  obtain ⟨hx, hb, -⟩ := id C
  obtain ⟨xs, x1, x2, x3, x4⟩ := X
  refine va_slen (xs := xs) hx hb x1 x2 x3 hS hdec ?_
  refine hQ _ List.mem_cons_self ⟨?_, q4⟩ cw tys io H locs ls lv (.int _ :: sv2) hE hK hP hD hS hlv hlo ⟨⟨by omega, rfl⟩, hs2⟩ hh
  cases tl with
  | nil => trivial
  | cons a b => exact q3
end XLX
end
section
/-! new cells: where the world is known by its shape alone -/
def shp (n : Nat) : List Nat := List.replicate (n / 10) 10 ++ (if n % 10 = 0 then [] else [n % 10])
theorem shp_ge {n : Nat} (h : 10 ≤ n) : shp n = 10 :: shp (n - 10) := by
  have e1 : n / 10 = (n - 10) / 10 + 1 := by omega
  have e2 : n % 10 = (n - 10) % 10 := by omega
  unfold shp
  rw [e1, e2]
  rfl
theorem xpush_ex {α : Type} {v : α} : ∀ {w : List (List α)} {n : Nat}, w.map List.length = shp n → ∃ w', xpush v w (n / 10) (n % 10) = some w' ∧ w'.map List.length = shp (n + 1)
  | [], n, h => by
    have hn : n = 0 := by
      rcases Nat.lt_or_ge n 10 with q | q
      · unfold shp at h
        have e : n / 10 = 0 := by omega
        rw [e] at h
        by_cases z : n % 10 = 0
        · omega
        · rw [if_neg z] at h
          cases h
      · rw [shp_ge q] at h
        cases h
    subst hn
    exact ⟨[[v]], rfl, rfl⟩
  | c :: t, n, h => by
    by_cases hn : 10 ≤ n
    · have e1 : n / 10 = (n - 10) / 10 + 1 := by omega
      have e2 : n % 10 = (n - 10) % 10 := by omega
      rw [shp_ge hn] at h
      have h : c.length :: t.map List.length = 10 :: shp (n - 10) := h
      injection h with h1 h2
      obtain ⟨t', h3, h4⟩ := xpush_ex (v := v) (w := t) h2
      refine ⟨c :: t', ?_, ?_⟩
      · rw [e1, e2]
        show Option.rec (motive := fun _ => Option (List (List α))) none (fun r => some (c :: r)) (xpush v t ((n - 10) / 10) ((n - 10) % 10)) = _
        rw [h3]
      · rw [shp_ge (show 10 ≤ n + 1 by omega)]
        show c.length :: t'.map List.length = _
        rw [h4, h1]
        have e3 : n + 1 - 10 = n - 10 + 1 := by omega
        rw [e3]
    · have e1 : n / 10 = 0 := by omega
      have e2 : n % 10 = n := by omega
      unfold shp at h
      rw [e1, e2] at h
      by_cases z : n = 0
      · rw [if_pos z] at h
        cases h
      · rw [if_neg z] at h
        have h : c.length :: t.map List.length = [n] := h
        injection h with h1 h2
        have ht : t = [] := List.map_eq_nil_iff.mp h2
        subst ht
        refine ⟨[c ++ [v]], ?_, ?_⟩
        · rw [e1, e2]
          show cond (Nat.beq c.length n) (some [c ++ [v]]) none = _
          rw [h1, Nat.beq_refl]
          rfl
        · show [(c ++ [v]).length] = _
          rw [List.length_append, h1]
          by_cases y : n = 9
          · subst y
            rfl
          · have e3 : (n + 1) / 10 = 0 := by omega
            have e4 : (n + 1) % 10 = n + 1 := by omega
            unfold shp
            rw [e3, e4, if_neg (by omega)]
            rfl
/-- the world with one cell more: what was there stays -/
theorem wpush {α : Type} {v : α} {w : List (List α)} {n : Nat} (h : w.map List.length = shp n) : ∃ w', xpush v w (n / 10) (n % 10) = some w' ∧ w'.map List.length = shp (n + 1) ∧ wget w' n = some v ∧ ∀ k x, wget w k = some x → wget w' k = some x := by
  obtain ⟨w', h1, h2⟩ := xpush_ex (v := v) h
  refine ⟨w', h1, h2, ?_, fun k x hk => ?_⟩
  · obtain ⟨c, e1, e2⟩ := xpush_new h1
    rw [wget_of e1]
    exact e2
  · obtain ⟨c, e1, e2⟩ := wget_some hk
    obtain ⟨c', e3, e4⟩ := xpush_old h1 e1 e2
    rw [wget_of e3]
    exact e4
section XNW
variable {d p0 pc ln x y ix n cn sl na nc : Nat} {M : xM} {tl : List xI} {lo : xLo} {st : List xV} {w : List (List xE)} {bd : List (Nat × Nat)} {fc : List (Nat × Nat × Bool)} {va : xV} {fs : List xV} {P : xS → Prop}
theorem xg_newO (hf : xget xdfl x = some fs) (hs : w.map List.length = shp nc) (h1 : cn < M.2.2.2.2.2.2.1) (h2 : sl + fs.length ≤ M.2.2.2.2.2.2.2.1) (K : ∀ w', w'.map List.length = shp (nc + 1) → wget w' nc = some (.inl (x, fs)) → (∀ k q, wget w k = some q → wget w' k = some q) → xTo d M (pc + ln, tl, lo, (2, nc) :: st, (w', bd, fc, cn + 1, sl + fs.length, na, nc + 1)) P) : xTo d M (p0, (pc, ln, 24, x, y, ix) :: tl, lo, st, (w, bd, fc, cn, sl, na, nc)) P := by
  obtain ⟨w', e1, e2, e3, e4⟩ := wpush (v := (.inl (x, fs) : xE)) hs
  refine xg_t (xg_op (f := xh_new) (fs := [(pc + ln, tl, lo, (2, nc) :: st, (w', bd, fc, cn + 1, sl + fs.length, na, nc + 1))]) rfl ?_) (K w' e2 e3 e4)
  show xob (xget xdfl x) (fun fs => xmk M (w, bd, fc, cn, sl, na, nc) (.inl (x, fs)) fs.length 0 (fun v hp' => xidk d M (pc + ln, tl, lo, v :: st, hp'))) = _
  rw [hf]
  show xif (Nat.blt cn M.2.2.2.2.2.2.1 && Nat.ble (sl + fs.length) M.2.2.2.2.2.2.2.1) (xob (xpush (.inl (x, fs)) w (nc / 10) (nc % 10)) fun w => xN (cn + 1) fun cn => xN (sl + fs.length) fun sl => xN (na + 0) fun t => xN (nc + 1) fun nw => xidk d M (pc + ln, tl, lo, (2, nc) :: st, (w, bd, fc, cn, sl, t, nw))) = _
  have b1 : Nat.blt cn M.2.2.2.2.2.2.1 = true := Nat.ble_eq_true_of_le h1
  have b2 : Nat.ble (sl + fs.length) M.2.2.2.2.2.2.2.1 = true := Nat.ble_eq_true_of_le h2
  rw [b1, b2, e1]
  show (xN (cn + 1) fun cn => xN (sl + fs.length) fun sl => xN (na + 0) fun t => xN (nc + 1) fun nw => xidk d M (pc + ln, tl, lo, (2, nc) :: st, (w', bd, fc, cn, sl, t, nw))) = _
  rw [xN_eq, xN_eq, xN_eq, xN_eq]
  rfl
theorem xg_newA (hn : xnm bd va = (0, n)) (hk : y ≤ 3) (hl : n ≤ 1000000) (hs : w.map List.length = shp nc) (h1 : cn < M.2.2.2.2.2.2.1) (h2 : sl + n ≤ M.2.2.2.2.2.2.2.1) (K : ∀ w', w'.map List.length = shp (nc + 1) → wget w' nc = some (.inr (y, n, na, [])) → (∀ k q, wget w k = some q → wget w' k = some q) → xTo d M (pc + ln, tl, lo, (2, nc) :: st, (w', bd, fc, cn + 1, sl + n, na + 1, nc + 1)) P) : xTo d M (p0, (pc, ln, 23, x, y, ix) :: tl, lo, va :: st, (w, bd, fc, cn, sl, na, nc)) P := by
  obtain ⟨w', e1, e2, e3, e4⟩ := wpush (v := (.inr (y, n, na, []) : xE)) hs
  refine xg_t (xg_op (f := xh_newarray) (fs := [(pc + ln, tl, lo, (2, nc) :: st, (w', bd, fc, cn + 1, sl + n, na + 1, nc + 1))]) rfl ?_) (K w' e2 e3 e4)
  show xif (Nat.ble y 3) (xnewa y xidk d M (pc, ln, 23, x, y, ix) tl lo st (w, bd, fc, cn, sl, na, nc) (xnm bd va)) = _
  rw [hn, Nat.ble_eq_true_of_le hk]
  show xif (Nat.beq 0 0 && Nat.ble n 1000000) (xmk M (w, bd, fc, cn, sl, na, nc) (.inr (y, n, na, [])) n 1 (fun v hp' => xidk d M (pc + ln, tl, lo, v :: st, hp'))) = _
  rw [Nat.ble_eq_true_of_le hl]
  show xif (Nat.blt cn M.2.2.2.2.2.2.1 && Nat.ble (sl + n) M.2.2.2.2.2.2.2.1) (xob (xpush (.inr (y, n, na, [])) w (nc / 10) (nc % 10)) fun w => xN (cn + 1) fun cn => xN (sl + n) fun sl => xN (na + 1) fun t => xN (nc + 1) fun nw => xidk d M (pc + ln, tl, lo, (2, nc) :: st, (w, bd, fc, cn, sl, t, nw))) = _
  have b1 : Nat.blt cn M.2.2.2.2.2.2.1 = true := Nat.ble_eq_true_of_le h1
  have b2 : Nat.ble (sl + n) M.2.2.2.2.2.2.2.1 = true := Nat.ble_eq_true_of_le h2
  rw [b1, b2, e1]
  show (xN (cn + 1) fun cn => xN (sl + n) fun sl => xN (na + 1) fun t => xN (nc + 1) fun nw => xidk d M (pc + ln, tl, lo, (2, nc) :: st, (w', bd, fc, cn, sl, t, nw))) = _
  rw [xN_eq, xN_eq, xN_eq, xN_eq]
  rfl
end XNW
end
section
/-! the model: quarrels -/
theorem neg_bit {L a : Nat} (h1 : 2147483648 ≤ L) (h2 : L < 4294967296) (ha : a = 31) : Nat.land (xpt (nI L >>> (nI a &&& 31))) 1 = 1 := by
  subst ha
  have e := pk_shr (nI L) (nI 31 &&& 31) 31 (xsh5 (by decide))
  rw [xnI_toInt h2] at e
  have z1 := xpt_lt (nI L >>> (nI 31 &&& 31))
  have z2 := xpt_eq (nI L >>> (nI 31 &&& 31))
  rw [← z2, xnI_toInt z1] at e
  generalize xpt (nI L >>> (nI 31 &&& 31)) = z at *
  have hb : xbs L = L - 2147483648 := by unfold xbs; omega
  have hs : ((xbs L : Int) - 2147483648) >>> 31 = -1 := by
    rw [Int.shiftRight_eq_div_pow, hb]
    have p : ((2 ^ 31 : Nat) : Int) = 2147483648 := by decide
    rw [p]
    omega
  rw [hs] at e
  have hz : xbs z = 2147483647 := by omega
  have hz2 : z = 4294967295 := by
    unfold xbs at hz
    omega
  subst hz2
  decide
theorem low_step {L a z : Nat} (h : L % 2 ^ a = 0) (hz : Nat.land (L / 2 ^ a) 1 = z) (h0 : z = 0) : L % 2 ^ (a + 1) = 0 := by
  have e : Nat.land (L / 2 ^ a) 1 = L / 2 ^ a % 2 := Nat.and_one_is_mod _
  rw [Nat.mod_pow_succ, h]
  have q : L / 2 ^ a % 2 = 0 := by omega
  rw [q]
  rfl
theorem low_bd {L a : Nat} (h : L % 2 ^ (a + 1) = 0) (h0 : L ≠ 0) (h1 : L < 2147483648) : a + 1 ≤ 30 := by
  rcases Nat.lt_or_ge a 30 with q | q
  · omega
  · have p : 2 ^ 31 ≤ 2 ^ (a + 1) := Nat.pow_le_pow_right (by decide) (by omega)
    have p2 : (2 : Nat) ^ 31 = 2147483648 := by decide
    rw [Nat.mod_eq_of_lt (by omega)] at h
    exact absurd h h0
section XMG
variable {d : Nat} {w : List (List xE)} {bd : List (Nat × Nat)} {fc : List (Nat × Nat × Bool)} {rr : Nat × Nat}
theorem xg_ishrE {p0 pc ln x y ix u v z : Nat} {M : xM} {tl : List xI} {lo : xLo} {st : List xV} {hp : xH} {va vb : xV} (ha : xnm hp.2.1 va = (0, u)) (hb : xnm hp.2.1 vb = (0, v)) (hu : u < 2147483648) (hv : v < 32) (hz : u / 2 ^ v = z) : xLd d M (p0, (pc, ln, 29, x, y, ix) :: tl, lo, vb :: va :: st, hp) [(pc + ln, tl, lo, (0, z) :: st, hp)] := xg_bin (F := fun a b => a / 2 ^ b) (chk := fun a b => Nat.blt a 2147483648 && Nat.blt b 32) (al := true) (bo := xany) rfl ha hb (Bool.and_eq_true_iff.mpr ⟨Nat.ble_eq_true_of_le hu, Nat.ble_eq_true_of_le hv⟩) hz
theorem mIsQuarrel {se : Nat} (hI : xMnv w) (hse : se ≤ 4294967295) : xPi d mX12_isQuarrel [(2, 82), (0, se)] w bd fc rr (fun n w' => (n ≤ 1) ∧ xMnv w' ∧ xFr [] w w') := by
  refine xPi.of ?_
  show xTo d mX12_isQuarrel (0, [], [(0, (2, 82)), (1, (0, se))], [], (w, bd, fc, 0, 0, rr)) (fun φ => ∃ n w', xEnd 4 [(0, n)] (w', bd, fc, 0, 0, rr) φ ∧ (n ≤ 1) ∧ xMnv w' ∧ xFr [] w w')
  refine xoCh82 (hI 82 (by decide) (by decide) : cp82 (wget w 82)) (fun f82_1 f82_3 f82_5 f82_7 f82_9 f82_11 f82_13 f82_15 f82_17 f82_19 f82_21 f82_22 f82_23 f82_25 f82_27 f82_29 h82_31 hb2 hb4 hb6 hb8 hb10 hb12 hb14 hb16 hb18 hb20 hb24 hb26 hb28 hb30 hb32 => ?_)
  refine xoI (hI 111 (by decide) (by decide) : cpI 240 78 4294967295 (wget w 111)) (fun g111_33 h111_34 hb35 => ?_)
  refine xg_t (xg_blk (b := [(0, 1, 3, 0, 0, 0), (1, 1, 15, 2, 0, 0), (2, 1, 3, 0, 0, 0), (3, 1, 15, 3, 0, 0)]) rfl) ?_
  refine xg_t (xg_const) ?_
  refine xg_t (xg_istore (l1 := [(0, (2, 82)), (1, (0, se))]) rfl rfl rfl) ?_
  refine xg_t (xg_const) ?_
  refine xg_t (xg_istore (l1 := [(2, (0, 0)), (0, (2, 82)), (1, (0, se))]) rfl rfl rfl) ?_
  refine xg_t (xg_drop (l1 := [(0, (2, 82)), (1, (0, se)), (2, (0, 0)), (3, (0, 0))]) (List.forall_mem_cons.mpr ⟨List.mem_cons_of_mem _ (List.mem_cons_of_mem _ (List.mem_cons_self)), List.forall_mem_cons.mpr ⟨List.mem_cons_of_mem _ (List.mem_cons_of_mem _ (List.mem_cons_of_mem _ (List.mem_cons_self))), List.forall_mem_cons.mpr ⟨List.mem_cons_of_mem _ (List.mem_cons_self), List.forall_mem_cons.mpr ⟨List.mem_cons_self, fun _ h => absurd h List.not_mem_nil⟩⟩⟩⟩)) ?_
  have key36 : ∀ (m38 : Nat) (kp li : Nat) (w39 : List (List xE)), 240 - li < m38 → kp ≤ 1 → li ≤ 240 → xMnv w39 → xFr [] w w39 → xTo d mX12_isQuarrel (4, [], [(0, (2, 82)), (1, (0, se)), (2, (0, kp)), (3, (0, li))], [], (w39, bd, fc, 0, 0, rr)) (fun φ => ∃ n w', xEnd 4 [(0, n)] (w', bd, fc, 0, 0, rr) φ ∧ (n ≤ 1) ∧ xMnv w' ∧ xFr [] w w') := by
    intro m38
    induction m38 with
    | zero => intro kp li w39 hz; exact absurd hz (Nat.not_lt_zero _)
    | succ m38 ih37 =>
      intro kp li w39 hm44 hn42 hn43 hI40 hF41
      refine xg_t (xg_blk (b := [(4, 1, 2, 3, 0, 0), (5, 3, 5, 240, 0, 0), (8, 3, 6, 39, 3, 0), (11, 1, 2, 2, 0, 0), (12, 3, 7, 39, 1, 0), (15, 1, 0, 0, 0, 0), (16, 3, 1, 12, 44, 96), (19, 1, 2, 3, 0, 0), (20, 1, 10, 0, 0, 0), (21, 1, 2, 1, 0, 0), (22, 1, 30, 0, 0, 0), (23, 1, 2, 1, 0, 0), (24, 3, 6, 31, 1, 0), (27, 1, 3, 1, 0, 0), (28, 3, 8, 32, 0, 0)]) rfl) ?_
      refine xg_t (xg_iload (va := (0, li)) rfl rfl) ?_
      refine xg_t (xg_sip) ?_
      by_cases hc45 : li < 240
      · refine xg_t (xg_icF (u := li) (v := 240) rfl xnm0 xnm0 (xj_geF hc45 (by omega))) ?_
        refine xg_t (xg_iload (va := (0, kp)) rfl rfl) ?_
        by_cases hc46 : kp = 0
        · refine xg_t (xg_ifF (u := kp) rfl xnm0 (xj_neF hc46)) ?_
          refine xg_t (xg_aload (va := (2, 82)) rfl rfl) ?_
          refine xg_t (xg_getf (va := (2, 111)) (hF41.get (by decide) h82_31) rfl) ?_
          refine xg_t (xg_iload (va := (0, li)) rfl rfl) ?_
          refine xg_ialdB (n := li) (B := 4294967295) (h111_34.fr hF41 (by decide)) (hb35) xnm0 (by omega) (fun u47 hu48 he49 => ?_)
          refine xg_t (xg_iload (va := (0, se)) rfl rfl) ?_
          refine xg_k (xg_iand (z := Nat.land u47 se) (u := u47) (v := se) xnm0 xnm0 rfl) (xland_lt (by omega)) (fun z50 hz51 => ?_)
          refine xg_t (xg_iload (va := (0, se)) rfl rfl) ?_
          by_cases hc52 : z50 = se
          · refine xg_t (xg_icF (u := z50) (v := se) rfl xnm0 xnm0 (xj_neF hc52)) ?_
            refine xg_t (xg_const) ?_
            refine xg_t (xg_goto) ?_
            refine xg_t (xg_blk (b := [(32, 1, 15, 2, 0, 0), (33, 3, 9, 3, 1, 0), (36, 3, 8, 4, 0, 0)]) rfl) ?_
            refine xg_t (xg_istore (l1 := [(0, (2, 82)), (1, (0, se)), (3, (0, li))]) rfl rfl rfl) ?_
            refine xg_t (xg_iinc (u := li) (z := li + 1) (l1 := [(2, (0, 1)), (0, (2, 82)), (1, (0, se))]) rfl rfl (by omega) rfl) ?_
            refine xg_t (xg_goto) ?_
            refine xg_t (xg_drop (l1 := [(0, (2, 82)), (1, (0, se)), (2, (0, 1)), (3, (0, li + 1))]) (List.forall_mem_cons.mpr ⟨List.mem_cons_of_mem _ (List.mem_cons_of_mem _ (List.mem_cons_self)), List.forall_mem_cons.mpr ⟨List.mem_cons_of_mem _ (List.mem_cons_of_mem _ (List.mem_cons_of_mem _ (List.mem_cons_self))), List.forall_mem_cons.mpr ⟨List.mem_cons_of_mem _ (List.mem_cons_self), List.forall_mem_cons.mpr ⟨List.mem_cons_self, fun _ h => absurd h List.not_mem_nil⟩⟩⟩⟩)) ?_
            exact ih37 1 (li + 1) w39 (by omega) (by omega) (by omega) (hI40) (hF41)
          · refine xg_t (xg_icT (u := z50) (v := se) rfl xnm0 xnm0 (xj_neT hc52)) ?_
            refine xg_t (xg_blk (b := [(31, 1, 3, 0, 0, 0)]) rfl) ?_
            refine xg_t (xg_const) ?_
            refine xg_t (xg_blk (b := [(32, 1, 15, 2, 0, 0), (33, 3, 9, 3, 1, 0), (36, 3, 8, 4, 0, 0)]) rfl) ?_
            refine xg_t (xg_istore (l1 := [(0, (2, 82)), (1, (0, se)), (3, (0, li))]) rfl rfl rfl) ?_
            refine xg_t (xg_iinc (u := li) (z := li + 1) (l1 := [(2, (0, 0)), (0, (2, 82)), (1, (0, se))]) rfl rfl (by omega) rfl) ?_
            refine xg_t (xg_goto) ?_
            refine xg_t (xg_drop (l1 := [(0, (2, 82)), (1, (0, se)), (2, (0, 0)), (3, (0, li + 1))]) (List.forall_mem_cons.mpr ⟨List.mem_cons_of_mem _ (List.mem_cons_of_mem _ (List.mem_cons_self)), List.forall_mem_cons.mpr ⟨List.mem_cons_of_mem _ (List.mem_cons_of_mem _ (List.mem_cons_of_mem _ (List.mem_cons_self))), List.forall_mem_cons.mpr ⟨List.mem_cons_of_mem _ (List.mem_cons_self), List.forall_mem_cons.mpr ⟨List.mem_cons_self, fun _ h => absurd h List.not_mem_nil⟩⟩⟩⟩)) ?_
            exact ih37 0 (li + 1) w39 (by omega) (by omega) (by omega) (hI40) (hF41)
        · refine xg_t (xg_ifT (u := kp) rfl xnm0 (xj_neT hc46)) ?_
          refine xg_t (xg_blk (b := [(39, 1, 2, 2, 0, 0), (40, 3, 7, 47, 1, 0), (43, 1, 3, 1, 0, 0), (44, 3, 8, 48, 0, 0)]) rfl) ?_
          refine xg_t (xg_iload (va := (0, kp)) rfl rfl) ?_
          refine xg_t (xg_ifT (u := kp) rfl xnm0 (xj_neT (by omega))) ?_
          refine xg_t (xg_blk (b := [(47, 1, 3, 0, 0, 0)]) rfl) ?_
          refine xg_t (xg_const) ?_
          refine xg_t (xg_blk (b := [(48, 1, 12, 0, 1, 0)]) rfl) ?_
          exact xg_e ⟨0, w39, ⟨rfl, rfl⟩, by first | decide | omega, hI40, hF41⟩
      · refine xg_t (xg_icT (u := li) (v := 240) rfl xnm0 xnm0 (xj_geT (by omega) (by omega))) ?_
        refine xg_t (xg_blk (b := [(39, 1, 2, 2, 0, 0), (40, 3, 7, 47, 1, 0), (43, 1, 3, 1, 0, 0), (44, 3, 8, 48, 0, 0)]) rfl) ?_
        refine xg_t (xg_iload (va := (0, kp)) rfl rfl) ?_
        by_cases hc53 : kp = 0
        · refine xg_t (xg_ifF (u := kp) rfl xnm0 (xj_neF hc53)) ?_
          refine xg_t (xg_const) ?_
          refine xg_t (xg_goto) ?_
          refine xg_t (xg_blk (b := [(48, 1, 12, 0, 1, 0)]) rfl) ?_
          exact xg_e ⟨1, w39, ⟨rfl, rfl⟩, by first | decide | omega, hI40, hF41⟩
        · refine xg_t (xg_ifT (u := kp) rfl xnm0 (xj_neT hc53)) ?_
          refine xg_t (xg_blk (b := [(47, 1, 3, 0, 0, 0)]) rfl) ?_
          refine xg_t (xg_const) ?_
          refine xg_t (xg_blk (b := [(48, 1, 12, 0, 1, 0)]) rfl) ?_
          exact xg_e ⟨0, w39, ⟨rfl, rfl⟩, by first | decide | omega, hI40, hF41⟩
  exact key36 _ 0 0 w (Nat.lt_succ_self _) (by omega) (by omega) (hI) (xFr.rf)
theorem mQuarrel {kk : Nat} (hI : xMnv w) (hkk : kk ≤ 4294967295) : xPi (d + 3) mX12_quarrel [(2, 82), (0, kk)] w bd fc rr (fun n w' => (n ≤ 4294967295) ∧ xMnv w' ∧ xFr [111] w w') := by
  refine xPi.of ?_
  show xTo (d + 3) mX12_quarrel (0, [], [(0, (2, 82)), (1, (0, kk))], [], (w, bd, fc, 0, 0, rr)) (fun φ => ∃ n w', xEnd 1 [(0, n)] (w', bd, fc, 0, 0, rr) φ ∧ (n ≤ 4294967295) ∧ xMnv w' ∧ xFr [111] w w')
  refine xoCh82 (hI 82 (by decide) (by decide) : cp82 (wget w 82)) (fun f82_1 f82_3 f82_5 f82_7 f82_9 f82_11 f82_13 f82_15 f82_17 f82_19 f82_21 f82_22 f82_23 f82_25 f82_27 f82_29 h82_31 hb2 hb4 hb6 hb8 hb10 hb12 hb14 hb16 hb18 hb20 hb24 hb26 hb28 hb30 hb32 => ?_)
  refine xoX83 (hI 83 (by decide) (by decide) : cpx83 (wget w 83)) (fun g83_33 h83_34 hb35 hx36 => ?_)
  refine xg_t (xg_blk (b := [(0, 1, 2, 1, 0, 0), (1, 3, 7, 11, 2, 0), (4, 1, 0, 0, 0, 0), (5, 3, 13, 190, 96, 409), (8, 3, 7, 13, 5, 0)]) rfl) ?_
  refine xg_t (xg_iload (va := (0, kk)) rfl rfl) ?_
  by_cases hc37 : kk < 2147483648
  · refine xg_t (xg_ifF (u := kk) rfl xnm0 (xjz_ltF hc37)) ?_
    refine xg_t (xg_aload (va := (2, 82)) rfl rfl) ?_
    refine xg_cVi mX12_manyKept (vs := []) (rest := []) (cn1 := 0) (sl1 := 0) rfl (mManyKept (hI)) rfl h82_31 rfl rfl rfl rfl rfl rfl (fun n42 w38 hq39 => ?_)
    obtain ⟨hn43, hI40, hF41⟩ := hq39
    by_cases hc44 : xbs 0 < xbs n42
    · have hc44u := hc44
      unfold xbs at hc44u
      have hn45 : n42 ≤ 2147483647 := by omega
      refine xg_t (xg_ifF (u := n42) rfl xnm0 (xjs_leF hc44)) ?_
      refine xg_t (xg_blk (b := [(11, 1, 3, 4294967295, 0, 0), (12, 1, 12, 0, 1, 0)]) rfl) ?_
      refine xg_t (xg_const) ?_
      exact xg_e ⟨4294967295, w38, ⟨rfl, rfl⟩, by first | decide | omega, hI40, (hF41.up (by decide))⟩
    · have hc44u := hc44
      unfold xbs at hc44u
      refine xg_t (xg_ifT (u := n42) rfl xnm0 (xjs_leT hc44)) ?_
      refine xg_t (xg_blk (b := [(13, 1, 3, 4294967295, 0, 0), (14, 1, 15, 2, 0, 0), (15, 1, 3, 1, 0, 0), (16, 1, 15, 3, 0, 0)]) rfl) ?_
      refine xg_t (xg_const) ?_
      refine xg_t (xg_istore (l1 := [(0, (2, 82)), (1, (0, kk))]) rfl rfl rfl) ?_
      refine xg_t (xg_const) ?_
      refine xg_t (xg_istore (l1 := [(2, (0, 4294967295)), (0, (2, 82)), (1, (0, kk))]) rfl rfl rfl) ?_
      refine xg_t (xg_drop (l1 := [(0, (2, 82)), (1, (0, kk)), (2, (0, 4294967295)), (3, (0, 1))]) (List.forall_mem_cons.mpr ⟨List.mem_cons_of_mem _ (List.mem_cons_of_mem _ (List.mem_cons_self)), List.forall_mem_cons.mpr ⟨List.mem_cons_of_mem _ (List.mem_cons_of_mem _ (List.mem_cons_of_mem _ (List.mem_cons_self))), List.forall_mem_cons.mpr ⟨List.mem_cons_of_mem _ (List.mem_cons_self), List.forall_mem_cons.mpr ⟨List.mem_cons_self, fun _ h => absurd h List.not_mem_nil⟩⟩⟩⟩)) ?_
      have key46 : ∀ (m48 : Nat) (be se : Nat) (w49 : List (List xE)), 4097 - se < m48 → be ≤ 4294967295 → se ≤ 4096 → xMnv w49 → xFr [111] w w49 → xTo (d + 3) mX12_quarrel (17, [], [(0, (2, 82)), (1, (0, kk)), (2, (0, be)), (3, (0, se))], [], (w49, bd, fc, 0, 0, rr)) (fun φ => ∃ n w', xEnd 1 [(0, n)] (w', bd, fc, 0, 0, rr) φ ∧ (n ≤ 4294967295) ∧ xMnv w' ∧ xFr [111] w w') := by
        intro m48
        induction m48 with
        | zero => intro be se w49 hz; exact absurd hz (Nat.not_lt_zero _)
        | succ m48 ih47 =>
          intro be se w49 hm54 hn52 hn53 hI50 hF51
          refine xg_t (xg_blk (b := [(17, 1, 2, 3, 0, 0), (18, 1, 0, 0, 0, 0), (19, 3, 13, 114, 96, 400), (22, 3, 6, 103, 4, 0), (25, 1, 2, 2, 0, 0), (26, 3, 7, 33, 3, 0), (29, 1, 3, 0, 0, 0), (30, 3, 8, 36, 0, 0)]) rfl) ?_
          refine xg_t (xg_iload (va := (0, se)) rfl rfl) ?_
          refine xg_t (xg_aload (va := (2, 82)) rfl rfl) ?_
          refine xg_cVi mX12_allTests (vs := []) (rest := [(0, se)]) (cn1 := 0) (sl1 := 0) rfl (mAllTests (hI50)) rfl (hF51.get (by decide) h82_31) rfl rfl rfl rfl rfl rfl (fun n59 w55 hq56 => ?_)
          obtain ⟨hn60, hI57, hF58⟩ := hq56
          by_cases hc61 : n59 < se
          · refine xg_t (xg_icT (u := se) (v := n59) rfl xnm0 xnm0 (xj_gtT hc61 (by omega))) ?_
            refine xg_t (xg_blk (b := [(103, 1, 2, 2, 0, 0), (104, 1, 15, 3, 0, 0), (105, 1, 3, 0, 0, 0), (106, 2, 15, 4, 0, 0)]) rfl) ?_
            refine xg_t (xg_iload (va := (0, be)) rfl rfl) ?_
            refine xg_t (xg_istore (l1 := [(0, (2, 82)), (1, (0, kk)), (2, (0, be))]) rfl rfl rfl) ?_
            refine xg_t (xg_const) ?_
            refine xg_t (xg_istore (l1 := [(3, (0, be)), (0, (2, 82)), (1, (0, kk)), (2, (0, be))]) rfl rfl rfl) ?_
            refine xg_t (xg_drop (l1 := [(0, (2, 82)), (1, (0, kk)), (3, (0, be)), (4, (0, 0))]) (List.forall_mem_cons.mpr ⟨List.mem_cons_of_mem _ (List.mem_cons_of_mem _ (List.mem_cons_self)), List.forall_mem_cons.mpr ⟨List.mem_cons_of_mem _ (List.mem_cons_of_mem _ (List.mem_cons_of_mem _ (List.mem_cons_self))), List.forall_mem_cons.mpr ⟨List.mem_cons_of_mem _ (List.mem_cons_self), List.forall_mem_cons.mpr ⟨List.mem_cons_self, fun _ h => absurd h List.not_mem_nil⟩⟩⟩⟩)) ?_
            have key62 : ∀ (m64 : Nat) (lf ni : Nat) (w65 : List (List xE)), lf < m64 → lf ≤ 4294967295 → ni ≤ 4294967295 → xMnv w65 → xFr [111] w w65 → xTo (d + 3) mX12_quarrel (108, [], [(0, (2, 82)), (1, (0, kk)), (3, (0, lf)), (4, (0, ni))], [], (w65, bd, fc, 0, 0, rr)) (fun φ => ∃ n w', xEnd 1 [(0, n)] (w', bd, fc, 0, 0, rr) φ ∧ (n ≤ 4294967295) ∧ xMnv w' ∧ xFr [111] w w') := by
              intro m64
              induction m64 with
              | zero => intro lf ni w65 hz; exact absurd hz (Nat.not_lt_zero _)
              | succ m64 ih63 =>
                intro lf ni w65 hm70 hn68 hn69 hI66 hF67
                refine xg_t (xg_blk (b := [(108, 2, 2, 4, 0, 0), (110, 1, 2, 1, 0, 0), (111, 3, 6, 130, 3, 0), (114, 1, 2, 3, 0, 0), (115, 3, 7, 130, 0, 0), (118, 1, 2, 3, 0, 0), (119, 1, 2, 3, 0, 0), (120, 1, 3, 1, 0, 0), (121, 1, 18, 0, 0, 0), (122, 1, 30, 0, 0, 0), (123, 1, 15, 3, 0, 0), (124, 3, 9, 4, 1, 0), (127, 3, 8, 108, 0, 0)]) rfl) ?_
                refine xg_t (xg_iload (va := (0, ni)) rfl rfl) ?_
                refine xg_t (xg_iload (va := (0, kk)) rfl rfl) ?_
                by_cases hc71 : xbs ni < xbs kk
                · have hc71u := hc71
                  unfold xbs at hc71u
                  have hn72 : kk ≤ 2147483647 := by omega
                  refine xg_t (xg_icF (u := ni) (v := kk) rfl xnm0 xnm0 (xjs_geF hc71)) ?_
                  refine xg_t (xg_iload (va := (0, lf)) rfl rfl) ?_
                  by_cases hc73 : lf = 0
                  · refine xg_t (xg_ifT (u := lf) rfl xnm0 (xj_eqT hc73)) ?_
                    refine xg_t (xg_blk (b := [(130, 1, 2, 3, 0, 0), (131, 3, 7, 136, 1, 0), (134, 1, 3, 4294967295, 0, 0), (135, 1, 12, 0, 1, 0)]) rfl) ?_
                    refine xg_t (xg_iload (va := (0, lf)) rfl rfl) ?_
                    by_cases hc74 : lf = 0
                    · refine xg_t (xg_ifF (u := lf) rfl xnm0 (xj_neF hc74)) ?_
                      refine xg_t (xg_const) ?_
                      exact xg_e ⟨4294967295, w65, ⟨rfl, rfl⟩, by first | decide | omega, hI66, hF67⟩
                    · refine xg_t (xg_ifT (u := lf) rfl xnm0 (xj_neT hc74)) ?_
                      refine xg_t (xg_blk (b := [(136, 1, 3, 0, 0, 0), (137, 2, 15, 4, 0, 0)]) rfl) ?_
                      by_cases hc75 : lf < 2147483648
                      · refine xg_t (xg_const) ?_
                        refine xg_t (xg_istore (l1 := [(0, (2, 82)), (1, (0, kk)), (3, (0, lf))]) rfl rfl rfl) ?_
                        refine xg_t (xg_drop (l1 := [(0, (2, 82)), (1, (0, kk)), (3, (0, lf)), (4, (0, 0))]) (List.forall_mem_cons.mpr ⟨List.mem_cons_of_mem _ (List.mem_cons_self), List.forall_mem_cons.mpr ⟨List.mem_cons_of_mem _ (List.mem_cons_of_mem _ (List.mem_cons_self)), List.forall_mem_cons.mpr ⟨List.mem_cons_of_mem _ (List.mem_cons_of_mem _ (List.mem_cons_of_mem _ (List.mem_cons_self))), List.forall_mem_cons.mpr ⟨List.mem_cons_self, fun _ h => absurd h List.not_mem_nil⟩⟩⟩⟩)) ?_
                        have key76 : ∀ (m78 : Nat) (ai : Nat), 32 - ai < m78 → ai ≤ 31 → lf % 2 ^ ai = 0 → xTo (d + 3) mX12_quarrel (139, [], [(0, (2, 82)), (1, (0, kk)), (3, (0, lf)), (4, (0, ai))], [], (w65, bd, fc, 0, 0, rr)) (fun φ => ∃ n w', xEnd 1 [(0, n)] (w', bd, fc, 0, 0, rr) φ ∧ (n ≤ 4294967295) ∧ xMnv w' ∧ xFr [111] w w') := by
                          intro m78
                          induction m78 with
                          | zero => intro ai hz; exact absurd hz (Nat.not_lt_zero _)
                          | succ m78 ih77 =>
                            intro ai hm84 hn82 he83
                            refine xg_t (xg_blk (b := [(139, 1, 2, 3, 0, 0), (140, 2, 2, 4, 0, 0), (142, 1, 29, 0, 0, 0), (143, 1, 3, 1, 0, 0), (144, 1, 30, 0, 0, 0), (145, 3, 7, 154, 1, 0), (148, 3, 9, 4, 1, 0), (151, 3, 8, 139, 0, 0)]) rfl) ?_
                            refine xg_t (xg_iload (va := (0, lf)) rfl rfl) ?_
                            refine xg_t (xg_iload (va := (0, ai)) rfl rfl) ?_
                            refine xg_t (xg_ishrE (u := lf) (v := ai) xnm0 xnm0 (by omega) (by omega) rfl) ?_
                            refine xg_t (xg_const) ?_
                            refine xg_t (xg_iand (u := lf / 2 ^ ai) (v := 1) (z := Nat.land (lf / 2 ^ ai) 1) xnm0 xnm0 rfl) ?_
                            obtain ⟨z85, hz86⟩ : ∃ z, Nat.land (lf / 2 ^ ai) 1 = z := ⟨_, rfl⟩
                            rw [hz86]
                            by_cases hc87 : z85 = 0
                            · refine xg_t (xg_ifF (u := z85) rfl xnm0 (xj_neF hc87)) ?_
                              refine xg_t (xg_iinc (u := ai) (z := ai + 1) (l1 := [(0, (2, 82)), (1, (0, kk)), (3, (0, lf))]) rfl rfl (by omega) rfl) ?_
                              refine xg_t (xg_goto) ?_
                              refine xg_t (xg_drop (l1 := [(0, (2, 82)), (1, (0, kk)), (3, (0, lf)), (4, (0, ai + 1))]) (List.forall_mem_cons.mpr ⟨List.mem_cons_of_mem _ (List.mem_cons_self), List.forall_mem_cons.mpr ⟨List.mem_cons_of_mem _ (List.mem_cons_of_mem _ (List.mem_cons_self)), List.forall_mem_cons.mpr ⟨List.mem_cons_of_mem _ (List.mem_cons_of_mem _ (List.mem_cons_of_mem _ (List.mem_cons_self))), List.forall_mem_cons.mpr ⟨List.mem_cons_self, fun _ h => absurd h List.not_mem_nil⟩⟩⟩⟩)) ?_
                              have hl88 := low_step he83 hz86 (by omega)
                              have hl89 := low_bd hl88 (by omega) (by omega)
                              exact ih77 (ai + 1)  (by omega) (by omega) (hl88)
                            · refine xg_t (xg_ifT (u := z85) rfl xnm0 (xj_neT hc87)) ?_
                              refine xg_t (xg_blk (b := [(154, 2, 2, 4, 0, 0), (156, 1, 12, 0, 1, 0)]) rfl) ?_
                              refine xg_t (xg_iload (va := (0, ai)) rfl rfl) ?_
                              exact xg_e ⟨ai, w65, ⟨rfl, rfl⟩, by omega, hI66, hF67⟩
                        exact key76 _ 0  (Nat.lt_succ_self _) (by omega) (Nat.mod_one _)
                      · refine xg_t (xg_const) ?_
                        refine xg_t (xg_istore (l1 := [(0, (2, 82)), (1, (0, kk)), (3, (0, lf))]) rfl rfl rfl) ?_
                        refine xg_t (xg_drop (l1 := [(0, (2, 82)), (1, (0, kk)), (3, (0, lf)), (4, (0, 0))]) (List.forall_mem_cons.mpr ⟨List.mem_cons_of_mem _ (List.mem_cons_self), List.forall_mem_cons.mpr ⟨List.mem_cons_of_mem _ (List.mem_cons_of_mem _ (List.mem_cons_self)), List.forall_mem_cons.mpr ⟨List.mem_cons_of_mem _ (List.mem_cons_of_mem _ (List.mem_cons_of_mem _ (List.mem_cons_self))), List.forall_mem_cons.mpr ⟨List.mem_cons_self, fun _ h => absurd h List.not_mem_nil⟩⟩⟩⟩)) ?_
                        have key90 : ∀ (m92 : Nat) (ai : Nat), 32 - ai < m92 → ai ≤ 31 → ai ≤ 31 → xTo (d + 3) mX12_quarrel (139, [], [(0, (2, 82)), (1, (0, kk)), (3, (0, lf)), (4, (0, ai))], [], (w65, bd, fc, 0, 0, rr)) (fun φ => ∃ n w', xEnd 1 [(0, n)] (w', bd, fc, 0, 0, rr) φ ∧ (n ≤ 4294967295) ∧ xMnv w' ∧ xFr [111] w w') := by
                          intro m92
                          induction m92 with
                          | zero => intro ai hz; exact absurd hz (Nat.not_lt_zero _)
                          | succ m92 ih91 =>
                            intro ai hm98 hn96 he97
                            refine xg_t (xg_blk (b := [(139, 1, 2, 3, 0, 0), (140, 2, 2, 4, 0, 0), (142, 1, 29, 0, 0, 0), (143, 1, 3, 1, 0, 0), (144, 1, 30, 0, 0, 0), (145, 3, 7, 154, 1, 0), (148, 3, 9, 4, 1, 0), (151, 3, 8, 139, 0, 0)]) rfl) ?_
                            refine xg_t (xg_iload (va := (0, lf)) rfl rfl) ?_
                            refine xg_t (xg_iload (va := (0, ai)) rfl rfl) ?_
                            refine xg_t (xg_ishrG (u := lf) (v := ai) xnm0 xnm0) ?_
                            refine xg_t (xg_const) ?_
                            refine xg_t (xg_iand (u := xpt (nI lf >>> (nI ai &&& 31))) (v := 1) (z := Nat.land (xpt (nI lf >>> (nI ai &&& 31))) 1) xnm0 xnm0 rfl) ?_
                            have hz100 := fun h => neg_bit (L := lf) (a := ai) (by omega) (by omega) h
                            generalize Nat.land (xpt (nI lf >>> (nI ai &&& 31))) 1 = z99 at hz100 ⊢
                            by_cases hc101 : z99 = 0
                            · refine xg_t (xg_ifF (u := z99) rfl xnm0 (xj_neF hc101)) ?_
                              refine xg_t (xg_iinc (u := ai) (z := ai + 1) (l1 := [(0, (2, 82)), (1, (0, kk)), (3, (0, lf))]) rfl rfl (by omega) rfl) ?_
                              refine xg_t (xg_goto) ?_
                              refine xg_t (xg_drop (l1 := [(0, (2, 82)), (1, (0, kk)), (3, (0, lf)), (4, (0, ai + 1))]) (List.forall_mem_cons.mpr ⟨List.mem_cons_of_mem _ (List.mem_cons_self), List.forall_mem_cons.mpr ⟨List.mem_cons_of_mem _ (List.mem_cons_of_mem _ (List.mem_cons_self)), List.forall_mem_cons.mpr ⟨List.mem_cons_of_mem _ (List.mem_cons_of_mem _ (List.mem_cons_of_mem _ (List.mem_cons_self))), List.forall_mem_cons.mpr ⟨List.mem_cons_self, fun _ h => absurd h List.not_mem_nil⟩⟩⟩⟩)) ?_
                              exact ih91 (ai + 1)  (by omega) (by omega) (by omega)
                            · refine xg_t (xg_ifT (u := z99) rfl xnm0 (xj_neT hc101)) ?_
                              refine xg_t (xg_blk (b := [(154, 2, 2, 4, 0, 0), (156, 1, 12, 0, 1, 0)]) rfl) ?_
                              refine xg_t (xg_iload (va := (0, ai)) rfl rfl) ?_
                              exact xg_e ⟨ai, w65, ⟨rfl, rfl⟩, by omega, hI66, hF67⟩
                        exact key90 _ 0  (Nat.lt_succ_self _) (by omega) (by omega)
                  · refine xg_t (xg_ifF (u := lf) rfl xnm0 (xj_eqF hc73)) ?_
                    refine xg_t (xg_iload (va := (0, lf)) rfl rfl) ?_
                    refine xg_t (xg_iload (va := (0, lf)) rfl rfl) ?_
                    refine xg_t (xg_const) ?_
                    refine xg_t (xg_isub (u := lf) (v := 1) (z := lf - 1) xnm0 xnm0 (by omega)) ?_
                    have hle103 : Nat.land lf (lf - 1) ≤ lf - 1 := Nat.and_le_right
                    refine xg_t (xg_iand (u := lf) (v := lf - 1) (z := Nat.land lf (lf - 1)) xnm0 xnm0 rfl) ?_
                    generalize Nat.land lf (lf - 1) = z102 at hle103 ⊢
                    refine xg_t (xg_istore (l1 := [(0, (2, 82)), (1, (0, kk)), (4, (0, ni))]) rfl rfl rfl) ?_
                    refine xg_t (xg_iinc (u := ni) (z := (ni + 1) % 4294967296) (l1 := [(3, (0, z102)), (0, (2, 82)), (1, (0, kk))]) rfl rfl (rfl) rfl) ?_
                    refine xg_t (xg_goto) ?_
                    refine xg_t (xg_drop (l1 := [(0, (2, 82)), (1, (0, kk)), (3, (0, z102)), (4, (0, (ni + 1) % 4294967296))]) (List.forall_mem_cons.mpr ⟨List.mem_cons_of_mem _ (List.mem_cons_of_mem _ (List.mem_cons_self)), List.forall_mem_cons.mpr ⟨List.mem_cons_of_mem _ (List.mem_cons_of_mem _ (List.mem_cons_of_mem _ (List.mem_cons_self))), List.forall_mem_cons.mpr ⟨List.mem_cons_of_mem _ (List.mem_cons_self), List.forall_mem_cons.mpr ⟨List.mem_cons_self, fun _ h => absurd h List.not_mem_nil⟩⟩⟩⟩)) ?_
                    exact ih63 z102 ((ni + 1) % 4294967296) w65 (by omega) (by omega) (by omega) (hI66) (hF67)
                · have hc71u := hc71
                  unfold xbs at hc71u
                  have hn104 : ni ≤ 2147483647 := by omega
                  have hn105 : kk ≤ 2147483647 := by omega
                  refine xg_t (xg_icT (u := ni) (v := kk) rfl xnm0 xnm0 (xjs_geT hc71)) ?_
                  refine xg_t (xg_blk (b := [(130, 1, 2, 3, 0, 0), (131, 3, 7, 136, 1, 0), (134, 1, 3, 4294967295, 0, 0), (135, 1, 12, 0, 1, 0)]) rfl) ?_
                  refine xg_t (xg_iload (va := (0, lf)) rfl rfl) ?_
                  by_cases hc106 : lf = 0
                  · refine xg_t (xg_ifF (u := lf) rfl xnm0 (xj_neF hc106)) ?_
                    refine xg_t (xg_const) ?_
                    exact xg_e ⟨4294967295, w65, ⟨rfl, rfl⟩, by first | decide | omega, hI66, hF67⟩
                  · refine xg_t (xg_ifT (u := lf) rfl xnm0 (xj_neT hc106)) ?_
                    refine xg_t (xg_blk (b := [(136, 1, 3, 0, 0, 0), (137, 2, 15, 4, 0, 0)]) rfl) ?_
                    by_cases hc107 : lf < 2147483648
                    · refine xg_t (xg_const) ?_
                      refine xg_t (xg_istore (l1 := [(0, (2, 82)), (1, (0, kk)), (3, (0, lf))]) rfl rfl rfl) ?_
                      refine xg_t (xg_drop (l1 := [(0, (2, 82)), (1, (0, kk)), (3, (0, lf)), (4, (0, 0))]) (List.forall_mem_cons.mpr ⟨List.mem_cons_of_mem _ (List.mem_cons_self), List.forall_mem_cons.mpr ⟨List.mem_cons_of_mem _ (List.mem_cons_of_mem _ (List.mem_cons_self)), List.forall_mem_cons.mpr ⟨List.mem_cons_of_mem _ (List.mem_cons_of_mem _ (List.mem_cons_of_mem _ (List.mem_cons_self))), List.forall_mem_cons.mpr ⟨List.mem_cons_self, fun _ h => absurd h List.not_mem_nil⟩⟩⟩⟩)) ?_
                      have key108 : ∀ (m110 : Nat) (ai : Nat), 32 - ai < m110 → ai ≤ 31 → lf % 2 ^ ai = 0 → xTo (d + 3) mX12_quarrel (139, [], [(0, (2, 82)), (1, (0, kk)), (3, (0, lf)), (4, (0, ai))], [], (w65, bd, fc, 0, 0, rr)) (fun φ => ∃ n w', xEnd 1 [(0, n)] (w', bd, fc, 0, 0, rr) φ ∧ (n ≤ 4294967295) ∧ xMnv w' ∧ xFr [111] w w') := by
                        intro m110
                        induction m110 with
                        | zero => intro ai hz; exact absurd hz (Nat.not_lt_zero _)
                        | succ m110 ih109 =>
                          intro ai hm116 hn114 he115
                          refine xg_t (xg_blk (b := [(139, 1, 2, 3, 0, 0), (140, 2, 2, 4, 0, 0), (142, 1, 29, 0, 0, 0), (143, 1, 3, 1, 0, 0), (144, 1, 30, 0, 0, 0), (145, 3, 7, 154, 1, 0), (148, 3, 9, 4, 1, 0), (151, 3, 8, 139, 0, 0)]) rfl) ?_
                          refine xg_t (xg_iload (va := (0, lf)) rfl rfl) ?_
                          refine xg_t (xg_iload (va := (0, ai)) rfl rfl) ?_
                          refine xg_t (xg_ishrE (u := lf) (v := ai) xnm0 xnm0 (by omega) (by omega) rfl) ?_
                          refine xg_t (xg_const) ?_
                          refine xg_t (xg_iand (u := lf / 2 ^ ai) (v := 1) (z := Nat.land (lf / 2 ^ ai) 1) xnm0 xnm0 rfl) ?_
                          obtain ⟨z117, hz118⟩ : ∃ z, Nat.land (lf / 2 ^ ai) 1 = z := ⟨_, rfl⟩
                          rw [hz118]
                          by_cases hc119 : z117 = 0
                          · refine xg_t (xg_ifF (u := z117) rfl xnm0 (xj_neF hc119)) ?_
                            refine xg_t (xg_iinc (u := ai) (z := ai + 1) (l1 := [(0, (2, 82)), (1, (0, kk)), (3, (0, lf))]) rfl rfl (by omega) rfl) ?_
                            refine xg_t (xg_goto) ?_
                            refine xg_t (xg_drop (l1 := [(0, (2, 82)), (1, (0, kk)), (3, (0, lf)), (4, (0, ai + 1))]) (List.forall_mem_cons.mpr ⟨List.mem_cons_of_mem _ (List.mem_cons_self), List.forall_mem_cons.mpr ⟨List.mem_cons_of_mem _ (List.mem_cons_of_mem _ (List.mem_cons_self)), List.forall_mem_cons.mpr ⟨List.mem_cons_of_mem _ (List.mem_cons_of_mem _ (List.mem_cons_of_mem _ (List.mem_cons_self))), List.forall_mem_cons.mpr ⟨List.mem_cons_self, fun _ h => absurd h List.not_mem_nil⟩⟩⟩⟩)) ?_
                            have hl120 := low_step he115 hz118 (by omega)
                            have hl121 := low_bd hl120 (by omega) (by omega)
                            exact ih109 (ai + 1)  (by omega) (by omega) (hl120)
                          · refine xg_t (xg_ifT (u := z117) rfl xnm0 (xj_neT hc119)) ?_
                            refine xg_t (xg_blk (b := [(154, 2, 2, 4, 0, 0), (156, 1, 12, 0, 1, 0)]) rfl) ?_
                            refine xg_t (xg_iload (va := (0, ai)) rfl rfl) ?_
                            exact xg_e ⟨ai, w65, ⟨rfl, rfl⟩, by omega, hI66, hF67⟩
                      exact key108 _ 0  (Nat.lt_succ_self _) (by omega) (Nat.mod_one _)
                    · refine xg_t (xg_const) ?_
                      refine xg_t (xg_istore (l1 := [(0, (2, 82)), (1, (0, kk)), (3, (0, lf))]) rfl rfl rfl) ?_
                      refine xg_t (xg_drop (l1 := [(0, (2, 82)), (1, (0, kk)), (3, (0, lf)), (4, (0, 0))]) (List.forall_mem_cons.mpr ⟨List.mem_cons_of_mem _ (List.mem_cons_self), List.forall_mem_cons.mpr ⟨List.mem_cons_of_mem _ (List.mem_cons_of_mem _ (List.mem_cons_self)), List.forall_mem_cons.mpr ⟨List.mem_cons_of_mem _ (List.mem_cons_of_mem _ (List.mem_cons_of_mem _ (List.mem_cons_self))), List.forall_mem_cons.mpr ⟨List.mem_cons_self, fun _ h => absurd h List.not_mem_nil⟩⟩⟩⟩)) ?_
                      have key122 : ∀ (m124 : Nat) (ai : Nat), 32 - ai < m124 → ai ≤ 31 → ai ≤ 31 → xTo (d + 3) mX12_quarrel (139, [], [(0, (2, 82)), (1, (0, kk)), (3, (0, lf)), (4, (0, ai))], [], (w65, bd, fc, 0, 0, rr)) (fun φ => ∃ n w', xEnd 1 [(0, n)] (w', bd, fc, 0, 0, rr) φ ∧ (n ≤ 4294967295) ∧ xMnv w' ∧ xFr [111] w w') := by
                        intro m124
                        induction m124 with
                        | zero => intro ai hz; exact absurd hz (Nat.not_lt_zero _)
                        | succ m124 ih123 =>
                          intro ai hm130 hn128 he129
                          refine xg_t (xg_blk (b := [(139, 1, 2, 3, 0, 0), (140, 2, 2, 4, 0, 0), (142, 1, 29, 0, 0, 0), (143, 1, 3, 1, 0, 0), (144, 1, 30, 0, 0, 0), (145, 3, 7, 154, 1, 0), (148, 3, 9, 4, 1, 0), (151, 3, 8, 139, 0, 0)]) rfl) ?_
                          refine xg_t (xg_iload (va := (0, lf)) rfl rfl) ?_
                          refine xg_t (xg_iload (va := (0, ai)) rfl rfl) ?_
                          refine xg_t (xg_ishrG (u := lf) (v := ai) xnm0 xnm0) ?_
                          refine xg_t (xg_const) ?_
                          refine xg_t (xg_iand (u := xpt (nI lf >>> (nI ai &&& 31))) (v := 1) (z := Nat.land (xpt (nI lf >>> (nI ai &&& 31))) 1) xnm0 xnm0 rfl) ?_
                          have hz132 := fun h => neg_bit (L := lf) (a := ai) (by omega) (by omega) h
                          generalize Nat.land (xpt (nI lf >>> (nI ai &&& 31))) 1 = z131 at hz132 ⊢
                          by_cases hc133 : z131 = 0
                          · refine xg_t (xg_ifF (u := z131) rfl xnm0 (xj_neF hc133)) ?_
                            refine xg_t (xg_iinc (u := ai) (z := ai + 1) (l1 := [(0, (2, 82)), (1, (0, kk)), (3, (0, lf))]) rfl rfl (by omega) rfl) ?_
                            refine xg_t (xg_goto) ?_
                            refine xg_t (xg_drop (l1 := [(0, (2, 82)), (1, (0, kk)), (3, (0, lf)), (4, (0, ai + 1))]) (List.forall_mem_cons.mpr ⟨List.mem_cons_of_mem _ (List.mem_cons_self), List.forall_mem_cons.mpr ⟨List.mem_cons_of_mem _ (List.mem_cons_of_mem _ (List.mem_cons_self)), List.forall_mem_cons.mpr ⟨List.mem_cons_of_mem _ (List.mem_cons_of_mem _ (List.mem_cons_of_mem _ (List.mem_cons_self))), List.forall_mem_cons.mpr ⟨List.mem_cons_self, fun _ h => absurd h List.not_mem_nil⟩⟩⟩⟩)) ?_
                            exact ih123 (ai + 1)  (by omega) (by omega) (by omega)
                          · refine xg_t (xg_ifT (u := z131) rfl xnm0 (xj_neT hc133)) ?_
                            refine xg_t (xg_blk (b := [(154, 2, 2, 4, 0, 0), (156, 1, 12, 0, 1, 0)]) rfl) ?_
                            refine xg_t (xg_iload (va := (0, ai)) rfl rfl) ?_
                            exact xg_e ⟨ai, w65, ⟨rfl, rfl⟩, by omega, hI66, hF67⟩
                      exact key122 _ 0  (Nat.lt_succ_self _) (by omega) (by omega)
            exact key62 _ be 0 w55 (Nat.lt_succ_self _) (by omega) (by omega) (hI57) ((hF51.tr (hF58.up (by decide))))
          · refine xg_t (xg_icF (u := se) (v := n59) rfl xnm0 xnm0 (xj_gtF (by omega) (by omega))) ?_
            refine xg_t (xg_iload (va := (0, be)) rfl rfl) ?_
            by_cases hc134 : be < 2147483648
            · refine xg_t (xg_ifT (u := be) rfl xnm0 (xjz_geT hc134)) ?_
              refine xg_t (xg_blk (b := [(33, 1, 2, 3, 0, 0), (34, 1, 2, 2, 0, 0), (35, 1, 70, 0, 0, 0)]) rfl) ?_
              refine xg_t (xg_iload (va := (0, se)) rfl rfl) ?_
              refine xg_t (xg_iload (va := (0, be)) rfl rfl) ?_
              refine xg_k (xg_ixor (u := se) (v := be) xnm0 xnm0) (xpt_lt _) (fun z135 hz136 => ?_)
              refine xg_t (xg_blk (b := [(36, 2, 15, 4, 0, 0), (38, 1, 2, 2, 0, 0), (39, 3, 7, 75, 2, 0), (42, 1, 2, 3, 0, 0), (43, 3, 13, 200, 98, 379), (46, 1, 2, 2, 0, 0), (47, 3, 13, 200, 98, 379), (50, 3, 6, 75, 2, 0), (53, 1, 2, 3, 0, 0), (54, 3, 13, 200, 98, 379), (57, 1, 2, 2, 0, 0), (58, 3, 13, 200, 98, 379), (61, 3, 6, 79, 1, 0), (64, 1, 2, 3, 0, 0), (65, 2, 2, 4, 0, 0), (67, 1, 30, 0, 0, 0), (68, 2, 2, 4, 0, 0), (70, 1, 69, 0, 0, 0), (71, 1, 30, 0, 0, 0), (72, 3, 7, 79, 0, 0)]) rfl) ?_
              refine xg_t (xg_istore (l1 := [(0, (2, 82)), (1, (0, kk)), (2, (0, be)), (3, (0, se))]) rfl rfl rfl) ?_
              refine xg_t (xg_iload (va := (0, be)) rfl rfl) ?_
              refine xg_t (xg_ifF (u := be) rfl xnm0 (xj_ltF (by omega) (by omega))) ?_
              refine xg_t (xg_iload (va := (0, se)) rfl rfl) ?_
              refine xg_cSi mX12_ones (vs := [(0, se)]) (rest := []) (cn1 := 0) (sl1 := 0) rfl (mOnes (hI57) (by omega)) rfl rfl rfl rfl rfl rfl rfl (fun n141 w137 hq138 => ?_)
              obtain ⟨hn142, hI139, hF140⟩ := hq138
              refine xg_t (xg_iload (va := (0, be)) rfl rfl) ?_
              refine xg_cSi mX12_ones (vs := [(0, be)]) (rest := [(0, n141)]) (cn1 := 0) (sl1 := 0) rfl (mOnes (hI139) (by omega)) rfl rfl rfl rfl rfl rfl rfl (fun n147 w143 hq144 => ?_)
              obtain ⟨hn148, hI145, hF146⟩ := hq144
              by_cases hc149 : xbs n141 < xbs n147
              · have hc149u := hc149
                unfold xbs at hc149u
                refine xg_t (xg_icT (u := n141) (v := n147) rfl xnm0 xnm0 (xjs_ltT hc149)) ?_
                refine xg_t (xg_blk (b := [(75, 1, 3, 1, 0, 0), (76, 3, 8, 80, 0, 0)]) rfl) ?_
                refine xg_t (xg_const) ?_
                refine xg_t (xg_goto) ?_
                refine xg_t (xg_blk (b := [(80, 2, 15, 5, 0, 0), (82, 2, 2, 5, 0, 0), (84, 3, 7, 97, 0, 0), (87, 1, 0, 0, 0, 0), (88, 1, 2, 3, 0, 0), (89, 3, 13, 170, 96, 412), (92, 3, 7, 97, 0, 0), (95, 1, 2, 3, 0, 0), (96, 1, 15, 2, 0, 0)]) rfl) ?_
                refine xg_t (xg_istore (l1 := [(4, (0, z135)), (0, (2, 82)), (1, (0, kk)), (2, (0, be)), (3, (0, se))]) rfl rfl rfl) ?_
                refine xg_t (xg_iload (va := (0, 1)) rfl rfl) ?_
                refine xg_t (xg_ifF (u := 1) rfl xnm0 (by decide)) ?_
                refine xg_t (xg_aload (va := (2, 82)) rfl rfl) ?_
                refine xg_t (xg_iload (va := (0, se)) rfl rfl) ?_
                refine xg_cVi mX12_isQuarrel (vs := [(0, se)]) (rest := []) (cn1 := 0) (sl1 := 0) rfl (mIsQuarrel (hI145) (by omega)) rfl (hF146.get (by decide) (hF140.get (by decide) (hF58.get (by decide) (hF51.get (by decide) h82_31)))) rfl rfl rfl rfl rfl rfl (fun n154 w150 hq151 => ?_)
                obtain ⟨hn155, hI152, hF153⟩ := hq151
                by_cases hc156 : n154 = 0
                · refine xg_t (xg_ifT (u := n154) rfl xnm0 (xj_eqT hc156)) ?_
                  refine xg_t (xg_blk (b := [(97, 3, 9, 3, 1, 0), (100, 3, 8, 17, 0, 0)]) rfl) ?_
                  refine xg_t (xg_iinc (u := se) (z := se + 1) (l1 := [(5, (0, 1)), (4, (0, z135)), (0, (2, 82)), (1, (0, kk)), (2, (0, be))]) rfl rfl (by omega) rfl) ?_
                  refine xg_t (xg_goto) ?_
                  refine xg_t (xg_drop (l1 := [(0, (2, 82)), (1, (0, kk)), (2, (0, be)), (3, (0, se + 1))]) (List.forall_mem_cons.mpr ⟨List.mem_cons_of_mem _ (List.mem_cons_of_mem _ (List.mem_cons_of_mem _ (List.mem_cons_self))), List.forall_mem_cons.mpr ⟨List.mem_cons_of_mem _ (List.mem_cons_of_mem _ (List.mem_cons_of_mem _ (List.mem_cons_of_mem _ (List.mem_cons_self)))), List.forall_mem_cons.mpr ⟨List.mem_cons_of_mem _ (List.mem_cons_of_mem _ (List.mem_cons_of_mem _ (List.mem_cons_of_mem _ (List.mem_cons_of_mem _ (List.mem_cons_self))))), List.forall_mem_cons.mpr ⟨List.mem_cons_self, fun _ h => absurd h List.not_mem_nil⟩⟩⟩⟩)) ?_
                  exact ih47 be (se + 1) w150 (by omega) (by omega) (by omega) (hI152) (((((hF51.tr (hF58.up (by decide))).tr (hF140.up (by decide))).tr (hF146.up (by decide))).tr (hF153.up (by decide))))
                · refine xg_t (xg_ifF (u := n154) rfl xnm0 (xj_eqF hc156)) ?_
                  refine xg_t (xg_iload (va := (0, se)) rfl rfl) ?_
                  refine xg_t (xg_istore (l1 := [(5, (0, 1)), (4, (0, z135)), (0, (2, 82)), (1, (0, kk)), (3, (0, se))]) rfl rfl rfl) ?_
                  refine xg_t (xg_blk (b := [(97, 3, 9, 3, 1, 0), (100, 3, 8, 17, 0, 0)]) rfl) ?_
                  refine xg_t (xg_iinc (u := se) (z := se + 1) (l1 := [(2, (0, se)), (5, (0, 1)), (4, (0, z135)), (0, (2, 82)), (1, (0, kk))]) rfl rfl (by omega) rfl) ?_
                  refine xg_t (xg_goto) ?_
                  refine xg_t (xg_drop (l1 := [(0, (2, 82)), (1, (0, kk)), (2, (0, se)), (3, (0, se + 1))]) (List.forall_mem_cons.mpr ⟨List.mem_cons_of_mem _ (List.mem_cons_of_mem _ (List.mem_cons_of_mem _ (List.mem_cons_of_mem _ (List.mem_cons_self)))), List.forall_mem_cons.mpr ⟨List.mem_cons_of_mem _ (List.mem_cons_of_mem _ (List.mem_cons_of_mem _ (List.mem_cons_of_mem _ (List.mem_cons_of_mem _ (List.mem_cons_self))))), List.forall_mem_cons.mpr ⟨List.mem_cons_of_mem _ (List.mem_cons_self), List.forall_mem_cons.mpr ⟨List.mem_cons_self, fun _ h => absurd h List.not_mem_nil⟩⟩⟩⟩)) ?_
                  exact ih47 se (se + 1) w150 (by omega) (by omega) (by omega) (hI152) (((((hF51.tr (hF58.up (by decide))).tr (hF140.up (by decide))).tr (hF146.up (by decide))).tr (hF153.up (by decide))))
              · have hc149u := hc149
                unfold xbs at hc149u
                refine xg_t (xg_icF (u := n141) (v := n147) rfl xnm0 xnm0 (xjs_ltF hc149)) ?_
                refine xg_t (xg_iload (va := (0, se)) rfl rfl) ?_
                refine xg_cSi mX12_ones (vs := [(0, se)]) (rest := []) (cn1 := 0) (sl1 := 0) rfl (mOnes (hI145) (by omega)) rfl rfl rfl rfl rfl rfl rfl (fun n161 w157 hq158 => ?_)
                obtain ⟨hn162, hI159, hF160⟩ := hq158
                refine xg_t (xg_iload (va := (0, be)) rfl rfl) ?_
                refine xg_cSi mX12_ones (vs := [(0, be)]) (rest := [(0, n161)]) (cn1 := 0) (sl1 := 0) rfl (mOnes (hI159) (by omega)) rfl rfl rfl rfl rfl rfl rfl (fun n167 w163 hq164 => ?_)
                obtain ⟨hn168, hI165, hF166⟩ := hq164
                by_cases hc169 : n161 = n167
                · refine xg_t (xg_icF (u := n161) (v := n167) rfl xnm0 xnm0 (xj_neF hc169)) ?_
                  refine xg_t (xg_iload (va := (0, se)) rfl rfl) ?_
                  refine xg_t (xg_iload (va := (0, z135)) rfl rfl) ?_
                  refine xg_k (xg_iand (z := Nat.land se z135) (u := se) (v := z135) xnm0 xnm0 rfl) (xland_lt (by omega)) (fun z170 hz171 => ?_)
                  refine xg_t (xg_iload (va := (0, z135)) rfl rfl) ?_
                  refine xg_k (xg_ineg (u := z135) xnm0) (xpt_lt _) (fun z172 hz173 => ?_)
                  refine xg_k (xg_iand (z := Nat.land z170 z172) (u := z170) (v := z172) xnm0 xnm0 rfl) (xland_lt (by omega)) (fun z174 hz175 => ?_)
                  by_cases hc176 : z174 = 0
                  · refine xg_t (xg_ifT (u := z174) rfl xnm0 (xj_eqT hc176)) ?_
                    refine xg_t (xg_blk (b := [(79, 1, 3, 0, 0, 0)]) rfl) ?_
                    refine xg_t (xg_const) ?_
                    refine xg_t (xg_blk (b := [(80, 2, 15, 5, 0, 0), (82, 2, 2, 5, 0, 0), (84, 3, 7, 97, 0, 0), (87, 1, 0, 0, 0, 0), (88, 1, 2, 3, 0, 0), (89, 3, 13, 170, 96, 412), (92, 3, 7, 97, 0, 0), (95, 1, 2, 3, 0, 0), (96, 1, 15, 2, 0, 0)]) rfl) ?_
                    refine xg_t (xg_istore (l1 := [(4, (0, z135)), (0, (2, 82)), (1, (0, kk)), (2, (0, be)), (3, (0, se))]) rfl rfl rfl) ?_
                    refine xg_t (xg_iload (va := (0, 0)) rfl rfl) ?_
                    refine xg_t (xg_ifT (u := 0) rfl xnm0 (by decide)) ?_
                    refine xg_t (xg_blk (b := [(97, 3, 9, 3, 1, 0), (100, 3, 8, 17, 0, 0)]) rfl) ?_
                    refine xg_t (xg_iinc (u := se) (z := se + 1) (l1 := [(5, (0, 0)), (4, (0, z135)), (0, (2, 82)), (1, (0, kk)), (2, (0, be))]) rfl rfl (by omega) rfl) ?_
                    refine xg_t (xg_goto) ?_
                    refine xg_t (xg_drop (l1 := [(0, (2, 82)), (1, (0, kk)), (2, (0, be)), (3, (0, se + 1))]) (List.forall_mem_cons.mpr ⟨List.mem_cons_of_mem _ (List.mem_cons_of_mem _ (List.mem_cons_of_mem _ (List.mem_cons_self))), List.forall_mem_cons.mpr ⟨List.mem_cons_of_mem _ (List.mem_cons_of_mem _ (List.mem_cons_of_mem _ (List.mem_cons_of_mem _ (List.mem_cons_self)))), List.forall_mem_cons.mpr ⟨List.mem_cons_of_mem _ (List.mem_cons_of_mem _ (List.mem_cons_of_mem _ (List.mem_cons_of_mem _ (List.mem_cons_of_mem _ (List.mem_cons_self))))), List.forall_mem_cons.mpr ⟨List.mem_cons_self, fun _ h => absurd h List.not_mem_nil⟩⟩⟩⟩)) ?_
                    exact ih47 be (se + 1) w163 (by omega) (by omega) (by omega) (hI165) ((((((hF51.tr (hF58.up (by decide))).tr (hF140.up (by decide))).tr (hF146.up (by decide))).tr (hF160.up (by decide))).tr (hF166.up (by decide))))
                  · refine xg_t (xg_ifF (u := z174) rfl xnm0 (xj_eqF hc176)) ?_
                    refine xg_t (xg_blk (b := [(75, 1, 3, 1, 0, 0), (76, 3, 8, 80, 0, 0)]) rfl) ?_
                    refine xg_t (xg_const) ?_
                    refine xg_t (xg_goto) ?_
                    refine xg_t (xg_blk (b := [(80, 2, 15, 5, 0, 0), (82, 2, 2, 5, 0, 0), (84, 3, 7, 97, 0, 0), (87, 1, 0, 0, 0, 0), (88, 1, 2, 3, 0, 0), (89, 3, 13, 170, 96, 412), (92, 3, 7, 97, 0, 0), (95, 1, 2, 3, 0, 0), (96, 1, 15, 2, 0, 0)]) rfl) ?_
                    refine xg_t (xg_istore (l1 := [(4, (0, z135)), (0, (2, 82)), (1, (0, kk)), (2, (0, be)), (3, (0, se))]) rfl rfl rfl) ?_
                    refine xg_t (xg_iload (va := (0, 1)) rfl rfl) ?_
                    refine xg_t (xg_ifF (u := 1) rfl xnm0 (by decide)) ?_
                    refine xg_t (xg_aload (va := (2, 82)) rfl rfl) ?_
                    refine xg_t (xg_iload (va := (0, se)) rfl rfl) ?_
                    refine xg_cVi mX12_isQuarrel (vs := [(0, se)]) (rest := []) (cn1 := 0) (sl1 := 0) rfl (mIsQuarrel (hI165) (by omega)) rfl (hF166.get (by decide) (hF160.get (by decide) (hF146.get (by decide) (hF140.get (by decide) (hF58.get (by decide) (hF51.get (by decide) h82_31)))))) rfl rfl rfl rfl rfl rfl (fun n181 w177 hq178 => ?_)
                    obtain ⟨hn182, hI179, hF180⟩ := hq178
                    by_cases hc183 : n181 = 0
                    · refine xg_t (xg_ifT (u := n181) rfl xnm0 (xj_eqT hc183)) ?_
                      refine xg_t (xg_blk (b := [(97, 3, 9, 3, 1, 0), (100, 3, 8, 17, 0, 0)]) rfl) ?_
                      refine xg_t (xg_iinc (u := se) (z := se + 1) (l1 := [(5, (0, 1)), (4, (0, z135)), (0, (2, 82)), (1, (0, kk)), (2, (0, be))]) rfl rfl (by omega) rfl) ?_
                      refine xg_t (xg_goto) ?_
                      refine xg_t (xg_drop (l1 := [(0, (2, 82)), (1, (0, kk)), (2, (0, be)), (3, (0, se + 1))]) (List.forall_mem_cons.mpr ⟨List.mem_cons_of_mem _ (List.mem_cons_of_mem _ (List.mem_cons_of_mem _ (List.mem_cons_self))), List.forall_mem_cons.mpr ⟨List.mem_cons_of_mem _ (List.mem_cons_of_mem _ (List.mem_cons_of_mem _ (List.mem_cons_of_mem _ (List.mem_cons_self)))), List.forall_mem_cons.mpr ⟨List.mem_cons_of_mem _ (List.mem_cons_of_mem _ (List.mem_cons_of_mem _ (List.mem_cons_of_mem _ (List.mem_cons_of_mem _ (List.mem_cons_self))))), List.forall_mem_cons.mpr ⟨List.mem_cons_self, fun _ h => absurd h List.not_mem_nil⟩⟩⟩⟩)) ?_
                      exact ih47 be (se + 1) w177 (by omega) (by omega) (by omega) (hI179) (((((((hF51.tr (hF58.up (by decide))).tr (hF140.up (by decide))).tr (hF146.up (by decide))).tr (hF160.up (by decide))).tr (hF166.up (by decide))).tr (hF180.up (by decide))))
                    · refine xg_t (xg_ifF (u := n181) rfl xnm0 (xj_eqF hc183)) ?_
                      refine xg_t (xg_iload (va := (0, se)) rfl rfl) ?_
                      refine xg_t (xg_istore (l1 := [(5, (0, 1)), (4, (0, z135)), (0, (2, 82)), (1, (0, kk)), (3, (0, se))]) rfl rfl rfl) ?_
                      refine xg_t (xg_blk (b := [(97, 3, 9, 3, 1, 0), (100, 3, 8, 17, 0, 0)]) rfl) ?_
                      refine xg_t (xg_iinc (u := se) (z := se + 1) (l1 := [(2, (0, se)), (5, (0, 1)), (4, (0, z135)), (0, (2, 82)), (1, (0, kk))]) rfl rfl (by omega) rfl) ?_
                      refine xg_t (xg_goto) ?_
                      refine xg_t (xg_drop (l1 := [(0, (2, 82)), (1, (0, kk)), (2, (0, se)), (3, (0, se + 1))]) (List.forall_mem_cons.mpr ⟨List.mem_cons_of_mem _ (List.mem_cons_of_mem _ (List.mem_cons_of_mem _ (List.mem_cons_of_mem _ (List.mem_cons_self)))), List.forall_mem_cons.mpr ⟨List.mem_cons_of_mem _ (List.mem_cons_of_mem _ (List.mem_cons_of_mem _ (List.mem_cons_of_mem _ (List.mem_cons_of_mem _ (List.mem_cons_self))))), List.forall_mem_cons.mpr ⟨List.mem_cons_of_mem _ (List.mem_cons_self), List.forall_mem_cons.mpr ⟨List.mem_cons_self, fun _ h => absurd h List.not_mem_nil⟩⟩⟩⟩)) ?_
                      exact ih47 se (se + 1) w177 (by omega) (by omega) (by omega) (hI179) (((((((hF51.tr (hF58.up (by decide))).tr (hF140.up (by decide))).tr (hF146.up (by decide))).tr (hF160.up (by decide))).tr (hF166.up (by decide))).tr (hF180.up (by decide))))
                · refine xg_t (xg_icT (u := n161) (v := n167) rfl xnm0 xnm0 (xj_neT hc169)) ?_
                  refine xg_t (xg_blk (b := [(79, 1, 3, 0, 0, 0)]) rfl) ?_
                  refine xg_t (xg_const) ?_
                  refine xg_t (xg_blk (b := [(80, 2, 15, 5, 0, 0), (82, 2, 2, 5, 0, 0), (84, 3, 7, 97, 0, 0), (87, 1, 0, 0, 0, 0), (88, 1, 2, 3, 0, 0), (89, 3, 13, 170, 96, 412), (92, 3, 7, 97, 0, 0), (95, 1, 2, 3, 0, 0), (96, 1, 15, 2, 0, 0)]) rfl) ?_
                  refine xg_t (xg_istore (l1 := [(4, (0, z135)), (0, (2, 82)), (1, (0, kk)), (2, (0, be)), (3, (0, se))]) rfl rfl rfl) ?_
                  refine xg_t (xg_iload (va := (0, 0)) rfl rfl) ?_
                  refine xg_t (xg_ifT (u := 0) rfl xnm0 (by decide)) ?_
                  refine xg_t (xg_blk (b := [(97, 3, 9, 3, 1, 0), (100, 3, 8, 17, 0, 0)]) rfl) ?_
                  refine xg_t (xg_iinc (u := se) (z := se + 1) (l1 := [(5, (0, 0)), (4, (0, z135)), (0, (2, 82)), (1, (0, kk)), (2, (0, be))]) rfl rfl (by omega) rfl) ?_
                  refine xg_t (xg_goto) ?_
                  refine xg_t (xg_drop (l1 := [(0, (2, 82)), (1, (0, kk)), (2, (0, be)), (3, (0, se + 1))]) (List.forall_mem_cons.mpr ⟨List.mem_cons_of_mem _ (List.mem_cons_of_mem _ (List.mem_cons_of_mem _ (List.mem_cons_self))), List.forall_mem_cons.mpr ⟨List.mem_cons_of_mem _ (List.mem_cons_of_mem _ (List.mem_cons_of_mem _ (List.mem_cons_of_mem _ (List.mem_cons_self)))), List.forall_mem_cons.mpr ⟨List.mem_cons_of_mem _ (List.mem_cons_of_mem _ (List.mem_cons_of_mem _ (List.mem_cons_of_mem _ (List.mem_cons_of_mem _ (List.mem_cons_self))))), List.forall_mem_cons.mpr ⟨List.mem_cons_self, fun _ h => absurd h List.not_mem_nil⟩⟩⟩⟩)) ?_
                  exact ih47 be (se + 1) w163 (by omega) (by omega) (by omega) (hI165) ((((((hF51.tr (hF58.up (by decide))).tr (hF140.up (by decide))).tr (hF146.up (by decide))).tr (hF160.up (by decide))).tr (hF166.up (by decide))))
            · refine xg_t (xg_ifF (u := be) rfl xnm0 (xjz_geF (by omega) (by omega))) ?_
              refine xg_t (xg_const) ?_
              refine xg_t (xg_goto) ?_
              refine xg_t (xg_blk (b := [(36, 2, 15, 4, 0, 0), (38, 1, 2, 2, 0, 0), (39, 3, 7, 75, 2, 0), (42, 1, 2, 3, 0, 0), (43, 3, 13, 200, 98, 379), (46, 1, 2, 2, 0, 0), (47, 3, 13, 200, 98, 379), (50, 3, 6, 75, 2, 0), (53, 1, 2, 3, 0, 0), (54, 3, 13, 200, 98, 379), (57, 1, 2, 2, 0, 0), (58, 3, 13, 200, 98, 379), (61, 3, 6, 79, 1, 0), (64, 1, 2, 3, 0, 0), (65, 2, 2, 4, 0, 0), (67, 1, 30, 0, 0, 0), (68, 2, 2, 4, 0, 0), (70, 1, 69, 0, 0, 0), (71, 1, 30, 0, 0, 0), (72, 3, 7, 79, 0, 0)]) rfl) ?_
              refine xg_t (xg_istore (l1 := [(0, (2, 82)), (1, (0, kk)), (2, (0, be)), (3, (0, se))]) rfl rfl rfl) ?_
              refine xg_t (xg_iload (va := (0, be)) rfl rfl) ?_
              refine xg_t (xg_ifT (u := be) rfl xnm0 (xjz_ltT (by omega) (by omega))) ?_
              refine xg_t (xg_blk (b := [(75, 1, 3, 1, 0, 0), (76, 3, 8, 80, 0, 0)]) rfl) ?_
              refine xg_t (xg_const) ?_
              refine xg_t (xg_goto) ?_
              refine xg_t (xg_blk (b := [(80, 2, 15, 5, 0, 0), (82, 2, 2, 5, 0, 0), (84, 3, 7, 97, 0, 0), (87, 1, 0, 0, 0, 0), (88, 1, 2, 3, 0, 0), (89, 3, 13, 170, 96, 412), (92, 3, 7, 97, 0, 0), (95, 1, 2, 3, 0, 0), (96, 1, 15, 2, 0, 0)]) rfl) ?_
              refine xg_t (xg_istore (l1 := [(4, (0, 0)), (0, (2, 82)), (1, (0, kk)), (2, (0, be)), (3, (0, se))]) rfl rfl rfl) ?_
              refine xg_t (xg_iload (va := (0, 1)) rfl rfl) ?_
              refine xg_t (xg_ifF (u := 1) rfl xnm0 (by decide)) ?_
              refine xg_t (xg_aload (va := (2, 82)) rfl rfl) ?_
              refine xg_t (xg_iload (va := (0, se)) rfl rfl) ?_
              refine xg_cVi mX12_isQuarrel (vs := [(0, se)]) (rest := []) (cn1 := 0) (sl1 := 0) rfl (mIsQuarrel (hI57) (by omega)) rfl (hF58.get (by decide) (hF51.get (by decide) h82_31)) rfl rfl rfl rfl rfl rfl (fun n188 w184 hq185 => ?_)
              obtain ⟨hn189, hI186, hF187⟩ := hq185
              by_cases hc190 : n188 = 0
              · refine xg_t (xg_ifT (u := n188) rfl xnm0 (xj_eqT hc190)) ?_
                refine xg_t (xg_blk (b := [(97, 3, 9, 3, 1, 0), (100, 3, 8, 17, 0, 0)]) rfl) ?_
                refine xg_t (xg_iinc (u := se) (z := se + 1) (l1 := [(5, (0, 1)), (4, (0, 0)), (0, (2, 82)), (1, (0, kk)), (2, (0, be))]) rfl rfl (by omega) rfl) ?_
                refine xg_t (xg_goto) ?_
                refine xg_t (xg_drop (l1 := [(0, (2, 82)), (1, (0, kk)), (2, (0, be)), (3, (0, se + 1))]) (List.forall_mem_cons.mpr ⟨List.mem_cons_of_mem _ (List.mem_cons_of_mem _ (List.mem_cons_of_mem _ (List.mem_cons_self))), List.forall_mem_cons.mpr ⟨List.mem_cons_of_mem _ (List.mem_cons_of_mem _ (List.mem_cons_of_mem _ (List.mem_cons_of_mem _ (List.mem_cons_self)))), List.forall_mem_cons.mpr ⟨List.mem_cons_of_mem _ (List.mem_cons_of_mem _ (List.mem_cons_of_mem _ (List.mem_cons_of_mem _ (List.mem_cons_of_mem _ (List.mem_cons_self))))), List.forall_mem_cons.mpr ⟨List.mem_cons_self, fun _ h => absurd h List.not_mem_nil⟩⟩⟩⟩)) ?_
                exact ih47 be (se + 1) w184 (by omega) (by omega) (by omega) (hI186) (((hF51.tr (hF58.up (by decide))).tr (hF187.up (by decide))))
              · refine xg_t (xg_ifF (u := n188) rfl xnm0 (xj_eqF hc190)) ?_
                refine xg_t (xg_iload (va := (0, se)) rfl rfl) ?_
                refine xg_t (xg_istore (l1 := [(5, (0, 1)), (4, (0, 0)), (0, (2, 82)), (1, (0, kk)), (3, (0, se))]) rfl rfl rfl) ?_
                refine xg_t (xg_blk (b := [(97, 3, 9, 3, 1, 0), (100, 3, 8, 17, 0, 0)]) rfl) ?_
                refine xg_t (xg_iinc (u := se) (z := se + 1) (l1 := [(2, (0, se)), (5, (0, 1)), (4, (0, 0)), (0, (2, 82)), (1, (0, kk))]) rfl rfl (by omega) rfl) ?_
                refine xg_t (xg_goto) ?_
                refine xg_t (xg_drop (l1 := [(0, (2, 82)), (1, (0, kk)), (2, (0, se)), (3, (0, se + 1))]) (List.forall_mem_cons.mpr ⟨List.mem_cons_of_mem _ (List.mem_cons_of_mem _ (List.mem_cons_of_mem _ (List.mem_cons_of_mem _ (List.mem_cons_self)))), List.forall_mem_cons.mpr ⟨List.mem_cons_of_mem _ (List.mem_cons_of_mem _ (List.mem_cons_of_mem _ (List.mem_cons_of_mem _ (List.mem_cons_of_mem _ (List.mem_cons_self))))), List.forall_mem_cons.mpr ⟨List.mem_cons_of_mem _ (List.mem_cons_self), List.forall_mem_cons.mpr ⟨List.mem_cons_self, fun _ h => absurd h List.not_mem_nil⟩⟩⟩⟩)) ?_
                exact ih47 se (se + 1) w184 (by omega) (by omega) (by omega) (hI186) (((hF51.tr (hF58.up (by decide))).tr (hF187.up (by decide))))
      exact key46 _ 4294967295 1 w38 (Nat.lt_succ_self _) (by omega) (by omega) (hI40) ((hF41.up (by decide)))
  · refine xg_t (xg_ifT (u := kk) rfl xnm0 (xjz_ltT (by omega) (by omega))) ?_
    refine xg_t (xg_blk (b := [(11, 1, 3, 4294967295, 0, 0), (12, 1, 12, 0, 1, 0)]) rfl) ?_
    refine xg_t (xg_const) ?_
    exact xg_e ⟨4294967295, w, ⟨rfl, rfl⟩, by first | decide | omega, hI, xFr.rf⟩
end XMG
end
