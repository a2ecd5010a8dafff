/-! what holds between the law's calls; image -/
def nz26 (q : xV) : Nat := if q = (3, 0) then 0 else 1
theorem nz26_le (q : xV) : nz26 q ≤ 1 := by
  unfold nz26
  split <;> decide
theorem nz26_null : nz26 (3, 0) = 0 := if_pos rfl
theorem nz26_ref {v : Nat} : nz26 (2, v) = 1 := if_neg (fun z => absurd (congrArg Prod.fst z) (show ¬ (2 : Nat) = 3 by decide))
noncomputable def nn26 (us : List (Nat × xV)) : Nat := nz26 (xat 4 us 0) + nz26 (xat 4 us 1) + nz26 (xat 4 us 2)
theorem nn26_le {us : List (Nat × xV)} : nn26 us ≤ 3 := by
  have h0 := nz26_le (xat 4 us 0)
  have h1 := nz26_le (xat 4 us 1)
  have h2 := nz26_le (xat 4 us 2)
  unfold nn26
  omega
theorem nn26_two {us : List (Nat × xV)} {k : Nat} (hk : k < 3) (h : xat 4 us k = (3, 0)) : nn26 us ≤ 2 := by
  have h0 := nz26_le (xat 4 us 0)
  have h1 := nz26_le (xat 4 us 1)
  have h2 := nz26_le (xat 4 us 2)
  have h3 : nz26 (xat 4 us k) = 0 := by rw [h]; exact nz26_null
  unfold nn26
  rcases (show k = 0 ∨ k = 1 ∨ k = 2 by omega) with rfl | rfl | rfl
  · omega
  · omega
  · omega
theorem xat4_self {us : List (Nat × xV)} {k v : Nat} : xat 4 ((k, (2, v)) :: us) k = (2, v) := by
  rw [xat4_cons, Nat.beq_refl]
  rfl
theorem xat4_ne {us : List (Nat × xV)} {k v j : Nat} (hj : j ≠ k) : xat 4 ((k, (2, v)) :: us) j = xat 4 us j := by
  rw [xat4_cons, xbeq_f (fun z => hj z.symm)]
  rfl
theorem nn26_add {us : List (Nat × xV)} {k v : Nat} (hk : k < 3) (h : xat 4 us k = (3, 0)) : nn26 ((k, (2, v)) :: us) = nn26 us + 1 := by
  have h3 : nz26 (xat 4 us k) = 0 := by rw [h]; exact nz26_null
  have h4 : nz26 (xat 4 ((k, (2, v)) :: us) k) = 1 := by rw [xat4_self]; exact nz26_ref
  have e0 : ∀ j, j ≠ k → nz26 (xat 4 ((k, (2, v)) :: us) j) = nz26 (xat 4 us j) := fun j hj => by rw [xat4_ne hj]
  unfold nn26
  rcases (show k = 0 ∨ k = 1 ∨ k = 2 by omega) with rfl | rfl | rfl
  · have a := e0 1 (by decide)
    have b := e0 2 (by decide)
    omega
  · have a := e0 0 (by decide)
    have b := e0 2 (by decide)
    omega
  · have a := e0 0 (by decide)
    have b := e0 1 (by decide)
    omega
theorem xR26.add {us : List (Nat × xV)} {m k : Nat} (h : xR26 m us) : xR26 (m + 1) ((k, (2, 114 + 25 * m)) :: us) := by
  intro j hj
  by_cases hjk : j = k
  · subst hjk
    exact Or.inr ⟨m, by omega, xat4_self⟩
  · rw [xat4_ne hjk]
    rcases h j hj with q | ⟨i, q1, q2⟩
    · exact Or.inl q
    · exact Or.inr ⟨i, by omega, q2⟩
theorem n23 {v : Nat} : ((2, v) : xV) ≠ (3, 0) := fun z => absurd (congrArg Prod.fst z) (show ¬ (2 : Nat) = 3 by decide)
theorem nullAdd {us : List (Nat × xV)} {k v j : Nat} : (xat 4 ((k, (2, v)) :: us) j = (3, 0) ↔ (xat 4 us j = (3, 0) ∧ j ≠ k)) := by
  by_cases h : j = k
  · subst h
    rw [xat4_self]
    exact ⟨fun z => absurd z n23, fun z => absurd rfl z.2⟩
  · rw [xat4_ne h]
    exact ⟨fun z => ⟨z, h⟩, fun z => z.1⟩
theorem nullKeep {us : List (Nat × xV)} {k v j : Nat} (hz : xat 4 us k = (2, v)) : (xat 4 us j = (3, 0) ↔ (xat 4 us j = (3, 0) ∧ j ≠ k)) := by
  refine ⟨fun z => ⟨z, fun e => ?_⟩, fun z => z.1⟩
  subst e
  rw [hz] at z
  exact absurd z n23
theorem xFr.old {S : List Nat} {w w' : List (List xE)} {a : Nat} (h : xFr S w w') (hs : ∀ k ∈ S, a ≤ k) (k : Nat) (hk : k < a) : wget w' k = wget w k := h.1 k (fun z => absurd (hs k z) (by omega))
/-- what holds between the calls: m images are there -/
def xLI (m : Nat) (w : List (List xE)) : Prop := xInv w ∧ xMnv w ∧ w.map List.length = shp (114 + 25 * m) ∧ xIm 114 (114 + 25 * m) w ∧ ∃ us, wget w 26 = some (.inr (4, 3, 12, us)) ∧ xR26 m us ∧ nn26 us = m
theorem xLI.cls {m : Nat} {w w' : List (List xE)} {S : List Nat} (h : xLI m w) (hI : xInv w') (hf : xFr S w w') (hs : ∀ k ∈ S, k < 82 ∧ k ≠ 26) : xLI m w' := by
  obtain ⟨-, h2, h3, h4, us, h5, h6, h7⟩ := h
  exact ⟨hI, h2.fr hf (fun k hk => Or.inl (hs k hk).1), hf.2.trans h3, h4.fr hf (fun k hk => by have := (hs k hk).1; omega), us, hf.get (fun z => (hs 26 z).2 rfl) h5, h6, h7⟩
theorem xLI.mdl {m : Nat} {w w' : List (List xE)} {S : List Nat} (h : xLI m w) (hI : xMnv w') (hf : xFr S w w') (hs : ∀ k ∈ S, 82 ≤ k ∧ k < 114) : xLI m w' := by
  obtain ⟨h1, -, h3, h4, us, h5, h6, h7⟩ := h
  exact ⟨h1.fr hf (fun k hk => (hs k hk).1), hI, hf.2.trans h3, h4.fr hf (fun k hk => (hs k hk).2), us, hf.get (fun z => absurd (hs 26 z).1 (by decide)) h5, h6, h7⟩
section XIN
variable {d : Nat} {w : List (List xE)} {bd : List (Nat × Nat)} {fc : List (Nat × Nat × Bool)}
set_option maxRecDepth 100000 in
theorem scImage0 {kk : Nat} {us0 : List (Nat × xV)} (hL : xLI 0 w) (hI : xInv w) (hMn : xMnv w) (hs : w.map List.length = shp (114 + 25 * 0)) (hJ : xIm 114 (114 + 25 * 0) w) (h26 : wget w 26 = some (.inr (4, 3, 12, us0))) (hv : xR26 0 us0) (hnn : nn26 us0 = 0) (h0 : cp0 (wget w 0)) (hz : xat 4 us0 kk = (3, 0)) (hkk : kk < 3) : xTo (d + 4) mX11_image (25, [(25, 3, 24, 9, 0, 7), (28, 1, 19, 0, 0, 0), (29, 3, 13, 325, 77, 9), (32, 1, 48, 0, 0, 0)], [(0, (2, 0)), (1, (0, kk))], [(0, kk), (2, 26)], (w, bd, fc, 0, 0, 81 + 12 * 0, 114 + 25 * 0)) (fun φ => ∃ r w' cn' sl' rr', xEnd 4 r (w', bd, fc, cn', sl', rr') φ ∧ cn' ≤ 25 ∧ sl' ≤ 4088 ∧ ∃ n, r = [(0, n)] ∧ (((kk ≤ 2 ∧ n = 1) ∨ (¬ kk ≤ 2 ∧ n = 0)) ∧ (∀ k, k < 114 → k ≠ 26 → wget w' k = wget w k) ∧ ∃ ua ub, wget w 26 = some (.inr (4, 3, 12, ua)) ∧ wget w' 26 = some (.inr (4, 3, 12, ub)) ∧ (∀ j, j < 3 → (xat 4 ub j = (3, 0) ↔ (xat 4 ua j = (3, 0) ∧ j ≠ kk))) ∧ (kk ≤ 2 → ∃ q, xat 4 ub kk = (2, 114 + 25 * q) ∧ ((xat 4 ua kk = (3, 0) ∧ q = 0) ∨ xat 4 ua kk = (2, 114 + 25 * q)) ∧ tdE w' (114 + 25 * q) w 1 ∧ (∀ k, k < 114 + 25 * 0 → (k < 114 + 25 * q ∨ 139 + 25 * q ≤ k) → k ≠ 26 → wget w' k = wget w k) ∧ ∀ j, j < 3 → j ≠ kk → xat 4 ub j = xat 4 ua j) ∧ (¬ kk ≤ 2 → w' = w)) ∧ ∃ m', rr' = (81 + 12 * m', 114 + 25 * m') ∧ xLI m' w') := by
  have hs0 : w.map List.length = shp 114 := hs
  refine xg_newO (nc := 114) (na := 81) (cn := 0) (sl := 0) (fs := [(3, 0), (0, 0), (0, 0), (0, 0), (3, 0), (3, 0), (0, 0), (0, 0), (3, 0), (0, 0), (3, 0), (3, 0), (3, 0), (3, 0)]) rfl hs0 (show 0 < 25 by decide) (show 0 + 14 ≤ 4088 by decide) (fun w1 s1 n1 k1 => ?_)
  refine xg_t (xg_dup rfl) ?_
  refine xg_cI mX9_init (vs := []) (rest := [(2, 114), (0, kk), (2, 26)]) (rr := (81, 115)) (cn := 1) (sl := 14) (cn1 := 25) (sl1 := 4088) rfl (niTold (c := 114) s1 n1 (by decide)) rfl rfl rfl rfl rfl rfl rfl rfl (fun w2 rr2 hq2 => ?_)
  obtain ⟨rfl, s2, c0, c1, c2, c3, c4, c5, c6, c7, c8, c9, c10, c11, c12, c13, c14, c15, c16, c17, c18, c19, c20, c21, c22, c23, c24, kp⟩ := hq2
  have e2 := wkeep hs0 (w' := w2) (fun k q h3 h4 => kp k q (by omega) (by omega) (k1 k q h4))
  have hJ2 : xIm 114 139 w2 := by
    intro k h1 h2
    rcases (show k = 114 ∨ k = 115 ∨ k = 116 ∨ k = 117 ∨ k = 118 ∨ k = 119 ∨ k = 120 ∨ k = 121 ∨ k = 122 ∨ k = 123 ∨ k = 124 ∨ k = 125 ∨ k = 126 ∨ k = 127 ∨ k = 128 ∨ k = 129 ∨ k = 130 ∨ k = 131 ∨ k = 132 ∨ k = 133 ∨ k = 134 ∨ k = 135 ∨ k = 136 ∨ k = 137 ∨ k = 138 by omega) with rfl | rfl | rfl | rfl | rfl | rfl | rfl | rfl | rfl | rfl | rfl | rfl | rfl | rfl | rfl | rfl | rfl | rfl | rfl | rfl | rfl | rfl | rfl | rfl | rfl
    · exact (show cp114 (wget w2 114) from ⟨0, 0, 4294967295, 0, 4294967295, 0, c0, by decide, by decide, by decide, by decide, by decide, by decide⟩)
    · exact (show cpY 500 81 (wget w2 115) from ⟨fun _ => 0, ⟨[], c1, fun _ _ => rfl⟩, fun _ => Or.inl (Nat.zero_le _)⟩)
    · exact (show cp116 (wget w2 116) from ⟨1, 1, 1, 1, 0, c2, by decide, by decide, by decide, by decide, by decide⟩)
    · exact (show cp117 (wget w2 117) from ⟨0, c3, by decide⟩)
    · exact (show cpI 24 82 4294967295 (wget w2 118) from ⟨fun _ => 0, ⟨[], c4, fun _ _ => rfl⟩, fun _ => Nat.zero_le _⟩)
    · exact (show cp119 (wget w2 119) from ⟨0, c5, by decide⟩)
    · exact (show cpI 8 83 4294967295 (wget w2 120) from ⟨fun _ => 0, ⟨[], c6, fun _ _ => rfl⟩, fun _ => Nat.zero_le _⟩)
    · exact (show cp121 (wget w2 121) from ⟨0, c7, by decide⟩)
    · exact (show cpI 12 84 4294967295 (wget w2 122) from ⟨fun _ => 0, ⟨[], c8, fun _ _ => rfl⟩, fun _ => Nat.zero_le _⟩)
    · exact (show cp123 (wget w2 123) from ⟨0, c9, by decide⟩)
    · exact (show cpI 12 85 4294967295 (wget w2 124) from ⟨fun _ => 0, ⟨[], c10, fun _ _ => rfl⟩, fun _ => Nat.zero_le _⟩)
    · exact (show cp125 (wget w2 125) from ⟨0, c11, by decide⟩)
    · exact (show cpI 40 86 4294967295 (wget w2 126) from ⟨fun _ => 0, ⟨[], c12, fun _ _ => rfl⟩, fun _ => Nat.zero_le _⟩)
    · exact (show cp127 (wget w2 127) from ⟨0, c13, by decide⟩)
    · exact (show cpI 200 87 4294967295 (wget w2 128) from ⟨fun _ => 0, ⟨[], c14, fun _ _ => rfl⟩, fun _ => Nat.zero_le _⟩)
    · exact (show cp129 (wget w2 129) from ⟨0, c15, by decide⟩)
    · exact (show cpI 60 88 4294967295 (wget w2 130) from ⟨fun _ => 0, ⟨[], c16, fun _ _ => rfl⟩, fun _ => Nat.zero_le _⟩)
    · exact (show cp131 (wget w2 131) from ⟨0, c17, by decide⟩)
    · exact (show cpI 12 89 4294967295 (wget w2 132) from ⟨fun _ => 0, ⟨[], c18, fun _ _ => rfl⟩, fun _ => Nat.zero_le _⟩)
    · exact (show cp133 (wget w2 133) from ⟨0, c19, by decide⟩)
    · exact (show cpI 48 90 4294967295 (wget w2 134) from ⟨fun _ => 0, ⟨[], c20, fun _ _ => rfl⟩, fun _ => Nat.zero_le _⟩)
    · exact (show cp135 (wget w2 135) from ⟨0, c21, by decide⟩)
    · exact (show cpI 32 91 4294967295 (wget w2 136) from ⟨fun _ => 0, ⟨[], c22, fun _ _ => rfl⟩, fun _ => Nat.zero_le _⟩)
    · exact (show cp137 (wget w2 137) from ⟨0, c23, by decide⟩)
    · exact (show cpI 320 92 4294967295 (wget w2 138) from ⟨fun _ => 0, ⟨[], c24, fun _ _ => rfl⟩, fun _ => Nat.zero_le _⟩)
  refine xg_aast (n := kk) (v := 114) ((e2 26 (by decide)).trans h26) xnm0 hkk c0 hz (fun w3 h3 b3 => ?_)
  have hF3 : xFr [26] w2 w3 := xFr.of (S := [26]) b3 (by decide)
  have h03 := hF3.get (by decide) ((e2 0 (by decide)).trans h0)
  have hI3 : xInv w3 := xInv.up (S := [26]) (hI.keep (fun k hk => e2 k (by omega))) hF3 (List.forall_mem_cons.mpr ⟨trivial, fun _ h => absurd h List.not_mem_nil⟩)
  have hM3 : xMnv w3 := (hMn.keep (fun k hk _ => e2 k (by omega))).fr hF3 (by decide)
  have hJ3 : xIm 114 139 w3 := hJ2.fr hF3 (by decide)
  have hJ0 : xIm 114 139 w3 := (((show xIm 114 114 w from hJ).keep (fun k _ hk => e2 k hk)).fr hF3 (by decide)).join hJ3
  refine xg_t (xg_blq rfl) ?_
  refine xg_t (xg_aload (va := (2, 0)) rfl rfl) ?_
  refine xg_t (xg_getf (va := (2, 26)) h03 rfl) ?_
  refine xg_t (xg_iload (va := (0, kk)) rfl rfl) ?_
  refine xg_t (xg_aald (n := kk) (vb := (2, 114)) h3 xnm0 (by omega) xat4_self) ?_
  refine xg_t (xg_aload (va := (2, 0)) rfl rfl) ?_
  refine xg_t (xg_getf (va := (2, 1)) h03 rfl) ?_
  refine xg_cVv mX9_copy (vs := [(2, 1)]) (rest := []) (cn := 25) (sl := 4088) (cn1 := 25) (sl1 := 4088) rfl (imToldE01 hI3 hJ3) rfl (hF3.get (by decide) c0) rfl rfl rfl rfl rfl rfl (fun w4 hq4 => ?_)
  obtain ⟨hI4, hF4, hJ4, hT⟩ := hq4
  have hin4 : ∀ k ∈ [114, 115, 116, 117, 118, 119, 120, 121, 122, 123, 124, 125, 126, 127, 128, 129, 130, 131, 132, 133, 134, 135, 136, 137, 138], 114 ≤ k ∧ k < 139 := by decide
  refine xg_t (xg_const) ?_
  exact xg_e ⟨[(0, 1)], w4, 25, 4088, (93, 139), ⟨rfl, rfl⟩, by decide, by decide, 1, rfl, ⟨Or.inl ⟨by omega, rfl⟩, fun k h1 h2 => (hF4.old (by decide) k h1).trans ((hF3.1 k (fun z => h2 (List.mem_singleton.mp z))).trans (e2 k (by omega))), us0, _, h26, hF4.get (by decide) h3, fun j _ => nullAdd, fun _ => ⟨0, xat4_self, Or.inl ⟨hz, rfl⟩, hT.tr0 (fun _ _ => rfl) (fun o ho => (hF3.1 (1 + o) (fun z => absurd (List.mem_singleton.mp z) (by omega))).trans (e2 (1 + o) (by omega))), fun k h1 h2 h3 => (hF4.1 k (fun z => absurd (hin4 k z) (by omega))).trans ((hF3.1 k (fun z => h3 (List.mem_singleton.mp z))).trans (e2 k (by omega))), fun j _ hj => xat4_ne hj⟩, fun h => absurd (show kk ≤ 2 by omega) h⟩, 1, rfl, hI4, hM3.fr hF4 (by decide), hF4.2.trans (hF3.2.trans s2), xIm.mix hJ0 hF4 (by decide) hJ4, _, hF4.get (by decide) h3, xR26.add (m := 0) hv, (nn26_add hkk hz).trans (by rw [hnn])⟩
set_option maxRecDepth 100000 in
theorem scImage1 {kk : Nat} {us0 : List (Nat × xV)} (hL : xLI 1 w) (hI : xInv w) (hMn : xMnv w) (hs : w.map List.length = shp (114 + 25 * 1)) (hJ : xIm 114 (114 + 25 * 1) w) (h26 : wget w 26 = some (.inr (4, 3, 12, us0))) (hv : xR26 1 us0) (hnn : nn26 us0 = 1) (h0 : cp0 (wget w 0)) (hz : xat 4 us0 kk = (3, 0)) (hkk : kk < 3) : xTo (d + 4) mX11_image (25, [(25, 3, 24, 9, 0, 7), (28, 1, 19, 0, 0, 0), (29, 3, 13, 325, 77, 9), (32, 1, 48, 0, 0, 0)], [(0, (2, 0)), (1, (0, kk))], [(0, kk), (2, 26)], (w, bd, fc, 0, 0, 81 + 12 * 1, 114 + 25 * 1)) (fun φ => ∃ r w' cn' sl' rr', xEnd 4 r (w', bd, fc, cn', sl', rr') φ ∧ cn' ≤ 25 ∧ sl' ≤ 4088 ∧ ∃ n, r = [(0, n)] ∧ (((kk ≤ 2 ∧ n = 1) ∨ (¬ kk ≤ 2 ∧ n = 0)) ∧ (∀ k, k < 114 → k ≠ 26 → wget w' k = wget w k) ∧ ∃ ua ub, wget w 26 = some (.inr (4, 3, 12, ua)) ∧ wget w' 26 = some (.inr (4, 3, 12, ub)) ∧ (∀ j, j < 3 → (xat 4 ub j = (3, 0) ↔ (xat 4 ua j = (3, 0) ∧ j ≠ kk))) ∧ (kk ≤ 2 → ∃ q, xat 4 ub kk = (2, 114 + 25 * q) ∧ ((xat 4 ua kk = (3, 0) ∧ q = 1) ∨ xat 4 ua kk = (2, 114 + 25 * q)) ∧ tdE w' (114 + 25 * q) w 1 ∧ (∀ k, k < 114 + 25 * 1 → (k < 114 + 25 * q ∨ 139 + 25 * q ≤ k) → k ≠ 26 → wget w' k = wget w k) ∧ ∀ j, j < 3 → j ≠ kk → xat 4 ub j = xat 4 ua j) ∧ (¬ kk ≤ 2 → w' = w)) ∧ ∃ m', rr' = (81 + 12 * m', 114 + 25 * m') ∧ xLI m' w') := by
  have hs0 : w.map List.length = shp 139 := hs
  refine xg_newO (nc := 139) (na := 93) (cn := 0) (sl := 0) (fs := [(3, 0), (0, 0), (0, 0), (0, 0), (3, 0), (3, 0), (0, 0), (0, 0), (3, 0), (0, 0), (3, 0), (3, 0), (3, 0), (3, 0)]) rfl hs0 (show 0 < 25 by decide) (show 0 + 14 ≤ 4088 by decide) (fun w1 s1 n1 k1 => ?_)
  refine xg_t (xg_dup rfl) ?_
  refine xg_cI mX9_init (vs := []) (rest := [(2, 139), (0, kk), (2, 26)]) (rr := (93, 140)) (cn := 1) (sl := 14) (cn1 := 25) (sl1 := 4088) rfl (niTold (c := 139) s1 n1 (by decide)) rfl rfl rfl rfl rfl rfl rfl rfl (fun w2 rr2 hq2 => ?_)
  obtain ⟨rfl, s2, c0, c1, c2, c3, c4, c5, c6, c7, c8, c9, c10, c11, c12, c13, c14, c15, c16, c17, c18, c19, c20, c21, c22, c23, c24, kp⟩ := hq2
  have e2 := wkeep hs0 (w' := w2) (fun k q h3 h4 => kp k q (by omega) (by omega) (k1 k q h4))
  have hJ2 : xIm 139 164 w2 := by
    intro k h1 h2
    rcases (show k = 139 ∨ k = 140 ∨ k = 141 ∨ k = 142 ∨ k = 143 ∨ k = 144 ∨ k = 145 ∨ k = 146 ∨ k = 147 ∨ k = 148 ∨ k = 149 ∨ k = 150 ∨ k = 151 ∨ k = 152 ∨ k = 153 ∨ k = 154 ∨ k = 155 ∨ k = 156 ∨ k = 157 ∨ k = 158 ∨ k = 159 ∨ k = 160 ∨ k = 161 ∨ k = 162 ∨ k = 163 by omega) with rfl | rfl | rfl | rfl | rfl | rfl | rfl | rfl | rfl | rfl | rfl | rfl | rfl | rfl | rfl | rfl | rfl | rfl | rfl | rfl | rfl | rfl | rfl | rfl | rfl
    · exact (show cp139 (wget w2 139) from ⟨0, 0, 4294967295, 0, 4294967295, 0, c0, by decide, by decide, by decide, by decide, by decide, by decide⟩)
    · exact (show cpY 500 93 (wget w2 140) from ⟨fun _ => 0, ⟨[], c1, fun _ _ => rfl⟩, fun _ => Or.inl (Nat.zero_le _)⟩)
    · exact (show cp141 (wget w2 141) from ⟨1, 1, 1, 1, 0, c2, by decide, by decide, by decide, by decide, by decide⟩)
    · exact (show cp142 (wget w2 142) from ⟨0, c3, by decide⟩)
    · exact (show cpI 24 94 4294967295 (wget w2 143) from ⟨fun _ => 0, ⟨[], c4, fun _ _ => rfl⟩, fun _ => Nat.zero_le _⟩)
    · exact (show cp144 (wget w2 144) from ⟨0, c5, by decide⟩)
    · exact (show cpI 8 95 4294967295 (wget w2 145) from ⟨fun _ => 0, ⟨[], c6, fun _ _ => rfl⟩, fun _ => Nat.zero_le _⟩)
    · exact (show cp146 (wget w2 146) from ⟨0, c7, by decide⟩)
    · exact (show cpI 12 96 4294967295 (wget w2 147) from ⟨fun _ => 0, ⟨[], c8, fun _ _ => rfl⟩, fun _ => Nat.zero_le _⟩)
    · exact (show cp148 (wget w2 148) from ⟨0, c9, by decide⟩)
    · exact (show cpI 12 97 4294967295 (wget w2 149) from ⟨fun _ => 0, ⟨[], c10, fun _ _ => rfl⟩, fun _ => Nat.zero_le _⟩)
    · exact (show cp150 (wget w2 150) from ⟨0, c11, by decide⟩)
    · exact (show cpI 40 98 4294967295 (wget w2 151) from ⟨fun _ => 0, ⟨[], c12, fun _ _ => rfl⟩, fun _ => Nat.zero_le _⟩)
    · exact (show cp152 (wget w2 152) from ⟨0, c13, by decide⟩)
    · exact (show cpI 200 99 4294967295 (wget w2 153) from ⟨fun _ => 0, ⟨[], c14, fun _ _ => rfl⟩, fun _ => Nat.zero_le _⟩)
    · exact (show cp154 (wget w2 154) from ⟨0, c15, by decide⟩)
    · exact (show cpI 60 100 4294967295 (wget w2 155) from ⟨fun _ => 0, ⟨[], c16, fun _ _ => rfl⟩, fun _ => Nat.zero_le _⟩)
    · exact (show cp156 (wget w2 156) from ⟨0, c17, by decide⟩)
    · exact (show cpI 12 101 4294967295 (wget w2 157) from ⟨fun _ => 0, ⟨[], c18, fun _ _ => rfl⟩, fun _ => Nat.zero_le _⟩)
    · exact (show cp158 (wget w2 158) from ⟨0, c19, by decide⟩)
    · exact (show cpI 48 102 4294967295 (wget w2 159) from ⟨fun _ => 0, ⟨[], c20, fun _ _ => rfl⟩, fun _ => Nat.zero_le _⟩)
    · exact (show cp160 (wget w2 160) from ⟨0, c21, by decide⟩)
    · exact (show cpI 32 103 4294967295 (wget w2 161) from ⟨fun _ => 0, ⟨[], c22, fun _ _ => rfl⟩, fun _ => Nat.zero_le _⟩)
    · exact (show cp162 (wget w2 162) from ⟨0, c23, by decide⟩)
    · exact (show cpI 320 104 4294967295 (wget w2 163) from ⟨fun _ => 0, ⟨[], c24, fun _ _ => rfl⟩, fun _ => Nat.zero_le _⟩)
  refine xg_aast (n := kk) (v := 139) ((e2 26 (by decide)).trans h26) xnm0 hkk c0 hz (fun w3 h3 b3 => ?_)
  have hF3 : xFr [26] w2 w3 := xFr.of (S := [26]) b3 (by decide)
  have h03 := hF3.get (by decide) ((e2 0 (by decide)).trans h0)
  have hI3 : xInv w3 := xInv.up (S := [26]) (hI.keep (fun k hk => e2 k (by omega))) hF3 (List.forall_mem_cons.mpr ⟨trivial, fun _ h => absurd h List.not_mem_nil⟩)
  have hM3 : xMnv w3 := (hMn.keep (fun k hk _ => e2 k (by omega))).fr hF3 (by decide)
  have hJ3 : xIm 139 164 w3 := hJ2.fr hF3 (by decide)
  have hJ0 : xIm 114 164 w3 := (((show xIm 114 139 w from hJ).keep (fun k _ hk => e2 k hk)).fr hF3 (by decide)).join hJ3
  refine xg_t (xg_blq rfl) ?_
  refine xg_t (xg_aload (va := (2, 0)) rfl rfl) ?_
  refine xg_t (xg_getf (va := (2, 26)) h03 rfl) ?_
  refine xg_t (xg_iload (va := (0, kk)) rfl rfl) ?_
  refine xg_t (xg_aald (n := kk) (vb := (2, 139)) h3 xnm0 (by omega) xat4_self) ?_
  refine xg_t (xg_aload (va := (2, 0)) rfl rfl) ?_
  refine xg_t (xg_getf (va := (2, 1)) h03 rfl) ?_
  refine xg_cVv mX9_copy (vs := [(2, 1)]) (rest := []) (cn := 25) (sl := 4088) (cn1 := 25) (sl1 := 4088) rfl (imToldE11 hI3 hJ3) rfl (hF3.get (by decide) c0) rfl rfl rfl rfl rfl rfl (fun w4 hq4 => ?_)
  obtain ⟨hI4, hF4, hJ4, hT⟩ := hq4
  have hin4 : ∀ k ∈ [139, 140, 141, 142, 143, 144, 145, 146, 147, 148, 149, 150, 151, 152, 153, 154, 155, 156, 157, 158, 159, 160, 161, 162, 163], 139 ≤ k ∧ k < 164 := by decide
  refine xg_t (xg_const) ?_
  exact xg_e ⟨[(0, 1)], w4, 25, 4088, (105, 164), ⟨rfl, rfl⟩, by decide, by decide, 1, rfl, ⟨Or.inl ⟨by omega, rfl⟩, fun k h1 h2 => (hF4.old (by decide) k h1).trans ((hF3.1 k (fun z => h2 (List.mem_singleton.mp z))).trans (e2 k (by omega))), us0, _, h26, hF4.get (by decide) h3, fun j _ => nullAdd, fun _ => ⟨1, xat4_self, Or.inl ⟨hz, rfl⟩, hT.tr0 (fun _ _ => rfl) (fun o ho => (hF3.1 (1 + o) (fun z => absurd (List.mem_singleton.mp z) (by omega))).trans (e2 (1 + o) (by omega))), fun k h1 h2 h3 => (hF4.1 k (fun z => absurd (hin4 k z) (by omega))).trans ((hF3.1 k (fun z => h3 (List.mem_singleton.mp z))).trans (e2 k (by omega))), fun j _ hj => xat4_ne hj⟩, fun h => absurd (show kk ≤ 2 by omega) h⟩, 2, rfl, hI4, hM3.fr hF4 (by decide), hF4.2.trans (hF3.2.trans s2), xIm.mix hJ0 hF4 (by decide) hJ4, _, hF4.get (by decide) h3, xR26.add (m := 1) hv, (nn26_add hkk hz).trans (by rw [hnn])⟩
set_option maxRecDepth 100000 in
theorem scImage2 {kk : Nat} {us0 : List (Nat × xV)} (hL : xLI 2 w) (hI : xInv w) (hMn : xMnv w) (hs : w.map List.length = shp (114 + 25 * 2)) (hJ : xIm 114 (114 + 25 * 2) w) (h26 : wget w 26 = some (.inr (4, 3, 12, us0))) (hv : xR26 2 us0) (hnn : nn26 us0 = 2) (h0 : cp0 (wget w 0)) (hz : xat 4 us0 kk = (3, 0)) (hkk : kk < 3) : xTo (d + 4) mX11_image (25, [(25, 3, 24, 9, 0, 7), (28, 1, 19, 0, 0, 0), (29, 3, 13, 325, 77, 9), (32, 1, 48, 0, 0, 0)], [(0, (2, 0)), (1, (0, kk))], [(0, kk), (2, 26)], (w, bd, fc, 0, 0, 81 + 12 * 2, 114 + 25 * 2)) (fun φ => ∃ r w' cn' sl' rr', xEnd 4 r (w', bd, fc, cn', sl', rr') φ ∧ cn' ≤ 25 ∧ sl' ≤ 4088 ∧ ∃ n, r = [(0, n)] ∧ (((kk ≤ 2 ∧ n = 1) ∨ (¬ kk ≤ 2 ∧ n = 0)) ∧ (∀ k, k < 114 → k ≠ 26 → wget w' k = wget w k) ∧ ∃ ua ub, wget w 26 = some (.inr (4, 3, 12, ua)) ∧ wget w' 26 = some (.inr (4, 3, 12, ub)) ∧ (∀ j, j < 3 → (xat 4 ub j = (3, 0) ↔ (xat 4 ua j = (3, 0) ∧ j ≠ kk))) ∧ (kk ≤ 2 → ∃ q, xat 4 ub kk = (2, 114 + 25 * q) ∧ ((xat 4 ua kk = (3, 0) ∧ q = 2) ∨ xat 4 ua kk = (2, 114 + 25 * q)) ∧ tdE w' (114 + 25 * q) w 1 ∧ (∀ k, k < 114 + 25 * 2 → (k < 114 + 25 * q ∨ 139 + 25 * q ≤ k) → k ≠ 26 → wget w' k = wget w k) ∧ ∀ j, j < 3 → j ≠ kk → xat 4 ub j = xat 4 ua j) ∧ (¬ kk ≤ 2 → w' = w)) ∧ ∃ m', rr' = (81 + 12 * m', 114 + 25 * m') ∧ xLI m' w') := by
  have hs0 : w.map List.length = shp 164 := hs
  refine xg_newO (nc := 164) (na := 105) (cn := 0) (sl := 0) (fs := [(3, 0), (0, 0), (0, 0), (0, 0), (3, 0), (3, 0), (0, 0), (0, 0), (3, 0), (0, 0), (3, 0), (3, 0), (3, 0), (3, 0)]) rfl hs0 (show 0 < 25 by decide) (show 0 + 14 ≤ 4088 by decide) (fun w1 s1 n1 k1 => ?_)
  refine xg_t (xg_dup rfl) ?_
  refine xg_cI mX9_init (vs := []) (rest := [(2, 164), (0, kk), (2, 26)]) (rr := (105, 165)) (cn := 1) (sl := 14) (cn1 := 25) (sl1 := 4088) rfl (niTold (c := 164) s1 n1 (by decide)) rfl rfl rfl rfl rfl rfl rfl rfl (fun w2 rr2 hq2 => ?_)
  obtain ⟨rfl, s2, c0, c1, c2, c3, c4, c5, c6, c7, c8, c9, c10, c11, c12, c13, c14, c15, c16, c17, c18, c19, c20, c21, c22, c23, c24, kp⟩ := hq2
  have e2 := wkeep hs0 (w' := w2) (fun k q h3 h4 => kp k q (by omega) (by omega) (k1 k q h4))
  have hJ2 : xIm 164 189 w2 := by
    intro k h1 h2
    rcases (show k = 164 ∨ k = 165 ∨ k = 166 ∨ k = 167 ∨ k = 168 ∨ k = 169 ∨ k = 170 ∨ k = 171 ∨ k = 172 ∨ k = 173 ∨ k = 174 ∨ k = 175 ∨ k = 176 ∨ k = 177 ∨ k = 178 ∨ k = 179 ∨ k = 180 ∨ k = 181 ∨ k = 182 ∨ k = 183 ∨ k = 184 ∨ k = 185 ∨ k = 186 ∨ k = 187 ∨ k = 188 by omega) with rfl | rfl | rfl | rfl | rfl | rfl | rfl | rfl | rfl | rfl | rfl | rfl | rfl | rfl | rfl | rfl | rfl | rfl | rfl | rfl | rfl | rfl | rfl | rfl | rfl
    · exact (show cp164 (wget w2 164) from ⟨0, 0, 4294967295, 0, 4294967295, 0, c0, by decide, by decide, by decide, by decide, by decide, by decide⟩)
    · exact (show cpY 500 105 (wget w2 165) from ⟨fun _ => 0, ⟨[], c1, fun _ _ => rfl⟩, fun _ => Or.inl (Nat.zero_le _)⟩)
    · exact (show cp166 (wget w2 166) from ⟨1, 1, 1, 1, 0, c2, by decide, by decide, by decide, by decide, by decide⟩)
    · exact (show cp167 (wget w2 167) from ⟨0, c3, by decide⟩)
    · exact (show cpI 24 106 4294967295 (wget w2 168) from ⟨fun _ => 0, ⟨[], c4, fun _ _ => rfl⟩, fun _ => Nat.zero_le _⟩)
    · exact (show cp169 (wget w2 169) from ⟨0, c5, by decide⟩)
    · exact (show cpI 8 107 4294967295 (wget w2 170) from ⟨fun _ => 0, ⟨[], c6, fun _ _ => rfl⟩, fun _ => Nat.zero_le _⟩)
    · exact (show cp171 (wget w2 171) from ⟨0, c7, by decide⟩)
    · exact (show cpI 12 108 4294967295 (wget w2 172) from ⟨fun _ => 0, ⟨[], c8, fun _ _ => rfl⟩, fun _ => Nat.zero_le _⟩)
    · exact (show cp173 (wget w2 173) from ⟨0, c9, by decide⟩)
    · exact (show cpI 12 109 4294967295 (wget w2 174) from ⟨fun _ => 0, ⟨[], c10, fun _ _ => rfl⟩, fun _ => Nat.zero_le _⟩)
    · exact (show cp175 (wget w2 175) from ⟨0, c11, by decide⟩)
    · exact (show cpI 40 110 4294967295 (wget w2 176) from ⟨fun _ => 0, ⟨[], c12, fun _ _ => rfl⟩, fun _ => Nat.zero_le _⟩)
    · exact (show cp177 (wget w2 177) from ⟨0, c13, by decide⟩)
    · exact (show cpI 200 111 4294967295 (wget w2 178) from ⟨fun _ => 0, ⟨[], c14, fun _ _ => rfl⟩, fun _ => Nat.zero_le _⟩)
    · exact (show cp179 (wget w2 179) from ⟨0, c15, by decide⟩)
    · exact (show cpI 60 112 4294967295 (wget w2 180) from ⟨fun _ => 0, ⟨[], c16, fun _ _ => rfl⟩, fun _ => Nat.zero_le _⟩)
    · exact (show cp181 (wget w2 181) from ⟨0, c17, by decide⟩)
    · exact (show cpI 12 113 4294967295 (wget w2 182) from ⟨fun _ => 0, ⟨[], c18, fun _ _ => rfl⟩, fun _ => Nat.zero_le _⟩)
    · exact (show cp183 (wget w2 183) from ⟨0, c19, by decide⟩)
    · exact (show cpI 48 114 4294967295 (wget w2 184) from ⟨fun _ => 0, ⟨[], c20, fun _ _ => rfl⟩, fun _ => Nat.zero_le _⟩)
    · exact (show cp185 (wget w2 185) from ⟨0, c21, by decide⟩)
    · exact (show cpI 32 115 4294967295 (wget w2 186) from ⟨fun _ => 0, ⟨[], c22, fun _ _ => rfl⟩, fun _ => Nat.zero_le _⟩)
    · exact (show cp187 (wget w2 187) from ⟨0, c23, by decide⟩)
    · exact (show cpI 320 116 4294967295 (wget w2 188) from ⟨fun _ => 0, ⟨[], c24, fun _ _ => rfl⟩, fun _ => Nat.zero_le _⟩)
  refine xg_aast (n := kk) (v := 164) ((e2 26 (by decide)).trans h26) xnm0 hkk c0 hz (fun w3 h3 b3 => ?_)
  have hF3 : xFr [26] w2 w3 := xFr.of (S := [26]) b3 (by decide)
  have h03 := hF3.get (by decide) ((e2 0 (by decide)).trans h0)
  have hI3 : xInv w3 := xInv.up (S := [26]) (hI.keep (fun k hk => e2 k (by omega))) hF3 (List.forall_mem_cons.mpr ⟨trivial, fun _ h => absurd h List.not_mem_nil⟩)
  have hM3 : xMnv w3 := (hMn.keep (fun k hk _ => e2 k (by omega))).fr hF3 (by decide)
  have hJ3 : xIm 164 189 w3 := hJ2.fr hF3 (by decide)
  have hJ0 : xIm 114 189 w3 := (((show xIm 114 164 w from hJ).keep (fun k _ hk => e2 k hk)).fr hF3 (by decide)).join hJ3
  refine xg_t (xg_blq rfl) ?_
  refine xg_t (xg_aload (va := (2, 0)) rfl rfl) ?_
  refine xg_t (xg_getf (va := (2, 26)) h03 rfl) ?_
  refine xg_t (xg_iload (va := (0, kk)) rfl rfl) ?_
  refine xg_t (xg_aald (n := kk) (vb := (2, 164)) h3 xnm0 (by omega) xat4_self) ?_
  refine xg_t (xg_aload (va := (2, 0)) rfl rfl) ?_
  refine xg_t (xg_getf (va := (2, 1)) h03 rfl) ?_
  refine xg_cVv mX9_copy (vs := [(2, 1)]) (rest := []) (cn := 25) (sl := 4088) (cn1 := 25) (sl1 := 4088) rfl (imToldE21 hI3 hJ3) rfl (hF3.get (by decide) c0) rfl rfl rfl rfl rfl rfl (fun w4 hq4 => ?_)
  obtain ⟨hI4, hF4, hJ4, hT⟩ := hq4
  have hin4 : ∀ k ∈ [164, 165, 166, 167, 168, 169, 170, 171, 172, 173, 174, 175, 176, 177, 178, 179, 180, 181, 182, 183, 184, 185, 186, 187, 188], 164 ≤ k ∧ k < 189 := by decide
  refine xg_t (xg_const) ?_
  exact xg_e ⟨[(0, 1)], w4, 25, 4088, (117, 189), ⟨rfl, rfl⟩, by decide, by decide, 1, rfl, ⟨Or.inl ⟨by omega, rfl⟩, fun k h1 h2 => (hF4.old (by decide) k h1).trans ((hF3.1 k (fun z => h2 (List.mem_singleton.mp z))).trans (e2 k (by omega))), us0, _, h26, hF4.get (by decide) h3, fun j _ => nullAdd, fun _ => ⟨2, xat4_self, Or.inl ⟨hz, rfl⟩, hT.tr0 (fun _ _ => rfl) (fun o ho => (hF3.1 (1 + o) (fun z => absurd (List.mem_singleton.mp z) (by omega))).trans (e2 (1 + o) (by omega))), fun k h1 h2 h3 => (hF4.1 k (fun z => absurd (hin4 k z) (by omega))).trans ((hF3.1 k (fun z => h3 (List.mem_singleton.mp z))).trans (e2 k (by omega))), fun j _ hj => xat4_ne hj⟩, fun h => absurd (show kk ≤ 2 by omega) h⟩, 3, rfl, hI4, hM3.fr hF4 (by decide), hF4.2.trans (hF3.2.trans s2), xIm.mix hJ0 hF4 (by decide) hJ4, _, hF4.get (by decide) h3, xR26.add (m := 2) hv, (nn26_add hkk hz).trans (by rw [hnn])⟩
set_option maxRecDepth 100000 in
theorem scImage {m kk : Nat} (hL : xLI m w) (hkk : kk ≤ 4294967295) : xPk (d + 4) mX11_image [(2, 0), (0, kk)] w bd fc (81 + 12 * m, 114 + 25 * m) (fun r w' rr' => ∃ n, r = [(0, n)] ∧ (((kk ≤ 2 ∧ n = 1) ∨ (¬ kk ≤ 2 ∧ n = 0)) ∧ (∀ k, k < 114 → k ≠ 26 → wget w' k = wget w k) ∧ ∃ ua ub, wget w 26 = some (.inr (4, 3, 12, ua)) ∧ wget w' 26 = some (.inr (4, 3, 12, ub)) ∧ (∀ j, j < 3 → (xat 4 ub j = (3, 0) ↔ (xat 4 ua j = (3, 0) ∧ j ≠ kk))) ∧ (kk ≤ 2 → ∃ q, xat 4 ub kk = (2, 114 + 25 * q) ∧ ((xat 4 ua kk = (3, 0) ∧ q = m) ∨ xat 4 ua kk = (2, 114 + 25 * q)) ∧ tdE w' (114 + 25 * q) w 1 ∧ (∀ k, k < 114 + 25 * m → (k < 114 + 25 * q ∨ 139 + 25 * q ≤ k) → k ≠ 26 → wget w' k = wget w k) ∧ ∀ j, j < 3 → j ≠ kk → xat 4 ub j = xat 4 ua j) ∧ (¬ kk ≤ 2 → w' = w)) ∧ ∃ m', rr' = (81 + 12 * m', 114 + 25 * m') ∧ xLI m' w') := by
  obtain ⟨hI, hMn, hs, hJ, us0, h26, hv, hnn⟩ := id hL
  refine xPk.of ?_
  show xTo (d + 4) mX11_image (0, [], [(0, (2, 0)), (1, (0, kk))], [], (w, bd, fc, 0, 0, 81 + 12 * m, 114 + 25 * m)) (fun φ => ∃ r w' cn' sl' rr', xEnd 4 r (w', bd, fc, cn', sl', rr') φ ∧ cn' ≤ 25 ∧ sl' ≤ 4088 ∧ ∃ n, r = [(0, n)] ∧ (((kk ≤ 2 ∧ n = 1) ∨ (¬ kk ≤ 2 ∧ n = 0)) ∧ (∀ k, k < 114 → k ≠ 26 → wget w' k = wget w k) ∧ ∃ ua ub, wget w 26 = some (.inr (4, 3, 12, ua)) ∧ wget w' 26 = some (.inr (4, 3, 12, ub)) ∧ (∀ j, j < 3 → (xat 4 ub j = (3, 0) ↔ (xat 4 ua j = (3, 0) ∧ j ≠ kk))) ∧ (kk ≤ 2 → ∃ q, xat 4 ub kk = (2, 114 + 25 * q) ∧ ((xat 4 ua kk = (3, 0) ∧ q = m) ∨ xat 4 ua kk = (2, 114 + 25 * q)) ∧ tdE w' (114 + 25 * q) w 1 ∧ (∀ k, k < 114 + 25 * m → (k < 114 + 25 * q ∨ 139 + 25 * q ≤ k) → k ≠ 26 → wget w' k = wget w k) ∧ ∀ j, j < 3 → j ≠ kk → xat 4 ub j = xat 4 ua j) ∧ (¬ kk ≤ 2 → w' = w)) ∧ ∃ m', rr' = (81 + 12 * m', 114 + 25 * m') ∧ xLI m' w')
  have h0 := (xqc0 hI : cp0 (wget w 0))
  refine xg_t (xg_blq rfl) ?_
  refine xg_t (xg_iload (va := (0, kk)) rfl rfl) ?_
  refine xg_t (xg_const) ?_
  refine xg_t (xg_const) ?_
  refine xg_t (xg_cSr mX11_isIn (vs := [(0, kk), (0, 0), (0, 2)]) (rest := []) (rs := [(0, if 0 ≤ kk ∧ kk ≤ 2 then 1 else 0)]) (cn1 := 0) (sl1 := 0) rfl (isIn_ok (by omega) (by omega) (by omega)) rfl rfl rfl rfl rfl rfl rfl rfl) ?_
  by_cases hc : 0 ≤ kk ∧ kk ≤ 2
  · refine xg_t (xg_ifT (u := (if 0 ≤ kk ∧ kk ≤ 2 then 1 else 0)) rfl xnm0 (xj_neT (xite1 hc))) ?_
    refine xg_t (xg_blq rfl) ?_
    refine xg_t (xg_aload (va := (2, 0)) rfl rfl) ?_
    refine xg_t (xg_getf (va := (2, 26)) h0 rfl) ?_
    refine xg_t (xg_iload (va := (0, kk)) rfl rfl) ?_
    rcases hv kk (by omega) with hz | ⟨q4, hq5, hz⟩
    · refine xg_t (xg_aald (n := kk) (vb := (3, 0)) h26 xnm0 (by omega) hz) ?_
      refine xg_t (xg_ifnnF) ?_
      refine xg_t (xg_aload (va := (2, 0)) rfl rfl) ?_
      refine xg_t (xg_getf (va := (2, 26)) h0 rfl) ?_
      refine xg_t (xg_iload (va := (0, kk)) rfl rfl) ?_
      have hm2 := nn26_two (by omega) hz
      rcases (show m = 0 ∨ m = 1 ∨ m = 2 by omega) with rfl | rfl | rfl
      · exact scImage0 hL hI hMn hs hJ h26 hv hnn h0 hz (by omega)
      · exact scImage1 hL hI hMn hs hJ h26 hv hnn h0 hz (by omega)
      · exact scImage2 hL hI hMn hs hJ h26 hv hnn h0 hz (by omega)
    · rcases (show q4 = 0 ∨ q4 = 1 ∨ q4 = 2 by have := nn26_le (us := us0); omega) with rfl | rfl | rfl
      · refine xg_t (xg_aald (n := kk) (vb := (2, 114)) h26 xnm0 (by omega) hz) ?_
        refine xg_t (xg_ifnnT) ?_
        have hJq : xIm 114 139 w := xIm.sub hJ (by omega) (by omega)
        obtain ⟨f1, f2, f3, f6, f7, f9, hb, -⟩ := (hJq 114 (by decide) (by decide) : cp114 (wget w 114))
        refine xg_t (xg_blq rfl) ?_
        refine xg_t (xg_aload (va := (2, 0)) rfl rfl) ?_
        refine xg_t (xg_getf (va := (2, 26)) h0 rfl) ?_
        refine xg_t (xg_iload (va := (0, kk)) rfl rfl) ?_
        refine xg_t (xg_aald (n := kk) (vb := (2, 114)) h26 xnm0 (by omega) hz) ?_
        refine xg_t (xg_aload (va := (2, 0)) rfl rfl) ?_
        refine xg_t (xg_getf (va := (2, 1)) h0 rfl) ?_
        refine xg_cVv mX9_copy (vs := [(2, 1)]) (rest := []) (cn := 0) (sl := 0) (cn1 := 0) (sl1 := 0) rfl (imToldE01 hI hJq) rfl hb rfl rfl rfl rfl rfl rfl (fun w4 hq4 => ?_)
        obtain ⟨hI4, hF4, hJ4, hT⟩ := hq4
        have hin4 : ∀ k ∈ [114, 115, 116, 117, 118, 119, 120, 121, 122, 123, 124, 125, 126, 127, 128, 129, 130, 131, 132, 133, 134, 135, 136, 137, 138], 114 ≤ k ∧ k < 139 := by decide
        refine xg_t (xg_const) ?_
        exact xg_e ⟨[(0, 1)], w4, 0, 0, (81 + 12 * m, 114 + 25 * m), ⟨rfl, rfl⟩, by decide, by decide, 1, rfl, ⟨Or.inl ⟨by omega, rfl⟩, fun k h1 h2 => hF4.old (by decide) k h1, us0, us0, h26, hF4.get (by decide) h26, fun j _ => nullKeep hz, fun _ => ⟨0, hz, Or.inr hz, hT, fun k h1 h2 _ => hF4.1 k (fun z => absurd (hin4 k z) (by omega)), fun j _ _ => rfl⟩, fun h => absurd (show kk ≤ 2 by omega) h⟩, m, rfl, hI4, hMn.fr hF4 (by decide), hF4.2.trans hs, xIm.mix hJ hF4 (by decide) hJ4, us0, hF4.get (by decide) h26, hv, hnn⟩
      · refine xg_t (xg_aald (n := kk) (vb := (2, 139)) h26 xnm0 (by omega) hz) ?_
        refine xg_t (xg_ifnnT) ?_
        have hJq : xIm 139 164 w := xIm.sub hJ (by omega) (by omega)
        obtain ⟨f1, f2, f3, f6, f7, f9, hb, -⟩ := (hJq 139 (by decide) (by decide) : cp139 (wget w 139))
        refine xg_t (xg_blq rfl) ?_
        refine xg_t (xg_aload (va := (2, 0)) rfl rfl) ?_
        refine xg_t (xg_getf (va := (2, 26)) h0 rfl) ?_
        refine xg_t (xg_iload (va := (0, kk)) rfl rfl) ?_
        refine xg_t (xg_aald (n := kk) (vb := (2, 139)) h26 xnm0 (by omega) hz) ?_
        refine xg_t (xg_aload (va := (2, 0)) rfl rfl) ?_
        refine xg_t (xg_getf (va := (2, 1)) h0 rfl) ?_
        refine xg_cVv mX9_copy (vs := [(2, 1)]) (rest := []) (cn := 0) (sl := 0) (cn1 := 0) (sl1 := 0) rfl (imToldE11 hI hJq) rfl hb rfl rfl rfl rfl rfl rfl (fun w4 hq4 => ?_)
        obtain ⟨hI4, hF4, hJ4, hT⟩ := hq4
        have hin4 : ∀ k ∈ [139, 140, 141, 142, 143, 144, 145, 146, 147, 148, 149, 150, 151, 152, 153, 154, 155, 156, 157, 158, 159, 160, 161, 162, 163], 139 ≤ k ∧ k < 164 := by decide
        refine xg_t (xg_const) ?_
        exact xg_e ⟨[(0, 1)], w4, 0, 0, (81 + 12 * m, 114 + 25 * m), ⟨rfl, rfl⟩, by decide, by decide, 1, rfl, ⟨Or.inl ⟨by omega, rfl⟩, fun k h1 h2 => hF4.old (by decide) k h1, us0, us0, h26, hF4.get (by decide) h26, fun j _ => nullKeep hz, fun _ => ⟨1, hz, Or.inr hz, hT, fun k h1 h2 _ => hF4.1 k (fun z => absurd (hin4 k z) (by omega)), fun j _ _ => rfl⟩, fun h => absurd (show kk ≤ 2 by omega) h⟩, m, rfl, hI4, hMn.fr hF4 (by decide), hF4.2.trans hs, xIm.mix hJ hF4 (by decide) hJ4, us0, hF4.get (by decide) h26, hv, hnn⟩
      · refine xg_t (xg_aald (n := kk) (vb := (2, 164)) h26 xnm0 (by omega) hz) ?_
        refine xg_t (xg_ifnnT) ?_
        have hJq : xIm 164 189 w := xIm.sub hJ (by omega) (by omega)
        obtain ⟨f1, f2, f3, f6, f7, f9, hb, -⟩ := (hJq 164 (by decide) (by decide) : cp164 (wget w 164))
        refine xg_t (xg_blq rfl) ?_
        refine xg_t (xg_aload (va := (2, 0)) rfl rfl) ?_
        refine xg_t (xg_getf (va := (2, 26)) h0 rfl) ?_
        refine xg_t (xg_iload (va := (0, kk)) rfl rfl) ?_
        refine xg_t (xg_aald (n := kk) (vb := (2, 164)) h26 xnm0 (by omega) hz) ?_
        refine xg_t (xg_aload (va := (2, 0)) rfl rfl) ?_
        refine xg_t (xg_getf (va := (2, 1)) h0 rfl) ?_
        refine xg_cVv mX9_copy (vs := [(2, 1)]) (rest := []) (cn := 0) (sl := 0) (cn1 := 0) (sl1 := 0) rfl (imToldE21 hI hJq) rfl hb rfl rfl rfl rfl rfl rfl (fun w4 hq4 => ?_)
        obtain ⟨hI4, hF4, hJ4, hT⟩ := hq4
        have hin4 : ∀ k ∈ [164, 165, 166, 167, 168, 169, 170, 171, 172, 173, 174, 175, 176, 177, 178, 179, 180, 181, 182, 183, 184, 185, 186, 187, 188], 164 ≤ k ∧ k < 189 := by decide
        refine xg_t (xg_const) ?_
        exact xg_e ⟨[(0, 1)], w4, 0, 0, (81 + 12 * m, 114 + 25 * m), ⟨rfl, rfl⟩, by decide, by decide, 1, rfl, ⟨Or.inl ⟨by omega, rfl⟩, fun k h1 h2 => hF4.old (by decide) k h1, us0, us0, h26, hF4.get (by decide) h26, fun j _ => nullKeep hz, fun _ => ⟨2, hz, Or.inr hz, hT, fun k h1 h2 _ => hF4.1 k (fun z => absurd (hin4 k z) (by omega)), fun j _ _ => rfl⟩, fun h => absurd (show kk ≤ 2 by omega) h⟩, m, rfl, hI4, hMn.fr hF4 (by decide), hF4.2.trans hs, xIm.mix hJ hF4 (by decide) hJ4, us0, hF4.get (by decide) h26, hv, hnn⟩
  · refine xg_t (xg_ifF (u := (if 0 ≤ kk ∧ kk ≤ 2 then 1 else 0)) rfl xnm0 (xj_neF (xite0 hc))) ?_
    refine xg_t (xg_const) ?_
    exact xg_e ⟨[(0, 0)], w, 0, 0, (81 + 12 * m, 114 + 25 * m), ⟨rfl, rfl⟩, by decide, by decide, 0, rfl, ⟨Or.inr ⟨by omega, rfl⟩, fun k _ _ => rfl, us0, us0, h26, h26, fun j hj => ⟨fun z => ⟨z, by omega⟩, fun z => z.1⟩, fun h => absurd h (by omega), fun _ => rfl⟩, m, rfl, hL⟩
end XIN
