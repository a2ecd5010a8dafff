/-! calls that make cells; what a constructor's instructions do -/
section XCK2
variable {d p0 pc ln x y ix v k n t L j : Nat} {M M' : xM} {P : xS → Prop} {tl : List xI} {lo : xLo} {st rest vs : List xV} {hp : xH} {hr : xHr} {va vb : xV} {w w' : List (List xE)} {bd : List (Nat × Nat)} {fc : List (Nat × Nat × Bool)} {cn sl cn1 sl1 cn' sl' : Nat} {rr rr' : Nat × Nat} {fl fl1 : List xV} {us : List (Nat × xV)} {r : List xV} {Q : List (List xE) → Nat × Nat → Prop}
/-- what a method does that makes cells -/
def xPk (d : Nat) (M : xM) (vs : List xV) (w : List (List xE)) (bd : List (Nat × Nat)) (fc : List (Nat × Nat × Bool)) (rr : Nat × Nat) (Q : List xV → List (List xE) → Nat × Nat → Prop) : Prop := ∃ (φ : xS) (r : List xV) (w' : List (List xE)) (cn' sl' : Nat) (rr' : Nat × Nat), xLd d M (0, [], xarg vs 0, [], (w, bd, fc, 0, 0, rr)) [φ] ∧ xret M.2.2.2.2.2.1 φ = some r ∧ φ.2.2.2.2 = (w', bd, fc, cn', sl', rr') ∧ cn' ≤ M.2.2.2.2.2.2.1 ∧ sl' ≤ M.2.2.2.2.2.2.2.1 ∧ Q r w' rr'
theorem xPk.of {Q : List xV → List (List xE) → Nat × Nat → Prop} (h : xTo d M (0, [], xarg vs 0, [], (w, bd, fc, 0, 0, rr)) (fun φ => ∃ r w' cn' sl' rr', xEnd M.2.2.2.2.2.1 r (w', bd, fc, cn', sl', rr') φ ∧ cn' ≤ M.2.2.2.2.2.2.1 ∧ sl' ≤ M.2.2.2.2.2.2.2.1 ∧ Q r w' rr')) : xPk d M vs w bd fc rr Q := by
  obtain ⟨φ, h1, r, w', cn', sl', rr', ⟨h2, h3⟩, h4, h5, h6⟩ := h
  exact ⟨φ, r, w', cn', sl', rr', h1, h2, h3, h4, h5, h6⟩
theorem xc2k {φ : xS} {e : xI} (hr : xret M'.2.2.2.2.2.1 φ = some r) (hφ : φ.2.2.2.2 = (w', bd, fc, cn', sl', rr')) (hc : cn' ≤ M'.2.2.2.2.2.2.1) (hs : sl' ≤ M'.2.2.2.2.2.2.2.1) (hb : ((Nat.ble (cn + M'.2.2.2.2.2.2.1) M.2.2.2.2.2.2.1 && Nat.ble (xwds vs) M'.2.2.1) && (Nat.ble (sl + M'.2.2.2.2.2.2.2.1) M.2.2.2.2.2.2.2.1 && Nat.ble (xwds rest) 8)) = true) : xcall2 (xihc d M' (0, [], xarg vs 0, [], (w, bd, fc, 0, 0, rr)) φ) (d + 1) M e tl lo (w, bd, fc, cn, sl, rr) M' d vs rest = some [(e.1 + e.2.1, tl, lo, r ++ rest, (w', bd, fc, cn + M'.2.2.2.2.2.2.1, sl + M'.2.2.2.2.2.2.2.1, rr'))] := by
  unfold xcall2
  show xif ((Nat.ble (cn + M'.2.2.2.2.2.2.1) M.2.2.2.2.2.2.1 && Nat.ble (xwds vs) M'.2.2.1) && (Nat.ble (sl + M'.2.2.2.2.2.2.2.1) M.2.2.2.2.2.2.2.1 && Nat.ble (xwds rest) 8)) (xob (xihc d M' (0, [], xarg vs 0, [], (w, bd, fc, 0, 0, rr)) φ d M' (0, [], xarg vs 0, [], (w, bd, fc, 0, 0, rr))) fun fs => xall (xihc d M' (0, [], xarg vs 0, [], (w, bd, fc, 0, 0, rr)) φ (d + 1) M) (xback M' e tl lo rest (w, bd, fc, cn, sl, rr)) fs) = _
  rw [hb, xihc_at]
  show xob (xback M' e tl lo rest (w, bd, fc, cn, sl, rr) φ) (xihc d M' (0, [], xarg vs 0, [], (w, bd, fc, 0, 0, rr)) φ (d + 1) M) = _
  have e1 : xback M' e tl lo rest (w, bd, fc, cn, sl, rr) φ = some (e.1 + e.2.1, tl, lo, r ++ rest, (w', bd, fc, cn + M'.2.2.2.2.2.2.1, sl + M'.2.2.2.2.2.2.2.1, rr')) := by
    unfold xback
    rw [hr, hφ]
    show xif (Nat.ble cn' M'.2.2.2.2.2.2.1 && Nat.ble sl' M'.2.2.2.2.2.2.2.1) (xN (cn + M'.2.2.2.2.2.2.1) fun cn => xN (sl + M'.2.2.2.2.2.2.2.1) fun sl => some (e.1 + e.2.1, tl, lo, r ++ rest, (w', bd, fc, cn, sl, rr'))) = _
    rw [Nat.ble_eq_true_of_le hc, Nat.ble_eq_true_of_le hs, xN_eq, xN_eq]
    rfl
  rw [e1]
  exact xihc_ne (by omega)
/-- a constructor is called -/
theorem xg_cI (M' : xM) (hk : mget x = some M') (hP : xPk d M' ((2, j) :: vs) w bd fc rr (fun r w' rr' => r = [] ∧ Q w' rr')) (hy1 : Nat.ble (y % 8) 1 = false) (hy3 : Nat.ble (y % 8) 3 = false) (hn : Nat.beq (st.take M'.2.2.2.2.1).length M'.2.2.2.2.1 = true) (hv : (st.take M'.2.2.2.2.1).reverse = vs) (hr : st.drop M'.2.2.2.2.1 = (2, j) :: rest) (hb : ((Nat.ble (cn + M'.2.2.2.2.2.2.1) M.2.2.2.2.2.2.1 && Nat.ble (xwds ((2, j) :: vs)) M'.2.2.1) && (Nat.ble (sl + M'.2.2.2.2.2.2.2.1) M.2.2.2.2.2.2.2.1 && Nat.ble (xwds rest) 8)) = true) (h1 : cn + M'.2.2.2.2.2.2.1 = cn1) (h2 : sl + M'.2.2.2.2.2.2.2.1 = sl1) (K : ∀ w' rr', Q w' rr' → xTo (d + 1) M (pc + ln, tl, lo, rest, (w', bd, fc, cn1, sl1, rr')) P) : xTo (d + 1) M (p0, (pc, ln, 13, x, y, ix) :: tl, lo, st, (w, bd, fc, cn, sl, rr)) P := by
  obtain ⟨φ, r, w', cn', sl', rr', q1, q2, q3, q4, q5, q6, q7⟩ := hP
  subst h1
  subst h2
  subst q6
  refine xg_t (τ := (pc + ln, tl, lo, rest, (w', bd, fc, cn + M'.2.2.2.2.2.2.1, sl + M'.2.2.2.2.2.2.2.1, rr'))) ?_ (K w' rr' q7)
  intro hM hpos
  refine xstep_ok xmall (xihc_ok q1) (d + 1) M _ _ ?_ hM hpos
  show xob (mget x) (fun M' => xcall1 (xihc d _ (0, [], xarg ((2, j) :: vs) 0, [], (w, bd, fc, 0, 0, rr)) φ) (d + 1) M (pc, ln, 13, x, y, ix) tl lo st (w, bd, fc, cn, sl, rr) M' d) = _
  rw [hk]
  show xcall1 (xihc d M' (0, [], xarg ((2, j) :: vs) 0, [], (w, bd, fc, 0, 0, rr)) φ) (d + 1) M (pc, ln, 13, x, y, ix) tl lo st (w, bd, fc, cn, sl, rr) M' d = _
  unfold xcall1
  rw [hn, hv, hr]
  show cond (Nat.ble (y % 8) 1) _ (cond (Nat.ble (y % 8) 3) _ (xcall2 (xihc d M' (0, [], xarg ((2, j) :: vs) 0, [], (w, bd, fc, 0, 0, rr)) φ) (d + 1) M (pc, ln, 13, x, y, ix) tl lo (w, bd, fc, cn, sl, rr) M' d ((2, j) :: vs) rest)) = _
  rw [hy1, hy3]
  exact xc2k q2 q3 q4 q5 hb
/-- a method that makes cells and answers an int -/
theorem xg_cVk {Q : Nat → List (List xE) → Nat × Nat → Prop} (M' : xM) (hk : mget x = some M') (hP : xPk d M' ((2, j) :: vs) w bd fc rr (fun r w' rr' => ∃ n, r = [(0, n)] ∧ Q n w' rr')) (hy : y % 8 = 0) (ho : wget w j = some (.inl (y / 8, fl))) (hn : Nat.beq (st.take M'.2.2.2.2.1).length M'.2.2.2.2.1 = true) (hv : (st.take M'.2.2.2.2.1).reverse = vs) (hr : st.drop M'.2.2.2.2.1 = (2, j) :: rest) (hb : ((Nat.ble (cn + M'.2.2.2.2.2.2.1) M.2.2.2.2.2.2.1 && Nat.ble (xwds ((2, j) :: vs)) M'.2.2.1) && (Nat.ble (sl + M'.2.2.2.2.2.2.2.1) M.2.2.2.2.2.2.2.1 && Nat.ble (xwds rest) 8)) = true) (h1 : cn + M'.2.2.2.2.2.2.1 = cn1) (h2 : sl + M'.2.2.2.2.2.2.2.1 = sl1) (K : ∀ n w' rr', Q n w' rr' → xTo (d + 1) M (pc + ln, tl, lo, (0, n) :: rest, (w', bd, fc, cn1, sl1, rr')) P) : xTo (d + 1) M (p0, (pc, ln, 13, x, y, ix) :: tl, lo, st, (w, bd, fc, cn, sl, rr)) P := by
  obtain ⟨φ, r, w', cn', sl', rr', q1, q2, q3, q4, q5, n, q6, q7⟩ := hP
  subst h1
  subst h2
  subst q6
  refine xg_t (τ := (pc + ln, tl, lo, (0, n) :: rest, (w', bd, fc, cn + M'.2.2.2.2.2.2.1, sl + M'.2.2.2.2.2.2.2.1, rr'))) ?_ (K n w' rr' q7)
  intro hM hpos
  refine xstep_ok xmall (xihc_ok q1) (d + 1) M _ _ ?_ hM hpos
  show xob (mget x) (fun M' => xcall1 (xihc d _ (0, [], xarg ((2, j) :: vs) 0, [], (w, bd, fc, 0, 0, rr)) φ) (d + 1) M (pc, ln, 13, x, y, ix) tl lo st (w, bd, fc, cn, sl, rr) M' d) = _
  rw [hk]
  show xcall1 (xihc d M' (0, [], xarg ((2, j) :: vs) 0, [], (w, bd, fc, 0, 0, rr)) φ) (d + 1) M (pc, ln, 13, x, y, ix) tl lo st (w, bd, fc, cn, sl, rr) M' d = _
  unfold xcall1
  rw [hn, hv, hr]
  show cond (Nat.ble (y % 8) 1) (xob (wget w j) fun q => xobj q fun o => xif (Nat.beq o.1 (y / 8)) (xcall2 (xihc d M' (0, [], xarg ((2, j) :: vs) 0, [], (w, bd, fc, 0, 0, rr)) φ) (d + 1) M (pc, ln, 13, x, y, ix) tl lo (w, bd, fc, cn, sl, rr) M' d ((2, j) :: vs) rest)) _ = _
  rw [hy, ho]
  show xif (Nat.beq (y / 8) (y / 8)) _ = _
  rw [Nat.beq_refl]
  exact xc2k q2 q3 q4 q5 hb
theorem xg_oini (hd : Nat.blt 0 d = true) (hs : Nat.ble st.length 4 = true) : xLd d M (p0, (pc, ln, 25, x, y, ix) :: tl, lo, (2, k) :: st, hp) [(pc + ln, tl, lo, st, hp)] := by
  refine xg_op (f := xh_objinit) rfl ?_
  show xif (true && (Nat.blt 0 d && Nat.ble st.length 4)) (xidk d M (pc + ln, tl, lo, st, hp)) = _
  rw [hd, hs]
  rfl
theorem xg_putFR (hN : decide (M.1.name = "<init>") = true) (h : wget w k = some (.inl (x, fl))) (hv : xget fl y = some vb) (hi : xisr va = true) (hx : xset va fl y = fl1) (K : ∀ w', wget w' k = some (.inl (x, fl1)) → xBut k w w' → xTo d M (pc + ln, tl, lo, st, (w', hr)) P) : xTo d M (p0, (pc, ln, 61, x, y, ix) :: tl, lo, va :: (2, k) :: st, (w, hr)) P := by
  subst hx
  refine xg_t (xg_op (f := xh_putFR) (fs := [(pc + ln, tl, lo, st, (wset (.inl (x, xset va fl y)) w k, hr))]) rfl ?_) (K _ (wget_set_self h) (xBut.set h))
  show xif (decide (M.1.name = "<init>")) (xif (xisr va && Nat.beq 2 2) (xob (wget w k) fun q => xobj q (xpf1 xidk d M (pc, ln, 61, x, y, ix) tl lo st (w, hr) va k))) = _
  rw [hN, hi, h]
  show xif (Nat.beq x x) (xob (xget fl y) fun _ => xidk d M (pc + ln, tl, lo, st, xwr (w, hr) k (.inl (x, xset va fl y)))) = _
  rw [Nat.beq_refl, hv]
  rfl
theorem xg_putFI (hN : decide (M.1.name = "<init>") = true) (h : wget w k = some (.inl (x, fl))) (hv : xget fl y = some vb) (hi : xisi va = true) (hx : xset va fl y = fl1) (K : ∀ w', wget w' k = some (.inl (x, fl1)) → xBut k w w' → xTo d M (pc + ln, tl, lo, st, (w', hr)) P) : xTo d M (p0, (pc, ln, 22, x, y, ix) :: tl, lo, va :: (2, k) :: st, (w, hr)) P := by
  subst hx
  refine xg_t (xg_op (f := xh_putFI) (fs := [(pc + ln, tl, lo, st, (wset (.inl (x, xset va fl y)) w k, hr))]) rfl ?_) (K _ (wget_set_self h) (xBut.set h))
  show xif (decide (M.1.name = "<init>")) (xif (xisi va && Nat.beq 2 2) (xob (wget w k) fun q => xobj q (xpf1 xidk d M (pc, ln, 22, x, y, ix) tl lo st (w, hr) va k))) = _
  rw [hN, hi, h]
  show xif (Nat.beq x x) (xob (xget fl y) fun _ => xidk d M (pc + ln, tl, lo, st, xwr (w, hr) k (.inl (x, xset va fl y)))) = _
  rw [Nat.beq_refl, hv]
  rfl
theorem xg_aast (h : wget w k = some (.inr (4, L, t, us))) (hi : xnm hr.1 va = (0, n)) (hn : n < L) (hv : wget w v = some (.inl (9, fl))) (hz : xat 4 us n = (3, 0)) (K : ∀ w', wget w' k = some (.inr (4, L, t, (n, (2, v)) :: us)) → xBut k w w' → xTo d M (pc + ln, tl, lo, st, (w', hr)) P) : xTo d M (p0, (pc, ln, 48, x, y, ix) :: tl, lo, (2, v) :: va :: (2, k) :: st, (w, hr)) P := by
  refine xg_t (xg_op (f := xh_aastore) (fs := [(pc + ln, tl, lo, st, (wset (.inr (4, L, t, (n, (2, v)) :: us)) w k, hr))]) rfl ?_) (K _ (wget_set_self h) (xBut.set h))
  show xif (Nat.beq 2 2 && Nat.beq 2 2) (xob (wget w v) fun qv => xobj qv fun ov => xif (Nat.beq ov.1 9) (xob (wget w k) fun q => xarr q fun a => xif (Nat.beq a.1 4) (xast1 xidk d M (pc, ln, 48, x, y, ix) tl lo st (w, hr) k (2, v) (xnm hr.1 va) a))) = _
  rw [hv, h, hi]
  show xif (true && Nat.blt n L) (cond (xsame (2, v) (xat 4 us n)) (xidk d M (pc + ln, tl, lo, st, (w, hr))) (xidk d M (pc + ln, tl, lo, st, xwr (w, hr) k (.inr (4, L, t, (n, (2, v)) :: us))))) = _
  rw [xblt_t hn, hz]
  rfl
theorem xat4_cons {q : xV} {u : Nat} : xat 4 ((n, q) :: us) u = cond (Nat.beq n u) q (xat 4 us u) := by
  show Option.rec (motive := fun _ => xV) (cond (Nat.beq 4 4) (3, 0) (cond (Nat.beq 4 3) (4, 0) (0, 0))) (fun v => v) (cond (Nat.beq n u) (some q) (xfind us u)) = _
  cases Nat.beq n u <;> rfl
end XCK2
/-- the shape says which cells there are -/
theorem wget_ex {α : Type} : ∀ {w : List (List α)} {n k : Nat}, w.map List.length = shp n → k < n → ∃ q, wget w k = some q
  | [], n, k, h, hk => by
    exfalso
    rcases Nat.lt_or_ge n 10 with q | q
    · unfold shp at h
      have e : n / 10 = 0 := by omega
      rw [e] at h
      by_cases z : n % 10 = 0
      · omega
      · rw [if_neg z] at h
        cases h
    · rw [shp_ge q] at h
      cases h
  | c :: t, n, k, h, hk => by
    by_cases hn : 10 ≤ n
    · rw [shp_ge hn] at h
      have h : c.length :: t.map List.length = 10 :: shp (n - 10) := h
      injection h with h1 h2
      by_cases hk' : k < 10
      · have e1 : xget (c :: t) (k / 10) = some c := by
          rw [show k / 10 = 0 by omega]
          rfl
        rw [wget_of e1, xget_eq]
        exact ⟨c[k % 10]'(by omega), List.getElem?_eq_getElem _⟩
      · obtain ⟨q, hq⟩ := wget_ex (w := t) (k := k - 10) h2 (by omega)
        obtain ⟨c', h3, h4⟩ := wget_some hq
        have e1 : xget (c :: t) (k / 10) = some c' := by
          rw [show k / 10 = (k - 10) / 10 + 1 by omega]
          exact h3
        rw [wget_of e1, show k % 10 = (k - 10) % 10 by omega]
        exact ⟨q, h4⟩
    · have e1 : n / 10 = 0 := by omega
      have e2 : n % 10 = n := by omega
      unfold shp at h
      rw [e1, e2, if_neg (by omega)] at h
      have h : c.length :: t.map List.length = [n] := h
      injection h with h1 h2
      have e3 : xget (c :: t) (k / 10) = some c := by
        rw [show k / 10 = 0 by omega]
        rfl
      rw [wget_of e3, xget_eq]
      exact ⟨c[k % 10]'(by omega), List.getElem?_eq_getElem _⟩
theorem wkeep {w w' : List (List xE)} {n : Nat} (hs : w.map List.length = shp n) (hk : ∀ k q, k < n → wget w k = some q → wget w' k = some q) : ∀ k, k < n → wget w' k = wget w k := fun k h => by
  obtain ⟨q, e⟩ := wget_ex hs h
  rw [e, hk k q h e]
theorem xInv.keep {w w' : List (List xE)} (h : xInv w) (hk : ∀ k, k < 82 → wget w' k = wget w k) : xInv w' := fun k h1 => by
  rw [hk k h1]
  exact h k h1
theorem xMnv.keep {w w' : List (List xE)} (h : xMnv w) (hk : ∀ k, k < 114 → 82 ≤ k → wget w' k = wget w k) : xMnv w' := fun k h1 h2 => by
  rw [hk k h1 h2]
  exact h k h1 h2
theorem xIm.keep {w w' : List (List xE)} {a b : Nat} (h : xIm a b w) (hk : ∀ k, a ≤ k → k < b → wget w' k = wget w k) : xIm a b w' := fun k h1 h2 => by
  rw [hk k h1 h2]
  exact h k h1 h2
theorem xIm.join {w : List (List xE)} {a b c : Nat} (h : xIm a b w) (h' : xIm b c w) : xIm a c w := fun k h1 h2 => by
  rcases Nat.lt_or_ge k b with q | q
  · exact h k h1 q
  · exact h' k q h2
theorem xInv.fr {w w' : List (List xE)} {S : List Nat} (h : xInv w) (hf : xFr S w w') (hs : ∀ k ∈ S, 82 ≤ k) : xInv w' := h.keep (fun k hk => hf.1 k (fun z => absurd (hs k z) (by omega)))
theorem xMnv.fr {w w' : List (List xE)} {S : List Nat} (h : xMnv w) (hf : xFr S w w') (hs : ∀ k ∈ S, k < 82 ∨ 114 ≤ k) : xMnv w' := h.keep (fun k h1 h2 => hf.1 k (fun z => absurd (hs k z) (by omega)))
theorem xIm.fr {w w' : List (List xE)} {S : List Nat} {a b : Nat} (h : xIm a b w) (hf : xFr S w w') (hs : ∀ k ∈ S, k < a) : xIm a b w' := h.keep (fun k h1 h2 => hf.1 k (fun z => absurd (hs k z) (by omega)))
theorem xIm.mix {w w' : List (List xE)} {S : List Nat} {a b a' b' : Nat} (h : xIm a b w) (hf : xFr S w w') (hs : ∀ k ∈ S, a' ≤ k ∧ k < b') (h' : xIm a' b' w') : xIm a b w' := fun k h1 h2 => by
  by_cases hc : k ∈ S
  · exact h' k (hs k hc).1 (hs k hc).2
  · rw [hf.1 k hc]
    exact h k h1 h2
