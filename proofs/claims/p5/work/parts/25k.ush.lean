/-! a shift without a sign -/
section XUS
variable {d p0 pc ln x y ix u v z : Nat} {M : xM} {tl : List xI} {lo : xLo} {st : List xV} {hp : xH} {va vb : xV}
theorem xg_iushr (ha : xnm hp.2.1 va = (0, u)) (hb : xnm hp.2.1 vb = (0, v)) (hv : v < 32) (hz : u / 2 ^ v = z) : xLd d M (p0, (pc, ln, 42, x, y, ix) :: tl, lo, vb :: va :: st, hp) [(pc + ln, tl, lo, (0, z) :: st, hp)] := xg_bin (F := fun a b => a / 2 ^ b) (chk := fun _ b => Nat.blt b 32) (al := false) (bo := xany) rfl ha hb (Nat.ble_eq_true_of_le hv) hz
theorem xush_lt (hu : u < 4294967296) : u / 2 ^ v < 4294967296 := Nat.lt_of_le_of_lt (Nat.div_le_self _ _) hu
end XUS
theorem xqm {sx st m : Nat} (h1 : 0 < sx) (h2 : sx < 2147483648) (h3 : 0 < st) (h4 : st < 2147483648) (h : (sx + 2147483648) % 4294967296 - 2147483648 < m + 1) : ((sx + (4294967296 - st)) % 4294967296 + 2147483648) % 4294967296 - 2147483648 < m := by
  have e1 : (sx + 2147483648) % 4294967296 = sx + 2147483648 := Nat.mod_eq_of_lt (by omega)
  rw [e1, Nat.add_sub_cancel] at h
  rcases Nat.lt_or_ge sx st with hc | hc
  · have e2 : ((sx + (4294967296 - st)) % 4294967296 + 2147483648) % 4294967296 ≤ 2147483648 := by omega
    rw [Nat.sub_eq_zero_of_le e2]
    clear e1 e2
    omega
  · have e2 : ((sx + (4294967296 - st)) % 4294967296 + 2147483648) % 4294967296 = (sx - st) + 2147483648 := by omega
    rw [e2, Nat.add_sub_cancel]
    clear e1 e2
    omega
theorem xsw_y {df u : Nat} {q : Nat × Nat} {ks : List (Nat × Nat)} (h : u = q.1) : xswt df u (q :: ks) = q.2 := if_pos h
theorem xsw_n {df u z : Nat} {q : Nat × Nat} {ks : List (Nat × Nat)} (h : ¬ u = q.1) (e : xswt df u ks = z) : xswt df u (q :: ks) = z := (if_neg h).trans e
theorem xsw_d {df u : Nat} : xswt df u [] = df := rfl
/-! a static call of a nest mate -/
section XNS
variable {d p0 pc ln x y ix : Nat} {M M' : xM} {P : xS → Prop} {tl : List xI} {lo : xLo} {st rest vs rs : List xV} {w w' : List (List xE)} {bd : List (Nat × Nat)} {fc : List (Nat × Nat × Bool)} {cn sl cn1 sl1 : Nat} {rr : Nat × Nat} {r : List xV} {Q : List (List xE) → Prop} {Qi : Nat → List (List xE) → Prop}
theorem xg_callN (hk : mget x = some M') (hP : xPr d M' vs w bd fc rr r w') (hy : y % 8 = 3) (hn : Nat.beq (st.take M'.2.2.2.2.1).length M'.2.2.2.2.1 = true) (hv : (st.take M'.2.2.2.2.1).reverse = vs) (hr : st.drop M'.2.2.2.2.1 = rest) (hb : ((Nat.ble (cn + M'.2.2.2.2.2.2.1) M.2.2.2.2.2.2.1 && Nat.ble (xwds vs) M'.2.2.1) && (Nat.ble (sl + M'.2.2.2.2.2.2.2.1) M.2.2.2.2.2.2.2.1 && Nat.ble (xwds rest) 8)) = true) : xLd (d + 1) M (p0, (pc, ln, 13, x, y, ix) :: tl, lo, st, (w, bd, fc, cn, sl, rr)) [(pc + ln, tl, lo, r ++ rest, (w', bd, fc, cn + M'.2.2.2.2.2.2.1, sl + M'.2.2.2.2.2.2.2.1, rr))] := by
  obtain ⟨φ, h1, h2, h3⟩ := hP
  intro hM hpos
  refine xstep_ok xmall (xihc_ok h1) (d + 1) M _ _ ?_ hM hpos
  show xob (mget x) (fun M' => xcall1 (xihc d _ (0, [], xarg vs 0, [], (w, bd, fc, 0, 0, rr)) φ) (d + 1) M (pc, ln, 13, x, y, ix) tl lo st (w, bd, fc, cn, sl, rr) M' d) = _
  rw [hk]
  show xcall1 (xihc d M' (0, [], xarg vs 0, [], (w, bd, fc, 0, 0, rr)) φ) (d + 1) M (pc, ln, 13, x, y, ix) tl lo st (w, bd, fc, cn, sl, rr) M' d = _
  unfold xcall1
  rw [hn, hv, hr]
  show cond (Nat.ble (y % 8) 1) _ (cond (Nat.ble (y % 8) 3) (xcall2 (xihc d M' (0, [], xarg vs 0, [], (w, bd, fc, 0, 0, rr)) φ) (d + 1) M (pc, ln, 13, x, y, ix) tl lo (w, bd, fc, cn, sl, rr) M' d vs rest) _) = _
  rw [hy]
  exact xc2_ok h2 h3 hb
theorem xg_cN (M' : xM) (hk : mget x = some M') (hP : xPq d M' vs w bd fc rr r Q) (hy : y % 8 = 3) (hn : Nat.beq (st.take M'.2.2.2.2.1).length M'.2.2.2.2.1 = true) (hv : (st.take M'.2.2.2.2.1).reverse = vs) (hr : st.drop M'.2.2.2.2.1 = rest) (hb : ((Nat.ble (cn + M'.2.2.2.2.2.2.1) M.2.2.2.2.2.2.1 && Nat.ble (xwds vs) M'.2.2.1) && (Nat.ble (sl + M'.2.2.2.2.2.2.2.1) M.2.2.2.2.2.2.2.1 && Nat.ble (xwds rest) 8)) = true) (hs : r ++ rest = rs) (h1 : cn + M'.2.2.2.2.2.2.1 = cn1) (h2 : sl + M'.2.2.2.2.2.2.2.1 = sl1) (K : ∀ w', Q w' → xTo (d + 1) M (pc + ln, tl, lo, rs, (w', bd, fc, cn1, sl1, rr)) P) : xTo (d + 1) M (p0, (pc, ln, 13, x, y, ix) :: tl, lo, st, (w, bd, fc, cn, sl, rr)) P := by
  obtain ⟨w', h3, h4⟩ := hP
  subst h1
  subst h2
  subst hs
  exact xg_t (xg_callN hk h4 hy hn hv hr hb) (K w' h3)
theorem xg_cNr (M' : xM) (hk : mget x = some M') (hP : xPr d M' vs w bd fc rr r w) (hy : y % 8 = 3) (hn : Nat.beq (st.take M'.2.2.2.2.1).length M'.2.2.2.2.1 = true) (hv : (st.take M'.2.2.2.2.1).reverse = vs) (hr : st.drop M'.2.2.2.2.1 = rest) (hb : ((Nat.ble (cn + M'.2.2.2.2.2.2.1) M.2.2.2.2.2.2.1 && Nat.ble (xwds vs) M'.2.2.1) && (Nat.ble (sl + M'.2.2.2.2.2.2.2.1) M.2.2.2.2.2.2.2.1 && Nat.ble (xwds rest) 8)) = true) (hs : r ++ rest = rs) (h1 : cn + M'.2.2.2.2.2.2.1 = cn1) (h2 : sl + M'.2.2.2.2.2.2.2.1 = sl1) : xLd (d + 1) M (p0, (pc, ln, 13, x, y, ix) :: tl, lo, st, (w, bd, fc, cn, sl, rr)) [(pc + ln, tl, lo, rs, (w, bd, fc, cn1, sl1, rr))] := by
  subst h1
  subst h2
  subst hs
  exact xg_callN hk hP hy hn hv hr hb
end XNS
