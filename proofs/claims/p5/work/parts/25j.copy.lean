/-! the greater and the less of two ints; rows copied -/
section XMX
variable {d p0 pc ln op x y ix u v z k n t L : Nat} {M : xM} {tl : List xI} {lo : xLo} {st : List xV} {hp : xH} {va vb : xV} {P : xS → Prop}
theorem xmx_ok : ((Nat.blt 0 (d + 1) && true) && true) = true := by
  rw [xblt_t (Nat.succ_pos d)]
  rfl
theorem xg_mmK {F : Nat → Nat → Nat} (ho : xget xoph op = some (xmm F)) (ha : xnm hp.2.1 va = (0, u)) (hb : xnm hp.2.1 vb = (0, v)) (hk : ((Nat.blt 0 d && Nat.ble st.length 4) && (Nat.ble hp.2.2.2.1 M.2.2.2.2.2.2.1 && Nat.ble hp.2.2.2.2.1 M.2.2.2.2.2.2.2.1)) = true) (K : xTo d M (pc + ln, tl, lo, (0, F u v) :: st, hp) P) : xTo d M (p0, (pc, ln, op, x, y, ix) :: tl, lo, vb :: va :: st, hp) P := by
  refine xg_t (xg_op (fs := [(pc + ln, tl, lo, (0, F u v) :: st, hp)]) ho ?_) K
  show xmm1 F xidk d M (pc, ln, op, x, y, ix) tl lo st hp (xnm hp.2.1 va) (xnm hp.2.1 vb) = _
  rw [ha, hb]
  show xif (true && ((Nat.blt 0 d && Nat.ble st.length 4) && (Nat.ble hp.2.2.2.1 M.2.2.2.2.2.2.1 && Nat.ble hp.2.2.2.2.1 M.2.2.2.2.2.2.2.1))) (xN (F u v) fun z => xidk d M (pc + ln, tl, lo, (0, z) :: st, hp)) = _
  rw [hk, xN_eq]
  rfl
theorem xg_maxK (ha : xnm hp.2.1 va = (0, u)) (hb : xnm hp.2.1 vb = (0, v)) (hk : ((Nat.blt 0 d && Nat.ble st.length 4) && (Nat.ble hp.2.2.2.1 M.2.2.2.2.2.2.1 && Nat.ble hp.2.2.2.2.1 M.2.2.2.2.2.2.2.1)) = true) (hu : u < 4294967296) (hv : v < 4294967296) (K : ∀ z, z < 4294967296 → xbs u ≤ xbs z → xbs v ≤ xbs z → z = u ∨ z = v → xTo d M (pc + ln, tl, lo, (0, z) :: st, hp) P) : xTo d M (p0, (pc, ln, 62, x, y, ix) :: tl, lo, vb :: va :: st, hp) P := by
  refine xg_mmK (F := xmaxF) rfl ha hb hk ?_
  unfold xmaxF
  cases hc : Nat.blt (xbs u) (xbs v) with
  | true => exact K v hv (Nat.le_of_lt (xblt hc)) (Nat.le_refl _) (Or.inr rfl)
  | false => exact K u hu (Nat.le_refl _) (xnblt hc) (Or.inl rfl)
theorem xg_minK (ha : xnm hp.2.1 va = (0, u)) (hb : xnm hp.2.1 vb = (0, v)) (hk : ((Nat.blt 0 d && Nat.ble st.length 4) && (Nat.ble hp.2.2.2.1 M.2.2.2.2.2.2.1 && Nat.ble hp.2.2.2.2.1 M.2.2.2.2.2.2.2.1)) = true) (hu : u < 4294967296) (hv : v < 4294967296) (K : ∀ z, z < 4294967296 → xbs z ≤ xbs u → xbs z ≤ xbs v → z = u ∨ z = v → xTo d M (pc + ln, tl, lo, (0, z) :: st, hp) P) : xTo d M (p0, (pc, ln, 63, x, y, ix) :: tl, lo, vb :: va :: st, hp) P := by
  refine xg_mmK (F := xminF) rfl ha hb hk ?_
  unfold xminF
  cases hc : Nat.blt (xbs v) (xbs u) with
  | true => exact K v hv (Nat.le_of_lt (xblt hc)) (Nat.le_refl _) (Or.inr rfl)
  | false => exact K u hu (Nat.le_refl _) (xnblt hc) (Or.inl rfl)
end XMX
/-- the places 0 .. n - 1 of a row, written ahead of others -/
def xcpl (f : Nat → Nat) : Nat → List (Nat × xV) → List (Nat × xV)
  | 0, us => us
  | n + 1, us => (n, (0, f n)) :: xcpl f n us
theorem xcpl_find {f : Nat → Nat} {us : List (Nat × xV)} {j : Nat} : ∀ n, xfind (xcpl f n us) j = if j < n then some (0, f j) else xfind us j
  | 0 => by rw [if_neg (Nat.not_lt_zero j)]; rfl
  | n + 1 => by
    have ih := xcpl_find (f := f) (us := us) (j := j) n
    show cond (Nat.beq n j) (some (0, f n)) (xfind (xcpl f n us) j) = _
    rw [ih]
    cases hc : Nat.beq n j with
    | true =>
      have e := xbeq hc
      subst e
      rw [if_pos (Nat.lt_succ_self n)]
      rfl
    | false =>
      have e := xnbeq hc
      by_cases h : j < n
      · rw [if_pos h, if_pos (by omega)]
        rfl
      · rw [if_neg h, if_neg (by omega)]
        rfl
section XCP
variable {d p0 pc ln x y ix n k0 k1 L0 L1 t0 t1 : Nat} {M : xM} {tl : List xI} {lo : xLo} {st : List xV} {hr : xHr} {va : xV} {P : xS → Prop} {w : List (List xE)} {f g : Nat → Nat}
theorem xg_copyI (h0 : xRow w k0 L0 t0 f) (h1 : xRow w k1 L1 t1 g) (ha : xnm hr.1 va = (0, n)) (hn0 : n ≤ L0) (hn1 : n ≤ L1) (hst : st.length ≤ 4) (K : ∀ w', xRow w' k1 L1 t1 (fun j => if j < n then f j else g j) → xBut k1 w w' → xTo (d + 1) M (pc + ln, tl, lo, st, (w', hr)) P) : xTo (d + 1) M (p0, (pc, ln, 58, x, y, ix) :: tl, lo, va :: (0, 0) :: (2, k1) :: (0, 0) :: (2, k0) :: st, (w, hr)) P := by
  obtain ⟨us0, e0, f0⟩ := h0
  obtain ⟨us1, e1, f1⟩ := h1
  have hrow : xRow (wset (.inr (0, L1, t1, xcpl f n us1)) w k1) k1 L1 t1 (fun j => if j < n then f j else g j) := by
    refine ⟨_, wget_set_self e1, fun j hj => ?_⟩
    have hj1 := f1 j hj
    unfold xat at hj1 ⊢
    rw [xcpl_find]
    show _ = (0, if j < n then f j else g j)
    by_cases hc : j < n
    · rw [if_pos hc, if_pos hc]
    · rw [if_neg hc, if_neg hc]
      exact hj1
  refine xg_t (τ := (pc + ln, tl, lo, st, (wset (.inr (0, L1, t1, xcpl f n us1)) w k1, hr))) ?_ (K _ hrow (xBut.set e1))
  intro hM hpos p l e R s m args below meth c D A gg cw0 tys0 io0 Q C hQ cw tys io H locs ls lv sv hE hK hP hD hS hlv hlo hsv hh
  obtain ⟨q1, q2, q3, q4⟩ := hpos
  have q1 : pc = p0 := q1
  subst q1
  obtain ⟨t', z3, hdec, c0⟩ := q2
  have z4 : xget xopi 58 = some (fun e => .invokestatic e.2.2.2.2.2, xPcp) := rfl
  have z3 : xget xopi 58 = some t' := z3
  rw [z4] at z3
  cases z3
  obtain ⟨a1, c1⟩ := c0
  have a1 : ln = 3 := a1
  subst a1
  have hdec : decode M.2.1 pc = .ok (.invokestatic ix, 3) := hdec
  have c1 : Cond.methodLink M.1.cls ix arraycopyName ∈ lw_gt := c1
  obtain ⟨wn, sv1, rfl, r1, hs1⟩ := xrel_cons hsv
  obtain ⟨wd, sv2, rfl, r2, hs2⟩ := xrel_cons hs1
  obtain ⟨wr, sv3, rfl, r3, hs3⟩ := xrel_cons hs2
  obtain ⟨wp, sv4, rfl, r4, hs4⟩ := xrel_cons hs3
  obtain ⟨w0, sv5, rfl, r5, hs5⟩ := xrel_cons hs4
  obtain ⟨a, e', g1, rfl⟩ := xRv2 r3
  obtain ⟨a0, e0', j1, rfl⟩ := xRv2 r5
  obtain ⟨q', g2, g3⟩ := hh.1.get e1
  rw [g1] at g2
  cases g2
  obtain ⟨q0', j2, j3⟩ := hh.1.get e0
  rw [j1] at j2
  cases j2
  obtain ⟨cA, F1, ty, rfl, hl1, ht1, ⟨rfl, hf1, rfl⟩, hall⟩ := xarr_get g3
  obtain ⟨cA0, F0', ty0, rfl, hl0, ht0, ⟨rfl, hf0, rfl⟩, hall0⟩ := xarr_get j3
  obtain ⟨qf, g8, g9⟩ := wfl_get g1
  obtain ⟨qf0, j8, -⟩ := wfl_get j1
  have y1 := xnm_ok hh.2.1 r1
  have y1 : xRv gg cw io (xnm hr.1 va) wn := y1
  rw [ha] at y1
  obtain ⟨-, rfl⟩ := y1
  obtain ⟨-, rfl⟩ := r2
  obtain ⟨-, rfl⟩ := r4
  have hcn : (nI (0, n).2).toNatClampNeg = n := nI_clamp (by show n < 2147483648; omega)
  have hc0 : (nI (0, 0).2).toNatClampNeg = 0 := nI_clamp (by decide)
  have hlen := xrel_len hs5
  have hcs := xcats sv5
  have hcw := xcopyw
  obtain ⟨hx, hb, hml, hown, hts, hA, hR, -, -⟩ := id C
  refine va_copyi hx hb (by rw [hml, hlv.1]) hown (hts _ c1) (hts _ xt_cn) (hts _ xt_cs) (hts _ xt_sys) hK hP hD hS qf0 qf t0 t1 j8 g8 ht0 ht1 rfl (nI_pos (by decide)) (nI_pos (by decide)) (nI_pos (by show n < 2147483648; omega)) ?_ ?_ (fun _ _ => rfl) (by omega) (by omega) hdec fun H1 locs1 hP1 hD1 hS1 => ?_
  · rw [hcn, hc0]
    omega
  · rw [hcn, hc0]
    omega
  · rw [hcn, hc0] at hP1 hD1
    rw [g9] at hP1 hD1
    have E : xExt cw tys io (wset (a, .inl (cA, L1, .inl (va_cpy hf0 hf1 0 0 n))) cw k1) tys io := xExt.set g1
    have hnew : xRe gg cw tys io (.inr (0, L1, t1, xcpl f n us1)) (.inl (cA, L1, .inl (va_cpy hf0 hf1 0 0 n))) := by
      refine ⟨rfl, hl1, .int, ht1, ⟨rfl, _, rfl⟩, fun j => ?_⟩
      show xRa gg cw io 0 (xcpl f n us1) (.inl (va_cpy hf0 hf1 0 0 n)) j
      have hj := hall j
      unfold xRa at hj ⊢
      rw [xcpl_find]
      by_cases hc : j < n
      · rw [if_pos hc]
        have ev : va_cpy hf0 hf1 0 0 n j = hf0 j := by
          unfold va_cpy
          rw [if_pos ⟨Nat.zero_le j, by omega⟩, Nat.sub_zero, Nat.zero_add]
        show xRv gg cw io (0, f j) (.int (va_cpy hf0 hf1 0 0 n j))
        rw [ev, ← f0 j (by omega)]
        exact xat_ok (hall0 j)
      · rw [if_neg hc]
        have ev : va_cpy hf0 hf1 0 0 n j = hf1 j := by
          unfold va_cpy
          rw [if_neg (by omega)]
        show match xfind us1 j with
          | some v => xRv gg cw io v (.int (va_cpy hf0 hf1 0 0 n j))
          | none => Value.int (va_cpy hf0 hf1 0 0 n j) = xdef 0
        rw [ev]
        exact hj
    refine hQ _ List.mem_cons_self ⟨?_, q4⟩ _ tys io H1 locs1 ls lv sv5 (hE.tr E) hK hP1 hD1 hS1 hlv (xrel_imp (fun _ _ q => ⟨q.1, q.2.ext E⟩) hlo) (xrel_imp (fun _ _ q => q.ext E) hs5) ⟨hh.1.set e1 g1 hnew, hh.2⟩
    cases tl with
    | nil => trivial
    | cons a b => exact q3
end XCP
section XKB
variable {d p0 pc ln x y ix u v n k L t B : Nat} {M : xM} {tl : List xI} {lo : xLo} {st : List xV} {hp : xH} {hr : xHr} {va vb : xV} {P : xS → Prop} {w : List (List xE)} {f : Nat → Nat}
theorem xg_ialdB (h : xRow w k L t f) (hB : ∀ j, f j ≤ B) (hi : xnm hr.1 va = (0, n)) (hn : n < L) (K : ∀ u, u ≤ B → f n = u → xTo d M (pc + ln, tl, lo, (0, u) :: st, (w, hr)) P) : xTo d M (p0, (pc, ln, 10, x, y, ix) :: tl, lo, va :: (2, k) :: st, (w, hr)) P := xg_t (xg_ialdR h hi hn rfl) (K (f n) (hB n) rfl)
theorem xg_baldB {kd : Nat} (h : xRk kd 0 w k L t f) (hk : (Nat.beq kd 1 || Nat.beq kd 2) = true) (hB : ∀ j, f j ≤ B) (hi : xnm hr.1 va = (0, n)) (hn : n < L) (K : ∀ u, u ≤ B → f n = u → xTo d M (pc + ln, tl, lo, (0, u) :: st, (w, hr)) P) : xTo d M (p0, (pc, ln, 32, x, y, ix) :: tl, lo, va :: (2, k) :: st, (w, hr)) P := xg_t (xg_bald h hk hi hn rfl) (K (f n) (hB n) rfl)
theorem xlor_lt (hu : u < 4294967296) (hv : v < 4294967296) : Nat.lor u v < 4294967296 := Nat.or_lt_two_pow (n := 32) hu hv
theorem xland_lt (hv : v < 4294967296) : Nat.land u v < 4294967296 := Nat.and_lt_two_pow (n := 32) u hv
theorem xlor1 (hu : u ≤ 1) (hv : v ≤ 1) : Nat.lor u v ≤ 1 := Nat.le_of_lt_succ (Nat.or_lt_two_pow (n := 1) (by omega) (by omega))
theorem xg_ior1 (ha : xnm hp.2.1 va = (0, u)) (hb : xnm hp.2.1 vb = (0, v)) (hu : u ≤ 1) (hv : v ≤ 1) (K : ∀ z, z ≤ 1 → xTo d M (pc + ln, tl, lo, (0, z) :: st, hp) P) : xTo d M (p0, (pc, ln, 38, x, y, ix) :: tl, lo, vb :: va :: st, hp) P := xg_t (xg_ior ha hb rfl) (K _ (xlor1 hu hv))
theorem xret_b {pc' : Nat} (h : n ≤ 1) : xret 4 (pc', (pc, 1, 12, 0, 1, 0) :: tl, lo, [(0, n)], hp) = some [(0, n)] := by
  show xif (Nat.beq 0 0 && Nat.ble n 1) (some [(0, n)]) = _
  rw [Nat.ble_eq_true_of_le h]
  rfl
end XKB
theorem xcb2 {f g : Nat → Nat} {n B : Nat} (h : ∀ j, f j ≤ B) (h' : ∀ j, g j ≤ B) : ∀ j, (fun j => if j < n then f j else g j) j ≤ B := by
  intro j
  show (if j < n then f j else g j) ≤ B
  split
  · exact h j
  · exact h' j
theorem xiteb {f : Nat → Nat} {x : Nat} {c : Prop} {_ : Decidable c} (h : ∀ j, f j ≤ 4294967295) : (if c then f x else 4294967295) < 4294967296 := by
  have := h x
  split <;> omega
