/-! a shift without a sign -/
section XUS
variable {d p0 pc ln x y ix u v z : Nat} {M : xM} {tl : List xI} {lo : xLo} {st : List xV} {hp : xH} {va vb : xV}
theorem xg_iushr (ha : xnm hp.2.1 va = (0, u)) (hb : xnm hp.2.1 vb = (0, v)) (hv : v < 32) (hz : u / 2 ^ v = z) : xLd d M (p0, (pc, ln, 42, x, y, ix) :: tl, lo, vb :: va :: st, hp) [(pc + ln, tl, lo, (0, z) :: st, hp)] := xg_bin (F := fun a b => a / 2 ^ b) (chk := fun _ b => Nat.blt b 32) (al := false) (bo := xany) rfl ha hb (Nat.ble_eq_true_of_le hv) hz
theorem xush_lt (hu : u < 4294967296) : u / 2 ^ v < 4294967296 := Nat.lt_of_le_of_lt (Nat.div_le_self _ _) hu
end XUS
theorem xqm {sx st m : Nat} (h1 : 0 < sx) (h2 : sx < 2147483648) (h3 : 0 < st) (h4 : st < 2147483648) (h : (sx + 2147483648) % 4294967296 - 2147483648 < m + 1) : ((sx + (4294967296 - st)) % 4294967296 + 2147483648) % 4294967296 - 2147483648 < m := by
  have e1 : (sx + 2147483648) % 4294967296 = sx + 2147483648 := Nat.mod_eq_of_lt (by omega)
  rw [e1, Nat.add_sub_cancel] at h
  rcases Nat.lt_or_ge sx st with hc | hc
  · have e2 : ((sx + (4294967296 - st)) % 4294967296 + 2147483648) % 4294967296 ≤ 2147483648 := by omega
    rw [Nat.sub_eq_zero_of_le e2]
    clear e1 e2
    omega
  · have e2 : ((sx + (4294967296 - st)) % 4294967296 + 2147483648) % 4294967296 = (sx - st) + 2147483648 := by omega
    rw [e2, Nat.add_sub_cancel]
    clear e1 e2
    omega
theorem xsw_y {df u : Nat} {q : Nat × Nat} {ks : List (Nat × Nat)} (h : u = q.1) : xswt df u (q :: ks) = q.2 := if_pos h
theorem xsw_n {df u z : Nat} {q : Nat × Nat} {ks : List (Nat × Nat)} (h : ¬ u = q.1) (e : xswt df u ks = z) : xswt df u (q :: ks) = z := (if_neg h).trans e
theorem xsw_d {df u : Nat} : xswt df u [] = df := rfl
