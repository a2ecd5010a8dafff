/-! the static row SHORTER -/
def shr (n : Nat) : Nat := [0, 0, 10, 19, 27, 34, 40, 45, 49, 52, 54].getD n 0
theorem sh_le {a x : Nat} (h1 : 1 ≤ a) (h : x + a ≤ 10) : shr a + x ≤ 54 := by
  have k : ∀ a, a ≤ 10 → ∀ x, x ≤ 10 → 1 ≤ a → x + a ≤ 10 → shr a + x ≤ 54 := by decide
  exact k a (by omega) x (by omega) h1 h
theorem shr_le {a : Nat} (h : a ≤ 10) : shr a ≤ 54 := by
  have k : ∀ a, a ≤ 10 → shr a ≤ 54 := by decide
  exact k a h
section XSH
variable {d p0 pc ln x y ix n : Nat} {M : xM} {tl : List xI} {lo : xLo} {st : List xV} {hp : xH} {va : xV}
theorem xg_ald8 (ha : xnm hp.2.1 va = (0, n)) (hn : n ≤ 10) : xLd d M (p0, (pc, ln, 10, x, y, ix) :: tl, lo, va :: (8, 0) :: st, hp) [(pc + ln, tl, lo, (0, shr n) :: st, hp)] := by
  refine xg_op (f := xh_iaload) rfl ?_
  show xald8 xidk d M (pc, ln, 10, x, y, ix) tl lo st hp (8, 0) (xnm hp.2.1 va) = _
  rw [ha]
  have k : ∀ n, n ≤ 10 → xget [0, 0, 10, 19, 27, 34, 40, 45, 49, 52, 54] n = some (shr n) := by decide +kernel
  show xob (xget [0, 0, 10, 19, 27, 34, 40, 45, 49, 52, 54] n) (fun u => xidk d M (pc + ln, tl, lo, (0, u) :: st, hp)) = _
  rw [k n hn]
  rfl
end XSH
section XSL
variable {d p0 pc ln x y ix n k u : Nat} {M : xM} {tl : List xI} {lo : xLo} {st : List xV} {hp : xH} {va : xV} {q : String × String × List Nat}
theorem xg_ald8L (ha : xnm hp.2.1 va = (0, n)) (hq : xget xst k = some q) (hu : xget q.2.2 n = some u) : xLd d M (p0, (pc, ln, 10, x, y, ix) :: tl, lo, va :: (8, k) :: st, hp) [(pc + ln, tl, lo, (0, u) :: st, hp)] := by
  refine xg_op (f := xh_iaload) rfl ?_
  show xald8 xidk d M (pc, ln, 10, x, y, ix) tl lo st hp (8, k) (xnm hp.2.1 va) = _
  rw [ha]
  show xob (xget xst k) (fun q => xob (xget q.2.2 n) (fun u => xidk d M (pc + ln, tl, lo, (0, u) :: st, hp))) = _
  rw [hq]
  show xob (xget q.2.2 n) (fun u => xidk d M (pc + ln, tl, lo, (0, u) :: st, hp)) = _
  rw [hu]
  rfl
end XSL
