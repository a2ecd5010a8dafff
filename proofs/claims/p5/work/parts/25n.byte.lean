/-! bytes by their patterns -/
def xby (n : Nat) : Prop := n ≤ 127 ∨ (4294967168 ≤ n ∧ n ≤ 4294967295)
theorem xby_byt (u : Nat) : xby (xbyt u) := by
  unfold xbyt
  have hm : u % 256 < 256 := Nat.mod_lt _ (by decide)
  cases hc : Nat.blt (u % 256) 128 with
  | true =>
    have := xblt hc
    rw [cond_true]
    exact Or.inl (by omega)
  | false =>
    have := xnblt hc
    rw [cond_false]
    exact Or.inr ⟨by omega, by omega⟩
theorem xrbY {f : Nat → Nat} {n v : Nat} (hv : xby v) (h : ∀ j, xby (f j)) : ∀ j, xby ((fun j => if j = n then v else f j) j) := by
  intro j
  show xby (if j = n then v else f j)
  split
  · exact hv
  · exact h j
section XBY
variable {d p0 pc ln x y ix n k L t : Nat} {M : xM} {tl : List xI} {lo : xLo} {st : List xV} {hr : xHr} {va : xV} {P : xS → Prop} {w : List (List xE)} {f : Nat → Nat}
theorem xg_baldY (h : xRk 1 0 w k L t f) (hB : ∀ j, xby (f j)) (hi : xnm hr.1 va = (0, n)) (hn : n < L) (K : ∀ u, (u ≤ 127 ∨ (4294967168 ≤ u ∧ u ≤ 4294967295)) → f n = u → xTo d M (pc + ln, tl, lo, (0, u) :: st, (w, hr)) P) : xTo d M (p0, (pc, ln, 32, x, y, ix) :: tl, lo, va :: (2, k) :: st, (w, hr)) P := xg_t (xg_bald h rfl hi hn rfl) (K (f n) (hB n) rfl)
end XBY
