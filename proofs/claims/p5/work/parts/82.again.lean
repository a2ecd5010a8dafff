/-! again -/
def xR26 (m : Nat) (us : List (Nat × xV)) : Prop := ∀ j, j < 3 → xat 4 us j = (3, 0) ∨ ∃ i, i < m ∧ xat 4 us j = (2, 114 + 25 * i)
theorem xIm.sub {a b a' b' : Nat} {w : List (List xE)} (h : xIm a b w) (h1 : a ≤ a') (h2 : b' ≤ b) : xIm a' b' w := fun k h3 h4 => h k (by omega) (by omega)
section XAG
variable {d : Nat} {w : List (List xE)} {bd : List (Nat × Nat)} {fc : List (Nat × Nat × Bool)} {rr : Nat × Nat}
theorem xg_aald {p0 pc ln x y ix n k L t : Nat} {M : xM} {tl : List xI} {lo : xLo} {st : List xV} {hp : xH} {va vb : xV} {us : List (Nat × xV)} (h : wget hp.1 k = some (.inr (4, L, t, us))) (hi : xnm hp.2.1 va = (0, n)) (hn : n < L) (hv : xat 4 us n = vb) : xLd d M (p0, (pc, ln, 47, x, y, ix) :: tl, lo, va :: (2, k) :: st, hp) [(pc + ln, tl, lo, vb :: st, hp)] := by
  refine xg_op (f := xh_aaload) rfl ?_
  show xob (wget hp.1 k) (fun q => xarr q (xald1 (fun k => Nat.beq k 4) xidk d M (pc, ln, 47, x, y, ix) tl lo st hp (xnm hp.2.1 va))) = _
  rw [h, hi]
  show xif (true && (true && Nat.blt n L)) (xidk d M (pc + ln, tl, lo, xat 4 us n :: st, hp)) = _
  rw [xblt_t hn, hv]
  rfl
end XAG
