/-! the class: what get answers -/
theorem rwf_eq {w w' : List (List xE)} {c c' : Nat} (h : wget w' c' = wget w c) : rwv w' c' = rwv w c := funext fun _ => rwv_eq h
section XGT
variable {d : Nat} {w : List (List xE)} {bd : List (Nat × Nat)} {fc : List (Nat × Nat × Bool)} {rr : Nat × Nat}
theorem xg_kE {Z : Nat} {p0 p1 : Nat} {M : xM} {cs cs1 : List xI} {lo l1 : xLo} {st st1 : List xV} {hp : xH} {P : xS → Prop} (h : xLd d M (p0, cs, lo, st, hp) [(p1, cs1, l1, (0, Z) :: st1, hp)]) (hZ : Z < 4294967296) (K : ∀ z, z < 4294967296 → Z = z → xTo d M (p1, cs1, l1, (0, z) :: st1, hp) P) : xTo d M (p0, cs, lo, st, hp) P := xg_t h (K Z hZ rfl)
theorem rgetX {r a lim wd sz t row what : Nat} {f : Nat → Nat} (h : xRs w r a lim wd sz) (hf : xRow w a (lim * wd) t f) (hl : lim < 2147483648) (hsz : sz ≤ lim) (hw : wd < 2147483648) (hL : lim * wd < 2147483648) (h1 : row < sz) (h2 : what < wd) : xPr d mX5_get [(2, r), (0, row), (0, what)] w bd fc rr [(0, f (row * wd + what))] w := by
  have k := rget_ok (d := d) (bd := bd) (fc := fc) (rr := rr) (row := row) (what := what) h hf hl hsz hw hL (by omega) (by omega)
  rw [if_pos ⟨h1, h2⟩] at k
  exact k
end XGT
