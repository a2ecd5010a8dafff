/-! Rows: what callers need -/
section XRI
variable {d r a lim wd sz t row what num B : Nat} {w : List (List xE)} {bd : List (Nat × Nat)} {fc : List (Nat × Nat × Bool)} {rr : Nat × Nat} {f : Nat → Nat}
theorem rgrowI (h : xRs w r a lim wd sz) (hl : lim < 2147483648) (hsz : sz ≤ lim) : xPi (d + 1) mX5_grow [(2, r)] w bd fc rr (fun n w' => n ≤ 4294967295 ∧ ∃ s1, s1 ≤ lim ∧ xRs w' r a lim wd s1 ∧ xBut r w w') := by
  obtain ⟨w', ⟨q1, q2⟩, q3⟩ := rgrow_ok (d := d) (bd := bd) (fc := fc) (rr := rr) h hl hsz
  refine ⟨_, w', ⟨?_, _, ?_, q1, q2⟩, q3⟩
  · split <;> omega
  · split <;> omega
theorem rputI (h : xRs w r a lim wd sz) (hf : xRow w a (lim * wd) t f) (hB : ∀ j, f j ≤ B) (hl : lim < 2147483648) (hsz : sz ≤ lim) (hw : wd < 2147483648) (hL : lim * wd < 2147483648) (h1 : row < 4294967296) (h2 : what < 4294967296) (hn : num ≤ B) : xPq (d + 1) mX5_put [(2, r), (0, row), (0, what), (0, num)] w bd fc rr [] (fun w' => ∃ g, xRow w' a (lim * wd) t g ∧ (∀ j, g j ≤ B) ∧ xBut a w w') := by
  obtain ⟨w', ⟨q1, q2⟩, q3⟩ := rput_ok (d := d) (bd := bd) (fc := fc) (rr := rr) (num := num) h hf hl hsz hw hL h1 h2
  refine ⟨w', ⟨_, q1, fun j => ?_, q2⟩, q3⟩
  show (if (row < sz ∧ what < wd) ∧ j = row * wd + what then num else f j) ≤ B
  split
  · exact hn
  · exact hB j
end XRI
