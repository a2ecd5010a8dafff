/-! new cells: where the world is known by its shape alone -/
def shp (n : Nat) : List Nat := List.replicate (n / 10) 10 ++ (if n % 10 = 0 then [] else [n % 10])
theorem shp_ge {n : Nat} (h : 10 ≤ n) : shp n = 10 :: shp (n - 10) := by
  have e1 : n / 10 = (n - 10) / 10 + 1 := by omega
  have e2 : n % 10 = (n - 10) % 10 := by omega
  unfold shp
  rw [e1, e2]
  rfl
theorem xpush_ex {α : Type} {v : α} : ∀ {w : List (List α)} {n : Nat}, w.map List.length = shp n → ∃ w', xpush v w (n / 10) (n % 10) = some w' ∧ w'.map List.length = shp (n + 1)
  | [], n, h => by
    have hn : n = 0 := by
      rcases Nat.lt_or_ge n 10 with q | q
      · unfold shp at h
        have e : n / 10 = 0 := by omega
        rw [e] at h
        by_cases z : n % 10 = 0
        · omega
        · rw [if_neg z] at h
          cases h
      · rw [shp_ge q] at h
        cases h
    subst hn
    exact ⟨[[v]], rfl, rfl⟩
  | c :: t, n, h => by
    by_cases hn : 10 ≤ n
    · have e1 : n / 10 = (n - 10) / 10 + 1 := by omega
      have e2 : n % 10 = (n - 10) % 10 := by omega
      rw [shp_ge hn] at h
      have h : c.length :: t.map List.length = 10 :: shp (n - 10) := h
      injection h with h1 h2
      obtain ⟨t', h3, h4⟩ := xpush_ex (v := v) (w := t) h2
      refine ⟨c :: t', ?_, ?_⟩
      · rw [e1, e2]
        show Option.rec (motive := fun _ => Option (List (List α))) none (fun r => some (c :: r)) (xpush v t ((n - 10) / 10) ((n - 10) % 10)) = _
        rw [h3]
      · rw [shp_ge (show 10 ≤ n + 1 by omega)]
        show c.length :: t'.map List.length = _
        rw [h4, h1]
        have e3 : n + 1 - 10 = n - 10 + 1 := by omega
        rw [e3]
    · have e1 : n / 10 = 0 := by omega
      have e2 : n % 10 = n := by omega
      unfold shp at h
      rw [e1, e2] at h
      by_cases z : n = 0
      · rw [if_pos z] at h
        cases h
      · rw [if_neg z] at h
        have h : c.length :: t.map List.length = [n] := h
        injection h with h1 h2
        have ht : t = [] := List.map_eq_nil_iff.mp h2
        subst ht
        refine ⟨[c ++ [v]], ?_, ?_⟩
        · rw [e1, e2]
          show cond (Nat.beq c.length n) (some [c ++ [v]]) none = _
          rw [h1, Nat.beq_refl]
          rfl
        · show [(c ++ [v]).length] = _
          rw [List.length_append, h1]
          by_cases y : n = 9
          · subst y
            rfl
          · have e3 : (n + 1) / 10 = 0 := by omega
            have e4 : (n + 1) % 10 = n + 1 := by omega
            unfold shp
            rw [e3, e4, if_neg (by omega)]
            rfl
/-- the world with one cell more: what was there stays -/
theorem wpush {α : Type} {v : α} {w : List (List α)} {n : Nat} (h : w.map List.length = shp n) : ∃ w', xpush v w (n / 10) (n % 10) = some w' ∧ w'.map List.length = shp (n + 1) ∧ wget w' n = some v ∧ ∀ k x, wget w k = some x → wget w' k = some x := by
  obtain ⟨w', h1, h2⟩ := xpush_ex (v := v) h
  refine ⟨w', h1, h2, ?_, fun k x hk => ?_⟩
  · obtain ⟨c, e1, e2⟩ := xpush_new h1
    rw [wget_of e1]
    exact e2
  · obtain ⟨c, e1, e2⟩ := wget_some hk
    obtain ⟨c', e3, e4⟩ := xpush_old h1 e1 e2
    rw [wget_of e3]
    exact e4
section XNW
variable {d p0 pc ln x y ix n cn sl na nc : Nat} {M : xM} {tl : List xI} {lo : xLo} {st : List xV} {w : List (List xE)} {bd : List (Nat × Nat)} {fc : List (Nat × Nat × Bool)} {va : xV} {fs : List xV} {P : xS → Prop}
theorem xg_newO (hf : xget xdfl x = some fs) (hs : w.map List.length = shp nc) (h1 : cn < M.2.2.2.2.2.2.1) (h2 : sl + fs.length ≤ M.2.2.2.2.2.2.2.1) (K : ∀ w', w'.map List.length = shp (nc + 1) → wget w' nc = some (.inl (x, fs)) → (∀ k q, wget w k = some q → wget w' k = some q) → xTo d M (pc + ln, tl, lo, (2, nc) :: st, (w', bd, fc, cn + 1, sl + fs.length, na, nc + 1)) P) : xTo d M (p0, (pc, ln, 24, x, y, ix) :: tl, lo, st, (w, bd, fc, cn, sl, na, nc)) P := by
  obtain ⟨w', e1, e2, e3, e4⟩ := wpush (v := (.inl (x, fs) : xE)) hs
  refine xg_t (xg_op (f := xh_new) (fs := [(pc + ln, tl, lo, (2, nc) :: st, (w', bd, fc, cn + 1, sl + fs.length, na, nc + 1))]) rfl ?_) (K w' e2 e3 e4)
  show xob (xget xdfl x) (fun fs => xmk M (w, bd, fc, cn, sl, na, nc) (.inl (x, fs)) fs.length 0 (fun v hp' => xidk d M (pc + ln, tl, lo, v :: st, hp'))) = _
  rw [hf]
  show xif (Nat.blt cn M.2.2.2.2.2.2.1 && Nat.ble (sl + fs.length) M.2.2.2.2.2.2.2.1) (xob (xpush (.inl (x, fs)) w (nc / 10) (nc % 10)) fun w => xN (cn + 1) fun cn => xN (sl + fs.length) fun sl => xN (na + 0) fun t => xN (nc + 1) fun nw => xidk d M (pc + ln, tl, lo, (2, nc) :: st, (w, bd, fc, cn, sl, t, nw))) = _
  have b1 : Nat.blt cn M.2.2.2.2.2.2.1 = true := Nat.ble_eq_true_of_le h1
  have b2 : Nat.ble (sl + fs.length) M.2.2.2.2.2.2.2.1 = true := Nat.ble_eq_true_of_le h2
  rw [b1, b2, e1]
  show (xN (cn + 1) fun cn => xN (sl + fs.length) fun sl => xN (na + 0) fun t => xN (nc + 1) fun nw => xidk d M (pc + ln, tl, lo, (2, nc) :: st, (w', bd, fc, cn, sl, t, nw))) = _
  rw [xN_eq, xN_eq, xN_eq, xN_eq]
  rfl
theorem xg_newA (hn : xnm bd va = (0, n)) (hk : y ≤ 3) (hl : n ≤ 1000000) (hs : w.map List.length = shp nc) (h1 : cn < M.2.2.2.2.2.2.1) (h2 : sl + n ≤ M.2.2.2.2.2.2.2.1) (K : ∀ w', w'.map List.length = shp (nc + 1) → wget w' nc = some (.inr (y, n, na, [])) → (∀ k q, wget w k = some q → wget w' k = some q) → xTo d M (pc + ln, tl, lo, (2, nc) :: st, (w', bd, fc, cn + 1, sl + n, na + 1, nc + 1)) P) : xTo d M (p0, (pc, ln, 23, x, y, ix) :: tl, lo, va :: st, (w, bd, fc, cn, sl, na, nc)) P := by
  obtain ⟨w', e1, e2, e3, e4⟩ := wpush (v := (.inr (y, n, na, []) : xE)) hs
  refine xg_t (xg_op (f := xh_newarray) (fs := [(pc + ln, tl, lo, (2, nc) :: st, (w', bd, fc, cn + 1, sl + n, na + 1, nc + 1))]) rfl ?_) (K w' e2 e3 e4)
  show xif (Nat.ble y 3) (xnewa y xidk d M (pc, ln, 23, x, y, ix) tl lo st (w, bd, fc, cn, sl, na, nc) (xnm bd va)) = _
  rw [hn, Nat.ble_eq_true_of_le hk]
  show xif (Nat.beq 0 0 && Nat.ble n 1000000) (xmk M (w, bd, fc, cn, sl, na, nc) (.inr (y, n, na, [])) n 1 (fun v hp' => xidk d M (pc + ln, tl, lo, v :: st, hp'))) = _
  rw [Nat.ble_eq_true_of_le hl]
  show xif (Nat.blt cn M.2.2.2.2.2.2.1 && Nat.ble (sl + n) M.2.2.2.2.2.2.2.1) (xob (xpush (.inr (y, n, na, [])) w (nc / 10) (nc % 10)) fun w => xN (cn + 1) fun cn => xN (sl + n) fun sl => xN (na + 1) fun t => xN (nc + 1) fun nw => xidk d M (pc + ln, tl, lo, (2, nc) :: st, (w, bd, fc, cn, sl, t, nw))) = _
  have b1 : Nat.blt cn M.2.2.2.2.2.2.1 = true := Nat.ble_eq_true_of_le h1
  have b2 : Nat.ble (sl + n) M.2.2.2.2.2.2.2.1 = true := Nat.ble_eq_true_of_le h2
  rw [b1, b2, e1]
  show (xN (cn + 1) fun cn => xN (sl + n) fun sl => xN (na + 1) fun t => xN (nc + 1) fun nw => xidk d M (pc + ln, tl, lo, (2, nc) :: st, (w', bd, fc, cn, sl, t, nw))) = _
  rw [xN_eq, xN_eq, xN_eq, xN_eq]
  rfl
end XNW
