/-! what holds of the cells between calls -/
def cpI (L t B : Nat) (q : Option xE) : Prop := ∃ f : Nat → Nat, (∃ us, q = some (.inr (0, L, t, us)) ∧ ∀ j, j < L → xat 0 us j = (0, f j)) ∧ ∀ j, f j ≤ B
def cpY (L t : Nat) (q : Option xE) : Prop := ∃ f : Nat → Nat, (∃ us, q = some (.inr (1, L, t, us)) ∧ ∀ j, j < L → xat 1 us j = (0, f j)) ∧ ∀ j, xby (f j)
def cpK (kd tg L t B : Nat) (q : Option xE) : Prop := ∃ f : Nat → Nat, (∃ us, q = some (.inr (kd, L, t, us)) ∧ ∀ j, j < L → xat kd us j = (tg, f j)) ∧ ∀ j, f j ≤ B
def cpJ (L t : Nat) (q : Option xE) : Prop := ∃ f : Nat → Nat, ∃ us, q = some (.inr (3, L, t, us)) ∧ ∀ j, j < L → xat 3 us j = (4, f j)
def cp0 (q : Option xE) : Prop := q = some (.inl (11, [(2, 1), (2, 26), (2, 27), (2, 43), (2, 49), (2, 58), (2, 68), (2, 72), (2, 76), (2, 80), (2, 81)]))
def cp1 (q : Option xE) : Prop := ∃ a1 a2 a3 a6 a7 a9 : Nat, q = some (.inl (9, [(2, 2), (0, a1), (0, a2), (0, a3), (2, 3), (2, 14), (0, a6), (0, a7), (2, 16), (0, a9), (2, 18), (2, 20), (2, 22), (2, 24)])) ∧ a1 ≤ 500 ∧ a2 ≤ 4294967295 ∧ a3 ≤ 4294967295 ∧ a6 ≤ 4294967295 ∧ a7 ≤ 4294967295 ∧ a9 ≤ 200
def cp3 (q : Option xE) : Prop := ∃ a5 a6 a7 a8 a9 : Nat, q = some (.inl (1, [(2, 4), (2, 6), (2, 8), (2, 10), (2, 12), (0, a5), (0, a6), (0, a7), (0, a8), (0, a9)])) ∧ a5 ≤ 10 ∧ a6 ≤ 10 ∧ a7 ≤ 6 ∧ a8 ≤ 6 ∧ a9 ≤ 500
def cp4 (q : Option xE) : Prop := ∃ a3 : Nat, q = some (.inl (5, [(0, 6), (0, 4), (2, 5), (0, a3)])) ∧ a3 ≤ 6
def cp6 (q : Option xE) : Prop := ∃ a3 : Nat, q = some (.inl (5, [(0, 4), (0, 2), (2, 7), (0, a3)])) ∧ a3 ≤ 4
def cp8 (q : Option xE) : Prop := ∃ a3 : Nat, q = some (.inl (5, [(0, 6), (0, 2), (2, 9), (0, a3)])) ∧ a3 ≤ 6
def cp10 (q : Option xE) : Prop := ∃ a3 : Nat, q = some (.inl (5, [(0, 4), (0, 3), (2, 11), (0, a3)])) ∧ a3 ≤ 4
def cp12 (q : Option xE) : Prop := ∃ a3 : Nat, q = some (.inl (5, [(0, 20), (0, 2), (2, 13), (0, a3)])) ∧ a3 ≤ 20
def cp14 (q : Option xE) : Prop := ∃ a3 : Nat, q = some (.inl (5, [(0, 40), (0, 5), (2, 15), (0, a3)])) ∧ a3 ≤ 40
def cp16 (q : Option xE) : Prop := ∃ a3 : Nat, q = some (.inl (5, [(0, 12), (0, 5), (2, 17), (0, a3)])) ∧ a3 ≤ 12
def cp18 (q : Option xE) : Prop := ∃ a3 : Nat, q = some (.inl (5, [(0, 4), (0, 3), (2, 19), (0, a3)])) ∧ a3 ≤ 4
def cp20 (q : Option xE) : Prop := ∃ a3 : Nat, q = some (.inl (5, [(0, 12), (0, 4), (2, 21), (0, a3)])) ∧ a3 ≤ 12
def cp22 (q : Option xE) : Prop := ∃ a3 : Nat, q = some (.inl (5, [(0, 16), (0, 2), (2, 23), (0, a3)])) ∧ a3 ≤ 16
def cp24 (q : Option xE) : Prop := ∃ a3 : Nat, q = some (.inl (5, [(0, 64), (0, 5), (2, 25), (0, a3)])) ∧ a3 ≤ 64
def cp27 (q : Option xE) : Prop := ∃ a6 a7 a8 a9 a10 : Nat, q = some (.inl (2, [(2, 1), (2, 42), (2, 28), (2, 39), (2, 40), (2, 41), (0, a6), (0, a7), (0, a8), (0, a9), (0, a10)])) ∧ a6 ≤ 1 ∧ a7 ≤ 1 ∧ a8 ≤ 1 ∧ a9 ≤ 4294967295 ∧ a10 ≤ 4294967295
def cp28 (q : Option xE) : Prop := ∃ a5 a6 a7 a8 a9 : Nat, q = some (.inl (1, [(2, 29), (2, 31), (2, 33), (2, 35), (2, 37), (0, a5), (0, a6), (0, a7), (0, a8), (0, a9)])) ∧ a5 ≤ 10 ∧ a6 ≤ 10 ∧ a7 ≤ 6 ∧ a8 ≤ 6 ∧ a9 ≤ 500
def cp29 (q : Option xE) : Prop := ∃ a3 : Nat, q = some (.inl (5, [(0, 6), (0, 4), (2, 30), (0, a3)])) ∧ a3 ≤ 6
def cp31 (q : Option xE) : Prop := ∃ a3 : Nat, q = some (.inl (5, [(0, 4), (0, 2), (2, 32), (0, a3)])) ∧ a3 ≤ 4
def cp33 (q : Option xE) : Prop := ∃ a3 : Nat, q = some (.inl (5, [(0, 6), (0, 2), (2, 34), (0, a3)])) ∧ a3 ≤ 6
def cp35 (q : Option xE) : Prop := ∃ a3 : Nat, q = some (.inl (5, [(0, 4), (0, 3), (2, 36), (0, a3)])) ∧ a3 ≤ 4
def cp37 (q : Option xE) : Prop := ∃ a3 : Nat, q = some (.inl (5, [(0, 20), (0, 2), (2, 38), (0, a3)])) ∧ a3 ≤ 20
def cp42 (q : Option xE) : Prop := ∃ a1 a2 a3 a4 a5 : Nat, q = some (.inl (8, [(2, 2), (0, a1), (0, a2), (0, a3), (0, a4), (0, a5)])) ∧ a1 ≤ 500 ∧ a2 ≤ 4294967295 ∧ a3 ≤ 500 ∧ a4 ≤ 500 ∧ a5 ≤ 4294967295 ∧ (a2 = 0 ∨ a3 ≤ 499)
def cp43 (q : Option xE) : Prop := ∃ a4 a5 : Nat, q = some (.inl (6, [(2, 1), (2, 48), (2, 44), (2, 46), (0, a4), (0, a5)])) ∧ a4 ≤ 4294967295 ∧ a5 ≤ 4294967295
def cp44 (q : Option xE) : Prop := ∃ a3 : Nat, q = some (.inl (5, [(0, 16), (0, 2), (2, 45), (0, a3)])) ∧ a3 ≤ 16
def cp46 (q : Option xE) : Prop := ∃ a3 : Nat, q = some (.inl (5, [(0, 64), (0, 5), (2, 47), (0, a3)])) ∧ a3 ≤ 64
def cp48 (q : Option xE) : Prop := ∃ a1 a2 a3 a4 a5 : Nat, q = some (.inl (8, [(2, 2), (0, a1), (0, a2), (0, a3), (0, a4), (0, a5)])) ∧ a1 ≤ 500 ∧ a2 ≤ 4294967295 ∧ a3 ≤ 500 ∧ a4 ≤ 500 ∧ a5 ≤ 4294967295 ∧ (a2 = 0 ∨ a3 ≤ 499)
def cp49 (q : Option xE) : Prop := ∃ a9 a10 : Nat, q = some (.inl (0, [(2, 3), (2, 50), (2, 51), (2, 52), (2, 53), (2, 54), (2, 55), (2, 56), (2, 57), (0, a9), (0, a10)])) ∧ a9 ≤ 4294967295 ∧ a10 ≤ 1
def cp58 (q : Option xE) : Prop := ∃ a10 a11 a12 : Nat, q = some (.inl (10, [(2, 1), (2, 59), (2, 60), (2, 61), (2, 62), (2, 63), (2, 64), (2, 65), (2, 66), (2, 67), (0, a10), (0, a11), (0, a12)])) ∧ a10 ≤ 36 ∧ a11 ≤ 4294967295 ∧ a12 ≤ 1
def cp68 (q : Option xE) : Prop := ∃ a4 a5 : Nat, q = some (.inl (3, [(2, 1), (2, 69), (2, 70), (2, 71), (0, a4), (0, a5)])) ∧ a4 ≤ 1 ∧ a5 ≤ 1
def cp72 (q : Option xE) : Prop := ∃ a3 a4 : Nat, q = some (.inl (7, [(2, 3), (2, 73), (2, 74), (0, a3), (0, a4)])) ∧ a3 ≤ 1 ∧ a4 ≤ 1
def cp74 (q : Option xE) : Prop := ∃ a3 : Nat, q = some (.inl (5, [(0, 100), (0, 3), (2, 75), (0, a3)])) ∧ a3 ≤ 100
def cp76 (q : Option xE) : Prop := ∃ a4 a5 a6 a7 a8 a9 a10 a11 : Nat, q = some (.inl (4, [(2, 20), (2, 77), (2, 78), (2, 79), (0, a4), (0, a5), (0, a6), (0, a7), (0, a8), (0, a9), (0, a10), (0, a11)])) ∧ a4 ≤ 4294967295 ∧ a5 ≤ 4294967295 ∧ a6 ≤ 4294967295 ∧ a7 ≤ 4294967295 ∧ a8 ≤ 4294967295 ∧ a9 ≤ 1 ∧ a10 ≤ 1 ∧ a11 ≤ 1
def cps : List (Option xE → Prop) := [cp0, cp1, cpY 500 0, cp3, cp4, cpI 24 1 4294967295, cp6, cpI 8 2 4294967295, cp8, cpI 12 3 4294967295, cp10, cpI 12 4 4294967295, cp12, cpI 40 5 4294967295, cp14, cpI 200 6 4294967295, cp16, cpI 60 7 4294967295, cp18, cpI 12 8 4294967295, cp20, cpI 48 9 4294967295, cp22, cpI 32 10 4294967295, cp24, cpI 320 11 4294967295, fun _ => True, cp27, cp28, cp29, cpI 24 13 4294967295, cp31, cpI 8 14 4294967295, cp33, cpI 12 15 4294967295, cp35, cpI 12 16 4294967295, cp37, cpI 40 17 4294967295, cpI 3 18 4294967295, cpI 3 19 4294967295, cpI 20 20 4294967295, cp42, cp43, cp44, cpI 32 21 4294967295, cp46, cpI 320 22 4294967295, cp48, cp49, cpI 6 23 4294967295, cpI 6 24 4294967295, cpI 6 25 5, cpJ 6 26, cpJ 6 27, cpJ 6 28, cpJ 4 29, cpI 6 30 4294967295, cp58, cpK 2 0 36 31 1, cpK 2 0 36 32 1, cpI 36 33 4294967295, cpI 36 34 4294967295, cpK 2 0 6 35 1, cpK 2 0 6 36 1, cpK 2 0 6 37 1, cpI 36 38 4294967295, cpI 36 39 35, cp68, cpI 36 40 4294967295, cpI 36 41 4294967295, cpI 36 42 4294967295, cp72, cpI 3025 43 4294967295, cp74, cpI 300 44 4294967295, cp76, cpI 240 45 4294967295, cpI 15 46 4294967295, cpI 15 47 4294967295, cpI 11 48 4294967295, cpK 2 0 16 49 1]
def xInv (w : List (List xE)) : Prop := ∀ k, k < 82 → cps.getD k (fun _ => True) (wget w k)
theorem xInv.up {w w' : List (List xE)} {S : List Nat} (h : xInv w) (hf : xFr S w w') (hs : ∀ k ∈ S, cps.getD k (fun _ => True) (wget w' k)) : xInv w' := by
  intro k hk
  by_cases hc : k ∈ S
  · exact hs k hc
  · rw [hf.1 k hc]
    exact h k hk
