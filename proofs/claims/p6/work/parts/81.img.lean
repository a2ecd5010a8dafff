section
/-! images: what holds of their cells -/
def cp114 (q : Option xE) : Prop := ∃ a1 a2 a3 a6 a7 a9 : Nat, q = some (.inl (9, [(2, 115), (0, a1), (0, a2), (0, a3), (2, 116), (2, 127), (0, a6), (0, a7), (2, 129), (0, a9), (2, 131), (2, 133), (2, 135), (2, 137)])) ∧ a1 ≤ 500 ∧ a2 ≤ 4294967295 ∧ a3 ≤ 4294967295 ∧ a6 ≤ 4294967295 ∧ a7 ≤ 4294967295 ∧ a9 ≤ 200
def cp116 (q : Option xE) : Prop := ∃ a5 a6 a7 a8 a9 : Nat, q = some (.inl (1, [(2, 117), (2, 119), (2, 121), (2, 123), (2, 125), (0, a5), (0, a6), (0, a7), (0, a8), (0, a9)])) ∧ a5 ≤ 10 ∧ a6 ≤ 10 ∧ a7 ≤ 6 ∧ a8 ≤ 6 ∧ a9 ≤ 500
def cp117 (q : Option xE) : Prop := ∃ a3 : Nat, q = some (.inl (5, [(0, 6), (0, 4), (2, 118), (0, a3)])) ∧ a3 ≤ 6
def cp119 (q : Option xE) : Prop := ∃ a3 : Nat, q = some (.inl (5, [(0, 4), (0, 2), (2, 120), (0, a3)])) ∧ a3 ≤ 4
def cp121 (q : Option xE) : Prop := ∃ a3 : Nat, q = some (.inl (5, [(0, 6), (0, 2), (2, 122), (0, a3)])) ∧ a3 ≤ 6
def cp123 (q : Option xE) : Prop := ∃ a3 : Nat, q = some (.inl (5, [(0, 4), (0, 3), (2, 124), (0, a3)])) ∧ a3 ≤ 4
def cp125 (q : Option xE) : Prop := ∃ a3 : Nat, q = some (.inl (5, [(0, 20), (0, 2), (2, 126), (0, a3)])) ∧ a3 ≤ 20
def cp127 (q : Option xE) : Prop := ∃ a3 : Nat, q = some (.inl (5, [(0, 40), (0, 5), (2, 128), (0, a3)])) ∧ a3 ≤ 40
def cp129 (q : Option xE) : Prop := ∃ a3 : Nat, q = some (.inl (5, [(0, 12), (0, 5), (2, 130), (0, a3)])) ∧ a3 ≤ 12
def cp131 (q : Option xE) : Prop := ∃ a3 : Nat, q = some (.inl (5, [(0, 4), (0, 3), (2, 132), (0, a3)])) ∧ a3 ≤ 4
def cp133 (q : Option xE) : Prop := ∃ a3 : Nat, q = some (.inl (5, [(0, 12), (0, 4), (2, 134), (0, a3)])) ∧ a3 ≤ 12
def cp135 (q : Option xE) : Prop := ∃ a3 : Nat, q = some (.inl (5, [(0, 16), (0, 2), (2, 136), (0, a3)])) ∧ a3 ≤ 16
def cp137 (q : Option xE) : Prop := ∃ a3 : Nat, q = some (.inl (5, [(0, 64), (0, 5), (2, 138), (0, a3)])) ∧ a3 ≤ 64
def cp139 (q : Option xE) : Prop := ∃ a1 a2 a3 a6 a7 a9 : Nat, q = some (.inl (9, [(2, 140), (0, a1), (0, a2), (0, a3), (2, 141), (2, 152), (0, a6), (0, a7), (2, 154), (0, a9), (2, 156), (2, 158), (2, 160), (2, 162)])) ∧ a1 ≤ 500 ∧ a2 ≤ 4294967295 ∧ a3 ≤ 4294967295 ∧ a6 ≤ 4294967295 ∧ a7 ≤ 4294967295 ∧ a9 ≤ 200
def cp141 (q : Option xE) : Prop := ∃ a5 a6 a7 a8 a9 : Nat, q = some (.inl (1, [(2, 142), (2, 144), (2, 146), (2, 148), (2, 150), (0, a5), (0, a6), (0, a7), (0, a8), (0, a9)])) ∧ a5 ≤ 10 ∧ a6 ≤ 10 ∧ a7 ≤ 6 ∧ a8 ≤ 6 ∧ a9 ≤ 500
def cp142 (q : Option xE) : Prop := ∃ a3 : Nat, q = some (.inl (5, [(0, 6), (0, 4), (2, 143), (0, a3)])) ∧ a3 ≤ 6
def cp144 (q : Option xE) : Prop := ∃ a3 : Nat, q = some (.inl (5, [(0, 4), (0, 2), (2, 145), (0, a3)])) ∧ a3 ≤ 4
def cp146 (q : Option xE) : Prop := ∃ a3 : Nat, q = some (.inl (5, [(0, 6), (0, 2), (2, 147), (0, a3)])) ∧ a3 ≤ 6
def cp148 (q : Option xE) : Prop := ∃ a3 : Nat, q = some (.inl (5, [(0, 4), (0, 3), (2, 149), (0, a3)])) ∧ a3 ≤ 4
def cp150 (q : Option xE) : Prop := ∃ a3 : Nat, q = some (.inl (5, [(0, 20), (0, 2), (2, 151), (0, a3)])) ∧ a3 ≤ 20
def cp152 (q : Option xE) : Prop := ∃ a3 : Nat, q = some (.inl (5, [(0, 40), (0, 5), (2, 153), (0, a3)])) ∧ a3 ≤ 40
def cp154 (q : Option xE) : Prop := ∃ a3 : Nat, q = some (.inl (5, [(0, 12), (0, 5), (2, 155), (0, a3)])) ∧ a3 ≤ 12
def cp156 (q : Option xE) : Prop := ∃ a3 : Nat, q = some (.inl (5, [(0, 4), (0, 3), (2, 157), (0, a3)])) ∧ a3 ≤ 4
def cp158 (q : Option xE) : Prop := ∃ a3 : Nat, q = some (.inl (5, [(0, 12), (0, 4), (2, 159), (0, a3)])) ∧ a3 ≤ 12
def cp160 (q : Option xE) : Prop := ∃ a3 : Nat, q = some (.inl (5, [(0, 16), (0, 2), (2, 161), (0, a3)])) ∧ a3 ≤ 16
def cp162 (q : Option xE) : Prop := ∃ a3 : Nat, q = some (.inl (5, [(0, 64), (0, 5), (2, 163), (0, a3)])) ∧ a3 ≤ 64
def cp164 (q : Option xE) : Prop := ∃ a1 a2 a3 a6 a7 a9 : Nat, q = some (.inl (9, [(2, 165), (0, a1), (0, a2), (0, a3), (2, 166), (2, 177), (0, a6), (0, a7), (2, 179), (0, a9), (2, 181), (2, 183), (2, 185), (2, 187)])) ∧ a1 ≤ 500 ∧ a2 ≤ 4294967295 ∧ a3 ≤ 4294967295 ∧ a6 ≤ 4294967295 ∧ a7 ≤ 4294967295 ∧ a9 ≤ 200
def cp166 (q : Option xE) : Prop := ∃ a5 a6 a7 a8 a9 : Nat, q = some (.inl (1, [(2, 167), (2, 169), (2, 171), (2, 173), (2, 175), (0, a5), (0, a6), (0, a7), (0, a8), (0, a9)])) ∧ a5 ≤ 10 ∧ a6 ≤ 10 ∧ a7 ≤ 6 ∧ a8 ≤ 6 ∧ a9 ≤ 500
def cp167 (q : Option xE) : Prop := ∃ a3 : Nat, q = some (.inl (5, [(0, 6), (0, 4), (2, 168), (0, a3)])) ∧ a3 ≤ 6
def cp169 (q : Option xE) : Prop := ∃ a3 : Nat, q = some (.inl (5, [(0, 4), (0, 2), (2, 170), (0, a3)])) ∧ a3 ≤ 4
def cp171 (q : Option xE) : Prop := ∃ a3 : Nat, q = some (.inl (5, [(0, 6), (0, 2), (2, 172), (0, a3)])) ∧ a3 ≤ 6
def cp173 (q : Option xE) : Prop := ∃ a3 : Nat, q = some (.inl (5, [(0, 4), (0, 3), (2, 174), (0, a3)])) ∧ a3 ≤ 4
def cp175 (q : Option xE) : Prop := ∃ a3 : Nat, q = some (.inl (5, [(0, 20), (0, 2), (2, 176), (0, a3)])) ∧ a3 ≤ 20
def cp177 (q : Option xE) : Prop := ∃ a3 : Nat, q = some (.inl (5, [(0, 40), (0, 5), (2, 178), (0, a3)])) ∧ a3 ≤ 40
def cp179 (q : Option xE) : Prop := ∃ a3 : Nat, q = some (.inl (5, [(0, 12), (0, 5), (2, 180), (0, a3)])) ∧ a3 ≤ 12
def cp181 (q : Option xE) : Prop := ∃ a3 : Nat, q = some (.inl (5, [(0, 4), (0, 3), (2, 182), (0, a3)])) ∧ a3 ≤ 4
def cp183 (q : Option xE) : Prop := ∃ a3 : Nat, q = some (.inl (5, [(0, 12), (0, 4), (2, 184), (0, a3)])) ∧ a3 ≤ 12
def cp185 (q : Option xE) : Prop := ∃ a3 : Nat, q = some (.inl (5, [(0, 16), (0, 2), (2, 186), (0, a3)])) ∧ a3 ≤ 16
def cp187 (q : Option xE) : Prop := ∃ a3 : Nat, q = some (.inl (5, [(0, 64), (0, 5), (2, 188), (0, a3)])) ∧ a3 ≤ 64
def imps : List (Option xE → Prop) := [cp114, cpY 500 81, cp116, cp117, cpI 24 82 4294967295, cp119, cpI 8 83 4294967295, cp121, cpI 12 84 4294967295, cp123, cpI 12 85 4294967295, cp125, cpI 40 86 4294967295, cp127, cpI 200 87 4294967295, cp129, cpI 60 88 4294967295, cp131, cpI 12 89 4294967295, cp133, cpI 48 90 4294967295, cp135, cpI 32 91 4294967295, cp137, cpI 320 92 4294967295, cp139, cpY 500 93, cp141, cp142, cpI 24 94 4294967295, cp144, cpI 8 95 4294967295, cp146, cpI 12 96 4294967295, cp148, cpI 12 97 4294967295, cp150, cpI 40 98 4294967295, cp152, cpI 200 99 4294967295, cp154, cpI 60 100 4294967295, cp156, cpI 12 101 4294967295, cp158, cpI 48 102 4294967295, cp160, cpI 32 103 4294967295, cp162, cpI 320 104 4294967295, cp164, cpY 500 105, cp166, cp167, cpI 24 106 4294967295, cp169, cpI 8 107 4294967295, cp171, cpI 12 108 4294967295, cp173, cpI 12 109 4294967295, cp175, cpI 40 110 4294967295, cp177, cpI 200 111 4294967295, cp179, cpI 60 112 4294967295, cp181, cpI 12 113 4294967295, cp183, cpI 48 114 4294967295, cp185, cpI 32 115 4294967295, cp187, cpI 320 116 4294967295]
def imk (k : Nat) : Option xE → Prop := imps.getD (k - 114) (fun _ => True)
def xIm (a b : Nat) (w : List (List xE)) : Prop := ∀ k, a ≤ k → k < b → imk k (wget w k)
theorem xIm.up {a b : Nat} {w w' : List (List xE)} {S : List Nat} (h : xIm a b w) (hf : xFr S w w') (hs : ∀ k ∈ S, a ≤ k → imk k (wget w' k)) : xIm a b w' := by
  intro k h1 h2
  by_cases hc : k ∈ S
  · exact hs k hc h1
  · rw [hf.1 k hc]
    exact h k h1 h2
section XIG
variable {d : Nat} {w : List (List xE)} {bd : List (Nat × Nat)} {fc : List (Nat × Nat × Bool)} {rr : Nat × Nat}
end XIG
end
section
/-! again -/
def xR26 (m : Nat) (us : List (Nat × xV)) : Prop := ∀ j, j < 3 → xat 4 us j = (3, 0) ∨ ∃ i, i < m ∧ xat 4 us j = (2, 114 + 25 * i)
theorem xIm.sub {a b a' b' : Nat} {w : List (List xE)} (h : xIm a b w) (h1 : a ≤ a') (h2 : b' ≤ b) : xIm a' b' w := fun k h3 h4 => h k (by omega) (by omega)
section XAG
variable {d : Nat} {w : List (List xE)} {bd : List (Nat × Nat)} {fc : List (Nat × Nat × Bool)} {rr : Nat × Nat}
theorem xg_aald {p0 pc ln x y ix n k L t : Nat} {M : xM} {tl : List xI} {lo : xLo} {st : List xV} {hp : xH} {va vb : xV} {us : List (Nat × xV)} (h : wget hp.1 k = some (.inr (4, L, t, us))) (hi : xnm hp.2.1 va = (0, n)) (hn : n < L) (hv : xat 4 us n = vb) : xLd d M (p0, (pc, ln, 47, x, y, ix) :: tl, lo, va :: (2, k) :: st, hp) [(pc + ln, tl, lo, vb :: st, hp)] := by
  refine xg_op (f := xh_aaload) rfl ?_
  show xob (wget hp.1 k) (fun q => xarr q (xald1 (fun k => Nat.beq k 4) xidk d M (pc, ln, 47, x, y, ix) tl lo st hp (xnm hp.2.1 va))) = _
  rw [h, hi]
  show xif (true && (true && Nat.blt n L)) (xidk d M (pc + ln, tl, lo, xat 4 us n :: st, hp)) = _
  rw [xblt_t hn, hv]
  rfl
end XAG
end
section
/-! both constructors, run by the kernel -/
def xVe (a b : xV) : Bool := Nat.beq a.1 b.1 && Nat.beq a.2 b.2
def xLe {α : Type} (f : α → α → Bool) : List α → List α → Bool
  | [], [] => true
  | a :: l, b :: m => f a b && xLe f l m
  | _, _ => false
theorem xLe_ok {α : Type} {f : α → α → Bool} (hf : ∀ a b, f a b = true → a = b) : ∀ {l m : List α}, xLe f l m = true → l = m
  | [], [], _ => rfl
  | a :: l, b :: m, h => by
    obtain ⟨h1, h2⟩ := Bool.and_eq_true_iff.mp h
    rw [hf a b h1, xLe_ok hf h2]
  | [], _ :: _, h => by cases h
  | _ :: _, [], h => by cases h
theorem xVe_ok (a b : xV) (h : xVe a b = true) : a = b := xsame_ok h
def xKe (a b : Nat × xV) : Bool := Nat.beq a.1 b.1 && xVe a.2 b.2
theorem xKe_ok (a b : Nat × xV) (h : xKe a b = true) : a = b := by
  obtain ⟨h1, h2⟩ := Bool.and_eq_true_iff.mp h
  obtain ⟨a1, a2⟩ := a
  obtain ⟨b1, b2⟩ := b
  have e1 : a1 = b1 := xbeq h1
  have e2 : a2 = b2 := xVe_ok _ _ h2
  rw [e1, e2]
def xEe (a b : xE) : Bool := match a, b with
  | .inl a, .inl b => Nat.beq a.1 b.1 && xLe xVe a.2 b.2
  | .inr a, .inr b => (Nat.beq a.1 b.1 && Nat.beq a.2.1 b.2.1) && (Nat.beq a.2.2.1 b.2.2.1 && xLe xKe a.2.2.2 b.2.2.2)
  | _, _ => false
theorem xEe_ok (a b : xE) (h : xEe a b = true) : a = b := by
  cases a with
  | inl a =>
    cases b with
    | inr b => cases h
    | inl b =>
      obtain ⟨a1, a2⟩ := a
      obtain ⟨b1, b2⟩ := b
      obtain ⟨h1, h2⟩ := Bool.and_eq_true_iff.mp h
      have e1 : a1 = b1 := xbeq h1
      have e2 : a2 = b2 := xLe_ok xVe_ok h2
      rw [e1, e2]
  | inr a =>
    cases b with
    | inl b => cases h
    | inr b =>
      obtain ⟨a1, a2, a3, a4⟩ := a
      obtain ⟨b1, b2, b3, b4⟩ := b
      obtain ⟨h1, h2⟩ := Bool.and_eq_true_iff.mp h
      obtain ⟨h3, h4⟩ := Bool.and_eq_true_iff.mp h1
      obtain ⟨h5, h6⟩ := Bool.and_eq_true_iff.mp h2
      have e1 : a1 = b1 := xbeq h3
      have e2 : a2 = b2 := xbeq h4
      have e3 : a3 = b3 := xbeq h5
      have e4 : a4 = b4 := xLe_ok xKe_ok h6
      rw [e1, e2, e3, e4]
def xHe (a b : xH) : Bool := (xLe (xLe xEe) a.1 b.1 && xLe xVe a.2.1 b.2.1) && ((a.2.2.1.isEmpty && b.2.2.1.isEmpty) && ((Nat.beq a.2.2.2.1 b.2.2.2.1 && Nat.beq a.2.2.2.2.1 b.2.2.2.2.1) && (Nat.beq a.2.2.2.2.2.1 b.2.2.2.2.2.1 && Nat.beq a.2.2.2.2.2.2 b.2.2.2.2.2.2)))
theorem xHe_ok (a b : xH) (h : xHe a b = true) : a = b := by
  obtain ⟨a1, a2, a3, a4, a5, a6, a7⟩ := a
  obtain ⟨b1, b2, b3, b4, b5, b6, b7⟩ := b
  obtain ⟨h1, h2⟩ := Bool.and_eq_true_iff.mp h
  obtain ⟨h3, h4⟩ := Bool.and_eq_true_iff.mp h1
  obtain ⟨h5, h6⟩ := Bool.and_eq_true_iff.mp h2
  obtain ⟨h7, h8⟩ := Bool.and_eq_true_iff.mp h5
  obtain ⟨h9, h10⟩ := Bool.and_eq_true_iff.mp h6
  obtain ⟨h11, h12⟩ := Bool.and_eq_true_iff.mp h9
  obtain ⟨h13, h14⟩ := Bool.and_eq_true_iff.mp h10
  have e1 : a1 = b1 := xLe_ok (fun _ _ z => xLe_ok xEe_ok z) h3
  have e2 : a2 = b2 := xLe_ok xVe_ok h4
  have e3 : a3 = [] := List.isEmpty_iff.mp h7
  have e4 : b3 = [] := List.isEmpty_iff.mp h8
  have e5 : a4 = b4 := xbeq h11
  have e6 : a5 = b5 := xbeq h12
  have e7 : a6 = b6 := xbeq h13
  have e8 : a7 = b7 := xbeq h14
  rw [e1, e2, e3, e4, e5, e6, e7, e8]
def xSe (a b : xS) : Bool := (Nat.beq a.1 b.1 && (a.2.1.isEmpty && b.2.1.isEmpty)) && ((xLe xKe a.2.2.1 b.2.2.1 && xLe xVe a.2.2.2.1 b.2.2.2.1) && xHe a.2.2.2.2 b.2.2.2.2)
theorem xSe_ok (a b : xS) (h : xSe a b = true) : a = b := by
  obtain ⟨a1, a2, a3, a4, a5⟩ := a
  obtain ⟨b1, b2, b3, b4, b5⟩ := b
  obtain ⟨h1, h2⟩ := Bool.and_eq_true_iff.mp h
  obtain ⟨h3, h4⟩ := Bool.and_eq_true_iff.mp h1
  obtain ⟨h5, h6⟩ := Bool.and_eq_true_iff.mp h4
  obtain ⟨h7, h8⟩ := Bool.and_eq_true_iff.mp h2
  obtain ⟨h9, h10⟩ := Bool.and_eq_true_iff.mp h7
  have e1 : a1 = b1 := xbeq h3
  have e2 : a2 = [] := List.isEmpty_iff.mp h5
  have e3 : b2 = [] := List.isEmpty_iff.mp h6
  have e4 : a3 = b3 := xLe_ok xKe_ok h9
  have e5 : a4 = b4 := xLe_ok xVe_ok h10
  have e6 : a5 = b5 := xHe_ok _ _ h8
  rw [e1, e2, e3, e4, e5, e6]
noncomputable def xOe (o : Option (List xS)) (σ : xS) : Bool := Option.rec false (fun fs => xLe xSe fs [σ]) o
theorem xOe_ok {o : Option (List xS)} {σ : xS} (h : xOe o σ = true) : o = some [σ] := by
  cases o with
  | none => cases h
  | some fs =>
    have h : xLe xSe fs [σ] = true := h
    rw [xLe_ok xSe_ok h]
theorem xrun0 : xrun 2000 1000 mLp (0, [], [(0, (8, 99))], [], ([], [], [], 0, 0, 0, 0)) = some [(18, [], xlo0 (8, 99), [], (xW0, [], xhp0.2.2))] := xOe_ok (by decide +kernel)
theorem xW0_shp : xW0.map List.length = shp 114 := by decide +kernel
end
section
/-! what holds behind the constructors -/
set_option maxRecDepth 100000 in
theorem xInv0 : xInv xW0 := by
  intro k hk
  rcases Nat.lt_or_ge k 41 with h41 | h41
  · rcases Nat.lt_or_ge k 20 with h20 | h20
    · rcases Nat.lt_or_ge k 10 with h10 | h10
      · rcases Nat.lt_or_ge k 5 with h5 | h5
        · rcases Nat.lt_or_ge k 2 with h2 | h2
          · rcases Nat.lt_or_ge k 1 with h1 | h1
            · have e : k = 0 := by omega
              subst e
              exact (rfl : cp0 (wget xW0 0))
            · have e : k = 1 := by omega
              subst e
              exact (⟨0, 0, 4294967295, 0, 4294967295, 0, rfl, by decide, by decide, by decide, by decide, by decide, by decide⟩ : cp1 (wget xW0 1))
          · rcases Nat.lt_or_ge k 3 with h3 | h3
            · have e : k = 2 := by omega
              subst e
              exact (⟨fun _ => 0, ⟨[], rfl, fun _ _ => rfl⟩, fun _ => Or.inl (Nat.zero_le _)⟩ : cpY 500 0 (wget xW0 2))
            · rcases Nat.lt_or_ge k 4 with h4 | h4
              · have e : k = 3 := by omega
                subst e
                exact (⟨1, 1, 1, 1, 0, rfl, by decide, by decide, by decide, by decide, by decide⟩ : cp3 (wget xW0 3))
              · have e : k = 4 := by omega
                subst e
                exact (⟨0, rfl, by decide⟩ : cp4 (wget xW0 4))
        · rcases Nat.lt_or_ge k 7 with h7 | h7
          · rcases Nat.lt_or_ge k 6 with h6 | h6
            · have e : k = 5 := by omega
              subst e
              exact (⟨fun _ => 0, ⟨[], rfl, fun _ _ => rfl⟩, fun _ => Nat.zero_le _⟩ : cpI 24 1 4294967295 (wget xW0 5))
            · have e : k = 6 := by omega
              subst e
              exact (⟨0, rfl, by decide⟩ : cp6 (wget xW0 6))
          · rcases Nat.lt_or_ge k 8 with h8 | h8
            · have e : k = 7 := by omega
              subst e
              exact (⟨fun _ => 0, ⟨[], rfl, fun _ _ => rfl⟩, fun _ => Nat.zero_le _⟩ : cpI 8 2 4294967295 (wget xW0 7))
            · rcases Nat.lt_or_ge k 9 with h9 | h9
              · have e : k = 8 := by omega
                subst e
                exact (⟨0, rfl, by decide⟩ : cp8 (wget xW0 8))
              · have e : k = 9 := by omega
                subst e
                exact (⟨fun _ => 0, ⟨[], rfl, fun _ _ => rfl⟩, fun _ => Nat.zero_le _⟩ : cpI 12 3 4294967295 (wget xW0 9))
      · rcases Nat.lt_or_ge k 15 with h15 | h15
        · rcases Nat.lt_or_ge k 12 with h12 | h12
          · rcases Nat.lt_or_ge k 11 with h11 | h11
            · have e : k = 10 := by omega
              subst e
              exact (⟨0, rfl, by decide⟩ : cp10 (wget xW0 10))
            · have e : k = 11 := by omega
              subst e
              exact (⟨fun _ => 0, ⟨[], rfl, fun _ _ => rfl⟩, fun _ => Nat.zero_le _⟩ : cpI 12 4 4294967295 (wget xW0 11))
          · rcases Nat.lt_or_ge k 13 with h13 | h13
            · have e : k = 12 := by omega
              subst e
              exact (⟨0, rfl, by decide⟩ : cp12 (wget xW0 12))
            · rcases Nat.lt_or_ge k 14 with h14 | h14
              · have e : k = 13 := by omega
                subst e
                exact (⟨fun _ => 0, ⟨[], rfl, fun _ _ => rfl⟩, fun _ => Nat.zero_le _⟩ : cpI 40 5 4294967295 (wget xW0 13))
              · have e : k = 14 := by omega
                subst e
                exact (⟨0, rfl, by decide⟩ : cp14 (wget xW0 14))
        · rcases Nat.lt_or_ge k 17 with h17 | h17
          · rcases Nat.lt_or_ge k 16 with h16 | h16
            · have e : k = 15 := by omega
              subst e
              exact (⟨fun _ => 0, ⟨[], rfl, fun _ _ => rfl⟩, fun _ => Nat.zero_le _⟩ : cpI 200 6 4294967295 (wget xW0 15))
            · have e : k = 16 := by omega
              subst e
              exact (⟨0, rfl, by decide⟩ : cp16 (wget xW0 16))
          · rcases Nat.lt_or_ge k 18 with h18 | h18
            · have e : k = 17 := by omega
              subst e
              exact (⟨fun _ => 0, ⟨[], rfl, fun _ _ => rfl⟩, fun _ => Nat.zero_le _⟩ : cpI 60 7 4294967295 (wget xW0 17))
            · rcases Nat.lt_or_ge k 19 with h19 | h19
              · have e : k = 18 := by omega
                subst e
                exact (⟨0, rfl, by decide⟩ : cp18 (wget xW0 18))
              · have e : k = 19 := by omega
                subst e
                exact (⟨fun _ => 0, ⟨[], rfl, fun _ _ => rfl⟩, fun _ => Nat.zero_le _⟩ : cpI 12 8 4294967295 (wget xW0 19))
    · rcases Nat.lt_or_ge k 30 with h30 | h30
      · rcases Nat.lt_or_ge k 25 with h25 | h25
        · rcases Nat.lt_or_ge k 22 with h22 | h22
          · rcases Nat.lt_or_ge k 21 with h21 | h21
            · have e : k = 20 := by omega
              subst e
              exact (⟨0, rfl, by decide⟩ : cp20 (wget xW0 20))
            · have e : k = 21 := by omega
              subst e
              exact (⟨fun _ => 0, ⟨[], rfl, fun _ _ => rfl⟩, fun _ => Nat.zero_le _⟩ : cpI 48 9 4294967295 (wget xW0 21))
          · rcases Nat.lt_or_ge k 23 with h23 | h23
            · have e : k = 22 := by omega
              subst e
              exact (⟨0, rfl, by decide⟩ : cp22 (wget xW0 22))
            · rcases Nat.lt_or_ge k 24 with h24 | h24
              · have e : k = 23 := by omega
                subst e
                exact (⟨fun _ => 0, ⟨[], rfl, fun _ _ => rfl⟩, fun _ => Nat.zero_le _⟩ : cpI 32 10 4294967295 (wget xW0 23))
              · have e : k = 24 := by omega
                subst e
                exact (⟨0, rfl, by decide⟩ : cp24 (wget xW0 24))
        · rcases Nat.lt_or_ge k 27 with h27 | h27
          · rcases Nat.lt_or_ge k 26 with h26 | h26
            · have e : k = 25 := by omega
              subst e
              exact (⟨fun _ => 0, ⟨[], rfl, fun _ _ => rfl⟩, fun _ => Nat.zero_le _⟩ : cpI 320 11 4294967295 (wget xW0 25))
            · have e : k = 26 := by omega
              subst e
              exact trivial
          · rcases Nat.lt_or_ge k 28 with h28 | h28
            · have e : k = 27 := by omega
              subst e
              exact (⟨0, 0, 0, 0, 0, rfl, by decide, by decide, by decide, by decide, by decide⟩ : cp27 (wget xW0 27))
            · rcases Nat.lt_or_ge k 29 with h29 | h29
              · have e : k = 28 := by omega
                subst e
                exact (⟨1, 1, 1, 1, 0, rfl, by decide, by decide, by decide, by decide, by decide⟩ : cp28 (wget xW0 28))
              · have e : k = 29 := by omega
                subst e
                exact (⟨0, rfl, by decide⟩ : cp29 (wget xW0 29))
      · rcases Nat.lt_or_ge k 35 with h35 | h35
        · rcases Nat.lt_or_ge k 32 with h32 | h32
          · rcases Nat.lt_or_ge k 31 with h31 | h31
            · have e : k = 30 := by omega
              subst e
              exact (⟨fun _ => 0, ⟨[], rfl, fun _ _ => rfl⟩, fun _ => Nat.zero_le _⟩ : cpI 24 13 4294967295 (wget xW0 30))
            · have e : k = 31 := by omega
              subst e
              exact (⟨0, rfl, by decide⟩ : cp31 (wget xW0 31))
          · rcases Nat.lt_or_ge k 33 with h33 | h33
            · have e : k = 32 := by omega
              subst e
              exact (⟨fun _ => 0, ⟨[], rfl, fun _ _ => rfl⟩, fun _ => Nat.zero_le _⟩ : cpI 8 14 4294967295 (wget xW0 32))
            · rcases Nat.lt_or_ge k 34 with h34 | h34
              · have e : k = 33 := by omega
                subst e
                exact (⟨0, rfl, by decide⟩ : cp33 (wget xW0 33))
              · have e : k = 34 := by omega
                subst e
                exact (⟨fun _ => 0, ⟨[], rfl, fun _ _ => rfl⟩, fun _ => Nat.zero_le _⟩ : cpI 12 15 4294967295 (wget xW0 34))
        · rcases Nat.lt_or_ge k 38 with h38 | h38
          · rcases Nat.lt_or_ge k 36 with h36 | h36
            · have e : k = 35 := by omega
              subst e
              exact (⟨0, rfl, by decide⟩ : cp35 (wget xW0 35))
            · rcases Nat.lt_or_ge k 37 with h37 | h37
              · have e : k = 36 := by omega
                subst e
                exact (⟨fun _ => 0, ⟨[], rfl, fun _ _ => rfl⟩, fun _ => Nat.zero_le _⟩ : cpI 12 16 4294967295 (wget xW0 36))
              · have e : k = 37 := by omega
                subst e
                exact (⟨0, rfl, by decide⟩ : cp37 (wget xW0 37))
          · rcases Nat.lt_or_ge k 39 with h39 | h39
            · have e : k = 38 := by omega
              subst e
              exact (⟨fun _ => 0, ⟨[], rfl, fun _ _ => rfl⟩, fun _ => Nat.zero_le _⟩ : cpI 40 17 4294967295 (wget xW0 38))
            · rcases Nat.lt_or_ge k 40 with h40 | h40
              · have e : k = 39 := by omega
                subst e
                exact (⟨fun _ => 0, ⟨[], rfl, fun _ _ => rfl⟩, fun _ => Nat.zero_le _⟩ : cpI 3 18 4294967295 (wget xW0 39))
              · have e : k = 40 := by omega
                subst e
                exact (⟨fun _ => 0, ⟨[], rfl, fun _ _ => rfl⟩, fun _ => Nat.zero_le _⟩ : cpI 3 19 4294967295 (wget xW0 40))
  · rcases Nat.lt_or_ge k 61 with h61 | h61
    · rcases Nat.lt_or_ge k 51 with h51 | h51
      · rcases Nat.lt_or_ge k 46 with h46 | h46
        · rcases Nat.lt_or_ge k 43 with h43 | h43
          · rcases Nat.lt_or_ge k 42 with h42 | h42
            · have e : k = 41 := by omega
              subst e
              exact (⟨fun _ => 0, ⟨[], rfl, fun _ _ => rfl⟩, fun _ => Nat.zero_le _⟩ : cpI 20 20 4294967295 (wget xW0 41))
            · have e : k = 42 := by omega
              subst e
              exact (⟨0, 0, 0, 0, 0, rfl, by decide, by decide, by decide, by decide, by decide, by decide⟩ : cp42 (wget xW0 42))
          · rcases Nat.lt_or_ge k 44 with h44 | h44
            · have e : k = 43 := by omega
              subst e
              exact (⟨0, 0, rfl, by decide, by decide⟩ : cp43 (wget xW0 43))
            · rcases Nat.lt_or_ge k 45 with h45 | h45
              · have e : k = 44 := by omega
                subst e
                exact (⟨0, rfl, by decide⟩ : cp44 (wget xW0 44))
              · have e : k = 45 := by omega
                subst e
                exact (⟨fun _ => 0, ⟨[], rfl, fun _ _ => rfl⟩, fun _ => Nat.zero_le _⟩ : cpI 32 21 4294967295 (wget xW0 45))
        · rcases Nat.lt_or_ge k 48 with h48 | h48
          · rcases Nat.lt_or_ge k 47 with h47 | h47
            · have e : k = 46 := by omega
              subst e
              exact (⟨0, rfl, by decide⟩ : cp46 (wget xW0 46))
            · have e : k = 47 := by omega
              subst e
              exact (⟨fun _ => 0, ⟨[], rfl, fun _ _ => rfl⟩, fun _ => Nat.zero_le _⟩ : cpI 320 22 4294967295 (wget xW0 47))
          · rcases Nat.lt_or_ge k 49 with h49 | h49
            · have e : k = 48 := by omega
              subst e
              exact (⟨0, 0, 0, 0, 0, rfl, by decide, by decide, by decide, by decide, by decide, by decide⟩ : cp48 (wget xW0 48))
            · rcases Nat.lt_or_ge k 50 with h50 | h50
              · have e : k = 49 := by omega
                subst e
                exact (⟨0, 0, rfl, by decide, by decide⟩ : cp49 (wget xW0 49))
              · have e : k = 50 := by omega
                subst e
                exact (⟨fun _ => 0, ⟨[], rfl, fun _ _ => rfl⟩, fun _ => Nat.zero_le _⟩ : cpI 6 23 4294967295 (wget xW0 50))
      · rcases Nat.lt_or_ge k 56 with h56 | h56
        · rcases Nat.lt_or_ge k 53 with h53 | h53
          · rcases Nat.lt_or_ge k 52 with h52 | h52
            · have e : k = 51 := by omega
              subst e
              exact (⟨fun _ => 0, ⟨[], rfl, fun _ _ => rfl⟩, fun _ => Nat.zero_le _⟩ : cpI 6 24 4294967295 (wget xW0 51))
            · have e : k = 52 := by omega
              subst e
              exact (⟨fun _ => 0, ⟨[], rfl, fun _ _ => rfl⟩, fun _ => Nat.zero_le _⟩ : cpI 6 25 5 (wget xW0 52))
          · rcases Nat.lt_or_ge k 54 with h54 | h54
            · have e : k = 53 := by omega
              subst e
              exact (⟨fun _ => 0, [], rfl, fun _ _ => rfl⟩ : cpJ 6 26 (wget xW0 53))
            · rcases Nat.lt_or_ge k 55 with h55 | h55
              · have e : k = 54 := by omega
                subst e
                exact (⟨fun _ => 0, [], rfl, fun _ _ => rfl⟩ : cpJ 6 27 (wget xW0 54))
              · have e : k = 55 := by omega
                subst e
                exact (⟨fun _ => 0, [], rfl, fun _ _ => rfl⟩ : cpJ 6 28 (wget xW0 55))
        · rcases Nat.lt_or_ge k 58 with h58 | h58
          · rcases Nat.lt_or_ge k 57 with h57 | h57
            · have e : k = 56 := by omega
              subst e
              exact (⟨fun _ => 0, [], rfl, fun _ _ => rfl⟩ : cpJ 4 29 (wget xW0 56))
            · have e : k = 57 := by omega
              subst e
              exact (⟨fun _ => 0, ⟨[], rfl, fun _ _ => rfl⟩, fun _ => Nat.zero_le _⟩ : cpI 6 30 4294967295 (wget xW0 57))
          · rcases Nat.lt_or_ge k 59 with h59 | h59
            · have e : k = 58 := by omega
              subst e
              exact (⟨0, 0, 0, rfl, by decide, by decide, by decide⟩ : cp58 (wget xW0 58))
            · rcases Nat.lt_or_ge k 60 with h60 | h60
              · have e : k = 59 := by omega
                subst e
                exact (⟨fun _ => 0, ⟨[], rfl, fun _ _ => rfl⟩, fun _ => Nat.zero_le _⟩ : cpK 2 0 36 31 1 (wget xW0 59))
              · have e : k = 60 := by omega
                subst e
                exact (⟨fun _ => 0, ⟨[], rfl, fun _ _ => rfl⟩, fun _ => Nat.zero_le _⟩ : cpK 2 0 36 32 1 (wget xW0 60))
    · rcases Nat.lt_or_ge k 71 with h71 | h71
      · rcases Nat.lt_or_ge k 66 with h66 | h66
        · rcases Nat.lt_or_ge k 63 with h63 | h63
          · rcases Nat.lt_or_ge k 62 with h62 | h62
            · have e : k = 61 := by omega
              subst e
              exact (⟨fun _ => 0, ⟨[], rfl, fun _ _ => rfl⟩, fun _ => Nat.zero_le _⟩ : cpI 36 33 4294967295 (wget xW0 61))
            · have e : k = 62 := by omega
              subst e
              exact (⟨fun _ => 0, ⟨[], rfl, fun _ _ => rfl⟩, fun _ => Nat.zero_le _⟩ : cpI 36 34 4294967295 (wget xW0 62))
          · rcases Nat.lt_or_ge k 64 with h64 | h64
            · have e : k = 63 := by omega
              subst e
              exact (⟨fun _ => 0, ⟨[], rfl, fun _ _ => rfl⟩, fun _ => Nat.zero_le _⟩ : cpK 2 0 6 35 1 (wget xW0 63))
            · rcases Nat.lt_or_ge k 65 with h65 | h65
              · have e : k = 64 := by omega
                subst e
                exact (⟨fun _ => 0, ⟨[], rfl, fun _ _ => rfl⟩, fun _ => Nat.zero_le _⟩ : cpK 2 0 6 36 1 (wget xW0 64))
              · have e : k = 65 := by omega
                subst e
                exact (⟨fun _ => 0, ⟨[], rfl, fun _ _ => rfl⟩, fun _ => Nat.zero_le _⟩ : cpK 2 0 6 37 1 (wget xW0 65))
        · rcases Nat.lt_or_ge k 68 with h68 | h68
          · rcases Nat.lt_or_ge k 67 with h67 | h67
            · have e : k = 66 := by omega
              subst e
              exact (⟨fun _ => 0, ⟨[], rfl, fun _ _ => rfl⟩, fun _ => Nat.zero_le _⟩ : cpI 36 38 4294967295 (wget xW0 66))
            · have e : k = 67 := by omega
              subst e
              exact (⟨fun _ => 0, ⟨[], rfl, fun _ _ => rfl⟩, fun _ => Nat.zero_le _⟩ : cpI 36 39 35 (wget xW0 67))
          · rcases Nat.lt_or_ge k 69 with h69 | h69
            · have e : k = 68 := by omega
              subst e
              exact (⟨0, 0, rfl, by decide, by decide⟩ : cp68 (wget xW0 68))
            · rcases Nat.lt_or_ge k 70 with h70 | h70
              · have e : k = 69 := by omega
                subst e
                exact (⟨fun _ => 0, ⟨[], rfl, fun _ _ => rfl⟩, fun _ => Nat.zero_le _⟩ : cpI 36 40 4294967295 (wget xW0 69))
              · have e : k = 70 := by omega
                subst e
                exact (⟨fun _ => 0, ⟨[], rfl, fun _ _ => rfl⟩, fun _ => Nat.zero_le _⟩ : cpI 36 41 4294967295 (wget xW0 70))
      · rcases Nat.lt_or_ge k 76 with h76 | h76
        · rcases Nat.lt_or_ge k 73 with h73 | h73
          · rcases Nat.lt_or_ge k 72 with h72 | h72
            · have e : k = 71 := by omega
              subst e
              exact (⟨fun _ => 0, ⟨[], rfl, fun _ _ => rfl⟩, fun _ => Nat.zero_le _⟩ : cpI 36 42 4294967295 (wget xW0 71))
            · have e : k = 72 := by omega
              subst e
              exact (⟨0, 0, rfl, by decide, by decide⟩ : cp72 (wget xW0 72))
          · rcases Nat.lt_or_ge k 74 with h74 | h74
            · have e : k = 73 := by omega
              subst e
              exact (⟨fun _ => 0, ⟨[], rfl, fun _ _ => rfl⟩, fun _ => Nat.zero_le _⟩ : cpI 3025 43 4294967295 (wget xW0 73))
            · rcases Nat.lt_or_ge k 75 with h75 | h75
              · have e : k = 74 := by omega
                subst e
                exact (⟨0, rfl, by decide⟩ : cp74 (wget xW0 74))
              · have e : k = 75 := by omega
                subst e
                exact (⟨fun _ => 0, ⟨[], rfl, fun _ _ => rfl⟩, fun _ => Nat.zero_le _⟩ : cpI 300 44 4294967295 (wget xW0 75))
        · rcases Nat.lt_or_ge k 79 with h79 | h79
          · rcases Nat.lt_or_ge k 77 with h77 | h77
            · have e : k = 76 := by omega
              subst e
              exact (⟨0, 0, 0, 0, 0, 0, 0, 0, rfl, by decide, by decide, by decide, by decide, by decide, by decide, by decide, by decide⟩ : cp76 (wget xW0 76))
            · rcases Nat.lt_or_ge k 78 with h78 | h78
              · have e : k = 77 := by omega
                subst e
                exact (⟨fun _ => 0, ⟨[], rfl, fun _ _ => rfl⟩, fun _ => Nat.zero_le _⟩ : cpI 240 45 4294967295 (wget xW0 77))
              · have e : k = 78 := by omega
                subst e
                exact (⟨fun _ => 0, ⟨[], rfl, fun _ _ => rfl⟩, fun _ => Nat.zero_le _⟩ : cpI 15 46 4294967295 (wget xW0 78))
          · rcases Nat.lt_or_ge k 80 with h80 | h80
            · have e : k = 79 := by omega
              subst e
              exact (⟨fun _ => 0, ⟨[], rfl, fun _ _ => rfl⟩, fun _ => Nat.zero_le _⟩ : cpI 15 47 4294967295 (wget xW0 79))
            · rcases Nat.lt_or_ge k 81 with h81 | h81
              · have e : k = 80 := by omega
                subst e
                exact (⟨fun _ => 0, ⟨[], rfl, fun _ _ => rfl⟩, fun _ => Nat.zero_le _⟩ : cpI 11 48 4294967295 (wget xW0 80))
              · have e : k = 81 := by omega
                subst e
                exact (⟨fun _ => 0, ⟨[], rfl, fun _ _ => rfl⟩, fun _ => Nat.zero_le _⟩ : cpK 2 0 16 49 1 (wget xW0 81))
end
section
/-! what holds of the model behind its constructor -/
def f83 : Nat → Nat := fun j => if j = 8 then 1 else if j = 7 then 1 else if j = 6 then 1 else if j = 5 then 1 else if j = 17 then 4294967295 else if j = 12 then 4294967295 else 0
theorem xat83 : ∀ j, xat 0 [(8, (0, 1)), (7, (0, 1)), (6, (0, 1)), (5, (0, 1)), (17, (0, 4294967295)), (12, (0, 4294967295))] j = (0, f83 j) := by
  intro j
  by_cases h8 : j = 8
  · subst h8; rfl
  by_cases h7 : j = 7
  · subst h7; rfl
  by_cases h6 : j = 6
  · subst h6; rfl
  by_cases h5 : j = 5
  · subst h5; rfl
  by_cases h17 : j = 17
  · subst h17; rfl
  by_cases h12 : j = 12
  · subst h12; rfl
  have b8 : Nat.beq 8 j = false := by
    cases h : Nat.beq 8 j with
    | false => rfl
    | true => exact absurd (xbeq h).symm h8
  have b7 : Nat.beq 7 j = false := by
    cases h : Nat.beq 7 j with
    | false => rfl
    | true => exact absurd (xbeq h).symm h7
  have b6 : Nat.beq 6 j = false := by
    cases h : Nat.beq 6 j with
    | false => rfl
    | true => exact absurd (xbeq h).symm h6
  have b5 : Nat.beq 5 j = false := by
    cases h : Nat.beq 5 j with
    | false => rfl
    | true => exact absurd (xbeq h).symm h5
  have b17 : Nat.beq 17 j = false := by
    cases h : Nat.beq 17 j with
    | false => rfl
    | true => exact absurd (xbeq h).symm h17
  have b12 : Nat.beq 12 j = false := by
    cases h : Nat.beq 12 j with
    | false => rfl
    | true => exact absurd (xbeq h).symm h12
  rw [xat_cons, xat_cons, xat_cons, xat_cons, xat_cons, xat_cons, b8, b7, b6, b5, b17, b12]
  show ((0, 0) : xV) = (0, if j = 8 then 1 else if j = 7 then 1 else if j = 6 then 1 else if j = 5 then 1 else if j = 17 then 4294967295 else if j = 12 then 4294967295 else 0)
  rw [if_neg h8, if_neg h7, if_neg h6, if_neg h5, if_neg h17, if_neg h12]
theorem okB83 : okB f83 0 ∧ okB f83 1340 ∧ okB f83 2680 ∧ okB f83 4020 := by
  refine ⟨?_, ?_, ?_, ?_⟩ <;> refine ⟨by decide, by decide, by decide, by decide, by decide, by decide, by decide, by decide, by decide, by decide, by decide, by decide, by decide, by decide, by decide, by decide, by decide, fun k i hk _ => absurd hk (Nat.not_lt_zero k), fun k hk => absurd hk (Nat.not_lt_zero k), fun p i hk _ => absurd hk (Nat.not_lt_zero p), fun l hk => absurd hk (Nat.not_lt_zero l)⟩
theorem f83_le : ∀ j, f83 j ≤ 4294967295 := by
  intro j
  unfold f83
  repeat' split
  all_goals omega
set_option maxRecDepth 100000 in
theorem xMnv0 : xMnv xW0 := by
  intro k hk h8
  rcases Nat.lt_or_ge k 98 with h98 | h98
  · rcases Nat.lt_or_ge k 90 with h90 | h90
    · rcases Nat.lt_or_ge k 86 with h86 | h86
      · rcases Nat.lt_or_ge k 84 with h84 | h84
        · rcases Nat.lt_or_ge k 83 with h83 | h83
          · have e : k = 82 := by omega
            subst e
            exact (⟨0, 0, 0, 0, 0, 0, 0, 0, 0, 0, 0, 0, 0, 0, 0, 0, rfl, by decide, by decide, by decide, by decide, by decide, by decide, by decide, by decide, by decide, by decide, by decide, by decide, by decide, by decide, by decide⟩ : cp82 (wget xW0 82))
          · have e : k = 83 := by omega
            subst e
            exact (⟨f83, ⟨_, rfl, fun j _ => xat83 j⟩, f83_le, okB83⟩ : cpx83 (wget xW0 83))
        · rcases Nat.lt_or_ge k 85 with h85 | h85
          · have e : k = 84 := by omega
            subst e
            exact (⟨fun _ => 0, ⟨[], rfl, fun _ _ => rfl⟩, fun _ => Nat.zero_le _⟩ : cpK 2 0 3 51 1 (wget xW0 84))
          · have e : k = 85 := by omega
            subst e
            exact (⟨fun _ => 0, ⟨[], rfl, fun _ _ => rfl⟩, fun _ => Nat.zero_le _⟩ : cpI 7 52 4294967295 (wget xW0 85))
      · rcases Nat.lt_or_ge k 88 with h88 | h88
        · rcases Nat.lt_or_ge k 87 with h87 | h87
          · have e : k = 86 := by omega
            subst e
            exact (⟨fun _ => 0, ⟨[], rfl, fun _ _ => rfl⟩, fun _ => Nat.zero_le _⟩ : cpI 140 53 4294967295 (wget xW0 86))
          · have e : k = 87 := by omega
            subst e
            exact (⟨fun _ => 0, ⟨[], rfl, fun _ _ => rfl⟩, fun _ => Nat.zero_le _⟩ : cpI 20 54 4294967295 (wget xW0 87))
        · rcases Nat.lt_or_ge k 89 with h89 | h89
          · have e : k = 88 := by omega
            subst e
            exact (⟨fun _ => 0, ⟨[], rfl, fun _ _ => rfl⟩, fun _ => Nat.zero_le _⟩ : cpI 6 55 5 (wget xW0 88))
          · have e : k = 89 := by omega
            subst e
            exact (⟨fun _ => 0, ⟨[], rfl, fun _ _ => rfl⟩, fun _ => Nat.zero_le _⟩ : cpI 6 56 4294967295 (wget xW0 89))
    · rcases Nat.lt_or_ge k 94 with h94 | h94
      · rcases Nat.lt_or_ge k 92 with h92 | h92
        · rcases Nat.lt_or_ge k 91 with h91 | h91
          · have e : k = 90 := by omega
            subst e
            exact (⟨fun _ => 0, ⟨[], rfl, fun _ _ => rfl⟩, fun _ => Nat.zero_le _⟩ : cpI 6 57 4294967295 (wget xW0 90))
          · have e : k = 91 := by omega
            subst e
            exact (⟨fun _ => 0, ⟨[], rfl, fun _ _ => rfl⟩, fun _ => Nat.zero_le _⟩ : cpI 6 58 5 (wget xW0 91))
        · rcases Nat.lt_or_ge k 93 with h93 | h93
          · have e : k = 92 := by omega
            subst e
            exact (⟨fun _ => 0, [], rfl, fun _ _ => rfl⟩ : cpJ 6 59 (wget xW0 92))
          · have e : k = 93 := by omega
            subst e
            exact (⟨fun _ => 0, [], rfl, fun _ _ => rfl⟩ : cpJ 6 60 (wget xW0 93))
      · rcases Nat.lt_or_ge k 96 with h96 | h96
        · rcases Nat.lt_or_ge k 95 with h95 | h95
          · have e : k = 94 := by omega
            subst e
            exact (⟨fun _ => 0, [], rfl, fun _ _ => rfl⟩ : cpJ 6 61 (wget xW0 94))
          · have e : k = 95 := by omega
            subst e
            exact (⟨fun _ => 0, ⟨[], rfl, fun _ _ => rfl⟩, fun _ => Nat.zero_le _⟩ : cpI 36 62 4294967295 (wget xW0 95))
        · rcases Nat.lt_or_ge k 97 with h97 | h97
          · have e : k = 96 := by omega
            subst e
            exact (⟨fun _ => 0, ⟨[], rfl, fun _ _ => rfl⟩, fun _ => Nat.zero_le _⟩ : cpI 36 63 4294967295 (wget xW0 96))
          · have e : k = 97 := by omega
            subst e
            exact (⟨fun _ => 0, ⟨[], rfl, fun _ _ => rfl⟩, fun _ => Nat.zero_le _⟩ : cpI 6 64 4294967295 (wget xW0 97))
  · rcases Nat.lt_or_ge k 106 with h106 | h106
    · rcases Nat.lt_or_ge k 102 with h102 | h102
      · rcases Nat.lt_or_ge k 100 with h100 | h100
        · rcases Nat.lt_or_ge k 99 with h99 | h99
          · have e : k = 98 := by omega
            subst e
            exact (⟨fun _ => 0, ⟨[], rfl, fun _ _ => rfl⟩, fun _ => Nat.zero_le _⟩ : cpI 6 65 4294967295 (wget xW0 98))
          · have e : k = 99 := by omega
            subst e
            exact (⟨fun _ => 0, ⟨[], rfl, fun _ _ => rfl⟩, fun _ => Nat.zero_le _, fun _ (h : 0 = 1) => absurd h (by decide)⟩ : cpx99 (wget xW0 99))
        · rcases Nat.lt_or_ge k 101 with h101 | h101
          · have e : k = 100 := by omega
            subst e
            exact (⟨fun _ => 0, ⟨[], rfl, fun _ _ => rfl⟩, fun _ => Nat.zero_le _, fun _ (h : 0 = 1) => absurd h (by decide)⟩ : cpx100 (wget xW0 100))
          · have e : k = 101 := by omega
            subst e
            exact (⟨fun _ => 0, ⟨[], rfl, fun _ _ => rfl⟩, fun _ => Nat.zero_le _⟩ : cpI 36 68 35 (wget xW0 101))
      · rcases Nat.lt_or_ge k 104 with h104 | h104
        · rcases Nat.lt_or_ge k 103 with h103 | h103
          · have e : k = 102 := by omega
            subst e
            exact (⟨fun _ => 0, ⟨[], rfl, fun _ _ => rfl⟩, fun _ => Nat.zero_le _, fun _ => Or.inr (show 0 < 36 by decide)⟩ : cpx102 (wget xW0 102))
          · have e : k = 103 := by omega
            subst e
            exact (⟨fun _ => 0, ⟨[], rfl, fun _ _ => rfl⟩, fun _ => Nat.zero_le _⟩ : cpI 36 70 4294967295 (wget xW0 103))
        · rcases Nat.lt_or_ge k 105 with h105 | h105
          · have e : k = 104 := by omega
            subst e
            exact (⟨fun _ => 0, ⟨[], rfl, fun _ _ => rfl⟩, fun _ => Nat.zero_le _⟩ : cpI 36 71 4294967295 (wget xW0 104))
          · have e : k = 105 := by omega
            subst e
            exact (⟨fun _ => 0, ⟨[], rfl, fun _ _ => rfl⟩, fun _ => Nat.zero_le _⟩ : cpI 36 72 4294967295 (wget xW0 105))
    · rcases Nat.lt_or_ge k 110 with h110 | h110
      · rcases Nat.lt_or_ge k 108 with h108 | h108
        · rcases Nat.lt_or_ge k 107 with h107 | h107
          · have e : k = 106 := by omega
            subst e
            exact (⟨fun _ => 0, ⟨[], rfl, fun _ _ => rfl⟩, fun _ => Nat.zero_le _⟩ : cpI 14641 73 4294967295 (wget xW0 106))
          · have e : k = 107 := by omega
            subst e
            exact (⟨fun _ => 0, ⟨[], rfl, fun _ _ => rfl⟩, fun _ => Nat.zero_le _⟩ : cpK 2 0 14641 74 1 (wget xW0 107))
        · rcases Nat.lt_or_ge k 109 with h109 | h109
          · have e : k = 108 := by omega
            subst e
            exact (⟨fun _ => 0, ⟨[], rfl, fun _ _ => rfl⟩, fun _ => Nat.zero_le _, fun _ => (show okP 0 from ⟨by decide, by decide, by decide⟩)⟩ : cpx108 (wget xW0 108))
          · have e : k = 109 := by omega
            subst e
            exact (⟨fun _ => 0, ⟨[], rfl, fun _ _ => rfl⟩, fun _ => Nat.zero_le _⟩ : cpI 300 76 4294967295 (wget xW0 109))
      · rcases Nat.lt_or_ge k 112 with h112 | h112
        · rcases Nat.lt_or_ge k 111 with h111 | h111
          · have e : k = 110 := by omega
            subst e
            exact (⟨fun _ => 0, ⟨[], rfl, fun _ _ => rfl⟩, fun _ => Nat.zero_le _⟩ : cpI 36 77 4294967295 (wget xW0 110))
          · have e : k = 111 := by omega
            subst e
            exact (⟨fun _ => 0, ⟨[], rfl, fun _ _ => rfl⟩, fun _ => Nat.zero_le _⟩ : cpI 240 78 4294967295 (wget xW0 111))
        · rcases Nat.lt_or_ge k 113 with h113 | h113
          · have e : k = 112 := by omega
            subst e
            exact (⟨fun _ => 0, ⟨[], rfl, fun _ _ => rfl⟩, fun _ => Nat.zero_le _⟩ : cpI 320 79 4294967295 (wget xW0 112))
          · have e : k = 113 := by omega
            subst e
            exact (⟨fun _ => 0, ⟨[], rfl, fun _ _ => rfl⟩, fun _ => Nat.zero_le _⟩ : cpI 4 80 4294967295 (wget xW0 113))
end
section
/-! calls that make cells; what a constructor's instructions do -/
section XCK2
variable {d p0 pc ln x y ix v k n t L j : Nat} {M M' : xM} {P : xS → Prop} {tl : List xI} {lo : xLo} {st rest vs : List xV} {hp : xH} {hr : xHr} {va vb : xV} {w w' : List (List xE)} {bd : List (Nat × Nat)} {fc : List (Nat × Nat × Bool)} {cn sl cn1 sl1 cn' sl' : Nat} {rr rr' : Nat × Nat} {fl fl1 : List xV} {us : List (Nat × xV)} {r : List xV} {Q : List (List xE) → Nat × Nat → Prop}
/-- what a method does that makes cells -/
def xPk (d : Nat) (M : xM) (vs : List xV) (w : List (List xE)) (bd : List (Nat × Nat)) (fc : List (Nat × Nat × Bool)) (rr : Nat × Nat) (Q : List xV → List (List xE) → Nat × Nat → Prop) : Prop := ∃ (φ : xS) (r : List xV) (w' : List (List xE)) (cn' sl' : Nat) (rr' : Nat × Nat), xLd d M (0, [], xarg vs 0, [], (w, bd, fc, 0, 0, rr)) [φ] ∧ xret M.2.2.2.2.2.1 φ = some r ∧ φ.2.2.2.2 = (w', bd, fc, cn', sl', rr') ∧ cn' ≤ M.2.2.2.2.2.2.1 ∧ sl' ≤ M.2.2.2.2.2.2.2.1 ∧ Q r w' rr'
theorem xPk.of {Q : List xV → List (List xE) → Nat × Nat → Prop} (h : xTo d M (0, [], xarg vs 0, [], (w, bd, fc, 0, 0, rr)) (fun φ => ∃ r w' cn' sl' rr', xEnd M.2.2.2.2.2.1 r (w', bd, fc, cn', sl', rr') φ ∧ cn' ≤ M.2.2.2.2.2.2.1 ∧ sl' ≤ M.2.2.2.2.2.2.2.1 ∧ Q r w' rr')) : xPk d M vs w bd fc rr Q := by
  obtain ⟨φ, h1, r, w', cn', sl', rr', ⟨h2, h3⟩, h4, h5, h6⟩ := h
  exact ⟨φ, r, w', cn', sl', rr', h1, h2, h3, h4, h5, h6⟩
theorem xc2k {φ : xS} {e : xI} (hr : xret M'.2.2.2.2.2.1 φ = some r) (hφ : φ.2.2.2.2 = (w', bd, fc, cn', sl', rr')) (hc : cn' ≤ M'.2.2.2.2.2.2.1) (hs : sl' ≤ M'.2.2.2.2.2.2.2.1) (hb : ((Nat.ble (cn + M'.2.2.2.2.2.2.1) M.2.2.2.2.2.2.1 && Nat.ble (xwds vs) M'.2.2.1) && (Nat.ble (sl + M'.2.2.2.2.2.2.2.1) M.2.2.2.2.2.2.2.1 && Nat.ble (xwds rest) 8)) = true) : xcall2 (xihc d M' (0, [], xarg vs 0, [], (w, bd, fc, 0, 0, rr)) φ) (d + 1) M e tl lo (w, bd, fc, cn, sl, rr) M' d vs rest = some [(e.1 + e.2.1, tl, lo, r ++ rest, (w', bd, fc, cn + M'.2.2.2.2.2.2.1, sl + M'.2.2.2.2.2.2.2.1, rr'))] := by
  unfold xcall2
  show xif ((Nat.ble (cn + M'.2.2.2.2.2.2.1) M.2.2.2.2.2.2.1 && Nat.ble (xwds vs) M'.2.2.1) && (Nat.ble (sl + M'.2.2.2.2.2.2.2.1) M.2.2.2.2.2.2.2.1 && Nat.ble (xwds rest) 8)) (xob (xihc d M' (0, [], xarg vs 0, [], (w, bd, fc, 0, 0, rr)) φ d M' (0, [], xarg vs 0, [], (w, bd, fc, 0, 0, rr))) fun fs => xall (xihc d M' (0, [], xarg vs 0, [], (w, bd, fc, 0, 0, rr)) φ (d + 1) M) (xback M' e tl lo rest (w, bd, fc, cn, sl, rr)) fs) = _
  rw [hb, xihc_at]
  show xob (xback M' e tl lo rest (w, bd, fc, cn, sl, rr) φ) (xihc d M' (0, [], xarg vs 0, [], (w, bd, fc, 0, 0, rr)) φ (d + 1) M) = _
  have e1 : xback M' e tl lo rest (w, bd, fc, cn, sl, rr) φ = some (e.1 + e.2.1, tl, lo, r ++ rest, (w', bd, fc, cn + M'.2.2.2.2.2.2.1, sl + M'.2.2.2.2.2.2.2.1, rr')) := by
    unfold xback
    rw [hr, hφ]
    show xif (Nat.ble cn' M'.2.2.2.2.2.2.1 && Nat.ble sl' M'.2.2.2.2.2.2.2.1) (xN (cn + M'.2.2.2.2.2.2.1) fun cn => xN (sl + M'.2.2.2.2.2.2.2.1) fun sl => some (e.1 + e.2.1, tl, lo, r ++ rest, (w', bd, fc, cn, sl, rr'))) = _
    rw [Nat.ble_eq_true_of_le hc, Nat.ble_eq_true_of_le hs, xN_eq, xN_eq]
    rfl
  rw [e1]
  exact xihc_ne (by omega)
/-- a constructor is called -/
theorem xg_cI (M' : xM) (hk : mget x = some M') (hP : xPk d M' ((2, j) :: vs) w bd fc rr (fun r w' rr' => r = [] ∧ Q w' rr')) (hy1 : Nat.ble (y % 8) 1 = false) (hy3 : Nat.ble (y % 8) 3 = false) (hn : Nat.beq (st.take M'.2.2.2.2.1).length M'.2.2.2.2.1 = true) (hv : (st.take M'.2.2.2.2.1).reverse = vs) (hr : st.drop M'.2.2.2.2.1 = (2, j) :: rest) (hb : ((Nat.ble (cn + M'.2.2.2.2.2.2.1) M.2.2.2.2.2.2.1 && Nat.ble (xwds ((2, j) :: vs)) M'.2.2.1) && (Nat.ble (sl + M'.2.2.2.2.2.2.2.1) M.2.2.2.2.2.2.2.1 && Nat.ble (xwds rest) 8)) = true) (h1 : cn + M'.2.2.2.2.2.2.1 = cn1) (h2 : sl + M'.2.2.2.2.2.2.2.1 = sl1) (K : ∀ w' rr', Q w' rr' → xTo (d + 1) M (pc + ln, tl, lo, rest, (w', bd, fc, cn1, sl1, rr')) P) : xTo (d + 1) M (p0, (pc, ln, 13, x, y, ix) :: tl, lo, st, (w, bd, fc, cn, sl, rr)) P := by
  obtain ⟨φ, r, w', cn', sl', rr', q1, q2, q3, q4, q5, q6, q7⟩ := hP
  subst h1
  subst h2
  subst q6
  refine xg_t (τ := (pc + ln, tl, lo, rest, (w', bd, fc, cn + M'.2.2.2.2.2.2.1, sl + M'.2.2.2.2.2.2.2.1, rr'))) ?_ (K w' rr' q7)
  intro hM hpos
  refine xstep_ok xmall (xihc_ok q1) (d + 1) M _ _ ?_ hM hpos
  show xob (mget x) (fun M' => xcall1 (xihc d _ (0, [], xarg ((2, j) :: vs) 0, [], (w, bd, fc, 0, 0, rr)) φ) (d + 1) M (pc, ln, 13, x, y, ix) tl lo st (w, bd, fc, cn, sl, rr) M' d) = _
  rw [hk]
  show xcall1 (xihc d M' (0, [], xarg ((2, j) :: vs) 0, [], (w, bd, fc, 0, 0, rr)) φ) (d + 1) M (pc, ln, 13, x, y, ix) tl lo st (w, bd, fc, cn, sl, rr) M' d = _
  unfold xcall1
  rw [hn, hv, hr]
  show cond (Nat.ble (y % 8) 1) _ (cond (Nat.ble (y % 8) 3) _ (xcall2 (xihc d M' (0, [], xarg ((2, j) :: vs) 0, [], (w, bd, fc, 0, 0, rr)) φ) (d + 1) M (pc, ln, 13, x, y, ix) tl lo (w, bd, fc, cn, sl, rr) M' d ((2, j) :: vs) rest)) = _
  rw [hy1, hy3]
  exact xc2k q2 q3 q4 q5 hb
/-- a method that makes cells and answers an int -/
theorem xg_cVk {Q : Nat → List (List xE) → Nat × Nat → Prop} (M' : xM) (hk : mget x = some M') (hP : xPk d M' ((2, j) :: vs) w bd fc rr (fun r w' rr' => ∃ n, r = [(0, n)] ∧ Q n w' rr')) (hy : y % 8 = 0) (ho : wget w j = some (.inl (y / 8, fl))) (hn : Nat.beq (st.take M'.2.2.2.2.1).length M'.2.2.2.2.1 = true) (hv : (st.take M'.2.2.2.2.1).reverse = vs) (hr : st.drop M'.2.2.2.2.1 = (2, j) :: rest) (hb : ((Nat.ble (cn + M'.2.2.2.2.2.2.1) M.2.2.2.2.2.2.1 && Nat.ble (xwds ((2, j) :: vs)) M'.2.2.1) && (Nat.ble (sl + M'.2.2.2.2.2.2.2.1) M.2.2.2.2.2.2.2.1 && Nat.ble (xwds rest) 8)) = true) (h1 : cn + M'.2.2.2.2.2.2.1 = cn1) (h2 : sl + M'.2.2.2.2.2.2.2.1 = sl1) (K : ∀ n w' rr', Q n w' rr' → xTo (d + 1) M (pc + ln, tl, lo, (0, n) :: rest, (w', bd, fc, cn1, sl1, rr')) P) : xTo (d + 1) M (p0, (pc, ln, 13, x, y, ix) :: tl, lo, st, (w, bd, fc, cn, sl, rr)) P := by
  obtain ⟨φ, r, w', cn', sl', rr', q1, q2, q3, q4, q5, n, q6, q7⟩ := hP
  subst h1
  subst h2
  subst q6
  refine xg_t (τ := (pc + ln, tl, lo, (0, n) :: rest, (w', bd, fc, cn + M'.2.2.2.2.2.2.1, sl + M'.2.2.2.2.2.2.2.1, rr'))) ?_ (K n w' rr' q7)
  intro hM hpos
  refine xstep_ok xmall (xihc_ok q1) (d + 1) M _ _ ?_ hM hpos
  show xob (mget x) (fun M' => xcall1 (xihc d _ (0, [], xarg ((2, j) :: vs) 0, [], (w, bd, fc, 0, 0, rr)) φ) (d + 1) M (pc, ln, 13, x, y, ix) tl lo st (w, bd, fc, cn, sl, rr) M' d) = _
  rw [hk]
  show xcall1 (xihc d M' (0, [], xarg ((2, j) :: vs) 0, [], (w, bd, fc, 0, 0, rr)) φ) (d + 1) M (pc, ln, 13, x, y, ix) tl lo st (w, bd, fc, cn, sl, rr) M' d = _
  unfold xcall1
  rw [hn, hv, hr]
  show cond (Nat.ble (y % 8) 1) (xob (wget w j) fun q => xobj q fun o => xif (Nat.beq o.1 (y / 8)) (xcall2 (xihc d M' (0, [], xarg ((2, j) :: vs) 0, [], (w, bd, fc, 0, 0, rr)) φ) (d + 1) M (pc, ln, 13, x, y, ix) tl lo (w, bd, fc, cn, sl, rr) M' d ((2, j) :: vs) rest)) _ = _
  rw [hy, ho]
  show xif (Nat.beq (y / 8) (y / 8)) _ = _
  rw [Nat.beq_refl]
  exact xc2k q2 q3 q4 q5 hb
theorem xg_oini (hd : Nat.blt 0 d = true) (hs : Nat.ble st.length 4 = true) : xLd d M (p0, (pc, ln, 25, x, y, ix) :: tl, lo, (2, k) :: st, hp) [(pc + ln, tl, lo, st, hp)] := by
  refine xg_op (f := xh_objinit) rfl ?_
  show xif (true && (Nat.blt 0 d && Nat.ble st.length 4)) (xidk d M (pc + ln, tl, lo, st, hp)) = _
  rw [hd, hs]
  rfl
theorem xg_putFR (hN : decide (M.1.name = "<init>") = true) (h : wget w k = some (.inl (x, fl))) (hv : xget fl y = some vb) (hi : xisr va = true) (hx : xset va fl y = fl1) (K : ∀ w', wget w' k = some (.inl (x, fl1)) → xBut k w w' → xTo d M (pc + ln, tl, lo, st, (w', hr)) P) : xTo d M (p0, (pc, ln, 61, x, y, ix) :: tl, lo, va :: (2, k) :: st, (w, hr)) P := by
  subst hx
  refine xg_t (xg_op (f := xh_putFR) (fs := [(pc + ln, tl, lo, st, (wset (.inl (x, xset va fl y)) w k, hr))]) rfl ?_) (K _ (wget_set_self h) (xBut.set h))
  show xif (decide (M.1.name = "<init>")) (xif (xisr va && Nat.beq 2 2) (xob (wget w k) fun q => xobj q (xpf1 xidk d M (pc, ln, 61, x, y, ix) tl lo st (w, hr) va k))) = _
  rw [hN, hi, h]
  show xif (Nat.beq x x) (xob (xget fl y) fun _ => xidk d M (pc + ln, tl, lo, st, xwr (w, hr) k (.inl (x, xset va fl y)))) = _
  rw [Nat.beq_refl, hv]
  rfl
theorem xg_putFI (hN : decide (M.1.name = "<init>") = true) (h : wget w k = some (.inl (x, fl))) (hv : xget fl y = some vb) (hi : xisi va = true) (hx : xset va fl y = fl1) (K : ∀ w', wget w' k = some (.inl (x, fl1)) → xBut k w w' → xTo d M (pc + ln, tl, lo, st, (w', hr)) P) : xTo d M (p0, (pc, ln, 22, x, y, ix) :: tl, lo, va :: (2, k) :: st, (w, hr)) P := by
  subst hx
  refine xg_t (xg_op (f := xh_putFI) (fs := [(pc + ln, tl, lo, st, (wset (.inl (x, xset va fl y)) w k, hr))]) rfl ?_) (K _ (wget_set_self h) (xBut.set h))
  show xif (decide (M.1.name = "<init>")) (xif (xisi va && Nat.beq 2 2) (xob (wget w k) fun q => xobj q (xpf1 xidk d M (pc, ln, 22, x, y, ix) tl lo st (w, hr) va k))) = _
  rw [hN, hi, h]
  show xif (Nat.beq x x) (xob (xget fl y) fun _ => xidk d M (pc + ln, tl, lo, st, xwr (w, hr) k (.inl (x, xset va fl y)))) = _
  rw [Nat.beq_refl, hv]
  rfl
theorem xg_aast (h : wget w k = some (.inr (4, L, t, us))) (hi : xnm hr.1 va = (0, n)) (hn : n < L) (hv : wget w v = some (.inl (9, fl))) (hz : xat 4 us n = (3, 0)) (K : ∀ w', wget w' k = some (.inr (4, L, t, (n, (2, v)) :: us)) → xBut k w w' → xTo d M (pc + ln, tl, lo, st, (w', hr)) P) : xTo d M (p0, (pc, ln, 48, x, y, ix) :: tl, lo, (2, v) :: va :: (2, k) :: st, (w, hr)) P := by
  refine xg_t (xg_op (f := xh_aastore) (fs := [(pc + ln, tl, lo, st, (wset (.inr (4, L, t, (n, (2, v)) :: us)) w k, hr))]) rfl ?_) (K _ (wget_set_self h) (xBut.set h))
  show xif (Nat.beq 2 2 && Nat.beq 2 2) (xob (wget w v) fun qv => xobj qv fun ov => xif (Nat.beq ov.1 9) (xob (wget w k) fun q => xarr q fun a => xif (Nat.beq a.1 4) (xast1 xidk d M (pc, ln, 48, x, y, ix) tl lo st (w, hr) k (2, v) (xnm hr.1 va) a))) = _
  rw [hv, h, hi]
  show xif (true && Nat.blt n L) (cond (xsame (2, v) (xat 4 us n)) (xidk d M (pc + ln, tl, lo, st, (w, hr))) (xidk d M (pc + ln, tl, lo, st, xwr (w, hr) k (.inr (4, L, t, (n, (2, v)) :: us))))) = _
  rw [xblt_t hn, hz]
  rfl
theorem xat4_cons {q : xV} {u : Nat} : xat 4 ((n, q) :: us) u = cond (Nat.beq n u) q (xat 4 us u) := by
  show Option.rec (motive := fun _ => xV) (cond (Nat.beq 4 4) (3, 0) (cond (Nat.beq 4 3) (4, 0) (0, 0))) (fun v => v) (cond (Nat.beq n u) (some q) (xfind us u)) = _
  cases Nat.beq n u <;> rfl
end XCK2
/-- the shape says which cells there are -/
theorem wget_ex {α : Type} : ∀ {w : List (List α)} {n k : Nat}, w.map List.length = shp n → k < n → ∃ q, wget w k = some q
  | [], n, k, h, hk => by
    exfalso
    rcases Nat.lt_or_ge n 10 with q | q
    · unfold shp at h
      have e : n / 10 = 0 := by omega
      rw [e] at h
      by_cases z : n % 10 = 0
      · omega
      · rw [if_neg z] at h
        cases h
    · rw [shp_ge q] at h
      cases h
  | c :: t, n, k, h, hk => by
    by_cases hn : 10 ≤ n
    · rw [shp_ge hn] at h
      have h : c.length :: t.map List.length = 10 :: shp (n - 10) := h
      injection h with h1 h2
      by_cases hk' : k < 10
      · have e1 : xget (c :: t) (k / 10) = some c := by
          rw [show k / 10 = 0 by omega]
          rfl
        rw [wget_of e1, xget_eq]
        exact ⟨c[k % 10]'(by omega), List.getElem?_eq_getElem _⟩
      · obtain ⟨q, hq⟩ := wget_ex (w := t) (k := k - 10) h2 (by omega)
        obtain ⟨c', h3, h4⟩ := wget_some hq
        have e1 : xget (c :: t) (k / 10) = some c' := by
          rw [show k / 10 = (k - 10) / 10 + 1 by omega]
          exact h3
        rw [wget_of e1, show k % 10 = (k - 10) % 10 by omega]
        exact ⟨q, h4⟩
    · have e1 : n / 10 = 0 := by omega
      have e2 : n % 10 = n := by omega
      unfold shp at h
      rw [e1, e2, if_neg (by omega)] at h
      have h : c.length :: t.map List.length = [n] := h
      injection h with h1 h2
      have e3 : xget (c :: t) (k / 10) = some c := by
        rw [show k / 10 = 0 by omega]
        rfl
      rw [wget_of e3, xget_eq]
      exact ⟨c[k % 10]'(by omega), List.getElem?_eq_getElem _⟩
theorem wkeep {w w' : List (List xE)} {n : Nat} (hs : w.map List.length = shp n) (hk : ∀ k q, k < n → wget w k = some q → wget w' k = some q) : ∀ k, k < n → wget w' k = wget w k := fun k h => by
  obtain ⟨q, e⟩ := wget_ex hs h
  rw [e, hk k q h e]
theorem xInv.keep {w w' : List (List xE)} (h : xInv w) (hk : ∀ k, k < 82 → wget w' k = wget w k) : xInv w' := fun k h1 => by
  rw [hk k h1]
  exact h k h1
theorem xMnv.keep {w w' : List (List xE)} (h : xMnv w) (hk : ∀ k, k < 114 → 82 ≤ k → wget w' k = wget w k) : xMnv w' := fun k h1 h2 => by
  rw [hk k h1 h2]
  exact h k h1 h2
theorem xIm.keep {w w' : List (List xE)} {a b : Nat} (h : xIm a b w) (hk : ∀ k, a ≤ k → k < b → wget w' k = wget w k) : xIm a b w' := fun k h1 h2 => by
  rw [hk k h1 h2]
  exact h k h1 h2
theorem xIm.join {w : List (List xE)} {a b c : Nat} (h : xIm a b w) (h' : xIm b c w) : xIm a c w := fun k h1 h2 => by
  rcases Nat.lt_or_ge k b with q | q
  · exact h k h1 q
  · exact h' k q h2
theorem xInv.fr {w w' : List (List xE)} {S : List Nat} (h : xInv w) (hf : xFr S w w') (hs : ∀ k ∈ S, 82 ≤ k) : xInv w' := h.keep (fun k hk => hf.1 k (fun z => absurd (hs k z) (by omega)))
theorem xMnv.fr {w w' : List (List xE)} {S : List Nat} (h : xMnv w) (hf : xFr S w w') (hs : ∀ k ∈ S, k < 82 ∨ 114 ≤ k) : xMnv w' := h.keep (fun k h1 h2 => hf.1 k (fun z => absurd (hs k z) (by omega)))
theorem xIm.fr {w w' : List (List xE)} {S : List Nat} {a b : Nat} (h : xIm a b w) (hf : xFr S w w') (hs : ∀ k ∈ S, k < a) : xIm a b w' := h.keep (fun k h1 h2 => hf.1 k (fun z => absurd (hs k z) (by omega)))
theorem xIm.mix {w w' : List (List xE)} {S : List Nat} {a b a' b' : Nat} (h : xIm a b w) (hf : xFr S w w') (hs : ∀ k ∈ S, a' ≤ k ∧ k < b') (h' : xIm a' b' w') : xIm a b w' := fun k h1 h2 => by
  by_cases hc : k ∈ S
  · exact h' k (hs k hc).1 (hs k hc).2
  · rw [hf.1 k hc]
    exact h k h1 h2
end
section
/-! new Rows, a new Film, a new Told: where the world is known by its shape -/
section XNT
variable {d c na nc a b z : Nat} {w : List (List xE)} {bd : List (Nat × Nat)} {fc : List (Nat × Nat × Bool)}
theorem niRows (hs : w.map List.length = shp nc) (ho : wget w c = some (.inl (5, [(0, 0), (0, 0), (3, 0), (0, 0)]))) (hc : c < nc) (hz : a * b = z) (hl : z ≤ 320) : xPk (d + 1) mX5_init [(2, c), (0, a), (0, b)] w bd fc (na, nc) (fun r w' rr' => r = [] ∧ rr' = (na + 1, nc + 1) ∧ w'.map List.length = shp (nc + 1) ∧ wget w' c = some (.inl (5, [(0, a), (0, b), (2, nc), (0, 0)])) ∧ wget w' nc = some (.inr (0, z, na, [])) ∧ ∀ k q, k < nc → k ≠ c → wget w k = some q → wget w' k = some q) := by
  refine xPk.of ?_
  show xTo (d + 1) mX5_init (0, [], [(0, (2, c)), (1, (0, a)), (2, (0, b))], [], (w, bd, fc, 0, 0, na, nc)) (fun φ => ∃ r w' cn' sl' rr', xEnd 0 r (w', bd, fc, cn', sl', rr') φ ∧ cn' ≤ 1 ∧ sl' ≤ 320 ∧ r = [] ∧ rr' = (na + 1, nc + 1) ∧ w'.map List.length = shp (nc + 1) ∧ wget w' c = some (.inl (5, [(0, a), (0, b), (2, nc), (0, 0)])) ∧ wget w' nc = some (.inr (0, z, na, [])) ∧ ∀ k q, k < nc → k ≠ c → wget w k = some q → wget w' k = some q)
  refine xg_t (xg_blq rfl) ?_
  refine xg_t (xg_aload (va := (2, c)) rfl rfl) ?_
  refine xg_t (xg_oini (xblt_t (by omega)) rfl) ?_
  refine xg_t (xg_aload (va := (2, c)) rfl rfl) ?_
  refine xg_t (xg_iload (va := (0, a)) rfl rfl) ?_
  refine xg_putFI (fl1 := [(0, a), (0, 0), (3, 0), (0, 0)]) (by decide) ho rfl rfl rfl (fun w1 h1 b1 => ?_)
  refine xg_t (xg_aload (va := (2, c)) rfl rfl) ?_
  refine xg_t (xg_iload (va := (0, b)) rfl rfl) ?_
  refine xg_putFI (fl1 := [(0, a), (0, b), (3, 0), (0, 0)]) (by decide) h1 rfl rfl rfl (fun w2 h2 b2 => ?_)
  refine xg_t (xg_aload (va := (2, c)) rfl rfl) ?_
  refine xg_t (xg_iload (va := (0, a)) rfl rfl) ?_
  refine xg_t (xg_iload (va := (0, b)) rfl rfl) ?_
  refine xg_t (xg_imul (u := a) (v := b) (z := z) xnm0 xnm0 (by rw [hz]; exact Nat.mod_eq_of_lt (by omega))) ?_
  refine xg_newA (n := z) xnm0 (by decide) (by omega) (b2.2.trans (b1.2.trans hs)) (show 0 < 1 by decide) (show 0 + z ≤ 320 by omega) (fun w3 s3 n3 k3 => ?_)
  refine xg_putFR (fl1 := [(0, a), (0, b), (2, nc), (0, 0)]) (by decide) (k3 _ _ h2) rfl rfl rfl (fun w4 h4 b4 => ?_)
  exact xg_e ⟨[], w4, 0 + 1, 0 + z, (na + 1, nc + 1), ⟨rfl, rfl⟩, by decide, by omega, rfl, rfl, b4.2.trans s3, h4, (b4.1 _ (by omega)).trans n3, fun k q _ hk hq => (b4.1 k hk).trans (k3 k q ((b2.1 k hk).trans ((b1.1 k hk).trans hq)))⟩
set_option maxRecDepth 100000 in
theorem niFilm (hs : w.map List.length = shp nc) (ho : wget w c = some (.inl (1, [(3, 0), (3, 0), (3, 0), (3, 0), (3, 0), (0, 0), (0, 0), (0, 0), (0, 0), (0, 0)]))) (hc : c < nc) : xPk (d + 2) mX1_init [(2, c)] w bd fc (na, nc) (fun r w' rr' => r = [] ∧ rr' = (na + 5, nc + 10) ∧ w'.map List.length = shp (nc + 10) ∧ wget w' c = some (.inl (1, [(2, nc), (2, nc + 2), (2, nc + 4), (2, nc + 6), (2, nc + 8), (0, 1), (0, 1), (0, 1), (0, 1), (0, 0)])) ∧ wget w' (nc) = some (.inl (5, [(0, 6), (0, 4), (2, nc + 1), (0, 0)])) ∧ wget w' (nc + 1) = some (.inr (0, 24, na, [])) ∧ wget w' (nc + 2) = some (.inl (5, [(0, 4), (0, 2), (2, nc + 3), (0, 0)])) ∧ wget w' (nc + 3) = some (.inr (0, 8, na + 1, [])) ∧ wget w' (nc + 4) = some (.inl (5, [(0, 6), (0, 2), (2, nc + 5), (0, 0)])) ∧ wget w' (nc + 5) = some (.inr (0, 12, na + 2, [])) ∧ wget w' (nc + 6) = some (.inl (5, [(0, 4), (0, 3), (2, nc + 7), (0, 0)])) ∧ wget w' (nc + 7) = some (.inr (0, 12, na + 3, [])) ∧ wget w' (nc + 8) = some (.inl (5, [(0, 20), (0, 2), (2, nc + 9), (0, 0)])) ∧ wget w' (nc + 9) = some (.inr (0, 40, na + 4, [])) ∧ ∀ k q, k < nc → k ≠ c → wget w k = some q → wget w' k = some q) := by
  refine xPk.of ?_
  show xTo (d + 2) mX1_init (0, [], [(0, (2, c))], [], (w, bd, fc, 0, 0, na, nc)) (fun φ => ∃ r w' cn' sl' rr', xEnd 0 r (w', bd, fc, cn', sl', rr') φ ∧ cn' ≤ 10 ∧ sl' ≤ 1620 ∧ r = [] ∧ rr' = (na + 5, nc + 10) ∧ w'.map List.length = shp (nc + 10) ∧ wget w' c = some (.inl (1, [(2, nc), (2, nc + 2), (2, nc + 4), (2, nc + 6), (2, nc + 8), (0, 1), (0, 1), (0, 1), (0, 1), (0, 0)])) ∧ wget w' (nc) = some (.inl (5, [(0, 6), (0, 4), (2, nc + 1), (0, 0)])) ∧ wget w' (nc + 1) = some (.inr (0, 24, na, [])) ∧ wget w' (nc + 2) = some (.inl (5, [(0, 4), (0, 2), (2, nc + 3), (0, 0)])) ∧ wget w' (nc + 3) = some (.inr (0, 8, na + 1, [])) ∧ wget w' (nc + 4) = some (.inl (5, [(0, 6), (0, 2), (2, nc + 5), (0, 0)])) ∧ wget w' (nc + 5) = some (.inr (0, 12, na + 2, [])) ∧ wget w' (nc + 6) = some (.inl (5, [(0, 4), (0, 3), (2, nc + 7), (0, 0)])) ∧ wget w' (nc + 7) = some (.inr (0, 12, na + 3, [])) ∧ wget w' (nc + 8) = some (.inl (5, [(0, 20), (0, 2), (2, nc + 9), (0, 0)])) ∧ wget w' (nc + 9) = some (.inr (0, 40, na + 4, [])) ∧ ∀ k q, k < nc → k ≠ c → wget w k = some q → wget w' k = some q)
  refine xg_t (xg_blq rfl) ?_
  refine xg_t (xg_aload (va := (2, c)) rfl rfl) ?_
  refine xg_t (xg_oini (xblt_t (by omega)) rfl) ?_
  refine xg_t (xg_aload (va := (2, c)) rfl rfl) ?_
  refine xg_newO (nc := nc) (na := na) (cn := 0) (sl := 0) (fs := [(0, 0), (0, 0), (3, 0), (0, 0)]) rfl hs (show 0 < 10 by decide) (show 0 + 4 ≤ 1620 by decide) (fun w4 s4 n4 k4 => ?_)
  have hc4 := k4 _ _ ho
  have ok4 : ∀ k q, k < nc → k ≠ c → wget w k = some q → wget w4 k = some q := fun k q h1 h2 h3 => k4 k q h3
  refine xg_t (xg_dup rfl) ?_
  refine xg_t (xg_bip) ?_
  refine xg_t (xg_const) ?_
  refine xg_cI mX5_init (vs := [(0, 6), (0, 4)]) (rest := [(2, nc), (2, c)]) (rr := (na, nc + 1)) (cn := 1) (sl := 4) (cn1 := 2) (sl1 := 324) rfl (niRows (c := nc) (a := 6) (b := 4) (z := 24) s4 n4 (by omega) rfl (by decide)) rfl rfl rfl rfl rfl rfl rfl rfl (fun w8 rr8 hq8 => ?_)
  obtain ⟨rfl, s8, f0_8, f1_8, kp8⟩ := hq8
  have hc8 := kp8 _ _ (by omega) (by omega) hc4
  have ok8 : ∀ k q, k < nc → k ≠ c → wget w k = some q → wget w8 k = some q := fun k q h1 h2 h3 => kp8 k q (by omega) (by omega) (ok4 k q h1 h2 h3)
  refine xg_putFR (fl1 := [(2, nc), (3, 0), (3, 0), (3, 0), (3, 0), (0, 0), (0, 0), (0, 0), (0, 0), (0, 0)]) (by decide) hc8 rfl rfl rfl (fun w9 hc9 b9 => ?_)
  have f0_9 := (b9.1 (nc) (by omega)).trans f0_8
  have f1_9 := (b9.1 (nc + 1) (by omega)).trans f1_8
  have ok9 : ∀ k q, k < nc → k ≠ c → wget w k = some q → wget w9 k = some q := fun k q h1 h2 h3 => (b9.1 k h2).trans (ok8 k q h1 h2 h3)
  have s9 := b9.2.trans s8
  refine xg_t (xg_aload (va := (2, c)) rfl rfl) ?_
  refine xg_newO (nc := nc + 2) (na := na + 1) (cn := 2) (sl := 324) (fs := [(0, 0), (0, 0), (3, 0), (0, 0)]) rfl s9 (show 2 < 10 by decide) (show 324 + 4 ≤ 1620 by decide) (fun w11 s11 n11 k11 => ?_)
  have hc11 := k11 _ _ hc9
  have f0_11 := k11 _ _ f0_9
  have f1_11 := k11 _ _ f1_9
  have ok11 : ∀ k q, k < nc → k ≠ c → wget w k = some q → wget w11 k = some q := fun k q h1 h2 h3 => k11 k q (ok9 k q h1 h2 h3)
  refine xg_t (xg_dup rfl) ?_
  refine xg_t (xg_const) ?_
  refine xg_t (xg_const) ?_
  refine xg_cI mX5_init (vs := [(0, 4), (0, 2)]) (rest := [(2, nc + 2), (2, c)]) (rr := (na + 1, nc + 3)) (cn := 3) (sl := 328) (cn1 := 4) (sl1 := 648) rfl (niRows (c := nc + 2) (a := 4) (b := 2) (z := 8) s11 n11 (by omega) rfl (by decide)) rfl rfl rfl rfl rfl rfl rfl rfl (fun w15 rr15 hq15 => ?_)
  obtain ⟨rfl, s15, f2_15, f3_15, kp15⟩ := hq15
  have hc15 := kp15 _ _ (by omega) (by omega) hc11
  have f0_15 := kp15 _ _ (by omega) (by omega) f0_11
  have f1_15 := kp15 _ _ (by omega) (by omega) f1_11
  have ok15 : ∀ k q, k < nc → k ≠ c → wget w k = some q → wget w15 k = some q := fun k q h1 h2 h3 => kp15 k q (by omega) (by omega) (ok11 k q h1 h2 h3)
  refine xg_putFR (fl1 := [(2, nc), (2, nc + 2), (3, 0), (3, 0), (3, 0), (0, 0), (0, 0), (0, 0), (0, 0), (0, 0)]) (by decide) hc15 rfl rfl rfl (fun w16 hc16 b16 => ?_)
  have f0_16 := (b16.1 (nc) (by omega)).trans f0_15
  have f1_16 := (b16.1 (nc + 1) (by omega)).trans f1_15
  have f2_16 := (b16.1 (nc + 2) (by omega)).trans f2_15
  have f3_16 := (b16.1 (nc + 3) (by omega)).trans f3_15
  have ok16 : ∀ k q, k < nc → k ≠ c → wget w k = some q → wget w16 k = some q := fun k q h1 h2 h3 => (b16.1 k h2).trans (ok15 k q h1 h2 h3)
  have s16 := b16.2.trans s15
  refine xg_t (xg_aload (va := (2, c)) rfl rfl) ?_
  refine xg_newO (nc := nc + 4) (na := na + 2) (cn := 4) (sl := 648) (fs := [(0, 0), (0, 0), (3, 0), (0, 0)]) rfl s16 (show 4 < 10 by decide) (show 648 + 4 ≤ 1620 by decide) (fun w18 s18 n18 k18 => ?_)
  have hc18 := k18 _ _ hc16
  have f0_18 := k18 _ _ f0_16
  have f1_18 := k18 _ _ f1_16
  have f2_18 := k18 _ _ f2_16
  have f3_18 := k18 _ _ f3_16
  have ok18 : ∀ k q, k < nc → k ≠ c → wget w k = some q → wget w18 k = some q := fun k q h1 h2 h3 => k18 k q (ok16 k q h1 h2 h3)
  refine xg_t (xg_dup rfl) ?_
  refine xg_t (xg_bip) ?_
  refine xg_t (xg_const) ?_
  refine xg_cI mX5_init (vs := [(0, 6), (0, 2)]) (rest := [(2, nc + 4), (2, c)]) (rr := (na + 2, nc + 5)) (cn := 5) (sl := 652) (cn1 := 6) (sl1 := 972) rfl (niRows (c := nc + 4) (a := 6) (b := 2) (z := 12) s18 n18 (by omega) rfl (by decide)) rfl rfl rfl rfl rfl rfl rfl rfl (fun w22 rr22 hq22 => ?_)
  obtain ⟨rfl, s22, f4_22, f5_22, kp22⟩ := hq22
  have hc22 := kp22 _ _ (by omega) (by omega) hc18
  have f0_22 := kp22 _ _ (by omega) (by omega) f0_18
  have f1_22 := kp22 _ _ (by omega) (by omega) f1_18
  have f2_22 := kp22 _ _ (by omega) (by omega) f2_18
  have f3_22 := kp22 _ _ (by omega) (by omega) f3_18
  have ok22 : ∀ k q, k < nc → k ≠ c → wget w k = some q → wget w22 k = some q := fun k q h1 h2 h3 => kp22 k q (by omega) (by omega) (ok18 k q h1 h2 h3)
  refine xg_putFR (fl1 := [(2, nc), (2, nc + 2), (2, nc + 4), (3, 0), (3, 0), (0, 0), (0, 0), (0, 0), (0, 0), (0, 0)]) (by decide) hc22 rfl rfl rfl (fun w23 hc23 b23 => ?_)
  have f0_23 := (b23.1 (nc) (by omega)).trans f0_22
  have f1_23 := (b23.1 (nc + 1) (by omega)).trans f1_22
  have f2_23 := (b23.1 (nc + 2) (by omega)).trans f2_22
  have f3_23 := (b23.1 (nc + 3) (by omega)).trans f3_22
  have f4_23 := (b23.1 (nc + 4) (by omega)).trans f4_22
  have f5_23 := (b23.1 (nc + 5) (by omega)).trans f5_22
  have ok23 : ∀ k q, k < nc → k ≠ c → wget w k = some q → wget w23 k = some q := fun k q h1 h2 h3 => (b23.1 k h2).trans (ok22 k q h1 h2 h3)
  have s23 := b23.2.trans s22
  refine xg_t (xg_aload (va := (2, c)) rfl rfl) ?_
  refine xg_newO (nc := nc + 6) (na := na + 3) (cn := 6) (sl := 972) (fs := [(0, 0), (0, 0), (3, 0), (0, 0)]) rfl s23 (show 6 < 10 by decide) (show 972 + 4 ≤ 1620 by decide) (fun w25 s25 n25 k25 => ?_)
  have hc25 := k25 _ _ hc23
  have f0_25 := k25 _ _ f0_23
  have f1_25 := k25 _ _ f1_23
  have f2_25 := k25 _ _ f2_23
  have f3_25 := k25 _ _ f3_23
  have f4_25 := k25 _ _ f4_23
  have f5_25 := k25 _ _ f5_23
  have ok25 : ∀ k q, k < nc → k ≠ c → wget w k = some q → wget w25 k = some q := fun k q h1 h2 h3 => k25 k q (ok23 k q h1 h2 h3)
  refine xg_t (xg_dup rfl) ?_
  refine xg_t (xg_const) ?_
  refine xg_t (xg_const) ?_
  refine xg_cI mX5_init (vs := [(0, 4), (0, 3)]) (rest := [(2, nc + 6), (2, c)]) (rr := (na + 3, nc + 7)) (cn := 7) (sl := 976) (cn1 := 8) (sl1 := 1296) rfl (niRows (c := nc + 6) (a := 4) (b := 3) (z := 12) s25 n25 (by omega) rfl (by decide)) rfl rfl rfl rfl rfl rfl rfl rfl (fun w29 rr29 hq29 => ?_)
  obtain ⟨rfl, s29, f6_29, f7_29, kp29⟩ := hq29
  have hc29 := kp29 _ _ (by omega) (by omega) hc25
  have f0_29 := kp29 _ _ (by omega) (by omega) f0_25
  have f1_29 := kp29 _ _ (by omega) (by omega) f1_25
  have f2_29 := kp29 _ _ (by omega) (by omega) f2_25
  have f3_29 := kp29 _ _ (by omega) (by omega) f3_25
  have f4_29 := kp29 _ _ (by omega) (by omega) f4_25
  have f5_29 := kp29 _ _ (by omega) (by omega) f5_25
  have ok29 : ∀ k q, k < nc → k ≠ c → wget w k = some q → wget w29 k = some q := fun k q h1 h2 h3 => kp29 k q (by omega) (by omega) (ok25 k q h1 h2 h3)
  refine xg_putFR (fl1 := [(2, nc), (2, nc + 2), (2, nc + 4), (2, nc + 6), (3, 0), (0, 0), (0, 0), (0, 0), (0, 0), (0, 0)]) (by decide) hc29 rfl rfl rfl (fun w30 hc30 b30 => ?_)
  have f0_30 := (b30.1 (nc) (by omega)).trans f0_29
  have f1_30 := (b30.1 (nc + 1) (by omega)).trans f1_29
  have f2_30 := (b30.1 (nc + 2) (by omega)).trans f2_29
  have f3_30 := (b30.1 (nc + 3) (by omega)).trans f3_29
  have f4_30 := (b30.1 (nc + 4) (by omega)).trans f4_29
  have f5_30 := (b30.1 (nc + 5) (by omega)).trans f5_29
  have f6_30 := (b30.1 (nc + 6) (by omega)).trans f6_29
  have f7_30 := (b30.1 (nc + 7) (by omega)).trans f7_29
  have ok30 : ∀ k q, k < nc → k ≠ c → wget w k = some q → wget w30 k = some q := fun k q h1 h2 h3 => (b30.1 k h2).trans (ok29 k q h1 h2 h3)
  have s30 := b30.2.trans s29
  refine xg_t (xg_aload (va := (2, c)) rfl rfl) ?_
  refine xg_newO (nc := nc + 8) (na := na + 4) (cn := 8) (sl := 1296) (fs := [(0, 0), (0, 0), (3, 0), (0, 0)]) rfl s30 (show 8 < 10 by decide) (show 1296 + 4 ≤ 1620 by decide) (fun w32 s32 n32 k32 => ?_)
  have hc32 := k32 _ _ hc30
  have f0_32 := k32 _ _ f0_30
  have f1_32 := k32 _ _ f1_30
  have f2_32 := k32 _ _ f2_30
  have f3_32 := k32 _ _ f3_30
  have f4_32 := k32 _ _ f4_30
  have f5_32 := k32 _ _ f5_30
  have f6_32 := k32 _ _ f6_30
  have f7_32 := k32 _ _ f7_30
  have ok32 : ∀ k q, k < nc → k ≠ c → wget w k = some q → wget w32 k = some q := fun k q h1 h2 h3 => k32 k q (ok30 k q h1 h2 h3)
  refine xg_t (xg_dup rfl) ?_
  refine xg_t (xg_bip) ?_
  refine xg_t (xg_const) ?_
  refine xg_cI mX5_init (vs := [(0, 20), (0, 2)]) (rest := [(2, nc + 8), (2, c)]) (rr := (na + 4, nc + 9)) (cn := 9) (sl := 1300) (cn1 := 10) (sl1 := 1620) rfl (niRows (c := nc + 8) (a := 20) (b := 2) (z := 40) s32 n32 (by omega) rfl (by decide)) rfl rfl rfl rfl rfl rfl rfl rfl (fun w36 rr36 hq36 => ?_)
  obtain ⟨rfl, s36, f8_36, f9_36, kp36⟩ := hq36
  have hc36 := kp36 _ _ (by omega) (by omega) hc32
  have f0_36 := kp36 _ _ (by omega) (by omega) f0_32
  have f1_36 := kp36 _ _ (by omega) (by omega) f1_32
  have f2_36 := kp36 _ _ (by omega) (by omega) f2_32
  have f3_36 := kp36 _ _ (by omega) (by omega) f3_32
  have f4_36 := kp36 _ _ (by omega) (by omega) f4_32
  have f5_36 := kp36 _ _ (by omega) (by omega) f5_32
  have f6_36 := kp36 _ _ (by omega) (by omega) f6_32
  have f7_36 := kp36 _ _ (by omega) (by omega) f7_32
  have ok36 : ∀ k q, k < nc → k ≠ c → wget w k = some q → wget w36 k = some q := fun k q h1 h2 h3 => kp36 k q (by omega) (by omega) (ok32 k q h1 h2 h3)
  refine xg_putFR (fl1 := [(2, nc), (2, nc + 2), (2, nc + 4), (2, nc + 6), (2, nc + 8), (0, 0), (0, 0), (0, 0), (0, 0), (0, 0)]) (by decide) hc36 rfl rfl rfl (fun w37 hc37 b37 => ?_)
  have f0_37 := (b37.1 (nc) (by omega)).trans f0_36
  have f1_37 := (b37.1 (nc + 1) (by omega)).trans f1_36
  have f2_37 := (b37.1 (nc + 2) (by omega)).trans f2_36
  have f3_37 := (b37.1 (nc + 3) (by omega)).trans f3_36
  have f4_37 := (b37.1 (nc + 4) (by omega)).trans f4_36
  have f5_37 := (b37.1 (nc + 5) (by omega)).trans f5_36
  have f6_37 := (b37.1 (nc + 6) (by omega)).trans f6_36
  have f7_37 := (b37.1 (nc + 7) (by omega)).trans f7_36
  have f8_37 := (b37.1 (nc + 8) (by omega)).trans f8_36
  have f9_37 := (b37.1 (nc + 9) (by omega)).trans f9_36
  have ok37 : ∀ k q, k < nc → k ≠ c → wget w k = some q → wget w37 k = some q := fun k q h1 h2 h3 => (b37.1 k h2).trans (ok36 k q h1 h2 h3)
  have s37 := b37.2.trans s36
  refine xg_t (xg_aload (va := (2, c)) rfl rfl) ?_
  refine xg_t (xg_const) ?_
  refine xg_putI (fl1 := [(2, nc), (2, nc + 2), (2, nc + 4), (2, nc + 6), (2, nc + 8), (0, 1), (0, 0), (0, 0), (0, 0), (0, 0)]) hc37 rfl rfl rfl (fun w40 hc40 b40 => ?_)
  have f0_40 := (b40.1 (nc) (by omega)).trans f0_37
  have f1_40 := (b40.1 (nc + 1) (by omega)).trans f1_37
  have f2_40 := (b40.1 (nc + 2) (by omega)).trans f2_37
  have f3_40 := (b40.1 (nc + 3) (by omega)).trans f3_37
  have f4_40 := (b40.1 (nc + 4) (by omega)).trans f4_37
  have f5_40 := (b40.1 (nc + 5) (by omega)).trans f5_37
  have f6_40 := (b40.1 (nc + 6) (by omega)).trans f6_37
  have f7_40 := (b40.1 (nc + 7) (by omega)).trans f7_37
  have f8_40 := (b40.1 (nc + 8) (by omega)).trans f8_37
  have f9_40 := (b40.1 (nc + 9) (by omega)).trans f9_37
  have ok40 : ∀ k q, k < nc → k ≠ c → wget w k = some q → wget w40 k = some q := fun k q h1 h2 h3 => (b40.1 k h2).trans (ok37 k q h1 h2 h3)
  have s40 := b40.2.trans s37
  refine xg_t (xg_aload (va := (2, c)) rfl rfl) ?_
  refine xg_t (xg_const) ?_
  refine xg_putI (fl1 := [(2, nc), (2, nc + 2), (2, nc + 4), (2, nc + 6), (2, nc + 8), (0, 1), (0, 1), (0, 0), (0, 0), (0, 0)]) hc40 rfl rfl rfl (fun w43 hc43 b43 => ?_)
  have f0_43 := (b43.1 (nc) (by omega)).trans f0_40
  have f1_43 := (b43.1 (nc + 1) (by omega)).trans f1_40
  have f2_43 := (b43.1 (nc + 2) (by omega)).trans f2_40
  have f3_43 := (b43.1 (nc + 3) (by omega)).trans f3_40
  have f4_43 := (b43.1 (nc + 4) (by omega)).trans f4_40
  have f5_43 := (b43.1 (nc + 5) (by omega)).trans f5_40
  have f6_43 := (b43.1 (nc + 6) (by omega)).trans f6_40
  have f7_43 := (b43.1 (nc + 7) (by omega)).trans f7_40
  have f8_43 := (b43.1 (nc + 8) (by omega)).trans f8_40
  have f9_43 := (b43.1 (nc + 9) (by omega)).trans f9_40
  have ok43 : ∀ k q, k < nc → k ≠ c → wget w k = some q → wget w43 k = some q := fun k q h1 h2 h3 => (b43.1 k h2).trans (ok40 k q h1 h2 h3)
  have s43 := b43.2.trans s40
  refine xg_t (xg_aload (va := (2, c)) rfl rfl) ?_
  refine xg_t (xg_const) ?_
  refine xg_putI (fl1 := [(2, nc), (2, nc + 2), (2, nc + 4), (2, nc + 6), (2, nc + 8), (0, 1), (0, 1), (0, 1), (0, 0), (0, 0)]) hc43 rfl rfl rfl (fun w46 hc46 b46 => ?_)
  have f0_46 := (b46.1 (nc) (by omega)).trans f0_43
  have f1_46 := (b46.1 (nc + 1) (by omega)).trans f1_43
  have f2_46 := (b46.1 (nc + 2) (by omega)).trans f2_43
  have f3_46 := (b46.1 (nc + 3) (by omega)).trans f3_43
  have f4_46 := (b46.1 (nc + 4) (by omega)).trans f4_43
  have f5_46 := (b46.1 (nc + 5) (by omega)).trans f5_43
  have f6_46 := (b46.1 (nc + 6) (by omega)).trans f6_43
  have f7_46 := (b46.1 (nc + 7) (by omega)).trans f7_43
  have f8_46 := (b46.1 (nc + 8) (by omega)).trans f8_43
  have f9_46 := (b46.1 (nc + 9) (by omega)).trans f9_43
  have ok46 : ∀ k q, k < nc → k ≠ c → wget w k = some q → wget w46 k = some q := fun k q h1 h2 h3 => (b46.1 k h2).trans (ok43 k q h1 h2 h3)
  have s46 := b46.2.trans s43
  refine xg_t (xg_aload (va := (2, c)) rfl rfl) ?_
  refine xg_t (xg_const) ?_
  refine xg_putI (fl1 := [(2, nc), (2, nc + 2), (2, nc + 4), (2, nc + 6), (2, nc + 8), (0, 1), (0, 1), (0, 1), (0, 1), (0, 0)]) hc46 rfl rfl rfl (fun w49 hc49 b49 => ?_)
  have f0_49 := (b49.1 (nc) (by omega)).trans f0_46
  have f1_49 := (b49.1 (nc + 1) (by omega)).trans f1_46
  have f2_49 := (b49.1 (nc + 2) (by omega)).trans f2_46
  have f3_49 := (b49.1 (nc + 3) (by omega)).trans f3_46
  have f4_49 := (b49.1 (nc + 4) (by omega)).trans f4_46
  have f5_49 := (b49.1 (nc + 5) (by omega)).trans f5_46
  have f6_49 := (b49.1 (nc + 6) (by omega)).trans f6_46
  have f7_49 := (b49.1 (nc + 7) (by omega)).trans f7_46
  have f8_49 := (b49.1 (nc + 8) (by omega)).trans f8_46
  have f9_49 := (b49.1 (nc + 9) (by omega)).trans f9_46
  have ok49 : ∀ k q, k < nc → k ≠ c → wget w k = some q → wget w49 k = some q := fun k q h1 h2 h3 => (b49.1 k h2).trans (ok46 k q h1 h2 h3)
  have s49 := b49.2.trans s46
  exact xg_e ⟨[], w49, 10, 1620, (na + 5, nc + 10), ⟨rfl, rfl⟩, by decide, by decide, rfl, rfl, s49, hc49, f0_49, f1_49, f2_49, f3_49, f4_49, f5_49, f6_49, f7_49, f8_49, f9_49, ok49⟩
set_option maxRecDepth 100000 in
theorem niTold (hs : w.map List.length = shp nc) (ho : wget w c = some (.inl (9, [(3, 0), (0, 0), (0, 0), (0, 0), (3, 0), (3, 0), (0, 0), (0, 0), (3, 0), (0, 0), (3, 0), (3, 0), (3, 0), (3, 0)]))) (hc : c < nc) : xPk (d + 3) mX9_init [(2, c)] w bd fc (na, nc) (fun r w' rr' => r = [] ∧ rr' = (na + 12, nc + 24) ∧ w'.map List.length = shp (nc + 24) ∧ wget w' c = some (.inl (9, [(2, nc), (0, 0), (0, 0), (0, 4294967295), (2, nc + 1), (2, nc + 12), (0, 0), (0, 4294967295), (2, nc + 14), (0, 0), (2, nc + 16), (2, nc + 18), (2, nc + 20), (2, nc + 22)])) ∧ wget w' (nc) = some (.inr (1, 500, na, [])) ∧ wget w' (nc + 1) = some (.inl (1, [(2, nc + 2), (2, nc + 4), (2, nc + 6), (2, nc + 8), (2, nc + 10), (0, 1), (0, 1), (0, 1), (0, 1), (0, 0)])) ∧ wget w' (nc + 2) = some (.inl (5, [(0, 6), (0, 4), (2, nc + 3), (0, 0)])) ∧ wget w' (nc + 3) = some (.inr (0, 24, na + 1, [])) ∧ wget w' (nc + 4) = some (.inl (5, [(0, 4), (0, 2), (2, nc + 5), (0, 0)])) ∧ wget w' (nc + 5) = some (.inr (0, 8, na + 2, [])) ∧ wget w' (nc + 6) = some (.inl (5, [(0, 6), (0, 2), (2, nc + 7), (0, 0)])) ∧ wget w' (nc + 7) = some (.inr (0, 12, na + 3, [])) ∧ wget w' (nc + 8) = some (.inl (5, [(0, 4), (0, 3), (2, nc + 9), (0, 0)])) ∧ wget w' (nc + 9) = some (.inr (0, 12, na + 4, [])) ∧ wget w' (nc + 10) = some (.inl (5, [(0, 20), (0, 2), (2, nc + 11), (0, 0)])) ∧ wget w' (nc + 11) = some (.inr (0, 40, na + 5, [])) ∧ wget w' (nc + 12) = some (.inl (5, [(0, 40), (0, 5), (2, nc + 13), (0, 0)])) ∧ wget w' (nc + 13) = some (.inr (0, 200, na + 6, [])) ∧ wget w' (nc + 14) = some (.inl (5, [(0, 12), (0, 5), (2, nc + 15), (0, 0)])) ∧ wget w' (nc + 15) = some (.inr (0, 60, na + 7, [])) ∧ wget w' (nc + 16) = some (.inl (5, [(0, 4), (0, 3), (2, nc + 17), (0, 0)])) ∧ wget w' (nc + 17) = some (.inr (0, 12, na + 8, [])) ∧ wget w' (nc + 18) = some (.inl (5, [(0, 12), (0, 4), (2, nc + 19), (0, 0)])) ∧ wget w' (nc + 19) = some (.inr (0, 48, na + 9, [])) ∧ wget w' (nc + 20) = some (.inl (5, [(0, 16), (0, 2), (2, nc + 21), (0, 0)])) ∧ wget w' (nc + 21) = some (.inr (0, 32, na + 10, [])) ∧ wget w' (nc + 22) = some (.inl (5, [(0, 64), (0, 5), (2, nc + 23), (0, 0)])) ∧ wget w' (nc + 23) = some (.inr (0, 320, na + 11, [])) ∧ ∀ k q, k < nc → k ≠ c → wget w k = some q → wget w' k = some q) := by
  refine xPk.of ?_
  show xTo (d + 3) mX9_init (0, [], [(0, (2, c))], [], (w, bd, fc, 0, 0, na, nc)) (fun φ => ∃ r w' cn' sl' rr', xEnd 0 r (w', bd, fc, cn', sl', rr') φ ∧ cn' ≤ 24 ∧ sl' ≤ 4074 ∧ r = [] ∧ rr' = (na + 12, nc + 24) ∧ w'.map List.length = shp (nc + 24) ∧ wget w' c = some (.inl (9, [(2, nc), (0, 0), (0, 0), (0, 4294967295), (2, nc + 1), (2, nc + 12), (0, 0), (0, 4294967295), (2, nc + 14), (0, 0), (2, nc + 16), (2, nc + 18), (2, nc + 20), (2, nc + 22)])) ∧ wget w' (nc) = some (.inr (1, 500, na, [])) ∧ wget w' (nc + 1) = some (.inl (1, [(2, nc + 2), (2, nc + 4), (2, nc + 6), (2, nc + 8), (2, nc + 10), (0, 1), (0, 1), (0, 1), (0, 1), (0, 0)])) ∧ wget w' (nc + 2) = some (.inl (5, [(0, 6), (0, 4), (2, nc + 3), (0, 0)])) ∧ wget w' (nc + 3) = some (.inr (0, 24, na + 1, [])) ∧ wget w' (nc + 4) = some (.inl (5, [(0, 4), (0, 2), (2, nc + 5), (0, 0)])) ∧ wget w' (nc + 5) = some (.inr (0, 8, na + 2, [])) ∧ wget w' (nc + 6) = some (.inl (5, [(0, 6), (0, 2), (2, nc + 7), (0, 0)])) ∧ wget w' (nc + 7) = some (.inr (0, 12, na + 3, [])) ∧ wget w' (nc + 8) = some (.inl (5, [(0, 4), (0, 3), (2, nc + 9), (0, 0)])) ∧ wget w' (nc + 9) = some (.inr (0, 12, na + 4, [])) ∧ wget w' (nc + 10) = some (.inl (5, [(0, 20), (0, 2), (2, nc + 11), (0, 0)])) ∧ wget w' (nc + 11) = some (.inr (0, 40, na + 5, [])) ∧ wget w' (nc + 12) = some (.inl (5, [(0, 40), (0, 5), (2, nc + 13), (0, 0)])) ∧ wget w' (nc + 13) = some (.inr (0, 200, na + 6, [])) ∧ wget w' (nc + 14) = some (.inl (5, [(0, 12), (0, 5), (2, nc + 15), (0, 0)])) ∧ wget w' (nc + 15) = some (.inr (0, 60, na + 7, [])) ∧ wget w' (nc + 16) = some (.inl (5, [(0, 4), (0, 3), (2, nc + 17), (0, 0)])) ∧ wget w' (nc + 17) = some (.inr (0, 12, na + 8, [])) ∧ wget w' (nc + 18) = some (.inl (5, [(0, 12), (0, 4), (2, nc + 19), (0, 0)])) ∧ wget w' (nc + 19) = some (.inr (0, 48, na + 9, [])) ∧ wget w' (nc + 20) = some (.inl (5, [(0, 16), (0, 2), (2, nc + 21), (0, 0)])) ∧ wget w' (nc + 21) = some (.inr (0, 32, na + 10, [])) ∧ wget w' (nc + 22) = some (.inl (5, [(0, 64), (0, 5), (2, nc + 23), (0, 0)])) ∧ wget w' (nc + 23) = some (.inr (0, 320, na + 11, [])) ∧ ∀ k q, k < nc → k ≠ c → wget w k = some q → wget w' k = some q)
  refine xg_t (xg_blq rfl) ?_
  refine xg_t (xg_aload (va := (2, c)) rfl rfl) ?_
  refine xg_t (xg_oini (xblt_t (by omega)) rfl) ?_
  refine xg_t (xg_aload (va := (2, c)) rfl rfl) ?_
  refine xg_t (xg_sip) ?_
  refine xg_newA (n := 500) (nc := nc) (na := na) (cn := 0) (sl := 0) xnm0 (by decide) (by decide) hs (show 0 < 24 by decide) (show 0 + 500 ≤ 4074 by decide) (fun w5 s5 n5 k5 => ?_)
  have hc5 := k5 _ _ ho
  have ok5 : ∀ k q, k < nc → k ≠ c → wget w k = some q → wget w5 k = some q := fun k q h1 h2 h3 => k5 k q h3
  refine xg_putFR (fl1 := [(2, nc), (0, 0), (0, 0), (0, 0), (3, 0), (3, 0), (0, 0), (0, 0), (3, 0), (0, 0), (3, 0), (3, 0), (3, 0), (3, 0)]) (by decide) hc5 rfl rfl rfl (fun w6 hc6 b6 => ?_)
  have f0_6 := (b6.1 (nc) (by omega)).trans n5
  have ok6 : ∀ k q, k < nc → k ≠ c → wget w k = some q → wget w6 k = some q := fun k q h1 h2 h3 => (b6.1 k h2).trans (ok5 k q h1 h2 h3)
  have s6 := b6.2.trans s5
  refine xg_t (xg_aload (va := (2, c)) rfl rfl) ?_
  refine xg_t (xg_const) ?_
  refine xg_putI (fl1 := [(2, nc), (0, 0), (0, 0), (0, 4294967295), (3, 0), (3, 0), (0, 0), (0, 0), (3, 0), (0, 0), (3, 0), (3, 0), (3, 0), (3, 0)]) hc6 rfl rfl rfl (fun w9 hc9 b9 => ?_)
  have f0_9 := (b9.1 (nc) (by omega)).trans f0_6
  have ok9 : ∀ k q, k < nc → k ≠ c → wget w k = some q → wget w9 k = some q := fun k q h1 h2 h3 => (b9.1 k h2).trans (ok6 k q h1 h2 h3)
  have s9 := b9.2.trans s6
  refine xg_t (xg_aload (va := (2, c)) rfl rfl) ?_
  refine xg_newO (nc := nc + 1) (na := na + 1) (cn := 1) (sl := 500) (fs := [(3, 0), (3, 0), (3, 0), (3, 0), (3, 0), (0, 0), (0, 0), (0, 0), (0, 0), (0, 0)]) rfl s9 (show 1 < 24 by decide) (show 500 + 10 ≤ 4074 by decide) (fun w11 s11 n11 k11 => ?_)
  have hc11 := k11 _ _ hc9
  have f0_11 := k11 _ _ f0_9
  have ok11 : ∀ k q, k < nc → k ≠ c → wget w k = some q → wget w11 k = some q := fun k q h1 h2 h3 => k11 k q (ok9 k q h1 h2 h3)
  refine xg_t (xg_dup rfl) ?_
  refine xg_cI mX1_init (vs := []) (rest := [(2, nc + 1), (2, c)]) (rr := (na + 1, nc + 2)) (cn := 2) (sl := 510) (cn1 := 12) (sl1 := 2130) rfl (niFilm (c := nc + 1) s11 n11 (by omega)) rfl rfl rfl rfl rfl rfl rfl rfl (fun w13 rr13 hq13 => ?_)
  obtain ⟨rfl, s13, f1_13, f2_13, f3_13, f4_13, f5_13, f6_13, f7_13, f8_13, f9_13, f10_13, f11_13, kp13⟩ := hq13
  have hc13 := kp13 _ _ (by omega) (by omega) hc11
  have f0_13 := kp13 _ _ (by omega) (by omega) f0_11
  have ok13 : ∀ k q, k < nc → k ≠ c → wget w k = some q → wget w13 k = some q := fun k q h1 h2 h3 => kp13 k q (by omega) (by omega) (ok11 k q h1 h2 h3)
  refine xg_putFR (fl1 := [(2, nc), (0, 0), (0, 0), (0, 4294967295), (2, nc + 1), (3, 0), (0, 0), (0, 0), (3, 0), (0, 0), (3, 0), (3, 0), (3, 0), (3, 0)]) (by decide) hc13 rfl rfl rfl (fun w14 hc14 b14 => ?_)
  have f0_14 := (b14.1 (nc) (by omega)).trans f0_13
  have f1_14 := (b14.1 (nc + 1) (by omega)).trans f1_13
  have f2_14 := (b14.1 (nc + 2) (by omega)).trans f2_13
  have f3_14 := (b14.1 (nc + 3) (by omega)).trans f3_13
  have f4_14 := (b14.1 (nc + 4) (by omega)).trans f4_13
  have f5_14 := (b14.1 (nc + 5) (by omega)).trans f5_13
  have f6_14 := (b14.1 (nc + 6) (by omega)).trans f6_13
  have f7_14 := (b14.1 (nc + 7) (by omega)).trans f7_13
  have f8_14 := (b14.1 (nc + 8) (by omega)).trans f8_13
  have f9_14 := (b14.1 (nc + 9) (by omega)).trans f9_13
  have f10_14 := (b14.1 (nc + 10) (by omega)).trans f10_13
  have f11_14 := (b14.1 (nc + 11) (by omega)).trans f11_13
  have ok14 : ∀ k q, k < nc → k ≠ c → wget w k = some q → wget w14 k = some q := fun k q h1 h2 h3 => (b14.1 k h2).trans (ok13 k q h1 h2 h3)
  have s14 := b14.2.trans s13
  refine xg_t (xg_aload (va := (2, c)) rfl rfl) ?_
  refine xg_newO (nc := nc + 12) (na := na + 6) (cn := 12) (sl := 2130) (fs := [(0, 0), (0, 0), (3, 0), (0, 0)]) rfl s14 (show 12 < 24 by decide) (show 2130 + 4 ≤ 4074 by decide) (fun w16 s16 n16 k16 => ?_)
  have hc16 := k16 _ _ hc14
  have f0_16 := k16 _ _ f0_14
  have f1_16 := k16 _ _ f1_14
  have f2_16 := k16 _ _ f2_14
  have f3_16 := k16 _ _ f3_14
  have f4_16 := k16 _ _ f4_14
  have f5_16 := k16 _ _ f5_14
  have f6_16 := k16 _ _ f6_14
  have f7_16 := k16 _ _ f7_14
  have f8_16 := k16 _ _ f8_14
  have f9_16 := k16 _ _ f9_14
  have f10_16 := k16 _ _ f10_14
  have f11_16 := k16 _ _ f11_14
  have ok16 : ∀ k q, k < nc → k ≠ c → wget w k = some q → wget w16 k = some q := fun k q h1 h2 h3 => k16 k q (ok14 k q h1 h2 h3)
  refine xg_t (xg_dup rfl) ?_
  refine xg_t (xg_bip) ?_
  refine xg_t (xg_const) ?_
  refine xg_cI mX5_init (vs := [(0, 40), (0, 5)]) (rest := [(2, nc + 12), (2, c)]) (rr := (na + 6, nc + 13)) (cn := 13) (sl := 2134) (cn1 := 14) (sl1 := 2454) rfl (niRows (c := nc + 12) (a := 40) (b := 5) (z := 200) s16 n16 (by omega) rfl (by decide)) rfl rfl rfl rfl rfl rfl rfl rfl (fun w20 rr20 hq20 => ?_)
  obtain ⟨rfl, s20, f12_20, f13_20, kp20⟩ := hq20
  have hc20 := kp20 _ _ (by omega) (by omega) hc16
  have f0_20 := kp20 _ _ (by omega) (by omega) f0_16
  have f1_20 := kp20 _ _ (by omega) (by omega) f1_16
  have f2_20 := kp20 _ _ (by omega) (by omega) f2_16
  have f3_20 := kp20 _ _ (by omega) (by omega) f3_16
  have f4_20 := kp20 _ _ (by omega) (by omega) f4_16
  have f5_20 := kp20 _ _ (by omega) (by omega) f5_16
  have f6_20 := kp20 _ _ (by omega) (by omega) f6_16
  have f7_20 := kp20 _ _ (by omega) (by omega) f7_16
  have f8_20 := kp20 _ _ (by omega) (by omega) f8_16
  have f9_20 := kp20 _ _ (by omega) (by omega) f9_16
  have f10_20 := kp20 _ _ (by omega) (by omega) f10_16
  have f11_20 := kp20 _ _ (by omega) (by omega) f11_16
  have ok20 : ∀ k q, k < nc → k ≠ c → wget w k = some q → wget w20 k = some q := fun k q h1 h2 h3 => kp20 k q (by omega) (by omega) (ok16 k q h1 h2 h3)
  refine xg_putFR (fl1 := [(2, nc), (0, 0), (0, 0), (0, 4294967295), (2, nc + 1), (2, nc + 12), (0, 0), (0, 0), (3, 0), (0, 0), (3, 0), (3, 0), (3, 0), (3, 0)]) (by decide) hc20 rfl rfl rfl (fun w21 hc21 b21 => ?_)
  have f0_21 := (b21.1 (nc) (by omega)).trans f0_20
  have f1_21 := (b21.1 (nc + 1) (by omega)).trans f1_20
  have f2_21 := (b21.1 (nc + 2) (by omega)).trans f2_20
  have f3_21 := (b21.1 (nc + 3) (by omega)).trans f3_20
  have f4_21 := (b21.1 (nc + 4) (by omega)).trans f4_20
  have f5_21 := (b21.1 (nc + 5) (by omega)).trans f5_20
  have f6_21 := (b21.1 (nc + 6) (by omega)).trans f6_20
  have f7_21 := (b21.1 (nc + 7) (by omega)).trans f7_20
  have f8_21 := (b21.1 (nc + 8) (by omega)).trans f8_20
  have f9_21 := (b21.1 (nc + 9) (by omega)).trans f9_20
  have f10_21 := (b21.1 (nc + 10) (by omega)).trans f10_20
  have f11_21 := (b21.1 (nc + 11) (by omega)).trans f11_20
  have f12_21 := (b21.1 (nc + 12) (by omega)).trans f12_20
  have f13_21 := (b21.1 (nc + 13) (by omega)).trans f13_20
  have ok21 : ∀ k q, k < nc → k ≠ c → wget w k = some q → wget w21 k = some q := fun k q h1 h2 h3 => (b21.1 k h2).trans (ok20 k q h1 h2 h3)
  have s21 := b21.2.trans s20
  refine xg_t (xg_aload (va := (2, c)) rfl rfl) ?_
  refine xg_t (xg_const) ?_
  refine xg_putI (fl1 := [(2, nc), (0, 0), (0, 0), (0, 4294967295), (2, nc + 1), (2, nc + 12), (0, 0), (0, 4294967295), (3, 0), (0, 0), (3, 0), (3, 0), (3, 0), (3, 0)]) hc21 rfl rfl rfl (fun w24 hc24 b24 => ?_)
  have f0_24 := (b24.1 (nc) (by omega)).trans f0_21
  have f1_24 := (b24.1 (nc + 1) (by omega)).trans f1_21
  have f2_24 := (b24.1 (nc + 2) (by omega)).trans f2_21
  have f3_24 := (b24.1 (nc + 3) (by omega)).trans f3_21
  have f4_24 := (b24.1 (nc + 4) (by omega)).trans f4_21
  have f5_24 := (b24.1 (nc + 5) (by omega)).trans f5_21
  have f6_24 := (b24.1 (nc + 6) (by omega)).trans f6_21
  have f7_24 := (b24.1 (nc + 7) (by omega)).trans f7_21
  have f8_24 := (b24.1 (nc + 8) (by omega)).trans f8_21
  have f9_24 := (b24.1 (nc + 9) (by omega)).trans f9_21
  have f10_24 := (b24.1 (nc + 10) (by omega)).trans f10_21
  have f11_24 := (b24.1 (nc + 11) (by omega)).trans f11_21
  have f12_24 := (b24.1 (nc + 12) (by omega)).trans f12_21
  have f13_24 := (b24.1 (nc + 13) (by omega)).trans f13_21
  have ok24 : ∀ k q, k < nc → k ≠ c → wget w k = some q → wget w24 k = some q := fun k q h1 h2 h3 => (b24.1 k h2).trans (ok21 k q h1 h2 h3)
  have s24 := b24.2.trans s21
  refine xg_t (xg_aload (va := (2, c)) rfl rfl) ?_
  refine xg_newO (nc := nc + 14) (na := na + 7) (cn := 14) (sl := 2454) (fs := [(0, 0), (0, 0), (3, 0), (0, 0)]) rfl s24 (show 14 < 24 by decide) (show 2454 + 4 ≤ 4074 by decide) (fun w26 s26 n26 k26 => ?_)
  have hc26 := k26 _ _ hc24
  have f0_26 := k26 _ _ f0_24
  have f1_26 := k26 _ _ f1_24
  have f2_26 := k26 _ _ f2_24
  have f3_26 := k26 _ _ f3_24
  have f4_26 := k26 _ _ f4_24
  have f5_26 := k26 _ _ f5_24
  have f6_26 := k26 _ _ f6_24
  have f7_26 := k26 _ _ f7_24
  have f8_26 := k26 _ _ f8_24
  have f9_26 := k26 _ _ f9_24
  have f10_26 := k26 _ _ f10_24
  have f11_26 := k26 _ _ f11_24
  have f12_26 := k26 _ _ f12_24
  have f13_26 := k26 _ _ f13_24
  have ok26 : ∀ k q, k < nc → k ≠ c → wget w k = some q → wget w26 k = some q := fun k q h1 h2 h3 => k26 k q (ok24 k q h1 h2 h3)
  refine xg_t (xg_dup rfl) ?_
  refine xg_t (xg_bip) ?_
  refine xg_t (xg_const) ?_
  refine xg_cI mX5_init (vs := [(0, 12), (0, 5)]) (rest := [(2, nc + 14), (2, c)]) (rr := (na + 7, nc + 15)) (cn := 15) (sl := 2458) (cn1 := 16) (sl1 := 2778) rfl (niRows (c := nc + 14) (a := 12) (b := 5) (z := 60) s26 n26 (by omega) rfl (by decide)) rfl rfl rfl rfl rfl rfl rfl rfl (fun w30 rr30 hq30 => ?_)
  obtain ⟨rfl, s30, f14_30, f15_30, kp30⟩ := hq30
  have hc30 := kp30 _ _ (by omega) (by omega) hc26
  have f0_30 := kp30 _ _ (by omega) (by omega) f0_26
  have f1_30 := kp30 _ _ (by omega) (by omega) f1_26
  have f2_30 := kp30 _ _ (by omega) (by omega) f2_26
  have f3_30 := kp30 _ _ (by omega) (by omega) f3_26
  have f4_30 := kp30 _ _ (by omega) (by omega) f4_26
  have f5_30 := kp30 _ _ (by omega) (by omega) f5_26
  have f6_30 := kp30 _ _ (by omega) (by omega) f6_26
  have f7_30 := kp30 _ _ (by omega) (by omega) f7_26
  have f8_30 := kp30 _ _ (by omega) (by omega) f8_26
  have f9_30 := kp30 _ _ (by omega) (by omega) f9_26
  have f10_30 := kp30 _ _ (by omega) (by omega) f10_26
  have f11_30 := kp30 _ _ (by omega) (by omega) f11_26
  have f12_30 := kp30 _ _ (by omega) (by omega) f12_26
  have f13_30 := kp30 _ _ (by omega) (by omega) f13_26
  have ok30 : ∀ k q, k < nc → k ≠ c → wget w k = some q → wget w30 k = some q := fun k q h1 h2 h3 => kp30 k q (by omega) (by omega) (ok26 k q h1 h2 h3)
  refine xg_putFR (fl1 := [(2, nc), (0, 0), (0, 0), (0, 4294967295), (2, nc + 1), (2, nc + 12), (0, 0), (0, 4294967295), (2, nc + 14), (0, 0), (3, 0), (3, 0), (3, 0), (3, 0)]) (by decide) hc30 rfl rfl rfl (fun w31 hc31 b31 => ?_)
  have f0_31 := (b31.1 (nc) (by omega)).trans f0_30
  have f1_31 := (b31.1 (nc + 1) (by omega)).trans f1_30
  have f2_31 := (b31.1 (nc + 2) (by omega)).trans f2_30
  have f3_31 := (b31.1 (nc + 3) (by omega)).trans f3_30
  have f4_31 := (b31.1 (nc + 4) (by omega)).trans f4_30
  have f5_31 := (b31.1 (nc + 5) (by omega)).trans f5_30
  have f6_31 := (b31.1 (nc + 6) (by omega)).trans f6_30
  have f7_31 := (b31.1 (nc + 7) (by omega)).trans f7_30
  have f8_31 := (b31.1 (nc + 8) (by omega)).trans f8_30
  have f9_31 := (b31.1 (nc + 9) (by omega)).trans f9_30
  have f10_31 := (b31.1 (nc + 10) (by omega)).trans f10_30
  have f11_31 := (b31.1 (nc + 11) (by omega)).trans f11_30
  have f12_31 := (b31.1 (nc + 12) (by omega)).trans f12_30
  have f13_31 := (b31.1 (nc + 13) (by omega)).trans f13_30
  have f14_31 := (b31.1 (nc + 14) (by omega)).trans f14_30
  have f15_31 := (b31.1 (nc + 15) (by omega)).trans f15_30
  have ok31 : ∀ k q, k < nc → k ≠ c → wget w k = some q → wget w31 k = some q := fun k q h1 h2 h3 => (b31.1 k h2).trans (ok30 k q h1 h2 h3)
  have s31 := b31.2.trans s30
  refine xg_t (xg_aload (va := (2, c)) rfl rfl) ?_
  refine xg_newO (nc := nc + 16) (na := na + 8) (cn := 16) (sl := 2778) (fs := [(0, 0), (0, 0), (3, 0), (0, 0)]) rfl s31 (show 16 < 24 by decide) (show 2778 + 4 ≤ 4074 by decide) (fun w33 s33 n33 k33 => ?_)
  have hc33 := k33 _ _ hc31
  have f0_33 := k33 _ _ f0_31
  have f1_33 := k33 _ _ f1_31
  have f2_33 := k33 _ _ f2_31
  have f3_33 := k33 _ _ f3_31
  have f4_33 := k33 _ _ f4_31
  have f5_33 := k33 _ _ f5_31
  have f6_33 := k33 _ _ f6_31
  have f7_33 := k33 _ _ f7_31
  have f8_33 := k33 _ _ f8_31
  have f9_33 := k33 _ _ f9_31
  have f10_33 := k33 _ _ f10_31
  have f11_33 := k33 _ _ f11_31
  have f12_33 := k33 _ _ f12_31
  have f13_33 := k33 _ _ f13_31
  have f14_33 := k33 _ _ f14_31
  have f15_33 := k33 _ _ f15_31
  have ok33 : ∀ k q, k < nc → k ≠ c → wget w k = some q → wget w33 k = some q := fun k q h1 h2 h3 => k33 k q (ok31 k q h1 h2 h3)
  refine xg_t (xg_dup rfl) ?_
  refine xg_t (xg_const) ?_
  refine xg_t (xg_const) ?_
  refine xg_cI mX5_init (vs := [(0, 4), (0, 3)]) (rest := [(2, nc + 16), (2, c)]) (rr := (na + 8, nc + 17)) (cn := 17) (sl := 2782) (cn1 := 18) (sl1 := 3102) rfl (niRows (c := nc + 16) (a := 4) (b := 3) (z := 12) s33 n33 (by omega) rfl (by decide)) rfl rfl rfl rfl rfl rfl rfl rfl (fun w37 rr37 hq37 => ?_)
  obtain ⟨rfl, s37, f16_37, f17_37, kp37⟩ := hq37
  have hc37 := kp37 _ _ (by omega) (by omega) hc33
  have f0_37 := kp37 _ _ (by omega) (by omega) f0_33
  have f1_37 := kp37 _ _ (by omega) (by omega) f1_33
  have f2_37 := kp37 _ _ (by omega) (by omega) f2_33
  have f3_37 := kp37 _ _ (by omega) (by omega) f3_33
  have f4_37 := kp37 _ _ (by omega) (by omega) f4_33
  have f5_37 := kp37 _ _ (by omega) (by omega) f5_33
  have f6_37 := kp37 _ _ (by omega) (by omega) f6_33
  have f7_37 := kp37 _ _ (by omega) (by omega) f7_33
  have f8_37 := kp37 _ _ (by omega) (by omega) f8_33
  have f9_37 := kp37 _ _ (by omega) (by omega) f9_33
  have f10_37 := kp37 _ _ (by omega) (by omega) f10_33
  have f11_37 := kp37 _ _ (by omega) (by omega) f11_33
  have f12_37 := kp37 _ _ (by omega) (by omega) f12_33
  have f13_37 := kp37 _ _ (by omega) (by omega) f13_33
  have f14_37 := kp37 _ _ (by omega) (by omega) f14_33
  have f15_37 := kp37 _ _ (by omega) (by omega) f15_33
  have ok37 : ∀ k q, k < nc → k ≠ c → wget w k = some q → wget w37 k = some q := fun k q h1 h2 h3 => kp37 k q (by omega) (by omega) (ok33 k q h1 h2 h3)
  refine xg_putFR (fl1 := [(2, nc), (0, 0), (0, 0), (0, 4294967295), (2, nc + 1), (2, nc + 12), (0, 0), (0, 4294967295), (2, nc + 14), (0, 0), (2, nc + 16), (3, 0), (3, 0), (3, 0)]) (by decide) hc37 rfl rfl rfl (fun w38 hc38 b38 => ?_)
  have f0_38 := (b38.1 (nc) (by omega)).trans f0_37
  have f1_38 := (b38.1 (nc + 1) (by omega)).trans f1_37
  have f2_38 := (b38.1 (nc + 2) (by omega)).trans f2_37
  have f3_38 := (b38.1 (nc + 3) (by omega)).trans f3_37
  have f4_38 := (b38.1 (nc + 4) (by omega)).trans f4_37
  have f5_38 := (b38.1 (nc + 5) (by omega)).trans f5_37
  have f6_38 := (b38.1 (nc + 6) (by omega)).trans f6_37
  have f7_38 := (b38.1 (nc + 7) (by omega)).trans f7_37
  have f8_38 := (b38.1 (nc + 8) (by omega)).trans f8_37
  have f9_38 := (b38.1 (nc + 9) (by omega)).trans f9_37
  have f10_38 := (b38.1 (nc + 10) (by omega)).trans f10_37
  have f11_38 := (b38.1 (nc + 11) (by omega)).trans f11_37
  have f12_38 := (b38.1 (nc + 12) (by omega)).trans f12_37
  have f13_38 := (b38.1 (nc + 13) (by omega)).trans f13_37
  have f14_38 := (b38.1 (nc + 14) (by omega)).trans f14_37
  have f15_38 := (b38.1 (nc + 15) (by omega)).trans f15_37
  have f16_38 := (b38.1 (nc + 16) (by omega)).trans f16_37
  have f17_38 := (b38.1 (nc + 17) (by omega)).trans f17_37
  have ok38 : ∀ k q, k < nc → k ≠ c → wget w k = some q → wget w38 k = some q := fun k q h1 h2 h3 => (b38.1 k h2).trans (ok37 k q h1 h2 h3)
  have s38 := b38.2.trans s37
  refine xg_t (xg_aload (va := (2, c)) rfl rfl) ?_
  refine xg_newO (nc := nc + 18) (na := na + 9) (cn := 18) (sl := 3102) (fs := [(0, 0), (0, 0), (3, 0), (0, 0)]) rfl s38 (show 18 < 24 by decide) (show 3102 + 4 ≤ 4074 by decide) (fun w40 s40 n40 k40 => ?_)
  have hc40 := k40 _ _ hc38
  have f0_40 := k40 _ _ f0_38
  have f1_40 := k40 _ _ f1_38
  have f2_40 := k40 _ _ f2_38
  have f3_40 := k40 _ _ f3_38
  have f4_40 := k40 _ _ f4_38
  have f5_40 := k40 _ _ f5_38
  have f6_40 := k40 _ _ f6_38
  have f7_40 := k40 _ _ f7_38
  have f8_40 := k40 _ _ f8_38
  have f9_40 := k40 _ _ f9_38
  have f10_40 := k40 _ _ f10_38
  have f11_40 := k40 _ _ f11_38
  have f12_40 := k40 _ _ f12_38
  have f13_40 := k40 _ _ f13_38
  have f14_40 := k40 _ _ f14_38
  have f15_40 := k40 _ _ f15_38
  have f16_40 := k40 _ _ f16_38
  have f17_40 := k40 _ _ f17_38
  have ok40 : ∀ k q, k < nc → k ≠ c → wget w k = some q → wget w40 k = some q := fun k q h1 h2 h3 => k40 k q (ok38 k q h1 h2 h3)
  refine xg_t (xg_dup rfl) ?_
  refine xg_t (xg_bip) ?_
  refine xg_t (xg_const) ?_
  refine xg_cI mX5_init (vs := [(0, 12), (0, 4)]) (rest := [(2, nc + 18), (2, c)]) (rr := (na + 9, nc + 19)) (cn := 19) (sl := 3106) (cn1 := 20) (sl1 := 3426) rfl (niRows (c := nc + 18) (a := 12) (b := 4) (z := 48) s40 n40 (by omega) rfl (by decide)) rfl rfl rfl rfl rfl rfl rfl rfl (fun w44 rr44 hq44 => ?_)
  obtain ⟨rfl, s44, f18_44, f19_44, kp44⟩ := hq44
  have hc44 := kp44 _ _ (by omega) (by omega) hc40
  have f0_44 := kp44 _ _ (by omega) (by omega) f0_40
  have f1_44 := kp44 _ _ (by omega) (by omega) f1_40
  have f2_44 := kp44 _ _ (by omega) (by omega) f2_40
  have f3_44 := kp44 _ _ (by omega) (by omega) f3_40
  have f4_44 := kp44 _ _ (by omega) (by omega) f4_40
  have f5_44 := kp44 _ _ (by omega) (by omega) f5_40
  have f6_44 := kp44 _ _ (by omega) (by omega) f6_40
  have f7_44 := kp44 _ _ (by omega) (by omega) f7_40
  have f8_44 := kp44 _ _ (by omega) (by omega) f8_40
  have f9_44 := kp44 _ _ (by omega) (by omega) f9_40
  have f10_44 := kp44 _ _ (by omega) (by omega) f10_40
  have f11_44 := kp44 _ _ (by omega) (by omega) f11_40
  have f12_44 := kp44 _ _ (by omega) (by omega) f12_40
  have f13_44 := kp44 _ _ (by omega) (by omega) f13_40
  have f14_44 := kp44 _ _ (by omega) (by omega) f14_40
  have f15_44 := kp44 _ _ (by omega) (by omega) f15_40
  have f16_44 := kp44 _ _ (by omega) (by omega) f16_40
  have f17_44 := kp44 _ _ (by omega) (by omega) f17_40
  have ok44 : ∀ k q, k < nc → k ≠ c → wget w k = some q → wget w44 k = some q := fun k q h1 h2 h3 => kp44 k q (by omega) (by omega) (ok40 k q h1 h2 h3)
  refine xg_putFR (fl1 := [(2, nc), (0, 0), (0, 0), (0, 4294967295), (2, nc + 1), (2, nc + 12), (0, 0), (0, 4294967295), (2, nc + 14), (0, 0), (2, nc + 16), (2, nc + 18), (3, 0), (3, 0)]) (by decide) hc44 rfl rfl rfl (fun w45 hc45 b45 => ?_)
  have f0_45 := (b45.1 (nc) (by omega)).trans f0_44
  have f1_45 := (b45.1 (nc + 1) (by omega)).trans f1_44
  have f2_45 := (b45.1 (nc + 2) (by omega)).trans f2_44
  have f3_45 := (b45.1 (nc + 3) (by omega)).trans f3_44
  have f4_45 := (b45.1 (nc + 4) (by omega)).trans f4_44
  have f5_45 := (b45.1 (nc + 5) (by omega)).trans f5_44
  have f6_45 := (b45.1 (nc + 6) (by omega)).trans f6_44
  have f7_45 := (b45.1 (nc + 7) (by omega)).trans f7_44
  have f8_45 := (b45.1 (nc + 8) (by omega)).trans f8_44
  have f9_45 := (b45.1 (nc + 9) (by omega)).trans f9_44
  have f10_45 := (b45.1 (nc + 10) (by omega)).trans f10_44
  have f11_45 := (b45.1 (nc + 11) (by omega)).trans f11_44
  have f12_45 := (b45.1 (nc + 12) (by omega)).trans f12_44
  have f13_45 := (b45.1 (nc + 13) (by omega)).trans f13_44
  have f14_45 := (b45.1 (nc + 14) (by omega)).trans f14_44
  have f15_45 := (b45.1 (nc + 15) (by omega)).trans f15_44
  have f16_45 := (b45.1 (nc + 16) (by omega)).trans f16_44
  have f17_45 := (b45.1 (nc + 17) (by omega)).trans f17_44
  have f18_45 := (b45.1 (nc + 18) (by omega)).trans f18_44
  have f19_45 := (b45.1 (nc + 19) (by omega)).trans f19_44
  have ok45 : ∀ k q, k < nc → k ≠ c → wget w k = some q → wget w45 k = some q := fun k q h1 h2 h3 => (b45.1 k h2).trans (ok44 k q h1 h2 h3)
  have s45 := b45.2.trans s44
  refine xg_t (xg_aload (va := (2, c)) rfl rfl) ?_
  refine xg_newO (nc := nc + 20) (na := na + 10) (cn := 20) (sl := 3426) (fs := [(0, 0), (0, 0), (3, 0), (0, 0)]) rfl s45 (show 20 < 24 by decide) (show 3426 + 4 ≤ 4074 by decide) (fun w47 s47 n47 k47 => ?_)
  have hc47 := k47 _ _ hc45
  have f0_47 := k47 _ _ f0_45
  have f1_47 := k47 _ _ f1_45
  have f2_47 := k47 _ _ f2_45
  have f3_47 := k47 _ _ f3_45
  have f4_47 := k47 _ _ f4_45
  have f5_47 := k47 _ _ f5_45
  have f6_47 := k47 _ _ f6_45
  have f7_47 := k47 _ _ f7_45
  have f8_47 := k47 _ _ f8_45
  have f9_47 := k47 _ _ f9_45
  have f10_47 := k47 _ _ f10_45
  have f11_47 := k47 _ _ f11_45
  have f12_47 := k47 _ _ f12_45
  have f13_47 := k47 _ _ f13_45
  have f14_47 := k47 _ _ f14_45
  have f15_47 := k47 _ _ f15_45
  have f16_47 := k47 _ _ f16_45
  have f17_47 := k47 _ _ f17_45
  have f18_47 := k47 _ _ f18_45
  have f19_47 := k47 _ _ f19_45
  have ok47 : ∀ k q, k < nc → k ≠ c → wget w k = some q → wget w47 k = some q := fun k q h1 h2 h3 => k47 k q (ok45 k q h1 h2 h3)
  refine xg_t (xg_dup rfl) ?_
  refine xg_t (xg_bip) ?_
  refine xg_t (xg_const) ?_
  refine xg_cI mX5_init (vs := [(0, 16), (0, 2)]) (rest := [(2, nc + 20), (2, c)]) (rr := (na + 10, nc + 21)) (cn := 21) (sl := 3430) (cn1 := 22) (sl1 := 3750) rfl (niRows (c := nc + 20) (a := 16) (b := 2) (z := 32) s47 n47 (by omega) rfl (by decide)) rfl rfl rfl rfl rfl rfl rfl rfl (fun w51 rr51 hq51 => ?_)
  obtain ⟨rfl, s51, f20_51, f21_51, kp51⟩ := hq51
  have hc51 := kp51 _ _ (by omega) (by omega) hc47
  have f0_51 := kp51 _ _ (by omega) (by omega) f0_47
  have f1_51 := kp51 _ _ (by omega) (by omega) f1_47
  have f2_51 := kp51 _ _ (by omega) (by omega) f2_47
  have f3_51 := kp51 _ _ (by omega) (by omega) f3_47
  have f4_51 := kp51 _ _ (by omega) (by omega) f4_47
  have f5_51 := kp51 _ _ (by omega) (by omega) f5_47
  have f6_51 := kp51 _ _ (by omega) (by omega) f6_47
  have f7_51 := kp51 _ _ (by omega) (by omega) f7_47
  have f8_51 := kp51 _ _ (by omega) (by omega) f8_47
  have f9_51 := kp51 _ _ (by omega) (by omega) f9_47
  have f10_51 := kp51 _ _ (by omega) (by omega) f10_47
  have f11_51 := kp51 _ _ (by omega) (by omega) f11_47
  have f12_51 := kp51 _ _ (by omega) (by omega) f12_47
  have f13_51 := kp51 _ _ (by omega) (by omega) f13_47
  have f14_51 := kp51 _ _ (by omega) (by omega) f14_47
  have f15_51 := kp51 _ _ (by omega) (by omega) f15_47
  have f16_51 := kp51 _ _ (by omega) (by omega) f16_47
  have f17_51 := kp51 _ _ (by omega) (by omega) f17_47
  have f18_51 := kp51 _ _ (by omega) (by omega) f18_47
  have f19_51 := kp51 _ _ (by omega) (by omega) f19_47
  have ok51 : ∀ k q, k < nc → k ≠ c → wget w k = some q → wget w51 k = some q := fun k q h1 h2 h3 => kp51 k q (by omega) (by omega) (ok47 k q h1 h2 h3)
  refine xg_putFR (fl1 := [(2, nc), (0, 0), (0, 0), (0, 4294967295), (2, nc + 1), (2, nc + 12), (0, 0), (0, 4294967295), (2, nc + 14), (0, 0), (2, nc + 16), (2, nc + 18), (2, nc + 20), (3, 0)]) (by decide) hc51 rfl rfl rfl (fun w52 hc52 b52 => ?_)
  have f0_52 := (b52.1 (nc) (by omega)).trans f0_51
  have f1_52 := (b52.1 (nc + 1) (by omega)).trans f1_51
  have f2_52 := (b52.1 (nc + 2) (by omega)).trans f2_51
  have f3_52 := (b52.1 (nc + 3) (by omega)).trans f3_51
  have f4_52 := (b52.1 (nc + 4) (by omega)).trans f4_51
  have f5_52 := (b52.1 (nc + 5) (by omega)).trans f5_51
  have f6_52 := (b52.1 (nc + 6) (by omega)).trans f6_51
  have f7_52 := (b52.1 (nc + 7) (by omega)).trans f7_51
  have f8_52 := (b52.1 (nc + 8) (by omega)).trans f8_51
  have f9_52 := (b52.1 (nc + 9) (by omega)).trans f9_51
  have f10_52 := (b52.1 (nc + 10) (by omega)).trans f10_51
  have f11_52 := (b52.1 (nc + 11) (by omega)).trans f11_51
  have f12_52 := (b52.1 (nc + 12) (by omega)).trans f12_51
  have f13_52 := (b52.1 (nc + 13) (by omega)).trans f13_51
  have f14_52 := (b52.1 (nc + 14) (by omega)).trans f14_51
  have f15_52 := (b52.1 (nc + 15) (by omega)).trans f15_51
  have f16_52 := (b52.1 (nc + 16) (by omega)).trans f16_51
  have f17_52 := (b52.1 (nc + 17) (by omega)).trans f17_51
  have f18_52 := (b52.1 (nc + 18) (by omega)).trans f18_51
  have f19_52 := (b52.1 (nc + 19) (by omega)).trans f19_51
  have f20_52 := (b52.1 (nc + 20) (by omega)).trans f20_51
  have f21_52 := (b52.1 (nc + 21) (by omega)).trans f21_51
  have ok52 : ∀ k q, k < nc → k ≠ c → wget w k = some q → wget w52 k = some q := fun k q h1 h2 h3 => (b52.1 k h2).trans (ok51 k q h1 h2 h3)
  have s52 := b52.2.trans s51
  refine xg_t (xg_aload (va := (2, c)) rfl rfl) ?_
  refine xg_newO (nc := nc + 22) (na := na + 11) (cn := 22) (sl := 3750) (fs := [(0, 0), (0, 0), (3, 0), (0, 0)]) rfl s52 (show 22 < 24 by decide) (show 3750 + 4 ≤ 4074 by decide) (fun w54 s54 n54 k54 => ?_)
  have hc54 := k54 _ _ hc52
  have f0_54 := k54 _ _ f0_52
  have f1_54 := k54 _ _ f1_52
  have f2_54 := k54 _ _ f2_52
  have f3_54 := k54 _ _ f3_52
  have f4_54 := k54 _ _ f4_52
  have f5_54 := k54 _ _ f5_52
  have f6_54 := k54 _ _ f6_52
  have f7_54 := k54 _ _ f7_52
  have f8_54 := k54 _ _ f8_52
  have f9_54 := k54 _ _ f9_52
  have f10_54 := k54 _ _ f10_52
  have f11_54 := k54 _ _ f11_52
  have f12_54 := k54 _ _ f12_52
  have f13_54 := k54 _ _ f13_52
  have f14_54 := k54 _ _ f14_52
  have f15_54 := k54 _ _ f15_52
  have f16_54 := k54 _ _ f16_52
  have f17_54 := k54 _ _ f17_52
  have f18_54 := k54 _ _ f18_52
  have f19_54 := k54 _ _ f19_52
  have f20_54 := k54 _ _ f20_52
  have f21_54 := k54 _ _ f21_52
  have ok54 : ∀ k q, k < nc → k ≠ c → wget w k = some q → wget w54 k = some q := fun k q h1 h2 h3 => k54 k q (ok52 k q h1 h2 h3)
  refine xg_t (xg_dup rfl) ?_
  refine xg_t (xg_bip) ?_
  refine xg_t (xg_const) ?_
  refine xg_cI mX5_init (vs := [(0, 64), (0, 5)]) (rest := [(2, nc + 22), (2, c)]) (rr := (na + 11, nc + 23)) (cn := 23) (sl := 3754) (cn1 := 24) (sl1 := 4074) rfl (niRows (c := nc + 22) (a := 64) (b := 5) (z := 320) s54 n54 (by omega) rfl (by decide)) rfl rfl rfl rfl rfl rfl rfl rfl (fun w58 rr58 hq58 => ?_)
  obtain ⟨rfl, s58, f22_58, f23_58, kp58⟩ := hq58
  have hc58 := kp58 _ _ (by omega) (by omega) hc54
  have f0_58 := kp58 _ _ (by omega) (by omega) f0_54
  have f1_58 := kp58 _ _ (by omega) (by omega) f1_54
  have f2_58 := kp58 _ _ (by omega) (by omega) f2_54
  have f3_58 := kp58 _ _ (by omega) (by omega) f3_54
  have f4_58 := kp58 _ _ (by omega) (by omega) f4_54
  have f5_58 := kp58 _ _ (by omega) (by omega) f5_54
  have f6_58 := kp58 _ _ (by omega) (by omega) f6_54
  have f7_58 := kp58 _ _ (by omega) (by omega) f7_54
  have f8_58 := kp58 _ _ (by omega) (by omega) f8_54
  have f9_58 := kp58 _ _ (by omega) (by omega) f9_54
  have f10_58 := kp58 _ _ (by omega) (by omega) f10_54
  have f11_58 := kp58 _ _ (by omega) (by omega) f11_54
  have f12_58 := kp58 _ _ (by omega) (by omega) f12_54
  have f13_58 := kp58 _ _ (by omega) (by omega) f13_54
  have f14_58 := kp58 _ _ (by omega) (by omega) f14_54
  have f15_58 := kp58 _ _ (by omega) (by omega) f15_54
  have f16_58 := kp58 _ _ (by omega) (by omega) f16_54
  have f17_58 := kp58 _ _ (by omega) (by omega) f17_54
  have f18_58 := kp58 _ _ (by omega) (by omega) f18_54
  have f19_58 := kp58 _ _ (by omega) (by omega) f19_54
  have f20_58 := kp58 _ _ (by omega) (by omega) f20_54
  have f21_58 := kp58 _ _ (by omega) (by omega) f21_54
  have ok58 : ∀ k q, k < nc → k ≠ c → wget w k = some q → wget w58 k = some q := fun k q h1 h2 h3 => kp58 k q (by omega) (by omega) (ok54 k q h1 h2 h3)
  refine xg_putFR (fl1 := [(2, nc), (0, 0), (0, 0), (0, 4294967295), (2, nc + 1), (2, nc + 12), (0, 0), (0, 4294967295), (2, nc + 14), (0, 0), (2, nc + 16), (2, nc + 18), (2, nc + 20), (2, nc + 22)]) (by decide) hc58 rfl rfl rfl (fun w59 hc59 b59 => ?_)
  have f0_59 := (b59.1 (nc) (by omega)).trans f0_58
  have f1_59 := (b59.1 (nc + 1) (by omega)).trans f1_58
  have f2_59 := (b59.1 (nc + 2) (by omega)).trans f2_58
  have f3_59 := (b59.1 (nc + 3) (by omega)).trans f3_58
  have f4_59 := (b59.1 (nc + 4) (by omega)).trans f4_58
  have f5_59 := (b59.1 (nc + 5) (by omega)).trans f5_58
  have f6_59 := (b59.1 (nc + 6) (by omega)).trans f6_58
  have f7_59 := (b59.1 (nc + 7) (by omega)).trans f7_58
  have f8_59 := (b59.1 (nc + 8) (by omega)).trans f8_58
  have f9_59 := (b59.1 (nc + 9) (by omega)).trans f9_58
  have f10_59 := (b59.1 (nc + 10) (by omega)).trans f10_58
  have f11_59 := (b59.1 (nc + 11) (by omega)).trans f11_58
  have f12_59 := (b59.1 (nc + 12) (by omega)).trans f12_58
  have f13_59 := (b59.1 (nc + 13) (by omega)).trans f13_58
  have f14_59 := (b59.1 (nc + 14) (by omega)).trans f14_58
  have f15_59 := (b59.1 (nc + 15) (by omega)).trans f15_58
  have f16_59 := (b59.1 (nc + 16) (by omega)).trans f16_58
  have f17_59 := (b59.1 (nc + 17) (by omega)).trans f17_58
  have f18_59 := (b59.1 (nc + 18) (by omega)).trans f18_58
  have f19_59 := (b59.1 (nc + 19) (by omega)).trans f19_58
  have f20_59 := (b59.1 (nc + 20) (by omega)).trans f20_58
  have f21_59 := (b59.1 (nc + 21) (by omega)).trans f21_58
  have f22_59 := (b59.1 (nc + 22) (by omega)).trans f22_58
  have f23_59 := (b59.1 (nc + 23) (by omega)).trans f23_58
  have ok59 : ∀ k q, k < nc → k ≠ c → wget w k = some q → wget w59 k = some q := fun k q h1 h2 h3 => (b59.1 k h2).trans (ok58 k q h1 h2 h3)
  have s59 := b59.2.trans s58
  exact xg_e ⟨[], w59, 24, 4074, (na + 12, nc + 24), ⟨rfl, rfl⟩, by decide, by decide, rfl, rfl, s59, hc59, f0_59, f1_59, f2_59, f3_59, f4_59, f5_59, f6_59, f7_59, f8_59, f9_59, f10_59, f11_59, f12_59, f13_59, f14_59, f15_59, f16_59, f17_59, f18_59, f19_59, f20_59, f21_59, f22_59, f23_59, ok59⟩
end XNT
end
