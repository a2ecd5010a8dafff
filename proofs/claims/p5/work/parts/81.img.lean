/-! images: what holds of their cells -/
def cp114 (q : Option xE) : Prop := ∃ a1 a2 a3 a6 a7 a9 : Nat, q = some (.inl (9, [(2, 115), (0, a1), (0, a2), (0, a3), (2, 116), (2, 127), (0, a6), (0, a7), (2, 129), (0, a9), (2, 131), (2, 133), (2, 135), (2, 137)])) ∧ a1 ≤ 500 ∧ a2 ≤ 4294967295 ∧ a3 ≤ 4294967295 ∧ a6 ≤ 4294967295 ∧ a7 ≤ 4294967295 ∧ a9 ≤ 200
def cp116 (q : Option xE) : Prop := ∃ a5 a6 a7 a8 a9 : Nat, q = some (.inl (1, [(2, 117), (2, 119), (2, 121), (2, 123), (2, 125), (0, a5), (0, a6), (0, a7), (0, a8), (0, a9)])) ∧ a5 ≤ 10 ∧ a6 ≤ 10 ∧ a7 ≤ 6 ∧ a8 ≤ 6 ∧ a9 ≤ 500
def cp117 (q : Option xE) : Prop := ∃ a3 : Nat, q = some (.inl (5, [(0, 6), (0, 4), (2, 118), (0, a3)])) ∧ a3 ≤ 6
def cp119 (q : Option xE) : Prop := ∃ a3 : Nat, q = some (.inl (5, [(0, 4), (0, 2), (2, 120), (0, a3)])) ∧ a3 ≤ 4
def cp121 (q : Option xE) : Prop := ∃ a3 : Nat, q = some (.inl (5, [(0, 6), (0, 2), (2, 122), (0, a3)])) ∧ a3 ≤ 6
def cp123 (q : Option xE) : Prop := ∃ a3 : Nat, q = some (.inl (5, [(0, 4), (0, 3), (2, 124), (0, a3)])) ∧ a3 ≤ 4
def cp125 (q : Option xE) : Prop := ∃ a3 : Nat, q = some (.inl (5, [(0, 20), (0, 2), (2, 126), (0, a3)])) ∧ a3 ≤ 20
def cp127 (q : Option xE) : Prop := ∃ a3 : Nat, q = some (.inl (5, [(0, 40), (0, 5), (2, 128), (0, a3)])) ∧ a3 ≤ 40
def cp129 (q : Option xE) : Prop := ∃ a3 : Nat, q = some (.inl (5, [(0, 12), (0, 5), (2, 130), (0, a3)])) ∧ a3 ≤ 12
def cp131 (q : Option xE) : Prop := ∃ a3 : Nat, q = some (.inl (5, [(0, 4), (0, 3), (2, 132), (0, a3)])) ∧ a3 ≤ 4
def cp133 (q : Option xE) : Prop := ∃ a3 : Nat, q = some (.inl (5, [(0, 12), (0, 4), (2, 134), (0, a3)])) ∧ a3 ≤ 12
def cp135 (q : Option xE) : Prop := ∃ a3 : Nat, q = some (.inl (5, [(0, 16), (0, 2), (2, 136), (0, a3)])) ∧ a3 ≤ 16
def cp137 (q : Option xE) : Prop := ∃ a3 : Nat, q = some (.inl (5, [(0, 64), (0, 5), (2, 138), (0, a3)])) ∧ a3 ≤ 64
def cp139 (q : Option xE) : Prop := ∃ a1 a2 a3 a6 a7 a9 : Nat, q = some (.inl (9, [(2, 140), (0, a1), (0, a2), (0, a3), (2, 141), (2, 152), (0, a6), (0, a7), (2, 154), (0, a9), (2, 156), (2, 158), (2, 160), (2, 162)])) ∧ a1 ≤ 500 ∧ a2 ≤ 4294967295 ∧ a3 ≤ 4294967295 ∧ a6 ≤ 4294967295 ∧ a7 ≤ 4294967295 ∧ a9 ≤ 200
def cp141 (q : Option xE) : Prop := ∃ a5 a6 a7 a8 a9 : Nat, q = some (.inl (1, [(2, 142), (2, 144), (2, 146), (2, 148), (2, 150), (0, a5), (0, a6), (0, a7), (0, a8), (0, a9)])) ∧ a5 ≤ 10 ∧ a6 ≤ 10 ∧ a7 ≤ 6 ∧ a8 ≤ 6 ∧ a9 ≤ 500
def cp142 (q : Option xE) : Prop := ∃ a3 : Nat, q = some (.inl (5, [(0, 6), (0, 4), (2, 143), (0, a3)])) ∧ a3 ≤ 6
def cp144 (q : Option xE) : Prop := ∃ a3 : Nat, q = some (.inl (5, [(0, 4), (0, 2), (2, 145), (0, a3)])) ∧ a3 ≤ 4
def cp146 (q : Option xE) : Prop := ∃ a3 : Nat, q = some (.inl (5, [(0, 6), (0, 2), (2, 147), (0, a3)])) ∧ a3 ≤ 6
def cp148 (q : Option xE) : Prop := ∃ a3 : Nat, q = some (.inl (5, [(0, 4), (0, 3), (2, 149), (0, a3)])) ∧ a3 ≤ 4
def cp150 (q : Option xE) : Prop := ∃ a3 : Nat, q = some (.inl (5, [(0, 20), (0, 2), (2, 151), (0, a3)])) ∧ a3 ≤ 20
def cp152 (q : Option xE) : Prop := ∃ a3 : Nat, q = some (.inl (5, [(0, 40), (0, 5), (2, 153), (0, a3)])) ∧ a3 ≤ 40
def cp154 (q : Option xE) : Prop := ∃ a3 : Nat, q = some (.inl (5, [(0, 12), (0, 5), (2, 155), (0, a3)])) ∧ a3 ≤ 12
def cp156 (q : Option xE) : Prop := ∃ a3 : Nat, q = some (.inl (5, [(0, 4), (0, 3), (2, 157), (0, a3)])) ∧ a3 ≤ 4
def cp158 (q : Option xE) : Prop := ∃ a3 : Nat, q = some (.inl (5, [(0, 12), (0, 4), (2, 159), (0, a3)])) ∧ a3 ≤ 12
def cp160 (q : Option xE) : Prop := ∃ a3 : Nat, q = some (.inl (5, [(0, 16), (0, 2), (2, 161), (0, a3)])) ∧ a3 ≤ 16
def cp162 (q : Option xE) : Prop := ∃ a3 : Nat, q = some (.inl (5, [(0, 64), (0, 5), (2, 163), (0, a3)])) ∧ a3 ≤ 64
def cp164 (q : Option xE) : Prop := ∃ a1 a2 a3 a6 a7 a9 : Nat, q = some (.inl (9, [(2, 165), (0, a1), (0, a2), (0, a3), (2, 166), (2, 177), (0, a6), (0, a7), (2, 179), (0, a9), (2, 181), (2, 183), (2, 185), (2, 187)])) ∧ a1 ≤ 500 ∧ a2 ≤ 4294967295 ∧ a3 ≤ 4294967295 ∧ a6 ≤ 4294967295 ∧ a7 ≤ 4294967295 ∧ a9 ≤ 200
def cp166 (q : Option xE) : Prop := ∃ a5 a6 a7 a8 a9 : Nat, q = some (.inl (1, [(2, 167), (2, 169), (2, 171), (2, 173), (2, 175), (0, a5), (0, a6), (0, a7), (0, a8), (0, a9)])) ∧ a5 ≤ 10 ∧ a6 ≤ 10 ∧ a7 ≤ 6 ∧ a8 ≤ 6 ∧ a9 ≤ 500
def cp167 (q : Option xE) : Prop := ∃ a3 : Nat, q = some (.inl (5, [(0, 6), (0, 4), (2, 168), (0, a3)])) ∧ a3 ≤ 6
def cp169 (q : Option xE) : Prop := ∃ a3 : Nat, q = some (.inl (5, [(0, 4), (0, 2), (2, 170), (0, a3)])) ∧ a3 ≤ 4
def cp171 (q : Option xE) : Prop := ∃ a3 : Nat, q = some (.inl (5, [(0, 6), (0, 2), (2, 172), (0, a3)])) ∧ a3 ≤ 6
def cp173 (q : Option xE) : Prop := ∃ a3 : Nat, q = some (.inl (5, [(0, 4), (0, 3), (2, 174), (0, a3)])) ∧ a3 ≤ 4
def cp175 (q : Option xE) : Prop := ∃ a3 : Nat, q = some (.inl (5, [(0, 20), (0, 2), (2, 176), (0, a3)])) ∧ a3 ≤ 20
def cp177 (q : Option xE) : Prop := ∃ a3 : Nat, q = some (.inl (5, [(0, 40), (0, 5), (2, 178), (0, a3)])) ∧ a3 ≤ 40
def cp179 (q : Option xE) : Prop := ∃ a3 : Nat, q = some (.inl (5, [(0, 12), (0, 5), (2, 180), (0, a3)])) ∧ a3 ≤ 12
def cp181 (q : Option xE) : Prop := ∃ a3 : Nat, q = some (.inl (5, [(0, 4), (0, 3), (2, 182), (0, a3)])) ∧ a3 ≤ 4
def cp183 (q : Option xE) : Prop := ∃ a3 : Nat, q = some (.inl (5, [(0, 12), (0, 4), (2, 184), (0, a3)])) ∧ a3 ≤ 12
def cp185 (q : Option xE) : Prop := ∃ a3 : Nat, q = some (.inl (5, [(0, 16), (0, 2), (2, 186), (0, a3)])) ∧ a3 ≤ 16
def cp187 (q : Option xE) : Prop := ∃ a3 : Nat, q = some (.inl (5, [(0, 64), (0, 5), (2, 188), (0, a3)])) ∧ a3 ≤ 64
def imps : List (Option xE → Prop) := [cp114, cpY 500 81, cp116, cp117, cpI 24 82 4294967295, cp119, cpI 8 83 4294967295, cp121, cpI 12 84 4294967295, cp123, cpI 12 85 4294967295, cp125, cpI 40 86 4294967295, cp127, cpI 200 87 4294967295, cp129, cpI 60 88 4294967295, cp131, cpI 12 89 4294967295, cp133, cpI 48 90 4294967295, cp135, cpI 32 91 4294967295, cp137, cpI 320 92 4294967295, cp139, cpY 500 93, cp141, cp142, cpI 24 94 4294967295, cp144, cpI 8 95 4294967295, cp146, cpI 12 96 4294967295, cp148, cpI 12 97 4294967295, cp150, cpI 40 98 4294967295, cp152, cpI 200 99 4294967295, cp154, cpI 60 100 4294967295, cp156, cpI 12 101 4294967295, cp158, cpI 48 102 4294967295, cp160, cpI 32 103 4294967295, cp162, cpI 320 104 4294967295, cp164, cpY 500 105, cp166, cp167, cpI 24 106 4294967295, cp169, cpI 8 107 4294967295, cp171, cpI 12 108 4294967295, cp173, cpI 12 109 4294967295, cp175, cpI 40 110 4294967295, cp177, cpI 200 111 4294967295, cp179, cpI 60 112 4294967295, cp181, cpI 12 113 4294967295, cp183, cpI 48 114 4294967295, cp185, cpI 32 115 4294967295, cp187, cpI 320 116 4294967295]
def imk (k : Nat) : Option xE → Prop := imps.getD (k - 114) (fun _ => True)
def xIm (a b : Nat) (w : List (List xE)) : Prop := ∀ k, a ≤ k → k < b → imk k (wget w k)
theorem xIm.up {a b : Nat} {w w' : List (List xE)} {S : List Nat} (h : xIm a b w) (hf : xFr S w w') (hs : ∀ k ∈ S, a ≤ k → imk k (wget w' k)) : xIm a b w' := by
  intro k h1 h2
  by_cases hc : k ∈ S
  · exact hs k hc h1
  · rw [hf.1 k hc]
    exact h k h1 h2
section XIG
variable {d : Nat} {w : List (List xE)} {bd : List (Nat × Nat)} {fc : List (Nat × Nat × Bool)} {rr : Nat × Nat}
end XIG
