section YLP
variable {A A' : Nat → Nat} {r c C s n m t j R K v v' be br be' br' : Nat}
end YLP
/-- the ages as kept are those by the pictures; what pictures can be -/
def agQ (w : List (List xE)) : Prop := ∀ p, p < fld w 16 3 → (∀ t, t < 4 → rwv w 17 (5 * p + t) ≤ 5) ∧ rwv w 17 (5 * p + 4) ≤ 8991
def agV (w : List (List xE)) : Prop := fld w 68 4 = 1 → ∀ k, k < 36 → rwv w 69 k = ag (rwv w 17) (fld w 16 3) k
section YAG
variable {w w' : List (List xE)} {S : List Nat}
theorem agQ.fr (h : agQ w) (hf : xFr S w w') (hs : 16 ∉ S ∧ 17 ∉ S) : agQ w' := by
  intro p hp
  rw [fld_fr hf hs.1] at hp
  rw [rwf_eq (hf.1 17 hs.2)]
  exact h p hp
theorem agV.k (h : agV w) (h16 : wget w' 16 = wget w 16) (h17 : wget w' 17 = wget w 17) (h69 : wget w' 69 = wget w 69) (h68 : fld w' 68 4 = fld w 68 4) : agV w' := by
  intro h1 k hk
  rw [rwv_eq h69, rwf_eq h17, fld_eq h16]
  exact h (h68.symm.trans h1) k hk
theorem agV.fr (h : agV w) (hf : xFr S w w') (hs : (16 ∉ S ∧ 17 ∉ S) ∧ 68 ∉ S ∧ 69 ∉ S) : agV w' := h.k (hf.1 16 hs.1.1) (hf.1 17 hs.1.2) (hf.1 69 hs.2.2) (fld_fr hf hs.2.1)
theorem agV.fr4 (h : agV w) (hf : xFr S w w') (hs : (16 ∉ S ∧ 17 ∉ S) ∧ 69 ∉ S) (h4 : fld w' 68 4 = fld w 68 4) : agV w' := h.k (hf.1 16 hs.1.1) (hf.1 17 hs.1.2) (hf.1 69 hs.2) h4
theorem agV.of0 (h : fld w' 68 4 = 0) : agV w' := fun z => by omega
theorem agV.of (hf : xFr S w w') (hs : 16 ∉ S ∧ 17 ∉ S) (h : ∀ k, k < 36 → rwv w' 69 k = ag (rwv w 17) (fld w 16 3) k) : agV w' := fun _ k hk => by
  rw [h k hk, rwf_eq (hf.1 17 hs.2), fld_fr hf hs.1]
end YAG
