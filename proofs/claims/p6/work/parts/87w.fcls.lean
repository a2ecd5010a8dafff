/-! the class: texts of films, to the last number -/
theorem xsbt_let {i : Nat} {q : List Nat} (h : xget xsbt i = some q) : 1 ≤ q.length ∧ ∀ j, j < q.length → 97 ≤ q.getD j 0 ∧ q.getD j 0 ≤ 122 := by
  have key : ∀ q ∈ xsbt, 1 ≤ q.length ∧ ∀ b ∈ q, 97 ≤ b ∧ b ≤ 122 := by decide +kernel
  rw [xget_eq] at h
  obtain ⟨h1, h2⟩ := key q (List.mem_of_getElem? h)
  refine ⟨h1, fun j hj => ?_⟩
  rw [List.getD_eq_getElem?_getD]
  cases hz : q[j]? with
  | none => exact absurd (List.getElem?_eq_none_iff.mp hz) (by omega)
  | some b => exact h2 b (List.mem_of_getElem? hz)
/-- the tape's bytes -/
def bsr (w : List (List xE)) (B : Nat → Nat) (nn : Nat) : Prop := nn ≤ 500 ∧ ∀ j, j < nn → rwk w 2 j % 256 = B j
theorem bsr.fr {w w' : List (List xE)} {B : Nat → Nat} {nn : Nat} (h : bsr w B nn) (e : wget w' 2 = wget w 2) : bsr w' B nn := ⟨h.1, fun j hj => by rw [rwk_eq e]; exact h.2 j hj⟩
/-- the token at hand begins its reading at p -/
def TKw (t : Nat) (B : Nat → Nat) (nn : Nat) (w : List (List xE)) (p : Nat) : Prop := (fld w t 1 = nn ∧ fld w t 2 = tkd B nn p ∧ fld w t 3 = tq B nn p ∧ fld w t 4 = tf B nn p ∧ p ≤ nn) ∧ (tkd B nn p = 2 → fld w t 5 = tnu B nn p)
theorem TKw.fr {t : Nat} {B : Nat → Nat} {nn p : Nat} {w w' : List (List xE)} (h : TKw t B nn w p) (e : wget w' t = wget w t) : TKw t B nn w' p := by
  unfold TKw
  simp only [show ∀ j, fld w' t j = fld w t j from fun j => fld_eq e]
  exact h
/-- rows and numbers of a film, by sort, line and place -/
noncomputable def XC (w : List (List xE)) : Nat → Nat → Nat → Nat := fun s m t => if s = 0 then rwv w 30 (4 * m + t) else if s = 1 then rwv w 32 (2 * m + t) else if s = 2 then rwv w 34 (2 * m + t) else if s = 3 then rwv w 36 (3 * m + t) else if s = 4 then rwv w 38 (2 * m + t) else if s = 5 then fld w 28 (5 + t) else if s = 6 then fld w 28 (7 + t) else 0
theorem XC_fr {w w' : List (List xE)} {S : List Nat} (h : xFr S w w') (hs : 28 ∉ S ∧ 30 ∉ S ∧ 32 ∉ S ∧ 34 ∉ S ∧ 36 ∉ S ∧ 38 ∉ S) : XC w' = XC w := by
  funext s m t
  unfold XC
  rw [rwv_fr h hs.2.1, rwv_fr h hs.2.2.1, rwv_fr h hs.2.2.2.1, rwv_fr h hs.2.2.2.2.1, rwv_fr h hs.2.2.2.2.2, fld_fr h hs.1, fld_fr h hs.1]
/-- the draft behind k lines -/
def CST (B : Nat → Nat) (n : Nat) (w : List (List xE)) (k : Nat) : Prop := fld w 27 9 = (flA B n k).1 ∧ ((flA B n k).1 ≠ 0 → fld w 27 10 = (flA B n k).2) ∧ ((flA B n k).1 = 0 → (fld w 29 3 = lnC B n 0 k ∧ fld w 31 3 = lnC B n 1 k ∧ fld w 33 3 = lnC B n 2 k ∧ fld w 35 3 = lnC B n 3 k ∧ fld w 37 3 = lnC B n 4 k ∧ fld w 27 7 = lnC B n 5 k ∧ fld w 27 8 = lnC B n 6 k) ∧ RCN B n k (XC w) ∧ ∀ i, i < k → slt B n (lnP B n i) = 4 → rwv w 41 (lnC B n 4 i) = tq B n (lnP B n i))
theorem CST.st {B : Nat → Nat} {n k : Nat} {w w' : List (List xE)} (h : CST B n w k) (h0 : (flA B n k).1 ≠ 0) (e9 : fld w' 27 9 = fld w 27 9) (e10 : fld w' 27 10 = fld w 27 10) : CST B n w' (k + 1) := by
  unfold CST
  rw [flA_n h0]
  exact ⟨e9.trans h.1, fun z => e10.trans (h.2.1 z), fun z => absurd z h0⟩
theorem CST.bad {B : Nat → Nat} {n k a b : Nat} {w' : List (List xE)} (h0 : (flA B n k).1 = 0) (hf : flt B n k = (a, b)) (ha : a ≠ 0) (e9 : fld w' 27 9 = a) (e10 : fld w' 27 10 = b) : CST B n w' (k + 1) := by
  unfold CST
  rw [flA_y h0, hf]
  exact ⟨e9, fun _ => e10, fun z => absurd z ha⟩

theorem CTK0 {B : Nat → Nat} {n k : Nat} {w w' : List (List xE)} (hF : xFr [29, 30] w w') (hs : slt B n (lnP B n k) = 0) (h : RCN B n k (XC w)) (hz : fld w 29 3 = lnC B n 0 k) (r1 : ∀ j, j < 4 * fld w 29 3 → rwv w' 30 j = rwv w 30 j) (r2 : ∀ t, t < 4 → rwv w' 30 (4 * fld w 29 3 + t) = vln B n (lnP B n k) t) : RCN B n (k + 1) (XC w') := by
  refine h.up hs (fun s' m t hm ht => ?_) (fun t ht => ?_) (fun s' h56 hne hc => ?_)
  · unfold XC
    by_cases e0 : s' = 0
    · subst e0
      rw [if_pos rfl, if_pos rfl]
      have ht : t < 4 := ht
      exact r1 _ (by omega)
    by_cases e1 : s' = 1
    · subst e1
      rw [if_neg (show ¬ 1 = 0 by decide), if_neg (show ¬ 1 = 0 by decide), if_pos rfl, if_pos rfl]
      exact rwv_fr hF (by decide)
    by_cases e2 : s' = 2
    · subst e2
      rw [if_neg (show ¬ 2 = 0 by decide), if_neg (show ¬ 2 = 0 by decide), if_neg (show ¬ 2 = 1 by decide), if_neg (show ¬ 2 = 1 by decide), if_pos rfl, if_pos rfl]
      exact rwv_fr hF (by decide)
    by_cases e3 : s' = 3
    · subst e3
      rw [if_neg (show ¬ 3 = 0 by decide), if_neg (show ¬ 3 = 0 by decide), if_neg (show ¬ 3 = 1 by decide), if_neg (show ¬ 3 = 1 by decide), if_neg (show ¬ 3 = 2 by decide), if_neg (show ¬ 3 = 2 by decide), if_pos rfl, if_pos rfl]
      exact rwv_fr hF (by decide)
    by_cases e4 : s' = 4
    · subst e4
      rw [if_neg (show ¬ 4 = 0 by decide), if_neg (show ¬ 4 = 0 by decide), if_neg (show ¬ 4 = 1 by decide), if_neg (show ¬ 4 = 1 by decide), if_neg (show ¬ 4 = 2 by decide), if_neg (show ¬ 4 = 2 by decide), if_neg (show ¬ 4 = 3 by decide), if_neg (show ¬ 4 = 3 by decide), if_pos rfl, if_pos rfl]
      exact rwv_fr hF (by decide)
    by_cases e5 : s' = 5
    · subst e5
      rw [if_neg (show ¬ 5 = 0 by decide), if_neg (show ¬ 5 = 0 by decide), if_neg (show ¬ 5 = 1 by decide), if_neg (show ¬ 5 = 1 by decide), if_neg (show ¬ 5 = 2 by decide), if_neg (show ¬ 5 = 2 by decide), if_neg (show ¬ 5 = 3 by decide), if_neg (show ¬ 5 = 3 by decide), if_neg (show ¬ 5 = 4 by decide), if_neg (show ¬ 5 = 4 by decide), if_pos rfl, if_pos rfl]
      exact fld_fr hF (by decide)
    by_cases e6 : s' = 6
    · subst e6
      rw [if_neg (show ¬ 6 = 0 by decide), if_neg (show ¬ 6 = 0 by decide), if_neg (show ¬ 6 = 1 by decide), if_neg (show ¬ 6 = 1 by decide), if_neg (show ¬ 6 = 2 by decide), if_neg (show ¬ 6 = 2 by decide), if_neg (show ¬ 6 = 3 by decide), if_neg (show ¬ 6 = 3 by decide), if_neg (show ¬ 6 = 4 by decide), if_neg (show ¬ 6 = 4 by decide), if_neg (show ¬ 6 = 5 by decide), if_neg (show ¬ 6 = 5 by decide), if_pos rfl, if_pos rfl]
      exact fld_fr hF (by decide)
    · rw [if_neg e0, if_neg e0, if_neg e1, if_neg e1, if_neg e2, if_neg e2, if_neg e3, if_neg e3, if_neg e4, if_neg e4, if_neg e5, if_neg e5, if_neg e6, if_neg e6]
  · unfold XC
    rw [if_pos rfl]
    rw [← hz]
    exact r2 t ht
  · unfold XC
    rcases h56 with rfl | rfl
    · rw [if_neg (show ¬ 5 = 0 by decide), if_neg (show ¬ 5 = 1 by decide), if_neg (show ¬ 5 = 2 by decide), if_neg (show ¬ 5 = 3 by decide), if_neg (show ¬ 5 = 4 by decide), if_pos rfl, if_neg (show ¬ 5 = 0 by decide), if_neg (show ¬ 5 = 1 by decide), if_neg (show ¬ 5 = 2 by decide), if_neg (show ¬ 5 = 3 by decide), if_neg (show ¬ 5 = 4 by decide), if_pos rfl, if_neg (show ¬ 5 = 0 by decide), if_neg (show ¬ 5 = 1 by decide), if_neg (show ¬ 5 = 2 by decide), if_neg (show ¬ 5 = 3 by decide), if_neg (show ¬ 5 = 4 by decide), if_pos rfl, if_neg (show ¬ 5 = 0 by decide), if_neg (show ¬ 5 = 1 by decide), if_neg (show ¬ 5 = 2 by decide), if_neg (show ¬ 5 = 3 by decide), if_neg (show ¬ 5 = 4 by decide), if_pos rfl]
      exact ⟨fld_fr hF (by decide), fld_fr hF (by decide)⟩
    · rw [if_neg (show ¬ 6 = 0 by decide), if_neg (show ¬ 6 = 1 by decide), if_neg (show ¬ 6 = 2 by decide), if_neg (show ¬ 6 = 3 by decide), if_neg (show ¬ 6 = 4 by decide), if_neg (show ¬ 6 = 5 by decide), if_pos rfl, if_neg (show ¬ 6 = 0 by decide), if_neg (show ¬ 6 = 1 by decide), if_neg (show ¬ 6 = 2 by decide), if_neg (show ¬ 6 = 3 by decide), if_neg (show ¬ 6 = 4 by decide), if_neg (show ¬ 6 = 5 by decide), if_pos rfl, if_neg (show ¬ 6 = 0 by decide), if_neg (show ¬ 6 = 1 by decide), if_neg (show ¬ 6 = 2 by decide), if_neg (show ¬ 6 = 3 by decide), if_neg (show ¬ 6 = 4 by decide), if_neg (show ¬ 6 = 5 by decide), if_pos rfl, if_neg (show ¬ 6 = 0 by decide), if_neg (show ¬ 6 = 1 by decide), if_neg (show ¬ 6 = 2 by decide), if_neg (show ¬ 6 = 3 by decide), if_neg (show ¬ 6 = 4 by decide), if_neg (show ¬ 6 = 5 by decide), if_pos rfl]
      exact ⟨fld_fr hF (by decide), fld_fr hF (by decide)⟩
theorem CTK1 {B : Nat → Nat} {n k : Nat} {w w' : List (List xE)} (hF : xFr [31, 32] w w') (hs : slt B n (lnP B n k) = 1) (h : RCN B n k (XC w)) (hz : fld w 31 3 = lnC B n 1 k) (r1 : ∀ j, j < 2 * fld w 31 3 → rwv w' 32 j = rwv w 32 j) (r2 : ∀ t, t < 2 → rwv w' 32 (2 * fld w 31 3 + t) = vln B n (lnP B n k) t) : RCN B n (k + 1) (XC w') := by
  refine h.up hs (fun s' m t hm ht => ?_) (fun t ht => ?_) (fun s' h56 hne hc => ?_)
  · unfold XC
    by_cases e0 : s' = 0
    · subst e0
      rw [if_pos rfl, if_pos rfl]
      exact rwv_fr hF (by decide)
    by_cases e1 : s' = 1
    · subst e1
      rw [if_neg (show ¬ 1 = 0 by decide), if_neg (show ¬ 1 = 0 by decide), if_pos rfl, if_pos rfl]
      have ht : t < 2 := ht
      exact r1 _ (by omega)
    by_cases e2 : s' = 2
    · subst e2
      rw [if_neg (show ¬ 2 = 0 by decide), if_neg (show ¬ 2 = 0 by decide), if_neg (show ¬ 2 = 1 by decide), if_neg (show ¬ 2 = 1 by decide), if_pos rfl, if_pos rfl]
      exact rwv_fr hF (by decide)
    by_cases e3 : s' = 3
    · subst e3
      rw [if_neg (show ¬ 3 = 0 by decide), if_neg (show ¬ 3 = 0 by decide), if_neg (show ¬ 3 = 1 by decide), if_neg (show ¬ 3 = 1 by decide), if_neg (show ¬ 3 = 2 by decide), if_neg (show ¬ 3 = 2 by decide), if_pos rfl, if_pos rfl]
      exact rwv_fr hF (by decide)
    by_cases e4 : s' = 4
    · subst e4
      rw [if_neg (show ¬ 4 = 0 by decide), if_neg (show ¬ 4 = 0 by decide), if_neg (show ¬ 4 = 1 by decide), if_neg (show ¬ 4 = 1 by decide), if_neg (show ¬ 4 = 2 by decide), if_neg (show ¬ 4 = 2 by decide), if_neg (show ¬ 4 = 3 by decide), if_neg (show ¬ 4 = 3 by decide), if_pos rfl, if_pos rfl]
      exact rwv_fr hF (by decide)
    by_cases e5 : s' = 5
    · subst e5
      rw [if_neg (show ¬ 5 = 0 by decide), if_neg (show ¬ 5 = 0 by decide), if_neg (show ¬ 5 = 1 by decide), if_neg (show ¬ 5 = 1 by decide), if_neg (show ¬ 5 = 2 by decide), if_neg (show ¬ 5 = 2 by decide), if_neg (show ¬ 5 = 3 by decide), if_neg (show ¬ 5 = 3 by decide), if_neg (show ¬ 5 = 4 by decide), if_neg (show ¬ 5 = 4 by decide), if_pos rfl, if_pos rfl]
      exact fld_fr hF (by decide)
    by_cases e6 : s' = 6
    · subst e6
      rw [if_neg (show ¬ 6 = 0 by decide), if_neg (show ¬ 6 = 0 by decide), if_neg (show ¬ 6 = 1 by decide), if_neg (show ¬ 6 = 1 by decide), if_neg (show ¬ 6 = 2 by decide), if_neg (show ¬ 6 = 2 by decide), if_neg (show ¬ 6 = 3 by decide), if_neg (show ¬ 6 = 3 by decide), if_neg (show ¬ 6 = 4 by decide), if_neg (show ¬ 6 = 4 by decide), if_neg (show ¬ 6 = 5 by decide), if_neg (show ¬ 6 = 5 by decide), if_pos rfl, if_pos rfl]
      exact fld_fr hF (by decide)
    · rw [if_neg e0, if_neg e0, if_neg e1, if_neg e1, if_neg e2, if_neg e2, if_neg e3, if_neg e3, if_neg e4, if_neg e4, if_neg e5, if_neg e5, if_neg e6, if_neg e6]
  · unfold XC
    rw [if_neg (show ¬ 1 = 0 by decide), if_pos rfl]
    rw [← hz]
    exact r2 t ht
  · unfold XC
    rcases h56 with rfl | rfl
    · rw [if_neg (show ¬ 5 = 0 by decide), if_neg (show ¬ 5 = 1 by decide), if_neg (show ¬ 5 = 2 by decide), if_neg (show ¬ 5 = 3 by decide), if_neg (show ¬ 5 = 4 by decide), if_pos rfl, if_neg (show ¬ 5 = 0 by decide), if_neg (show ¬ 5 = 1 by decide), if_neg (show ¬ 5 = 2 by decide), if_neg (show ¬ 5 = 3 by decide), if_neg (show ¬ 5 = 4 by decide), if_pos rfl, if_neg (show ¬ 5 = 0 by decide), if_neg (show ¬ 5 = 1 by decide), if_neg (show ¬ 5 = 2 by decide), if_neg (show ¬ 5 = 3 by decide), if_neg (show ¬ 5 = 4 by decide), if_pos rfl, if_neg (show ¬ 5 = 0 by decide), if_neg (show ¬ 5 = 1 by decide), if_neg (show ¬ 5 = 2 by decide), if_neg (show ¬ 5 = 3 by decide), if_neg (show ¬ 5 = 4 by decide), if_pos rfl]
      exact ⟨fld_fr hF (by decide), fld_fr hF (by decide)⟩
    · rw [if_neg (show ¬ 6 = 0 by decide), if_neg (show ¬ 6 = 1 by decide), if_neg (show ¬ 6 = 2 by decide), if_neg (show ¬ 6 = 3 by decide), if_neg (show ¬ 6 = 4 by decide), if_neg (show ¬ 6 = 5 by decide), if_pos rfl, if_neg (show ¬ 6 = 0 by decide), if_neg (show ¬ 6 = 1 by decide), if_neg (show ¬ 6 = 2 by decide), if_neg (show ¬ 6 = 3 by decide), if_neg (show ¬ 6 = 4 by decide), if_neg (show ¬ 6 = 5 by decide), if_pos rfl, if_neg (show ¬ 6 = 0 by decide), if_neg (show ¬ 6 = 1 by decide), if_neg (show ¬ 6 = 2 by decide), if_neg (show ¬ 6 = 3 by decide), if_neg (show ¬ 6 = 4 by decide), if_neg (show ¬ 6 = 5 by decide), if_pos rfl, if_neg (show ¬ 6 = 0 by decide), if_neg (show ¬ 6 = 1 by decide), if_neg (show ¬ 6 = 2 by decide), if_neg (show ¬ 6 = 3 by decide), if_neg (show ¬ 6 = 4 by decide), if_neg (show ¬ 6 = 5 by decide), if_pos rfl]
      exact ⟨fld_fr hF (by decide), fld_fr hF (by decide)⟩
theorem CTK2 {B : Nat → Nat} {n k : Nat} {w w' : List (List xE)} (hF : xFr [33, 34] w w') (hs : slt B n (lnP B n k) = 2) (h : RCN B n k (XC w)) (hz : fld w 33 3 = lnC B n 2 k) (r1 : ∀ j, j < 2 * fld w 33 3 → rwv w' 34 j = rwv w 34 j) (r2 : ∀ t, t < 2 → rwv w' 34 (2 * fld w 33 3 + t) = vln B n (lnP B n k) t) : RCN B n (k + 1) (XC w') := by
  refine h.up hs (fun s' m t hm ht => ?_) (fun t ht => ?_) (fun s' h56 hne hc => ?_)
  · unfold XC
    by_cases e0 : s' = 0
    · subst e0
      rw [if_pos rfl, if_pos rfl]
      exact rwv_fr hF (by decide)
    by_cases e1 : s' = 1
    · subst e1
      rw [if_neg (show ¬ 1 = 0 by decide), if_neg (show ¬ 1 = 0 by decide), if_pos rfl, if_pos rfl]
      exact rwv_fr hF (by decide)
    by_cases e2 : s' = 2
    · subst e2
      rw [if_neg (show ¬ 2 = 0 by decide), if_neg (show ¬ 2 = 0 by decide), if_neg (show ¬ 2 = 1 by decide), if_neg (show ¬ 2 = 1 by decide), if_pos rfl, if_pos rfl]
      have ht : t < 2 := ht
      exact r1 _ (by omega)
    by_cases e3 : s' = 3
    · subst e3
      rw [if_neg (show ¬ 3 = 0 by decide), if_neg (show ¬ 3 = 0 by decide), if_neg (show ¬ 3 = 1 by decide), if_neg (show ¬ 3 = 1 by decide), if_neg (show ¬ 3 = 2 by decide), if_neg (show ¬ 3 = 2 by decide), if_pos rfl, if_pos rfl]
      exact rwv_fr hF (by decide)
    by_cases e4 : s' = 4
    · subst e4
      rw [if_neg (show ¬ 4 = 0 by decide), if_neg (show ¬ 4 = 0 by decide), if_neg (show ¬ 4 = 1 by decide), if_neg (show ¬ 4 = 1 by decide), if_neg (show ¬ 4 = 2 by decide), if_neg (show ¬ 4 = 2 by decide), if_neg (show ¬ 4 = 3 by decide), if_neg (show ¬ 4 = 3 by decide), if_pos rfl, if_pos rfl]
      exact rwv_fr hF (by decide)
    by_cases e5 : s' = 5
    · subst e5
      rw [if_neg (show ¬ 5 = 0 by decide), if_neg (show ¬ 5 = 0 by decide), if_neg (show ¬ 5 = 1 by decide), if_neg (show ¬ 5 = 1 by decide), if_neg (show ¬ 5 = 2 by decide), if_neg (show ¬ 5 = 2 by decide), if_neg (show ¬ 5 = 3 by decide), if_neg (show ¬ 5 = 3 by decide), if_neg (show ¬ 5 = 4 by decide), if_neg (show ¬ 5 = 4 by decide), if_pos rfl, if_pos rfl]
      exact fld_fr hF (by decide)
    by_cases e6 : s' = 6
    · subst e6
      rw [if_neg (show ¬ 6 = 0 by decide), if_neg (show ¬ 6 = 0 by decide), if_neg (show ¬ 6 = 1 by decide), if_neg (show ¬ 6 = 1 by decide), if_neg (show ¬ 6 = 2 by decide), if_neg (show ¬ 6 = 2 by decide), if_neg (show ¬ 6 = 3 by decide), if_neg (show ¬ 6 = 3 by decide), if_neg (show ¬ 6 = 4 by decide), if_neg (show ¬ 6 = 4 by decide), if_neg (show ¬ 6 = 5 by decide), if_neg (show ¬ 6 = 5 by decide), if_pos rfl, if_pos rfl]
      exact fld_fr hF (by decide)
    · rw [if_neg e0, if_neg e0, if_neg e1, if_neg e1, if_neg e2, if_neg e2, if_neg e3, if_neg e3, if_neg e4, if_neg e4, if_neg e5, if_neg e5, if_neg e6, if_neg e6]
  · unfold XC
    rw [if_neg (show ¬ 2 = 0 by decide), if_neg (show ¬ 2 = 1 by decide), if_pos rfl]
    rw [← hz]
    exact r2 t ht
  · unfold XC
    rcases h56 with rfl | rfl
    · rw [if_neg (show ¬ 5 = 0 by decide), if_neg (show ¬ 5 = 1 by decide), if_neg (show ¬ 5 = 2 by decide), if_neg (show ¬ 5 = 3 by decide), if_neg (show ¬ 5 = 4 by decide), if_pos rfl, if_neg (show ¬ 5 = 0 by decide), if_neg (show ¬ 5 = 1 by decide), if_neg (show ¬ 5 = 2 by decide), if_neg (show ¬ 5 = 3 by decide), if_neg (show ¬ 5 = 4 by decide), if_pos rfl, if_neg (show ¬ 5 = 0 by decide), if_neg (show ¬ 5 = 1 by decide), if_neg (show ¬ 5 = 2 by decide), if_neg (show ¬ 5 = 3 by decide), if_neg (show ¬ 5 = 4 by decide), if_pos rfl, if_neg (show ¬ 5 = 0 by decide), if_neg (show ¬ 5 = 1 by decide), if_neg (show ¬ 5 = 2 by decide), if_neg (show ¬ 5 = 3 by decide), if_neg (show ¬ 5 = 4 by decide), if_pos rfl]
      exact ⟨fld_fr hF (by decide), fld_fr hF (by decide)⟩
    · rw [if_neg (show ¬ 6 = 0 by decide), if_neg (show ¬ 6 = 1 by decide), if_neg (show ¬ 6 = 2 by decide), if_neg (show ¬ 6 = 3 by decide), if_neg (show ¬ 6 = 4 by decide), if_neg (show ¬ 6 = 5 by decide), if_pos rfl, if_neg (show ¬ 6 = 0 by decide), if_neg (show ¬ 6 = 1 by decide), if_neg (show ¬ 6 = 2 by decide), if_neg (show ¬ 6 = 3 by decide), if_neg (show ¬ 6 = 4 by decide), if_neg (show ¬ 6 = 5 by decide), if_pos rfl, if_neg (show ¬ 6 = 0 by decide), if_neg (show ¬ 6 = 1 by decide), if_neg (show ¬ 6 = 2 by decide), if_neg (show ¬ 6 = 3 by decide), if_neg (show ¬ 6 = 4 by decide), if_neg (show ¬ 6 = 5 by decide), if_pos rfl, if_neg (show ¬ 6 = 0 by decide), if_neg (show ¬ 6 = 1 by decide), if_neg (show ¬ 6 = 2 by decide), if_neg (show ¬ 6 = 3 by decide), if_neg (show ¬ 6 = 4 by decide), if_neg (show ¬ 6 = 5 by decide), if_pos rfl]
      exact ⟨fld_fr hF (by decide), fld_fr hF (by decide)⟩
theorem CTK3 {B : Nat → Nat} {n k : Nat} {w w' : List (List xE)} (hF : xFr [35, 36] w w') (hs : slt B n (lnP B n k) = 3) (h : RCN B n k (XC w)) (hz : fld w 35 3 = lnC B n 3 k) (r1 : ∀ j, j < 3 * fld w 35 3 → rwv w' 36 j = rwv w 36 j) (r2 : ∀ t, t < 3 → rwv w' 36 (3 * fld w 35 3 + t) = vln B n (lnP B n k) t) : RCN B n (k + 1) (XC w') := by
  refine h.up hs (fun s' m t hm ht => ?_) (fun t ht => ?_) (fun s' h56 hne hc => ?_)
  · unfold XC
    by_cases e0 : s' = 0
    · subst e0
      rw [if_pos rfl, if_pos rfl]
      exact rwv_fr hF (by decide)
    by_cases e1 : s' = 1
    · subst e1
      rw [if_neg (show ¬ 1 = 0 by decide), if_neg (show ¬ 1 = 0 by decide), if_pos rfl, if_pos rfl]
      exact rwv_fr hF (by decide)
    by_cases e2 : s' = 2
    · subst e2
      rw [if_neg (show ¬ 2 = 0 by decide), if_neg (show ¬ 2 = 0 by decide), if_neg (show ¬ 2 = 1 by decide), if_neg (show ¬ 2 = 1 by decide), if_pos rfl, if_pos rfl]
      exact rwv_fr hF (by decide)
    by_cases e3 : s' = 3
    · subst e3
      rw [if_neg (show ¬ 3 = 0 by decide), if_neg (show ¬ 3 = 0 by decide), if_neg (show ¬ 3 = 1 by decide), if_neg (show ¬ 3 = 1 by decide), if_neg (show ¬ 3 = 2 by decide), if_neg (show ¬ 3 = 2 by decide), if_pos rfl, if_pos rfl]
      have ht : t < 3 := ht
      exact r1 _ (by omega)
    by_cases e4 : s' = 4
    · subst e4
      rw [if_neg (show ¬ 4 = 0 by decide), if_neg (show ¬ 4 = 0 by decide), if_neg (show ¬ 4 = 1 by decide), if_neg (show ¬ 4 = 1 by decide), if_neg (show ¬ 4 = 2 by decide), if_neg (show ¬ 4 = 2 by decide), if_neg (show ¬ 4 = 3 by decide), if_neg (show ¬ 4 = 3 by decide), if_pos rfl, if_pos rfl]
      exact rwv_fr hF (by decide)
    by_cases e5 : s' = 5
    · subst e5
      rw [if_neg (show ¬ 5 = 0 by decide), if_neg (show ¬ 5 = 0 by decide), if_neg (show ¬ 5 = 1 by decide), if_neg (show ¬ 5 = 1 by decide), if_neg (show ¬ 5 = 2 by decide), if_neg (show ¬ 5 = 2 by decide), if_neg (show ¬ 5 = 3 by decide), if_neg (show ¬ 5 = 3 by decide), if_neg (show ¬ 5 = 4 by decide), if_neg (show ¬ 5 = 4 by decide), if_pos rfl, if_pos rfl]
      exact fld_fr hF (by decide)
    by_cases e6 : s' = 6
    · subst e6
      rw [if_neg (show ¬ 6 = 0 by decide), if_neg (show ¬ 6 = 0 by decide), if_neg (show ¬ 6 = 1 by decide), if_neg (show ¬ 6 = 1 by decide), if_neg (show ¬ 6 = 2 by decide), if_neg (show ¬ 6 = 2 by decide), if_neg (show ¬ 6 = 3 by decide), if_neg (show ¬ 6 = 3 by decide), if_neg (show ¬ 6 = 4 by decide), if_neg (show ¬ 6 = 4 by decide), if_neg (show ¬ 6 = 5 by decide), if_neg (show ¬ 6 = 5 by decide), if_pos rfl, if_pos rfl]
      exact fld_fr hF (by decide)
    · rw [if_neg e0, if_neg e0, if_neg e1, if_neg e1, if_neg e2, if_neg e2, if_neg e3, if_neg e3, if_neg e4, if_neg e4, if_neg e5, if_neg e5, if_neg e6, if_neg e6]
  · unfold XC
    rw [if_neg (show ¬ 3 = 0 by decide), if_neg (show ¬ 3 = 1 by decide), if_neg (show ¬ 3 = 2 by decide), if_pos rfl]
    rw [← hz]
    exact r2 t ht
  · unfold XC
    rcases h56 with rfl | rfl
    · rw [if_neg (show ¬ 5 = 0 by decide), if_neg (show ¬ 5 = 1 by decide), if_neg (show ¬ 5 = 2 by decide), if_neg (show ¬ 5 = 3 by decide), if_neg (show ¬ 5 = 4 by decide), if_pos rfl, if_neg (show ¬ 5 = 0 by decide), if_neg (show ¬ 5 = 1 by decide), if_neg (show ¬ 5 = 2 by decide), if_neg (show ¬ 5 = 3 by decide), if_neg (show ¬ 5 = 4 by decide), if_pos rfl, if_neg (show ¬ 5 = 0 by decide), if_neg (show ¬ 5 = 1 by decide), if_neg (show ¬ 5 = 2 by decide), if_neg (show ¬ 5 = 3 by decide), if_neg (show ¬ 5 = 4 by decide), if_pos rfl, if_neg (show ¬ 5 = 0 by decide), if_neg (show ¬ 5 = 1 by decide), if_neg (show ¬ 5 = 2 by decide), if_neg (show ¬ 5 = 3 by decide), if_neg (show ¬ 5 = 4 by decide), if_pos rfl]
      exact ⟨fld_fr hF (by decide), fld_fr hF (by decide)⟩
    · rw [if_neg (show ¬ 6 = 0 by decide), if_neg (show ¬ 6 = 1 by decide), if_neg (show ¬ 6 = 2 by decide), if_neg (show ¬ 6 = 3 by decide), if_neg (show ¬ 6 = 4 by decide), if_neg (show ¬ 6 = 5 by decide), if_pos rfl, if_neg (show ¬ 6 = 0 by decide), if_neg (show ¬ 6 = 1 by decide), if_neg (show ¬ 6 = 2 by decide), if_neg (show ¬ 6 = 3 by decide), if_neg (show ¬ 6 = 4 by decide), if_neg (show ¬ 6 = 5 by decide), if_pos rfl, if_neg (show ¬ 6 = 0 by decide), if_neg (show ¬ 6 = 1 by decide), if_neg (show ¬ 6 = 2 by decide), if_neg (show ¬ 6 = 3 by decide), if_neg (show ¬ 6 = 4 by decide), if_neg (show ¬ 6 = 5 by decide), if_pos rfl, if_neg (show ¬ 6 = 0 by decide), if_neg (show ¬ 6 = 1 by decide), if_neg (show ¬ 6 = 2 by decide), if_neg (show ¬ 6 = 3 by decide), if_neg (show ¬ 6 = 4 by decide), if_neg (show ¬ 6 = 5 by decide), if_pos rfl]
      exact ⟨fld_fr hF (by decide), fld_fr hF (by decide)⟩
theorem CTK4 {B : Nat → Nat} {n k : Nat} {w w' : List (List xE)} (hF : xFr [37, 38, 41] w w') (hs : slt B n (lnP B n k) = 4) (h : RCN B n k (XC w)) (hz : fld w 37 3 = lnC B n 4 k) (r1 : ∀ j, j < 2 * fld w 37 3 → rwv w' 38 j = rwv w 38 j) (r2 : ∀ t, t < 2 → rwv w' 38 (2 * fld w 37 3 + t) = vln B n (lnP B n k) t) : RCN B n (k + 1) (XC w') := by
  refine h.up hs (fun s' m t hm ht => ?_) (fun t ht => ?_) (fun s' h56 hne hc => ?_)
  · unfold XC
    by_cases e0 : s' = 0
    · subst e0
      rw [if_pos rfl, if_pos rfl]
      exact rwv_fr hF (by decide)
    by_cases e1 : s' = 1
    · subst e1
      rw [if_neg (show ¬ 1 = 0 by decide), if_neg (show ¬ 1 = 0 by decide), if_pos rfl, if_pos rfl]
      exact rwv_fr hF (by decide)
    by_cases e2 : s' = 2
    · subst e2
      rw [if_neg (show ¬ 2 = 0 by decide), if_neg (show ¬ 2 = 0 by decide), if_neg (show ¬ 2 = 1 by decide), if_neg (show ¬ 2 = 1 by decide), if_pos rfl, if_pos rfl]
      exact rwv_fr hF (by decide)
    by_cases e3 : s' = 3
    · subst e3
      rw [if_neg (show ¬ 3 = 0 by decide), if_neg (show ¬ 3 = 0 by decide), if_neg (show ¬ 3 = 1 by decide), if_neg (show ¬ 3 = 1 by decide), if_neg (show ¬ 3 = 2 by decide), if_neg (show ¬ 3 = 2 by decide), if_pos rfl, if_pos rfl]
      exact rwv_fr hF (by decide)
    by_cases e4 : s' = 4
    · subst e4
      rw [if_neg (show ¬ 4 = 0 by decide), if_neg (show ¬ 4 = 0 by decide), if_neg (show ¬ 4 = 1 by decide), if_neg (show ¬ 4 = 1 by decide), if_neg (show ¬ 4 = 2 by decide), if_neg (show ¬ 4 = 2 by decide), if_neg (show ¬ 4 = 3 by decide), if_neg (show ¬ 4 = 3 by decide), if_pos rfl, if_pos rfl]
      have ht : t < 2 := ht
      exact r1 _ (by omega)
    by_cases e5 : s' = 5
    · subst e5
      rw [if_neg (show ¬ 5 = 0 by decide), if_neg (show ¬ 5 = 0 by decide), if_neg (show ¬ 5 = 1 by decide), if_neg (show ¬ 5 = 1 by decide), if_neg (show ¬ 5 = 2 by decide), if_neg (show ¬ 5 = 2 by decide), if_neg (show ¬ 5 = 3 by decide), if_neg (show ¬ 5 = 3 by decide), if_neg (show ¬ 5 = 4 by decide), if_neg (show ¬ 5 = 4 by decide), if_pos rfl, if_pos rfl]
      exact fld_fr hF (by decide)
    by_cases e6 : s' = 6
    · subst e6
      rw [if_neg (show ¬ 6 = 0 by decide), if_neg (show ¬ 6 = 0 by decide), if_neg (show ¬ 6 = 1 by decide), if_neg (show ¬ 6 = 1 by decide), if_neg (show ¬ 6 = 2 by decide), if_neg (show ¬ 6 = 2 by decide), if_neg (show ¬ 6 = 3 by decide), if_neg (show ¬ 6 = 3 by decide), if_neg (show ¬ 6 = 4 by decide), if_neg (show ¬ 6 = 4 by decide), if_neg (show ¬ 6 = 5 by decide), if_neg (show ¬ 6 = 5 by decide), if_pos rfl, if_pos rfl]
      exact fld_fr hF (by decide)
    · rw [if_neg e0, if_neg e0, if_neg e1, if_neg e1, if_neg e2, if_neg e2, if_neg e3, if_neg e3, if_neg e4, if_neg e4, if_neg e5, if_neg e5, if_neg e6, if_neg e6]
  · unfold XC
    rw [if_neg (show ¬ 4 = 0 by decide), if_neg (show ¬ 4 = 1 by decide), if_neg (show ¬ 4 = 2 by decide), if_neg (show ¬ 4 = 3 by decide), if_pos rfl]
    rw [← hz]
    exact r2 t ht
  · unfold XC
    rcases h56 with rfl | rfl
    · rw [if_neg (show ¬ 5 = 0 by decide), if_neg (show ¬ 5 = 1 by decide), if_neg (show ¬ 5 = 2 by decide), if_neg (show ¬ 5 = 3 by decide), if_neg (show ¬ 5 = 4 by decide), if_pos rfl, if_neg (show ¬ 5 = 0 by decide), if_neg (show ¬ 5 = 1 by decide), if_neg (show ¬ 5 = 2 by decide), if_neg (show ¬ 5 = 3 by decide), if_neg (show ¬ 5 = 4 by decide), if_pos rfl, if_neg (show ¬ 5 = 0 by decide), if_neg (show ¬ 5 = 1 by decide), if_neg (show ¬ 5 = 2 by decide), if_neg (show ¬ 5 = 3 by decide), if_neg (show ¬ 5 = 4 by decide), if_pos rfl, if_neg (show ¬ 5 = 0 by decide), if_neg (show ¬ 5 = 1 by decide), if_neg (show ¬ 5 = 2 by decide), if_neg (show ¬ 5 = 3 by decide), if_neg (show ¬ 5 = 4 by decide), if_pos rfl]
      exact ⟨fld_fr hF (by decide), fld_fr hF (by decide)⟩
    · rw [if_neg (show ¬ 6 = 0 by decide), if_neg (show ¬ 6 = 1 by decide), if_neg (show ¬ 6 = 2 by decide), if_neg (show ¬ 6 = 3 by decide), if_neg (show ¬ 6 = 4 by decide), if_neg (show ¬ 6 = 5 by decide), if_pos rfl, if_neg (show ¬ 6 = 0 by decide), if_neg (show ¬ 6 = 1 by decide), if_neg (show ¬ 6 = 2 by decide), if_neg (show ¬ 6 = 3 by decide), if_neg (show ¬ 6 = 4 by decide), if_neg (show ¬ 6 = 5 by decide), if_pos rfl, if_neg (show ¬ 6 = 0 by decide), if_neg (show ¬ 6 = 1 by decide), if_neg (show ¬ 6 = 2 by decide), if_neg (show ¬ 6 = 3 by decide), if_neg (show ¬ 6 = 4 by decide), if_neg (show ¬ 6 = 5 by decide), if_pos rfl, if_neg (show ¬ 6 = 0 by decide), if_neg (show ¬ 6 = 1 by decide), if_neg (show ¬ 6 = 2 by decide), if_neg (show ¬ 6 = 3 by decide), if_neg (show ¬ 6 = 4 by decide), if_neg (show ¬ 6 = 5 by decide), if_pos rfl]
      exact ⟨fld_fr hF (by decide), fld_fr hF (by decide)⟩
theorem CTK5 {B : Nat → Nat} {n k : Nat} {w w' : List (List xE)} (hF : xFr [27, 28] w w') (hs : slt B n (lnP B n k) = 5) (h : RCN B n k (XC w)) (hz : lnC B n 5 k = 0) (r1 : ∀ t, t < 2 → fld w' 28 (7 + t) = fld w 28 (7 + t)) (r2 : ∀ t, t < 2 → fld w' 28 (5 + t) = vln B n (lnP B n k) t) : RCN B n (k + 1) (XC w') := by
  refine h.up hs (fun s' m t hm ht => ?_) (fun t ht => ?_) (fun s' h56 hne hc => ?_)
  · unfold XC
    by_cases e0 : s' = 0
    · subst e0
      rw [if_pos rfl, if_pos rfl]
      exact rwv_fr hF (by decide)
    by_cases e1 : s' = 1
    · subst e1
      rw [if_neg (show ¬ 1 = 0 by decide), if_neg (show ¬ 1 = 0 by decide), if_pos rfl, if_pos rfl]
      exact rwv_fr hF (by decide)
    by_cases e2 : s' = 2
    · subst e2
      rw [if_neg (show ¬ 2 = 0 by decide), if_neg (show ¬ 2 = 0 by decide), if_neg (show ¬ 2 = 1 by decide), if_neg (show ¬ 2 = 1 by decide), if_pos rfl, if_pos rfl]
      exact rwv_fr hF (by decide)
    by_cases e3 : s' = 3
    · subst e3
      rw [if_neg (show ¬ 3 = 0 by decide), if_neg (show ¬ 3 = 0 by decide), if_neg (show ¬ 3 = 1 by decide), if_neg (show ¬ 3 = 1 by decide), if_neg (show ¬ 3 = 2 by decide), if_neg (show ¬ 3 = 2 by decide), if_pos rfl, if_pos rfl]
      exact rwv_fr hF (by decide)
    by_cases e4 : s' = 4
    · subst e4
      rw [if_neg (show ¬ 4 = 0 by decide), if_neg (show ¬ 4 = 0 by decide), if_neg (show ¬ 4 = 1 by decide), if_neg (show ¬ 4 = 1 by decide), if_neg (show ¬ 4 = 2 by decide), if_neg (show ¬ 4 = 2 by decide), if_neg (show ¬ 4 = 3 by decide), if_neg (show ¬ 4 = 3 by decide), if_pos rfl, if_pos rfl]
      exact rwv_fr hF (by decide)
    by_cases e5 : s' = 5
    · subst e5
      rw [if_neg (show ¬ 5 = 0 by decide), if_neg (show ¬ 5 = 0 by decide), if_neg (show ¬ 5 = 1 by decide), if_neg (show ¬ 5 = 1 by decide), if_neg (show ¬ 5 = 2 by decide), if_neg (show ¬ 5 = 2 by decide), if_neg (show ¬ 5 = 3 by decide), if_neg (show ¬ 5 = 3 by decide), if_neg (show ¬ 5 = 4 by decide), if_neg (show ¬ 5 = 4 by decide), if_pos rfl, if_pos rfl]
      omega
    by_cases e6 : s' = 6
    · subst e6
      rw [if_neg (show ¬ 6 = 0 by decide), if_neg (show ¬ 6 = 0 by decide), if_neg (show ¬ 6 = 1 by decide), if_neg (show ¬ 6 = 1 by decide), if_neg (show ¬ 6 = 2 by decide), if_neg (show ¬ 6 = 2 by decide), if_neg (show ¬ 6 = 3 by decide), if_neg (show ¬ 6 = 3 by decide), if_neg (show ¬ 6 = 4 by decide), if_neg (show ¬ 6 = 4 by decide), if_neg (show ¬ 6 = 5 by decide), if_neg (show ¬ 6 = 5 by decide), if_pos rfl, if_pos rfl]
      exact r1 t ht
    · rw [if_neg e0, if_neg e0, if_neg e1, if_neg e1, if_neg e2, if_neg e2, if_neg e3, if_neg e3, if_neg e4, if_neg e4, if_neg e5, if_neg e5, if_neg e6, if_neg e6]
  · unfold XC
    rw [if_neg (show ¬ 5 = 0 by decide), if_neg (show ¬ 5 = 1 by decide), if_neg (show ¬ 5 = 2 by decide), if_neg (show ¬ 5 = 3 by decide), if_neg (show ¬ 5 = 4 by decide), if_pos rfl]
    exact r2 t ht
  · unfold XC
    rcases h56 with rfl | rfl
    · exact absurd rfl hne
    · rw [if_neg (show ¬ 6 = 0 by decide), if_neg (show ¬ 6 = 1 by decide), if_neg (show ¬ 6 = 2 by decide), if_neg (show ¬ 6 = 3 by decide), if_neg (show ¬ 6 = 4 by decide), if_neg (show ¬ 6 = 5 by decide), if_pos rfl, if_neg (show ¬ 6 = 0 by decide), if_neg (show ¬ 6 = 1 by decide), if_neg (show ¬ 6 = 2 by decide), if_neg (show ¬ 6 = 3 by decide), if_neg (show ¬ 6 = 4 by decide), if_neg (show ¬ 6 = 5 by decide), if_pos rfl, if_neg (show ¬ 6 = 0 by decide), if_neg (show ¬ 6 = 1 by decide), if_neg (show ¬ 6 = 2 by decide), if_neg (show ¬ 6 = 3 by decide), if_neg (show ¬ 6 = 4 by decide), if_neg (show ¬ 6 = 5 by decide), if_pos rfl, if_neg (show ¬ 6 = 0 by decide), if_neg (show ¬ 6 = 1 by decide), if_neg (show ¬ 6 = 2 by decide), if_neg (show ¬ 6 = 3 by decide), if_neg (show ¬ 6 = 4 by decide), if_neg (show ¬ 6 = 5 by decide), if_pos rfl]
      exact ⟨r1 0 (by decide), r1 1 (by decide)⟩
theorem CTK6 {B : Nat → Nat} {n k : Nat} {w w' : List (List xE)} (hF : xFr [27, 28] w w') (hs : slt B n (lnP B n k) = 6) (h : RCN B n k (XC w)) (hz : lnC B n 6 k = 0) (r1 : ∀ t, t < 2 → fld w' 28 (5 + t) = fld w 28 (5 + t)) (r2 : ∀ t, t < 2 → fld w' 28 (7 + t) = vln B n (lnP B n k) t) : RCN B n (k + 1) (XC w') := by
  refine h.up hs (fun s' m t hm ht => ?_) (fun t ht => ?_) (fun s' h56 hne hc => ?_)
  · unfold XC
    by_cases e0 : s' = 0
    · subst e0
      rw [if_pos rfl, if_pos rfl]
      exact rwv_fr hF (by decide)
    by_cases e1 : s' = 1
    · subst e1
      rw [if_neg (show ¬ 1 = 0 by decide), if_neg (show ¬ 1 = 0 by decide), if_pos rfl, if_pos rfl]
      exact rwv_fr hF (by decide)
    by_cases e2 : s' = 2
    · subst e2
      rw [if_neg (show ¬ 2 = 0 by decide), if_neg (show ¬ 2 = 0 by decide), if_neg (show ¬ 2 = 1 by decide), if_neg (show ¬ 2 = 1 by decide), if_pos rfl, if_pos rfl]
      exact rwv_fr hF (by decide)
    by_cases e3 : s' = 3
    · subst e3
      rw [if_neg (show ¬ 3 = 0 by decide), if_neg (show ¬ 3 = 0 by decide), if_neg (show ¬ 3 = 1 by decide), if_neg (show ¬ 3 = 1 by decide), if_neg (show ¬ 3 = 2 by decide), if_neg (show ¬ 3 = 2 by decide), if_pos rfl, if_pos rfl]
      exact rwv_fr hF (by decide)
    by_cases e4 : s' = 4
    · subst e4
      rw [if_neg (show ¬ 4 = 0 by decide), if_neg (show ¬ 4 = 0 by decide), if_neg (show ¬ 4 = 1 by decide), if_neg (show ¬ 4 = 1 by decide), if_neg (show ¬ 4 = 2 by decide), if_neg (show ¬ 4 = 2 by decide), if_neg (show ¬ 4 = 3 by decide), if_neg (show ¬ 4 = 3 by decide), if_pos rfl, if_pos rfl]
      exact rwv_fr hF (by decide)
    by_cases e5 : s' = 5
    · subst e5
      rw [if_neg (show ¬ 5 = 0 by decide), if_neg (show ¬ 5 = 0 by decide), if_neg (show ¬ 5 = 1 by decide), if_neg (show ¬ 5 = 1 by decide), if_neg (show ¬ 5 = 2 by decide), if_neg (show ¬ 5 = 2 by decide), if_neg (show ¬ 5 = 3 by decide), if_neg (show ¬ 5 = 3 by decide), if_neg (show ¬ 5 = 4 by decide), if_neg (show ¬ 5 = 4 by decide), if_pos rfl, if_pos rfl]
      exact r1 t ht
    by_cases e6 : s' = 6
    · subst e6
      rw [if_neg (show ¬ 6 = 0 by decide), if_neg (show ¬ 6 = 0 by decide), if_neg (show ¬ 6 = 1 by decide), if_neg (show ¬ 6 = 1 by decide), if_neg (show ¬ 6 = 2 by decide), if_neg (show ¬ 6 = 2 by decide), if_neg (show ¬ 6 = 3 by decide), if_neg (show ¬ 6 = 3 by decide), if_neg (show ¬ 6 = 4 by decide), if_neg (show ¬ 6 = 4 by decide), if_neg (show ¬ 6 = 5 by decide), if_neg (show ¬ 6 = 5 by decide), if_pos rfl, if_pos rfl]
      omega
    · rw [if_neg e0, if_neg e0, if_neg e1, if_neg e1, if_neg e2, if_neg e2, if_neg e3, if_neg e3, if_neg e4, if_neg e4, if_neg e5, if_neg e5, if_neg e6, if_neg e6]
  · unfold XC
    rw [if_neg (show ¬ 6 = 0 by decide), if_neg (show ¬ 6 = 1 by decide), if_neg (show ¬ 6 = 2 by decide), if_neg (show ¬ 6 = 3 by decide), if_neg (show ¬ 6 = 4 by decide), if_neg (show ¬ 6 = 5 by decide), if_pos rfl]
    exact r2 t ht
  · unfold XC
    rcases h56 with rfl | rfl
    · rw [if_neg (show ¬ 5 = 0 by decide), if_neg (show ¬ 5 = 1 by decide), if_neg (show ¬ 5 = 2 by decide), if_neg (show ¬ 5 = 3 by decide), if_neg (show ¬ 5 = 4 by decide), if_pos rfl, if_neg (show ¬ 5 = 0 by decide), if_neg (show ¬ 5 = 1 by decide), if_neg (show ¬ 5 = 2 by decide), if_neg (show ¬ 5 = 3 by decide), if_neg (show ¬ 5 = 4 by decide), if_pos rfl, if_neg (show ¬ 5 = 0 by decide), if_neg (show ¬ 5 = 1 by decide), if_neg (show ¬ 5 = 2 by decide), if_neg (show ¬ 5 = 3 by decide), if_neg (show ¬ 5 = 4 by decide), if_pos rfl, if_neg (show ¬ 5 = 0 by decide), if_neg (show ¬ 5 = 1 by decide), if_neg (show ¬ 5 = 2 by decide), if_neg (show ¬ 5 = 3 by decide), if_neg (show ¬ 5 = 4 by decide), if_pos rfl]
      exact ⟨r1 0 (by decide), r1 1 (by decide)⟩
    · exact absurd rfl hne
section XFCA
variable {d : Nat} {w : List (List xE)} {bd : List (Nat × Nat)} {fc : List (Nat × Nat × Bool)} {rr : Nat × Nat}
theorem tkLetX {by_ : Nat} (hI : xInv w) (h1 : by_ ≤ 4294967295) : xPi d mX8_isLetter [(0, by_)] w bd fc rr (fun n w' => ((n = 1 ∧ (97 ≤ by_ ∧ by_ ≤ 122)) ∨ (n = 0 ∧ ¬ (97 ≤ by_ ∧ by_ ≤ 122))) ∧ xInv w' ∧ xFr [] w w') := by
  refine xPi.of ?_
  show xTo d mX8_isLetter (0, [], [(0, (0, by_))], [], (w, bd, fc, 0, 0, rr)) (fun φ => ∃ n w', xEnd 4 [(0, n)] (w', bd, fc, 0, 0, rr) φ ∧ ((n = 1 ∧ (97 ≤ by_ ∧ by_ ≤ 122)) ∨ (n = 0 ∧ ¬ (97 ≤ by_ ∧ by_ ≤ 122))) ∧ xInv w' ∧ xFr [] w w')
  refine xg_t (xg_blq rfl) ?_
  refine xg_t (xg_iload (va := (0, by_)) rfl rfl) ?_
  refine xg_t (xg_bip) ?_
  by_cases hc1 : xbs by_ < xbs 97
  · have hc1u := hc1
    unfold xbs at hc1u
    refine xg_t (xg_icT (u := by_) (v := 97) rfl xnm0 xnm0 (xjs_ltT hc1)) ?_
    refine xg_t (xg_blq rfl) ?_
    refine xg_t (xg_const) ?_
    refine xg_t (xg_blq rfl) ?_
    exact xg_e ⟨0, w, ⟨rfl, rfl⟩, by first | decide | omega, hI, xFr.rf⟩
  · have hc1u := hc1
    unfold xbs at hc1u
    have hn2 : by_ ≤ 2147483647 := by omega
    refine xg_t (xg_icF (u := by_) (v := 97) rfl xnm0 xnm0 (xjs_ltF hc1)) ?_
    refine xg_t (xg_iload (va := (0, by_)) rfl rfl) ?_
    refine xg_t (xg_bip) ?_
    by_cases hc3 : 122 < by_
    · refine xg_t (xg_icT (u := by_) (v := 122) rfl xnm0 xnm0 (xj_gtT hc3 (by omega))) ?_
      refine xg_t (xg_blq rfl) ?_
      refine xg_t (xg_const) ?_
      refine xg_t (xg_blq rfl) ?_
      exact xg_e ⟨0, w, ⟨rfl, rfl⟩, by first | decide | omega, hI, xFr.rf⟩
    · refine xg_t (xg_icF (u := by_) (v := 122) rfl xnm0 xnm0 (xj_gtF (by omega) (by omega))) ?_
      refine xg_t (xg_const) ?_
      refine xg_t (xg_goto) ?_
      refine xg_t (xg_blq rfl) ?_
      exact xg_e ⟨1, w, ⟨rfl, rfl⟩, by first | decide | omega, hI, xFr.rf⟩
theorem tkDigX {by_ : Nat} (hI : xInv w) (h1 : by_ ≤ 4294967295) : xPi d mX8_isDigit [(0, by_)] w bd fc rr (fun n w' => ((n = 1 ∧ (48 ≤ by_ ∧ by_ ≤ 57)) ∨ (n = 0 ∧ ¬ (48 ≤ by_ ∧ by_ ≤ 57))) ∧ xInv w' ∧ xFr [] w w') := by
  refine xPi.of ?_
  show xTo d mX8_isDigit (0, [], [(0, (0, by_))], [], (w, bd, fc, 0, 0, rr)) (fun φ => ∃ n w', xEnd 4 [(0, n)] (w', bd, fc, 0, 0, rr) φ ∧ ((n = 1 ∧ (48 ≤ by_ ∧ by_ ≤ 57)) ∨ (n = 0 ∧ ¬ (48 ≤ by_ ∧ by_ ≤ 57))) ∧ xInv w' ∧ xFr [] w w')
  refine xg_t (xg_blq rfl) ?_
  refine xg_t (xg_iload (va := (0, by_)) rfl rfl) ?_
  refine xg_t (xg_bip) ?_
  by_cases hc1 : xbs by_ < xbs 48
  · have hc1u := hc1
    unfold xbs at hc1u
    refine xg_t (xg_icT (u := by_) (v := 48) rfl xnm0 xnm0 (xjs_ltT hc1)) ?_
    refine xg_t (xg_blq rfl) ?_
    refine xg_t (xg_const) ?_
    refine xg_t (xg_blq rfl) ?_
    exact xg_e ⟨0, w, ⟨rfl, rfl⟩, by first | decide | omega, hI, xFr.rf⟩
  · have hc1u := hc1
    unfold xbs at hc1u
    have hn2 : by_ ≤ 2147483647 := by omega
    refine xg_t (xg_icF (u := by_) (v := 48) rfl xnm0 xnm0 (xjs_ltF hc1)) ?_
    refine xg_t (xg_iload (va := (0, by_)) rfl rfl) ?_
    refine xg_t (xg_bip) ?_
    by_cases hc3 : 57 < by_
    · refine xg_t (xg_icT (u := by_) (v := 57) rfl xnm0 xnm0 (xj_gtT hc3 (by omega))) ?_
      refine xg_t (xg_blq rfl) ?_
      refine xg_t (xg_const) ?_
      refine xg_t (xg_blq rfl) ?_
      exact xg_e ⟨0, w, ⟨rfl, rfl⟩, by first | decide | omega, hI, xFr.rf⟩
    · refine xg_t (xg_icF (u := by_) (v := 57) rfl xnm0 xnm0 (xj_gtF (by omega) (by omega))) ?_
      refine xg_t (xg_const) ?_
      refine xg_t (xg_goto) ?_
      refine xg_t (xg_blq rfl) ?_
      exact xg_e ⟨1, w, ⟨rfl, rfl⟩, by first | decide | omega, hI, xFr.rf⟩
theorem tkSgnX {by_ : Nat} (hI : xInv w) (h1 : by_ ≤ 4294967295) : xPi d mX8_isSignByte [(0, by_)] w bd fc rr (fun n w' => ((n = 1 ∧ (by_ = 59 ∨ by_ = 58 ∨ by_ = 60 ∨ by_ = 62 ∨ by_ = 61)) ∨ (n = 0 ∧ ¬ (by_ = 59 ∨ by_ = 58 ∨ by_ = 60 ∨ by_ = 62 ∨ by_ = 61))) ∧ xInv w' ∧ xFr [] w w') := by
  refine xPi.of ?_
  show xTo d mX8_isSignByte (0, [], [(0, (0, by_))], [], (w, bd, fc, 0, 0, rr)) (fun φ => ∃ n w', xEnd 4 [(0, n)] (w', bd, fc, 0, 0, rr) φ ∧ ((n = 1 ∧ (by_ = 59 ∨ by_ = 58 ∨ by_ = 60 ∨ by_ = 62 ∨ by_ = 61)) ∨ (n = 0 ∧ ¬ (by_ = 59 ∨ by_ = 58 ∨ by_ = 60 ∨ by_ = 62 ∨ by_ = 61))) ∧ xInv w' ∧ xFr [] w w')
  refine xg_t (xg_blq rfl) ?_
  refine xg_t (xg_iload (va := (0, by_)) rfl rfl) ?_
  refine xg_t (xg_bip) ?_
  by_cases hc1 : by_ = 59
  · refine xg_t (xg_icT (u := by_) (v := 59) rfl xnm0 xnm0 (xj_eqT hc1)) ?_
    refine xg_t (xg_blq rfl) ?_
    refine xg_t (xg_const) ?_
    refine xg_t (xg_goto) ?_
    refine xg_t (xg_blq rfl) ?_
    exact xg_e ⟨1, w, ⟨rfl, rfl⟩, by first | decide | omega, hI, xFr.rf⟩
  · refine xg_t (xg_icF (u := by_) (v := 59) rfl xnm0 xnm0 (xj_eqF hc1)) ?_
    refine xg_t (xg_iload (va := (0, by_)) rfl rfl) ?_
    refine xg_t (xg_bip) ?_
    by_cases hc2 : by_ = 58
    · refine xg_t (xg_icT (u := by_) (v := 58) rfl xnm0 xnm0 (xj_eqT hc2)) ?_
      refine xg_t (xg_blq rfl) ?_
      refine xg_t (xg_const) ?_
      refine xg_t (xg_goto) ?_
      refine xg_t (xg_blq rfl) ?_
      exact xg_e ⟨1, w, ⟨rfl, rfl⟩, by first | decide | omega, hI, xFr.rf⟩
    · refine xg_t (xg_icF (u := by_) (v := 58) rfl xnm0 xnm0 (xj_eqF hc2)) ?_
      refine xg_t (xg_iload (va := (0, by_)) rfl rfl) ?_
      refine xg_t (xg_bip) ?_
      by_cases hc3 : by_ = 60
      · refine xg_t (xg_icT (u := by_) (v := 60) rfl xnm0 xnm0 (xj_eqT hc3)) ?_
        refine xg_t (xg_blq rfl) ?_
        refine xg_t (xg_const) ?_
        refine xg_t (xg_goto) ?_
        refine xg_t (xg_blq rfl) ?_
        exact xg_e ⟨1, w, ⟨rfl, rfl⟩, by first | decide | omega, hI, xFr.rf⟩
      · refine xg_t (xg_icF (u := by_) (v := 60) rfl xnm0 xnm0 (xj_eqF hc3)) ?_
        refine xg_t (xg_iload (va := (0, by_)) rfl rfl) ?_
        refine xg_t (xg_bip) ?_
        by_cases hc4 : by_ = 62
        · refine xg_t (xg_icT (u := by_) (v := 62) rfl xnm0 xnm0 (xj_eqT hc4)) ?_
          refine xg_t (xg_blq rfl) ?_
          refine xg_t (xg_const) ?_
          refine xg_t (xg_goto) ?_
          refine xg_t (xg_blq rfl) ?_
          exact xg_e ⟨1, w, ⟨rfl, rfl⟩, by first | decide | omega, hI, xFr.rf⟩
        · refine xg_t (xg_icF (u := by_) (v := 62) rfl xnm0 xnm0 (xj_eqF hc4)) ?_
          refine xg_t (xg_iload (va := (0, by_)) rfl rfl) ?_
          refine xg_t (xg_bip) ?_
          by_cases hc5 : by_ = 61
          · refine xg_t (xg_icF (u := by_) (v := 61) rfl xnm0 xnm0 (xj_neF hc5)) ?_
            refine xg_t (xg_blq rfl) ?_
            refine xg_t (xg_const) ?_
            refine xg_t (xg_goto) ?_
            refine xg_t (xg_blq rfl) ?_
            exact xg_e ⟨1, w, ⟨rfl, rfl⟩, by first | decide | omega, hI, xFr.rf⟩
          · refine xg_t (xg_icT (u := by_) (v := 61) rfl xnm0 xnm0 (xj_neT hc5)) ?_
            refine xg_t (xg_blq rfl) ?_
            refine xg_t (xg_const) ?_
            refine xg_t (xg_blq rfl) ?_
            exact xg_e ⟨0, w, ⟨rfl, rfl⟩, by first | decide | omega, hI, xFr.rf⟩
theorem tkDgtX42 {le0 kd0 pl0 af0 nu0 : Nat} {B : Nat → Nat} {nn : Nat} (hI : xInv w) (hc0 : wget w 42 = some (.inl (8, [(2, 2), (0, le0), (0, kd0), (0, pl0), (0, af0), (0, nu0)]))) (hl0 : le0 ≤ 500) (hk0 : kd0 ≤ 4294967295) (hp0 : pl0 < nn) (ha0 : af0 = pl0) (hn0 : nu0 ≤ 4294967295) (hB : bsr w B nn) (hln : le0 = nn) : xPq (d + 1) mX8_takeDigits [(2, 42)] w bd fc rr [] (fun w' => xInv w' ∧ xFr [42] w w' ∧ (fld w' 42 1 = nn ∧ fld w' 42 3 = pl0 ∧ fld w' 42 4 = prn cD B nn pl0 ∧ fld w' 42 2 = (if 4 < prn cD B nn pl0 - pl0 then 4 else 2) ∧ fld w' 42 5 = dgv B pl0 (min 4 (prn cD B nn pl0 - pl0)))) := by
  refine xPq.of ?_
  show xTo (d + 1) mX8_takeDigits (0, [], [(0, (2, 42))], [], (w, bd, fc, 0, 0, rr)) (fun φ => ∃ w', xEnd 0 [] (w', bd, fc, 0, 0, rr) φ ∧ xInv w' ∧ xFr [42] w w' ∧ (fld w' 42 1 = nn ∧ fld w' 42 3 = pl0 ∧ fld w' 42 4 = prn cD B nn pl0 ∧ fld w' 42 2 = (if 4 < prn cD B nn pl0 - pl0 then 4 else 2) ∧ fld w' 42 5 = dgv B pl0 (min 4 (prn cD B nn pl0 - pl0))))
  obtain ⟨g2_1, h2_2, hb3⟩ := (xqc2 hI : cpY 500 0 (wget w 2))
  have h2_2 : xRk 1 0 w 2 500 0 g2_1 := h2_2
  have hBn := hB.1
  have hBg : ∀ j, j < nn → g2_1 j % 256 = B j := fun j h => by
    have q := hB.2 j h
    rw [rwk_of h2_2 (by omega)] at q
    exact q
  refine xg_t (xg_blq rfl) ?_
  refine xg_t (xg_aload (va := (2, 42)) rfl rfl) ?_
  refine xg_t (xg_const) ?_
  refine xg_putI (fl1 := [(2, 2), (0, le0), (0, kd0), (0, pl0), (0, af0), (0, 0)]) hc0 rfl rfl rfl (fun w4 hk5 hb6 => ?_)
  have key7 : ∀ (m9 : Nat) (le1 kd1 pl1 af1 nu1 : Nat) (w10 : List (List xE)), 500 - af1 < m9 → le1 ≤ 500 → kd1 ≤ 4294967295 → pl1 ≤ 500 → af1 ≤ 500 → nu1 ≤ 4294967295 → wget w10 42 = some (.inl (8, [(2, 2), (0, le1), (0, kd1), (0, pl1), (0, af1), (0, nu1)])) → (kd1 = 0 ∨ pl1 ≤ 499) → xInv w10 → xFr [42] w w10 → (le1 = nn ∧ pl1 = pl0 ∧ pl0 ≤ af1 ∧ af1 ≤ nn ∧ prn cD B nn af1 = prn cD B nn pl0 ∧ nu1 = dgv B pl0 (min 4 (af1 - pl0))) → xTo (d + 1) mX8_takeDigits (5, [], [(0, (2, 42))], [], (w10, bd, fc, 0, 0, rr)) (fun φ => ∃ w', xEnd 0 [] (w', bd, fc, 0, 0, rr) φ ∧ xInv w' ∧ xFr [42] w w' ∧ (fld w' 42 1 = nn ∧ fld w' 42 3 = pl0 ∧ fld w' 42 4 = prn cD B nn pl0 ∧ fld w' 42 2 = (if 4 < prn cD B nn pl0 - pl0 then 4 else 2) ∧ fld w' 42 5 = dgv B pl0 (min 4 (prn cD B nn pl0 - pl0)))) := by
    intro m9
    induction m9 with
    | zero => intro le1 kd1 pl1 af1 nu1 w10 hz; exact absurd hz (Nat.not_lt_zero _)
    | succ m9 ih8 =>
      intro le1 kd1 pl1 af1 nu1 w10 hm21 hn13 hn14 hn15 hn16 hn17 hcl18 hx19 hI11 hF12 he20
      obtain ⟨he22, he23, he24, he25, he26, he27⟩ := he20
      have hg28 := prn_ge (c := cD) (B := B) (n := nn) (p := af1)
      obtain ⟨hd29, hd30, -, -⟩ := dgv_le (B := B) (q := pl0) (min 4 (af1 - pl0)) (fun j hj => (cD_of (prn_all (c := cD) (B := B) (n := nn) (p := pl0) (j := pl0 + j) (by omega) (by omega)).2).2) (by omega)
      refine xg_t (xg_blq rfl) ?_
      refine xg_t (xg_aload (va := (2, 42)) rfl rfl) ?_
      refine xg_t (xg_getf (va := (0, af1)) hcl18 rfl) ?_
      refine xg_t (xg_aload (va := (2, 42)) rfl rfl) ?_
      refine xg_t (xg_getf (va := (0, le1)) hcl18 rfl) ?_
      by_cases hc31 : af1 < le1
      · refine xg_t (xg_icF (u := af1) (v := le1) rfl xnm0 xnm0 (xj_geF hc31 (by omega))) ?_
        refine xg_t (xg_aload (va := (2, 42)) rfl rfl) ?_
        refine xg_t (xg_getf (va := (2, 2)) hcl18 rfl) ?_
        refine xg_t (xg_aload (va := (2, 42)) rfl rfl) ?_
        refine xg_t (xg_getf (va := (0, af1)) hcl18 rfl) ?_
        refine xg_baldY (n := af1) (h2_2.fr hF12 (by decide)) (hb3) xnm0 (by omega) (fun u32 hu33 he34 => ?_)
        have hB35 : B af1 = u32 % 256 := by rw [← he34]; exact (hBg _ (by omega)).symm
        refine xg_cSi mX8_isDigit (vs := [(0, u32)]) (rest := []) (cn1 := 0) (sl1 := 0) rfl (tkDigX (hI11) (by omega)) rfl rfl rfl rfl rfl rfl rfl (fun n40 w36 hq37 => ?_)
        obtain ⟨hn41, hI38, hF39⟩ := hq37
        by_cases hc42 : n40 = 0
        · refine xg_t (xg_ifT (u := n40) rfl xnm0 (xj_eqT hc42)) ?_
          refine xg_t (xg_blq rfl) ?_
          refine xg_t (xg_aload (va := (2, 42)) rfl rfl) ?_
          refine xg_t (xg_aload (va := (2, 42)) rfl rfl) ?_
          refine xg_t (xg_getf (va := (0, af1)) (hF39.get (by decide) hcl18) rfl) ?_
          refine xg_t (xg_aload (va := (2, 42)) rfl rfl) ?_
          refine xg_t (xg_getf (va := (0, pl1)) (hF39.get (by decide) hcl18) rfl) ?_
          refine xg_t (xg_isub (u := af1) (v := pl1) (z := af1 - pl1) xnm0 xnm0 (by omega)) ?_
          refine xg_t (xg_const) ?_
          by_cases hc43 : 4 < (af1 - pl1)
          · refine xg_t (xg_icF (u := af1 - pl1) (v := 4) rfl xnm0 xnm0 (xj_leF hc43 (by omega))) ?_
            refine xg_t (xg_const) ?_
            refine xg_t (xg_goto) ?_
            refine xg_t (xg_blq rfl) ?_
            refine xg_putI (fl1 := [(2, 2), (0, le1), (0, 4), (0, pl1), (0, af1), (0, nu1)]) (hF39.get (by decide) hcl18) rfl rfl rfl (fun w44 hk45 hb46 => ?_)
            have hq47 : fld w44 42 1 = le1 := fld_of hk45
            have hq48 : fld w44 42 2 = 4 := fld_of hk45
            have hq49 : fld w44 42 3 = pl1 := fld_of hk45
            have hq50 : fld w44 42 4 = af1 := fld_of hk45
            have hq51 : fld w44 42 5 = nu1 := fld_of hk45
            have ha : prn cD B nn pl0 = af1 := by
              have z : prn cD B nn af1 = af1 := by first | exact prn_e (by omega) | exact prn_n (cD_f (by omega))
              omega
            exact xg_e ⟨w44, ⟨rfl, rfl⟩, xInv.up (S := [42]) hI38 (xFr.of (S := [42]) hb46 (by decide)) (List.forall_mem_cons.mpr ⟨xqu42 (show cp42 (wget w44 42) from xmC42 le1 4 pl1 af1 nu1 hk45 hn13 (by decide) hn15 hn16 hn17 (by omega)), fun _ h => absurd h List.not_mem_nil⟩), ((hF12.tr (hF39.up (by decide))).tr (xFr.of (S := [42]) hb46 (by decide))), ⟨by omega, by omega, by omega, by rw [ha, if_pos (by omega)]; exact hq48, by rw [ha]; exact hq51.trans he27⟩⟩
          · refine xg_t (xg_icT (u := af1 - pl1) (v := 4) rfl xnm0 xnm0 (xj_leT (by omega) (by omega))) ?_
            refine xg_t (xg_blq rfl) ?_
            refine xg_t (xg_const) ?_
            refine xg_t (xg_blq rfl) ?_
            refine xg_putI (fl1 := [(2, 2), (0, le1), (0, 2), (0, pl1), (0, af1), (0, nu1)]) (hF39.get (by decide) hcl18) rfl rfl rfl (fun w52 hk53 hb54 => ?_)
            have hq55 : fld w52 42 1 = le1 := fld_of hk53
            have hq56 : fld w52 42 2 = 2 := fld_of hk53
            have hq57 : fld w52 42 3 = pl1 := fld_of hk53
            have hq58 : fld w52 42 4 = af1 := fld_of hk53
            have hq59 : fld w52 42 5 = nu1 := fld_of hk53
            have ha : prn cD B nn pl0 = af1 := by
              have z : prn cD B nn af1 = af1 := by first | exact prn_e (by omega) | exact prn_n (cD_f (by omega))
              omega
            exact xg_e ⟨w52, ⟨rfl, rfl⟩, xInv.up (S := [42]) hI38 (xFr.of (S := [42]) hb54 (by decide)) (List.forall_mem_cons.mpr ⟨xqu42 (show cp42 (wget w52 42) from xmC42 le1 2 pl1 af1 nu1 hk53 hn13 (by decide) hn15 hn16 hn17 (by omega)), fun _ h => absurd h List.not_mem_nil⟩), ((hF12.tr (hF39.up (by decide))).tr (xFr.of (S := [42]) hb54 (by decide))), ⟨by omega, by omega, by omega, by rw [ha, if_neg (by omega)]; exact hq56, by rw [ha]; exact hq59.trans he27⟩⟩
        · refine xg_t (xg_ifF (u := n40) rfl xnm0 (xj_eqF hc42)) ?_
          refine xg_t (xg_aload (va := (2, 42)) rfl rfl) ?_
          refine xg_t (xg_getf (va := (0, af1)) (hF39.get (by decide) hcl18) rfl) ?_
          refine xg_t (xg_aload (va := (2, 42)) rfl rfl) ?_
          refine xg_t (xg_getf (va := (0, pl1)) (hF39.get (by decide) hcl18) rfl) ?_
          refine xg_t (xg_isub (u := af1) (v := pl1) (z := af1 - pl1) xnm0 xnm0 (by omega)) ?_
          refine xg_t (xg_const) ?_
          by_cases hc60 : (af1 - pl1) < 4
          · refine xg_t (xg_icF (u := af1 - pl1) (v := 4) rfl xnm0 xnm0 (xj_geF hc60 (by omega))) ?_
            refine xg_t (xg_aload (va := (2, 42)) rfl rfl) ?_
            refine xg_t (xg_aload (va := (2, 42)) rfl rfl) ?_
            refine xg_t (xg_getf (va := (0, nu1)) (hF39.get (by decide) hcl18) rfl) ?_
            refine xg_t (xg_bip) ?_
            have hd61 := hd30 (by omega)
            refine xg_t (xg_imul (u := nu1) (v := 10) (z := nu1 * 10) xnm0 xnm0 (Nat.mod_eq_of_lt (by omega))) ?_
            refine xg_t (xg_aload (va := (2, 42)) rfl rfl) ?_
            refine xg_t (xg_getf (va := (2, 2)) (hF39.get (by decide) hcl18) rfl) ?_
            refine xg_t (xg_aload (va := (2, 42)) rfl rfl) ?_
            refine xg_t (xg_getf (va := (0, af1)) (hF39.get (by decide) hcl18) rfl) ?_
            refine xg_baldY (n := af1) ((h2_2.fr hF12 (by decide)).fr hF39 (by decide)) (hb3) xnm0 (by omega) (fun u62 hu63 he64 => ?_)
            have hB65 : B af1 = u62 % 256 := by rw [← he64]; exact (hBg _ (by omega)).symm
            have hd66 : 48 ≤ u62 ∧ u62 ≤ 57 := by omega
            refine xg_t (xg_iadd (u := nu1 * 10) (v := u62) (z := nu1 * 10 + u62) xnm0 xnm0 (Nat.mod_eq_of_lt (by omega))) ?_
            refine xg_t (xg_bip) ?_
            refine xg_t (xg_isub (u := nu1 * 10 + u62) (v := 48) (z := (nu1 * 10 + u62) - 48) xnm0 xnm0 (by omega)) ?_
            refine xg_putI (fl1 := [(2, 2), (0, le1), (0, kd1), (0, pl1), (0, af1), (0, (nu1 * 10 + u62) - 48)]) (hF39.get (by decide) hcl18) rfl rfl rfl (fun w67 hk68 hb69 => ?_)
            refine xg_t (xg_blq rfl) ?_
            refine xg_t (xg_aload (va := (2, 42)) rfl rfl) ?_
            refine xg_t (xg_dup rfl) ?_
            refine xg_t (xg_getf (va := (0, af1)) hk68 rfl) ?_
            refine xg_t (xg_const) ?_
            refine xg_t (xg_iadd (u := af1) (v := 1) (z := af1 + 1) xnm0 xnm0 (by omega)) ?_
            refine xg_putI (fl1 := [(2, 2), (0, le1), (0, kd1), (0, pl1), (0, af1 + 1), (0, (nu1 * 10 + u62) - 48)]) hk68 rfl rfl rfl (fun w70 hk71 hb72 => ?_)
            refine xg_t (xg_goto) ?_
            have hy73 := dgv_y (B := B) (p := pl0) (a := af1) (by omega) (by omega)
            have hy74 := prn_y (c := cD) (B := B) (n := nn) (p := af1) (by omega) (cD_t (by omega))
            exact ih8 le1 kd1 pl1 (af1 + 1) ((nu1 * 10 + u62) - 48) w70 (by omega) (hn13) (hn14) (hn15) (by omega) (by omega) hk71 (by omega) (xInv.up (S := [42]) hI38 ((xFr.of (S := [42]) hb69 (by decide)).tr (xFr.of (S := [42]) hb72 (by decide))) (List.forall_mem_cons.mpr ⟨xqu42 (show cp42 (wget w70 42) from xmC42 le1 kd1 pl1 (af1 + 1) ((nu1 * 10 + u62) - 48) hk71 hn13 hn14 hn15 (by omega) (by omega) (by omega)), fun _ h => absurd h List.not_mem_nil⟩)) (((hF12.tr (hF39.up (by decide))).tr ((xFr.of (S := [42]) hb69 (by decide)).tr (xFr.of (S := [42]) hb72 (by decide))))) (⟨by omega, by omega, by omega, by omega, by omega, by omega⟩)
          · refine xg_t (xg_icT (u := af1 - pl1) (v := 4) rfl xnm0 xnm0 (xj_geT (by omega) (by omega))) ?_
            refine xg_t (xg_blq rfl) ?_
            refine xg_t (xg_aload (va := (2, 42)) rfl rfl) ?_
            refine xg_t (xg_dup rfl) ?_
            refine xg_t (xg_getf (va := (0, af1)) (hF39.get (by decide) hcl18) rfl) ?_
            refine xg_t (xg_const) ?_
            refine xg_t (xg_iadd (u := af1) (v := 1) (z := af1 + 1) xnm0 xnm0 (by omega)) ?_
            refine xg_putI (fl1 := [(2, 2), (0, le1), (0, kd1), (0, pl1), (0, af1 + 1), (0, nu1)]) (hF39.get (by decide) hcl18) rfl rfl rfl (fun w75 hk76 hb77 => ?_)
            refine xg_t (xg_goto) ?_
            have hy78 := dgv_n (B := B) (p := pl0) (a := af1) (by omega)
            have hy79 := prn_y (c := cD) (B := B) (n := nn) (p := af1) (by omega) (cD_t (by omega))
            exact ih8 le1 kd1 pl1 (af1 + 1) nu1 w75 (by omega) (hn13) (hn14) (hn15) (by omega) (hn17) hk76 (by omega) (xInv.up (S := [42]) hI38 (xFr.of (S := [42]) hb77 (by decide)) (List.forall_mem_cons.mpr ⟨xqu42 (show cp42 (wget w75 42) from xmC42 le1 kd1 pl1 (af1 + 1) nu1 hk76 hn13 hn14 hn15 (by omega) hn17 (by omega)), fun _ h => absurd h List.not_mem_nil⟩)) (((hF12.tr (hF39.up (by decide))).tr (xFr.of (S := [42]) hb77 (by decide)))) (⟨by omega, by omega, by omega, by omega, by omega, by omega⟩)
      · refine xg_t (xg_icT (u := af1) (v := le1) rfl xnm0 xnm0 (xj_geT (by omega) (by omega))) ?_
        refine xg_t (xg_blq rfl) ?_
        refine xg_t (xg_aload (va := (2, 42)) rfl rfl) ?_
        refine xg_t (xg_aload (va := (2, 42)) rfl rfl) ?_
        refine xg_t (xg_getf (va := (0, af1)) hcl18 rfl) ?_
        refine xg_t (xg_aload (va := (2, 42)) rfl rfl) ?_
        refine xg_t (xg_getf (va := (0, pl1)) hcl18 rfl) ?_
        refine xg_t (xg_isub (u := af1) (v := pl1) (z := af1 - pl1) xnm0 xnm0 (by omega)) ?_
        refine xg_t (xg_const) ?_
        by_cases hc80 : 4 < (af1 - pl1)
        · refine xg_t (xg_icF (u := af1 - pl1) (v := 4) rfl xnm0 xnm0 (xj_leF hc80 (by omega))) ?_
          refine xg_t (xg_const) ?_
          refine xg_t (xg_goto) ?_
          refine xg_t (xg_blq rfl) ?_
          refine xg_putI (fl1 := [(2, 2), (0, le1), (0, 4), (0, pl1), (0, af1), (0, nu1)]) hcl18 rfl rfl rfl (fun w81 hk82 hb83 => ?_)
          have hq84 : fld w81 42 1 = le1 := fld_of hk82
          have hq85 : fld w81 42 2 = 4 := fld_of hk82
          have hq86 : fld w81 42 3 = pl1 := fld_of hk82
          have hq87 : fld w81 42 4 = af1 := fld_of hk82
          have hq88 : fld w81 42 5 = nu1 := fld_of hk82
          have ha : prn cD B nn pl0 = af1 := by
            have z : prn cD B nn af1 = af1 := by first | exact prn_e (by omega) | exact prn_n (cD_f (by omega))
            omega
          exact xg_e ⟨w81, ⟨rfl, rfl⟩, xInv.up (S := [42]) hI11 (xFr.of (S := [42]) hb83 (by decide)) (List.forall_mem_cons.mpr ⟨xqu42 (show cp42 (wget w81 42) from xmC42 le1 4 pl1 af1 nu1 hk82 hn13 (by decide) hn15 hn16 hn17 (by omega)), fun _ h => absurd h List.not_mem_nil⟩), (hF12.tr (xFr.of (S := [42]) hb83 (by decide))), ⟨by omega, by omega, by omega, by rw [ha, if_pos (by omega)]; exact hq85, by rw [ha]; exact hq88.trans he27⟩⟩
        · refine xg_t (xg_icT (u := af1 - pl1) (v := 4) rfl xnm0 xnm0 (xj_leT (by omega) (by omega))) ?_
          refine xg_t (xg_blq rfl) ?_
          refine xg_t (xg_const) ?_
          refine xg_t (xg_blq rfl) ?_
          refine xg_putI (fl1 := [(2, 2), (0, le1), (0, 2), (0, pl1), (0, af1), (0, nu1)]) hcl18 rfl rfl rfl (fun w89 hk90 hb91 => ?_)
          have hq92 : fld w89 42 1 = le1 := fld_of hk90
          have hq93 : fld w89 42 2 = 2 := fld_of hk90
          have hq94 : fld w89 42 3 = pl1 := fld_of hk90
          have hq95 : fld w89 42 4 = af1 := fld_of hk90
          have hq96 : fld w89 42 5 = nu1 := fld_of hk90
          have ha : prn cD B nn pl0 = af1 := by
            have z : prn cD B nn af1 = af1 := by first | exact prn_e (by omega) | exact prn_n (cD_f (by omega))
            omega
          exact xg_e ⟨w89, ⟨rfl, rfl⟩, xInv.up (S := [42]) hI11 (xFr.of (S := [42]) hb91 (by decide)) (List.forall_mem_cons.mpr ⟨xqu42 (show cp42 (wget w89 42) from xmC42 le1 2 pl1 af1 nu1 hk90 hn13 (by decide) hn15 hn16 hn17 (by omega)), fun _ h => absurd h List.not_mem_nil⟩), (hF12.tr (xFr.of (S := [42]) hb91 (by decide))), ⟨by omega, by omega, by omega, by rw [ha, if_neg (by omega)]; exact hq93, by rw [ha]; exact hq96.trans he27⟩⟩
  exact key7 _ le0 kd0 pl0 af0 0 w4 (Nat.lt_succ_self _) (by omega) (by omega) (by omega) (by omega) (by decide) hk5 (by omega) (xInv.up (S := [42]) hI (xFr.of (S := [42]) hb6 (by decide)) (List.forall_mem_cons.mpr ⟨xqu42 (show cp42 (wget w4 42) from xmC42 le0 kd0 pl0 af0 0 hk5 (by omega) (by omega) (by omega) (by omega) (by decide) (by omega)), fun _ h => absurd h List.not_mem_nil⟩)) ((xFr.of (S := [42]) hb6 (by decide))) (⟨by omega, by omega, by omega, by omega, by rw [ha0], by rw [ha0]; exact dgv_0.symm⟩)
theorem tkAdvX42 {B : Nat → Nat} {nn : Nat} (hI : xInv w) (hB : bsr w B nn) (hln : fld w 42 1 = nn) (haf : fld w 42 4 ≤ nn) : xPq (d + 2) mX8_advance [(2, 42)] w bd fc rr [] (fun w' => xInv w' ∧ xFr [42] w w' ∧ (TKw 42 B nn w' (fld w 42 4))) := by
  refine xPq.of ?_
  show xTo (d + 2) mX8_advance (0, [], [(0, (2, 42))], [], (w, bd, fc, 0, 0, rr)) (fun φ => ∃ w', xEnd 0 [] (w', bd, fc, 0, 0, rr) φ ∧ xInv w' ∧ xFr [42] w w' ∧ (TKw 42 B nn w' (fld w 42 4)))
  refine xoC42 (xqc42 hI : cp42 (wget w 42)) (fun f42_1 f42_3 f42_5 f42_7 f42_9 h42_11 hb2 hb4 hb6 hb8 hb10 hb12 => ?_)
  obtain ⟨g2_13, h2_14, hb15⟩ := (xqc2 hI : cpY 500 0 (wget w 2))
  have h2_14 : xRk 1 0 w 2 500 0 g2_13 := h2_14
  have hBn := hB.1
  have hBg : ∀ j, j < nn → g2_13 j % 256 = B j := fun j h => by
    have q := hB.2 j h
    rw [rwk_of h2_14 (by omega)] at q
    exact q
  have q1_ : fld w 42 1 = f42_1 := fld_of h42_11
  have q4_ : fld w 42 4 = f42_7 := fld_of h42_11
  have key16 : ∀ (m18 : Nat) (le1 kd1 pl1 af1 nu1 : Nat) (w19 : List (List xE)), 500 - af1 < m18 → le1 ≤ 500 → kd1 ≤ 4294967295 → pl1 ≤ 500 → af1 ≤ 500 → nu1 ≤ 4294967295 → wget w19 42 = some (.inl (8, [(2, 2), (0, le1), (0, kd1), (0, pl1), (0, af1), (0, nu1)])) → (kd1 = 0 ∨ pl1 ≤ 499) → xInv w19 → xFr [42] w w19 → (le1 = nn ∧ af1 ≤ nn ∧ prn cB B nn af1 = prn cB B nn f42_7) → xTo (d + 2) mX8_advance (0, [], [(0, (2, 42))], [], (w19, bd, fc, 0, 0, rr)) (fun φ => ∃ w', xEnd 0 [] (w', bd, fc, 0, 0, rr) φ ∧ xInv w' ∧ xFr [42] w w' ∧ (TKw 42 B nn w' (fld w 42 4))) := by
    intro m18
    induction m18 with
    | zero => intro le1 kd1 pl1 af1 nu1 w19 hz; exact absurd hz (Nat.not_lt_zero _)
    | succ m18 ih17 =>
      intro le1 kd1 pl1 af1 nu1 w19 hm30 hn22 hn23 hn24 hn25 hn26 hcl27 hx28 hI20 hF21 he29
      obtain ⟨he31, he32, he33⟩ := he29
      refine xg_t (xg_blq rfl) ?_
      refine xg_t (xg_aload (va := (2, 42)) rfl rfl) ?_
      refine xg_t (xg_getf (va := (0, af1)) hcl27 rfl) ?_
      refine xg_t (xg_aload (va := (2, 42)) rfl rfl) ?_
      refine xg_t (xg_getf (va := (0, le1)) hcl27 rfl) ?_
      by_cases hc34 : af1 < le1
      · refine xg_t (xg_icF (u := af1) (v := le1) rfl xnm0 xnm0 (xj_geF hc34 (by omega))) ?_
        refine xg_t (xg_aload (va := (2, 42)) rfl rfl) ?_
        refine xg_t (xg_getf (va := (2, 2)) hcl27 rfl) ?_
        refine xg_t (xg_aload (va := (2, 42)) rfl rfl) ?_
        refine xg_t (xg_getf (va := (0, af1)) hcl27 rfl) ?_
        refine xg_baldY (n := af1) (h2_14.fr hF21 (by decide)) (hb15) xnm0 (by omega) (fun u35 hu36 he37 => ?_)
        have hB38 : B af1 = u35 % 256 := by rw [← he37]; exact (hBg _ (by omega)).symm
        refine xg_t (xg_bip) ?_
        by_cases hc39 : u35 = 32
        · refine xg_t (xg_icT (u := u35) (v := 32) rfl xnm0 xnm0 (xj_eqT hc39)) ?_
          refine xg_t (xg_blq rfl) ?_
          refine xg_t (xg_aload (va := (2, 42)) rfl rfl) ?_
          refine xg_t (xg_dup rfl) ?_
          refine xg_t (xg_getf (va := (0, af1)) hcl27 rfl) ?_
          refine xg_t (xg_const) ?_
          refine xg_t (xg_iadd (u := af1) (v := 1) (z := af1 + 1) xnm0 xnm0 (by omega)) ?_
          refine xg_putI (fl1 := [(2, 2), (0, le1), (0, kd1), (0, pl1), (0, af1 + 1), (0, nu1)]) hcl27 rfl rfl rfl (fun w40 hk41 hb42 => ?_)
          refine xg_t (xg_goto) ?_
          have hy43 := prn_y (c := cB) (B := B) (n := nn) (p := af1) (by omega) (cB_t (by omega))
          exact ih17 le1 kd1 pl1 (af1 + 1) nu1 w40 (by omega) (hn22) (hn23) (hn24) (by omega) (hn26) hk41 (by omega) (xInv.up (S := [42]) hI20 (xFr.of (S := [42]) hb42 (by decide)) (List.forall_mem_cons.mpr ⟨xqu42 (show cp42 (wget w40 42) from xmC42 le1 kd1 pl1 (af1 + 1) nu1 hk41 hn22 hn23 hn24 (by omega) hn26 (by omega)), fun _ h => absurd h List.not_mem_nil⟩)) ((hF21.tr (xFr.of (S := [42]) hb42 (by decide)))) (⟨by omega, by omega, by omega⟩)
        · refine xg_t (xg_icF (u := u35) (v := 32) rfl xnm0 xnm0 (xj_eqF hc39)) ?_
          refine xg_t (xg_aload (va := (2, 42)) rfl rfl) ?_
          refine xg_t (xg_getf (va := (2, 2)) hcl27 rfl) ?_
          refine xg_t (xg_aload (va := (2, 42)) rfl rfl) ?_
          refine xg_t (xg_getf (va := (0, af1)) hcl27 rfl) ?_
          refine xg_baldY (n := af1) (h2_14.fr hF21 (by decide)) (hb15) xnm0 (by omega) (fun u44 hu45 he46 => ?_)
          have hB47 : B af1 = u44 % 256 := by rw [← he46]; exact (hBg _ (by omega)).symm
          refine xg_t (xg_bip) ?_
          by_cases hc48 : u44 = 10
          · refine xg_t (xg_icF (u := u44) (v := 10) rfl xnm0 xnm0 (xj_neF hc48)) ?_
            refine xg_t (xg_blq rfl) ?_
            refine xg_t (xg_aload (va := (2, 42)) rfl rfl) ?_
            refine xg_t (xg_dup rfl) ?_
            refine xg_t (xg_getf (va := (0, af1)) hcl27 rfl) ?_
            refine xg_t (xg_const) ?_
            refine xg_t (xg_iadd (u := af1) (v := 1) (z := af1 + 1) xnm0 xnm0 (by omega)) ?_
            refine xg_putI (fl1 := [(2, 2), (0, le1), (0, kd1), (0, pl1), (0, af1 + 1), (0, nu1)]) hcl27 rfl rfl rfl (fun w49 hk50 hb51 => ?_)
            refine xg_t (xg_goto) ?_
            have hy52 := prn_y (c := cB) (B := B) (n := nn) (p := af1) (by omega) (cB_t (by omega))
            exact ih17 le1 kd1 pl1 (af1 + 1) nu1 w49 (by omega) (hn22) (hn23) (hn24) (by omega) (hn26) hk50 (by omega) (xInv.up (S := [42]) hI20 (xFr.of (S := [42]) hb51 (by decide)) (List.forall_mem_cons.mpr ⟨xqu42 (show cp42 (wget w49 42) from xmC42 le1 kd1 pl1 (af1 + 1) nu1 hk50 hn22 hn23 hn24 (by omega) hn26 (by omega)), fun _ h => absurd h List.not_mem_nil⟩)) ((hF21.tr (xFr.of (S := [42]) hb51 (by decide)))) (⟨by omega, by omega, by omega⟩)
          · refine xg_t (xg_icT (u := u44) (v := 10) rfl xnm0 xnm0 (xj_neT hc48)) ?_
            refine xg_t (xg_blq rfl) ?_
            have hq : tq B nn f42_7 = af1 := by
              have z : prn cB B nn af1 = af1 := by first | exact prn_e (by omega) | exact prn_n (cB_f (by omega))
              show prn cB B nn f42_7 = af1
              omega
            refine xg_t (xg_aload (va := (2, 42)) rfl rfl) ?_
            refine xg_t (xg_aload (va := (2, 42)) rfl rfl) ?_
            refine xg_t (xg_getf (va := (0, af1)) hcl27 rfl) ?_
            refine xg_putI (fl1 := [(2, 2), (0, le1), (0, kd1), (0, af1), (0, af1), (0, nu1)]) hcl27 rfl rfl rfl (fun w53 hk54 hb55 => ?_)
            refine xg_t (xg_aload (va := (2, 42)) rfl rfl) ?_
            refine xg_t (xg_getf (va := (0, af1)) hk54 rfl) ?_
            refine xg_t (xg_aload (va := (2, 42)) rfl rfl) ?_
            refine xg_t (xg_getf (va := (0, le1)) hk54 rfl) ?_
            by_cases hc56 : af1 < le1
            · refine xg_t (xg_icT (u := af1) (v := le1) rfl xnm0 xnm0 (xj_ltT hc56 (by omega))) ?_
              refine xg_t (xg_blq rfl) ?_
              refine xg_t (xg_aload (va := (2, 42)) rfl rfl) ?_
              refine xg_t (xg_getf (va := (2, 2)) hk54 rfl) ?_
              refine xg_t (xg_aload (va := (2, 42)) rfl rfl) ?_
              refine xg_t (xg_getf (va := (0, af1)) hk54 rfl) ?_
              refine xg_baldY (n := af1) ((h2_14.fr hF21 (by decide)).but hb55 (by decide)) (hb15) xnm0 (by omega) (fun u57 hu58 he59 => ?_)
              have hB60 : B af1 = u57 % 256 := by rw [← he59]; exact (hBg _ (by omega)).symm
              refine xg_cSi mX8_isLetter (vs := [(0, u57)]) (rest := []) (cn1 := 0) (sl1 := 0) rfl (tkLetX (xInv.up (S := [42]) hI20 (xFr.of (S := [42]) hb55 (by decide)) (List.forall_mem_cons.mpr ⟨xqu42 (show cp42 (wget w53 42) from xmC42 le1 kd1 af1 af1 nu1 hk54 hn22 hn23 hn25 hn25 hn26 (by omega)), fun _ h => absurd h List.not_mem_nil⟩)) (by omega)) rfl rfl rfl rfl rfl rfl rfl (fun n65 w61 hq62 => ?_)
              obtain ⟨hn66, hI63, hF64⟩ := hq62
              by_cases hc67 : n65 = 0
              · refine xg_t (xg_ifT (u := n65) rfl xnm0 (xj_eqT hc67)) ?_
                refine xg_t (xg_blq rfl) ?_
                refine xg_t (xg_aload (va := (2, 42)) rfl rfl) ?_
                refine xg_t (xg_getf (va := (2, 2)) (hF64.get (by decide) hk54) rfl) ?_
                refine xg_t (xg_aload (va := (2, 42)) rfl rfl) ?_
                refine xg_t (xg_getf (va := (0, af1)) (hF64.get (by decide) hk54) rfl) ?_
                refine xg_baldY (n := af1) (((h2_14.fr hF21 (by decide)).but hb55 (by decide)).fr hF64 (by decide)) (hb15) xnm0 (by omega) (fun u68 hu69 he70 => ?_)
                have hB71 : B af1 = u68 % 256 := by rw [← he70]; exact (hBg _ (by omega)).symm
                refine xg_cSi mX8_isDigit (vs := [(0, u68)]) (rest := []) (cn1 := 0) (sl1 := 0) rfl (tkDigX (hI63) (by omega)) rfl rfl rfl rfl rfl rfl rfl (fun n76 w72 hq73 => ?_)
                obtain ⟨hn77, hI74, hF75⟩ := hq73
                by_cases hc78 : n76 = 0
                · refine xg_t (xg_ifT (u := n76) rfl xnm0 (xj_eqT hc78)) ?_
                  refine xg_t (xg_blq rfl) ?_
                  have hcl : cL (B af1) = false := cL_f (by omega)
                  have hcd : cD (B af1) = false := cD_f (by omega)
                  refine xg_t (xg_aload (va := (2, 42)) rfl rfl) ?_
                  refine xg_t (xg_aload (va := (2, 42)) rfl rfl) ?_
                  refine xg_t (xg_getf (va := (2, 2)) (hF75.get (by decide) (hF64.get (by decide) hk54)) rfl) ?_
                  refine xg_t (xg_aload (va := (2, 42)) rfl rfl) ?_
                  refine xg_t (xg_getf (va := (0, af1)) (hF75.get (by decide) (hF64.get (by decide) hk54)) rfl) ?_
                  refine xg_baldY (n := af1) ((((h2_14.fr hF21 (by decide)).but hb55 (by decide)).fr hF64 (by decide)).fr hF75 (by decide)) (hb15) xnm0 (by omega) (fun u79 hu80 he81 => ?_)
                  have hB82 : B af1 = u79 % 256 := by rw [← he81]; exact (hBg _ (by omega)).symm
                  refine xg_cSi mX8_isSignByte (vs := [(0, u79)]) (rest := [(2, 42)]) (cn1 := 0) (sl1 := 0) rfl (tkSgnX (hI74) (by omega)) rfl rfl rfl rfl rfl rfl rfl (fun n87 w83 hq84 => ?_)
                  obtain ⟨hn88, hI85, hF86⟩ := hq84
                  by_cases hc89 : n87 = 0
                  · refine xg_t (xg_ifT (u := n87) rfl xnm0 (xj_eqT hc89)) ?_
                    refine xg_t (xg_blq rfl) ?_
                    refine xg_t (xg_const) ?_
                    refine xg_t (xg_blq rfl) ?_
                    refine xg_putI (fl1 := [(2, 2), (0, le1), (0, 4), (0, af1), (0, af1), (0, nu1)]) (hF86.get (by decide) (hF75.get (by decide) (hF64.get (by decide) hk54))) rfl rfl rfl (fun w90 hk91 hb92 => ?_)
                    refine xg_t (xg_aload (va := (2, 42)) rfl rfl) ?_
                    refine xg_t (xg_dup rfl) ?_
                    refine xg_t (xg_getf (va := (0, af1)) hk91 rfl) ?_
                    refine xg_t (xg_const) ?_
                    refine xg_t (xg_iadd (u := af1) (v := 1) (z := af1 + 1) xnm0 xnm0 (by omega)) ?_
                    refine xg_putI (fl1 := [(2, 2), (0, le1), (0, 4), (0, af1), (0, af1 + 1), (0, nu1)]) hk91 rfl rfl rfl (fun w93 hk94 hb95 => ?_)
                    refine xg_t (xg_blq rfl) ?_
                    have hq96 : fld w93 42 1 = le1 := fld_of hk94
                    have hq97 : fld w93 42 2 = 4 := fld_of hk94
                    have hq98 : fld w93 42 3 = af1 := fld_of hk94
                    have hq99 : fld w93 42 4 = af1 + 1 := fld_of hk94
                    have hq100 : fld w93 42 5 = nu1 := fld_of hk94
                    obtain ⟨k1, k2⟩ := tk_sign (B := B) (n := nn) (p := f42_7) (by omega) (by rw [hq]; exact hcl) (by rw [hq]; exact hcd)
                    rw [hq] at k1
                    rw [cS_f (by omega), if_neg Bool.false_ne_true] at k1
                    have hT : TKw 42 B nn w93 f42_7 := ⟨⟨by omega, by omega, by omega, by omega, by omega⟩, fun z => by omega⟩
                    exact xg_e ⟨w93, ⟨rfl, rfl⟩, xInv.up (S := [42]) hI85 ((xFr.of (S := [42]) hb92 (by decide)).tr (xFr.of (S := [42]) hb95 (by decide))) (List.forall_mem_cons.mpr ⟨xqu42 (show cp42 (wget w93 42) from xmC42 le1 4 af1 (af1 + 1) nu1 hk94 hn22 (by decide) hn25 (by omega) hn26 (by omega)), fun _ h => absurd h List.not_mem_nil⟩), (((((hF21.tr (xFr.of (S := [42]) hb55 (by decide))).tr (hF64.up (by decide))).tr (hF75.up (by decide))).tr (hF86.up (by decide))).tr ((xFr.of (S := [42]) hb92 (by decide)).tr (xFr.of (S := [42]) hb95 (by decide)))), by rw [q4_]; exact hT⟩
                  · refine xg_t (xg_ifF (u := n87) rfl xnm0 (xj_eqF hc89)) ?_
                    refine xg_t (xg_const) ?_
                    refine xg_t (xg_goto) ?_
                    refine xg_t (xg_blq rfl) ?_
                    refine xg_putI (fl1 := [(2, 2), (0, le1), (0, 3), (0, af1), (0, af1), (0, nu1)]) (hF86.get (by decide) (hF75.get (by decide) (hF64.get (by decide) hk54))) rfl rfl rfl (fun w101 hk102 hb103 => ?_)
                    refine xg_t (xg_aload (va := (2, 42)) rfl rfl) ?_
                    refine xg_t (xg_dup rfl) ?_
                    refine xg_t (xg_getf (va := (0, af1)) hk102 rfl) ?_
                    refine xg_t (xg_const) ?_
                    refine xg_t (xg_iadd (u := af1) (v := 1) (z := af1 + 1) xnm0 xnm0 (by omega)) ?_
                    refine xg_putI (fl1 := [(2, 2), (0, le1), (0, 3), (0, af1), (0, af1 + 1), (0, nu1)]) hk102 rfl rfl rfl (fun w104 hk105 hb106 => ?_)
                    refine xg_t (xg_blq rfl) ?_
                    have hq107 : fld w104 42 1 = le1 := fld_of hk105
                    have hq108 : fld w104 42 2 = 3 := fld_of hk105
                    have hq109 : fld w104 42 3 = af1 := fld_of hk105
                    have hq110 : fld w104 42 4 = af1 + 1 := fld_of hk105
                    have hq111 : fld w104 42 5 = nu1 := fld_of hk105
                    obtain ⟨k1, k2⟩ := tk_sign (B := B) (n := nn) (p := f42_7) (by omega) (by rw [hq]; exact hcl) (by rw [hq]; exact hcd)
                    rw [hq] at k1
                    rw [cS_t (by omega), if_pos rfl] at k1
                    have hT : TKw 42 B nn w104 f42_7 := ⟨⟨by omega, by omega, by omega, by omega, by omega⟩, fun z => by omega⟩
                    exact xg_e ⟨w104, ⟨rfl, rfl⟩, xInv.up (S := [42]) hI85 ((xFr.of (S := [42]) hb103 (by decide)).tr (xFr.of (S := [42]) hb106 (by decide))) (List.forall_mem_cons.mpr ⟨xqu42 (show cp42 (wget w104 42) from xmC42 le1 3 af1 (af1 + 1) nu1 hk105 hn22 (by decide) hn25 (by omega) hn26 (by omega)), fun _ h => absurd h List.not_mem_nil⟩), (((((hF21.tr (xFr.of (S := [42]) hb55 (by decide))).tr (hF64.up (by decide))).tr (hF75.up (by decide))).tr (hF86.up (by decide))).tr ((xFr.of (S := [42]) hb103 (by decide)).tr (xFr.of (S := [42]) hb106 (by decide)))), by rw [q4_]; exact hT⟩
                · refine xg_t (xg_ifF (u := n76) rfl xnm0 (xj_eqF hc78)) ?_
                  have hcl : cL (B af1) = false := cL_f (by omega)
                  have hcd : cD (B af1) = true := cD_t (by omega)
                  refine xg_t (xg_aload (va := (2, 42)) rfl rfl) ?_
                  refine xg_cVv mX8_takeDigits (vs := []) (rest := []) (cn1 := 0) (sl1 := 0) rfl (tkDgtX42 (hI74) (hF75.get (by decide) (hF64.get (by decide) hk54)) (by omega) (by omega) (by omega) (by omega) (by omega) (hB.fr ((((hF21.tr (xFr.of (S := [42]) hb55 (by decide))).tr (hF64.up (by decide))).tr (hF75.up (by decide))).1 2 (by decide))) (by omega)) rfl (hF75.get (by decide) (hF64.get (by decide) hk54)) rfl rfl rfl rfl rfl rfl (fun w112 hq113 => ?_)
                  obtain ⟨hI114, hF115, hx116⟩ := hq113
                  obtain ⟨hd117, hd118, hd119, hd120, hd121⟩ := hx116
                  refine xg_t (xg_goto) ?_
                  refine xg_t (xg_blq rfl) ?_
                  obtain ⟨k1, k2⟩ := tk_num (B := B) (n := nn) (p := f42_7) (by omega) (by rw [hq]; exact hcl) (by rw [hq]; exact hcd)
                  rw [hq] at k2
                  rw [k2, hq] at k1
                  have hv : tnu B nn f42_7 = dgv B af1 (min 4 (prn cD B nn af1 - af1)) := by unfold tnu; rw [k2, hq]
                  have hT : TKw 42 B nn w112 f42_7 := ⟨⟨hd117, hd120.trans k1.symm, hd118.trans hq.symm, hd119.trans k2.symm, by omega⟩, fun _ => hd121.trans hv.symm⟩
                  exact xg_e ⟨w112, ⟨rfl, rfl⟩, hI114, ((((hF21.tr (xFr.of (S := [42]) hb55 (by decide))).tr (hF64.up (by decide))).tr (hF75.up (by decide))).tr (hF115.up (by decide))), by rw [q4_]; exact hT⟩
              · refine xg_t (xg_ifF (u := n65) rfl xnm0 (xj_eqF hc67)) ?_
                have hcl : cL (B af1) = true := cL_t (by omega)
                refine xg_t (xg_aload (va := (2, 42)) rfl rfl) ?_
                refine xg_t (xg_const) ?_
                refine xg_putI (fl1 := [(2, 2), (0, le1), (0, 1), (0, af1), (0, af1), (0, nu1)]) (hF64.get (by decide) hk54) rfl rfl rfl (fun w122 hk123 hb124 => ?_)
                have key125 : ∀ (m127 : Nat) (le2 kd2 pl2 af2 nu2 : Nat) (w128 : List (List xE)), 500 - af2 < m127 → le2 ≤ 500 → kd2 ≤ 4294967295 → pl2 ≤ 500 → af2 ≤ 500 → nu2 ≤ 4294967295 → wget w128 42 = some (.inl (8, [(2, 2), (0, le2), (0, kd2), (0, pl2), (0, af2), (0, nu2)])) → (kd2 = 0 ∨ pl2 ≤ 499) → xInv w128 → xFr [42] w w128 → (le2 = nn ∧ kd2 = 1 ∧ pl2 = af1 ∧ af1 ≤ af2 ∧ prn cL B nn af2 = prn cL B nn af1) → xTo (d + 2) mX8_advance (99, [], [(0, (2, 42))], [], (w128, bd, fc, 0, 0, rr)) (fun φ => ∃ w', xEnd 0 [] (w', bd, fc, 0, 0, rr) φ ∧ xInv w' ∧ xFr [42] w w' ∧ (TKw 42 B nn w' (fld w 42 4))) := by
                  intro m127
                  induction m127 with
                  | zero => intro le2 kd2 pl2 af2 nu2 w128 hz; exact absurd hz (Nat.not_lt_zero _)
                  | succ m127 ih126 =>
                    intro le2 kd2 pl2 af2 nu2 w128 hm139 hn131 hn132 hn133 hn134 hn135 hcl136 hx137 hI129 hF130 he138
                    obtain ⟨he140, he141, he142, he143, he144⟩ := he138
                    refine xg_t (xg_blq rfl) ?_
                    refine xg_t (xg_aload (va := (2, 42)) rfl rfl) ?_
                    refine xg_t (xg_getf (va := (0, af2)) hcl136 rfl) ?_
                    refine xg_t (xg_aload (va := (2, 42)) rfl rfl) ?_
                    refine xg_t (xg_getf (va := (0, le2)) hcl136 rfl) ?_
                    by_cases hc145 : af2 < le2
                    · refine xg_t (xg_icF (u := af2) (v := le2) rfl xnm0 xnm0 (xj_geF hc145 (by omega))) ?_
                      refine xg_t (xg_aload (va := (2, 42)) rfl rfl) ?_
                      refine xg_t (xg_getf (va := (2, 2)) hcl136 rfl) ?_
                      refine xg_t (xg_aload (va := (2, 42)) rfl rfl) ?_
                      refine xg_t (xg_getf (va := (0, af2)) hcl136 rfl) ?_
                      refine xg_baldY (n := af2) (h2_14.fr hF130 (by decide)) (hb15) xnm0 (by omega) (fun u146 hu147 he148 => ?_)
                      have hB149 : B af2 = u146 % 256 := by rw [← he148]; exact (hBg _ (by omega)).symm
                      refine xg_cSi mX8_isLetter (vs := [(0, u146)]) (rest := []) (cn1 := 0) (sl1 := 0) rfl (tkLetX (hI129) (by omega)) rfl rfl rfl rfl rfl rfl rfl (fun n154 w150 hq151 => ?_)
                      obtain ⟨hn155, hI152, hF153⟩ := hq151
                      by_cases hc156 : n154 = 0
                      · refine xg_t (xg_ifT (u := n154) rfl xnm0 (xj_eqT hc156)) ?_
                        refine xg_t (xg_blq rfl) ?_
                        have hq157 : fld w150 42 1 = le2 := fld_of (hF153.get (by decide) hcl136)
                        have hq158 : fld w150 42 2 = kd2 := fld_of (hF153.get (by decide) hcl136)
                        have hq159 : fld w150 42 3 = pl2 := fld_of (hF153.get (by decide) hcl136)
                        have hq160 : fld w150 42 4 = af2 := fld_of (hF153.get (by decide) hcl136)
                        have hq161 : fld w150 42 5 = nu2 := fld_of (hF153.get (by decide) hcl136)
                        obtain ⟨k1, k2⟩ := tk_word (B := B) (n := nn) (p := f42_7) (by omega) (by rw [hq]; exact hcl)
                        rw [hq] at k2
                        have ha : prn cL B nn af2 = af2 := by first | exact prn_e (by omega) | exact prn_n (cL_f (by omega))
                        have hT : TKw 42 B nn w150 f42_7 := ⟨⟨by omega, by omega, by omega, by omega, by omega⟩, fun z => by omega⟩
                        exact xg_e ⟨w150, ⟨rfl, rfl⟩, hI152, (hF130.tr (hF153.up (by decide))), by rw [q4_]; exact hT⟩
                      · refine xg_t (xg_ifF (u := n154) rfl xnm0 (xj_eqF hc156)) ?_
                        refine xg_t (xg_aload (va := (2, 42)) rfl rfl) ?_
                        refine xg_t (xg_dup rfl) ?_
                        refine xg_t (xg_getf (va := (0, af2)) (hF153.get (by decide) hcl136) rfl) ?_
                        refine xg_t (xg_const) ?_
                        refine xg_t (xg_iadd (u := af2) (v := 1) (z := af2 + 1) xnm0 xnm0 (by omega)) ?_
                        refine xg_putI (fl1 := [(2, 2), (0, le2), (0, kd2), (0, pl2), (0, af2 + 1), (0, nu2)]) (hF153.get (by decide) hcl136) rfl rfl rfl (fun w162 hk163 hb164 => ?_)
                        refine xg_t (xg_goto) ?_
                        have hy165 := prn_y (c := cL) (B := B) (n := nn) (p := af2) (by omega) (cL_t (by omega))
                        exact ih126 le2 kd2 pl2 (af2 + 1) nu2 w162 (by omega) (hn131) (hn132) (hn133) (by omega) (hn135) hk163 (by omega) (xInv.up (S := [42]) hI152 (xFr.of (S := [42]) hb164 (by decide)) (List.forall_mem_cons.mpr ⟨xqu42 (show cp42 (wget w162 42) from xmC42 le2 kd2 pl2 (af2 + 1) nu2 hk163 hn131 hn132 hn133 (by omega) hn135 (by omega)), fun _ h => absurd h List.not_mem_nil⟩)) (((hF130.tr (hF153.up (by decide))).tr (xFr.of (S := [42]) hb164 (by decide)))) (⟨by omega, by omega, by omega, by omega, by omega⟩)
                    · refine xg_t (xg_icT (u := af2) (v := le2) rfl xnm0 xnm0 (xj_geT (by omega) (by omega))) ?_
                      refine xg_t (xg_blq rfl) ?_
                      have hq166 : fld w128 42 1 = le2 := fld_of hcl136
                      have hq167 : fld w128 42 2 = kd2 := fld_of hcl136
                      have hq168 : fld w128 42 3 = pl2 := fld_of hcl136
                      have hq169 : fld w128 42 4 = af2 := fld_of hcl136
                      have hq170 : fld w128 42 5 = nu2 := fld_of hcl136
                      obtain ⟨k1, k2⟩ := tk_word (B := B) (n := nn) (p := f42_7) (by omega) (by rw [hq]; exact hcl)
                      rw [hq] at k2
                      have ha : prn cL B nn af2 = af2 := by first | exact prn_e (by omega) | exact prn_n (cL_f (by omega))
                      have hT : TKw 42 B nn w128 f42_7 := ⟨⟨by omega, by omega, by omega, by omega, by omega⟩, fun z => by omega⟩
                      exact xg_e ⟨w128, ⟨rfl, rfl⟩, hI129, hF130, by rw [q4_]; exact hT⟩
                exact key125 _ le1 1 af1 af1 nu1 w122 (Nat.lt_succ_self _) (hn22) (by decide) (hn25) (hn25) (hn26) hk123 (by omega) (xInv.up (S := [42]) hI63 (xFr.of (S := [42]) hb124 (by decide)) (List.forall_mem_cons.mpr ⟨xqu42 (show cp42 (wget w122 42) from xmC42 le1 1 af1 af1 nu1 hk123 hn22 (by decide) hn25 hn25 hn26 (by omega)), fun _ h => absurd h List.not_mem_nil⟩)) ((((hF21.tr (xFr.of (S := [42]) hb55 (by decide))).tr (hF64.up (by decide))).tr (xFr.of (S := [42]) hb124 (by decide)))) (⟨by omega, rfl, rfl, Nat.le_refl _, rfl⟩)
            · refine xg_t (xg_icF (u := af1) (v := le1) rfl xnm0 xnm0 (xj_ltF (by omega) (by omega))) ?_
              refine xg_t (xg_aload (va := (2, 42)) rfl rfl) ?_
              refine xg_t (xg_const) ?_
              refine xg_putI (fl1 := [(2, 2), (0, le1), (0, 0), (0, af1), (0, af1), (0, nu1)]) hk54 rfl rfl rfl (fun w171 hk172 hb173 => ?_)
              refine xg_t (xg_goto) ?_
              refine xg_t (xg_blq rfl) ?_
              have hq174 : fld w171 42 1 = le1 := fld_of hk172
              have hq175 : fld w171 42 2 = 0 := fld_of hk172
              have hq176 : fld w171 42 3 = af1 := fld_of hk172
              have hq177 : fld w171 42 4 = af1 := fld_of hk172
              have hq178 : fld w171 42 5 = nu1 := fld_of hk172
              obtain ⟨k1, k2⟩ := tk_end (B := B) (n := nn) (p := f42_7) (by omega)
              have hT : TKw 42 B nn w171 f42_7 := ⟨⟨by omega, by omega, by omega, by omega, by omega⟩, fun z => by omega⟩
              exact xg_e ⟨w171, ⟨rfl, rfl⟩, xInv.up (S := [42]) hI20 ((xFr.of (S := [42]) hb55 (by decide)).tr (xFr.of (S := [42]) hb173 (by decide))) (List.forall_mem_cons.mpr ⟨xqu42 (show cp42 (wget w171 42) from xmC42 le1 0 af1 af1 nu1 hk172 hn22 (by decide) hn25 hn25 hn26 (by omega)), fun _ h => absurd h List.not_mem_nil⟩), (hF21.tr ((xFr.of (S := [42]) hb55 (by decide)).tr (xFr.of (S := [42]) hb173 (by decide)))), by rw [q4_]; exact hT⟩
      · refine xg_t (xg_icT (u := af1) (v := le1) rfl xnm0 xnm0 (xj_geT (by omega) (by omega))) ?_
        refine xg_t (xg_blq rfl) ?_
        have hq : tq B nn f42_7 = af1 := by
          have z : prn cB B nn af1 = af1 := by first | exact prn_e (by omega) | exact prn_n (cB_f (by omega))
          show prn cB B nn f42_7 = af1
          omega
        refine xg_t (xg_aload (va := (2, 42)) rfl rfl) ?_
        refine xg_t (xg_aload (va := (2, 42)) rfl rfl) ?_
        refine xg_t (xg_getf (va := (0, af1)) hcl27 rfl) ?_
        refine xg_putI (fl1 := [(2, 2), (0, le1), (0, kd1), (0, af1), (0, af1), (0, nu1)]) hcl27 rfl rfl rfl (fun w179 hk180 hb181 => ?_)
        refine xg_t (xg_aload (va := (2, 42)) rfl rfl) ?_
        refine xg_t (xg_getf (va := (0, af1)) hk180 rfl) ?_
        refine xg_t (xg_aload (va := (2, 42)) rfl rfl) ?_
        refine xg_t (xg_getf (va := (0, le1)) hk180 rfl) ?_
        by_cases hc182 : af1 < le1
        · refine xg_t (xg_icT (u := af1) (v := le1) rfl xnm0 xnm0 (xj_ltT hc182 (by omega))) ?_
          refine xg_t (xg_blq rfl) ?_
          refine xg_t (xg_aload (va := (2, 42)) rfl rfl) ?_
          refine xg_t (xg_getf (va := (2, 2)) hk180 rfl) ?_
          refine xg_t (xg_aload (va := (2, 42)) rfl rfl) ?_
          refine xg_t (xg_getf (va := (0, af1)) hk180 rfl) ?_
          refine xg_baldY (n := af1) ((h2_14.fr hF21 (by decide)).but hb181 (by decide)) (hb15) xnm0 (by omega) (fun u183 hu184 he185 => ?_)
          have hB186 : B af1 = u183 % 256 := by rw [← he185]; exact (hBg _ (by omega)).symm
          refine xg_cSi mX8_isLetter (vs := [(0, u183)]) (rest := []) (cn1 := 0) (sl1 := 0) rfl (tkLetX (xInv.up (S := [42]) hI20 (xFr.of (S := [42]) hb181 (by decide)) (List.forall_mem_cons.mpr ⟨xqu42 (show cp42 (wget w179 42) from xmC42 le1 kd1 af1 af1 nu1 hk180 hn22 hn23 hn25 hn25 hn26 (by omega)), fun _ h => absurd h List.not_mem_nil⟩)) (by omega)) rfl rfl rfl rfl rfl rfl rfl (fun n191 w187 hq188 => ?_)
          obtain ⟨hn192, hI189, hF190⟩ := hq188
          by_cases hc193 : n191 = 0
          · refine xg_t (xg_ifT (u := n191) rfl xnm0 (xj_eqT hc193)) ?_
            refine xg_t (xg_blq rfl) ?_
            refine xg_t (xg_aload (va := (2, 42)) rfl rfl) ?_
            refine xg_t (xg_getf (va := (2, 2)) (hF190.get (by decide) hk180) rfl) ?_
            refine xg_t (xg_aload (va := (2, 42)) rfl rfl) ?_
            refine xg_t (xg_getf (va := (0, af1)) (hF190.get (by decide) hk180) rfl) ?_
            refine xg_baldY (n := af1) (((h2_14.fr hF21 (by decide)).but hb181 (by decide)).fr hF190 (by decide)) (hb15) xnm0 (by omega) (fun u194 hu195 he196 => ?_)
            have hB197 : B af1 = u194 % 256 := by rw [← he196]; exact (hBg _ (by omega)).symm
            refine xg_cSi mX8_isDigit (vs := [(0, u194)]) (rest := []) (cn1 := 0) (sl1 := 0) rfl (tkDigX (hI189) (by omega)) rfl rfl rfl rfl rfl rfl rfl (fun n202 w198 hq199 => ?_)
            obtain ⟨hn203, hI200, hF201⟩ := hq199
            by_cases hc204 : n202 = 0
            · refine xg_t (xg_ifT (u := n202) rfl xnm0 (xj_eqT hc204)) ?_
              refine xg_t (xg_blq rfl) ?_
              have hcl : cL (B af1) = false := cL_f (by omega)
              have hcd : cD (B af1) = false := cD_f (by omega)
              refine xg_t (xg_aload (va := (2, 42)) rfl rfl) ?_
              refine xg_t (xg_aload (va := (2, 42)) rfl rfl) ?_
              refine xg_t (xg_getf (va := (2, 2)) (hF201.get (by decide) (hF190.get (by decide) hk180)) rfl) ?_
              refine xg_t (xg_aload (va := (2, 42)) rfl rfl) ?_
              refine xg_t (xg_getf (va := (0, af1)) (hF201.get (by decide) (hF190.get (by decide) hk180)) rfl) ?_
              refine xg_baldY (n := af1) ((((h2_14.fr hF21 (by decide)).but hb181 (by decide)).fr hF190 (by decide)).fr hF201 (by decide)) (hb15) xnm0 (by omega) (fun u205 hu206 he207 => ?_)
              have hB208 : B af1 = u205 % 256 := by rw [← he207]; exact (hBg _ (by omega)).symm
              refine xg_cSi mX8_isSignByte (vs := [(0, u205)]) (rest := [(2, 42)]) (cn1 := 0) (sl1 := 0) rfl (tkSgnX (hI200) (by omega)) rfl rfl rfl rfl rfl rfl rfl (fun n213 w209 hq210 => ?_)
              obtain ⟨hn214, hI211, hF212⟩ := hq210
              by_cases hc215 : n213 = 0
              · refine xg_t (xg_ifT (u := n213) rfl xnm0 (xj_eqT hc215)) ?_
                refine xg_t (xg_blq rfl) ?_
                refine xg_t (xg_const) ?_
                refine xg_t (xg_blq rfl) ?_
                refine xg_putI (fl1 := [(2, 2), (0, le1), (0, 4), (0, af1), (0, af1), (0, nu1)]) (hF212.get (by decide) (hF201.get (by decide) (hF190.get (by decide) hk180))) rfl rfl rfl (fun w216 hk217 hb218 => ?_)
                refine xg_t (xg_aload (va := (2, 42)) rfl rfl) ?_
                refine xg_t (xg_dup rfl) ?_
                refine xg_t (xg_getf (va := (0, af1)) hk217 rfl) ?_
                refine xg_t (xg_const) ?_
                refine xg_t (xg_iadd (u := af1) (v := 1) (z := af1 + 1) xnm0 xnm0 (by omega)) ?_
                refine xg_putI (fl1 := [(2, 2), (0, le1), (0, 4), (0, af1), (0, af1 + 1), (0, nu1)]) hk217 rfl rfl rfl (fun w219 hk220 hb221 => ?_)
                refine xg_t (xg_blq rfl) ?_
                have hq222 : fld w219 42 1 = le1 := fld_of hk220
                have hq223 : fld w219 42 2 = 4 := fld_of hk220
                have hq224 : fld w219 42 3 = af1 := fld_of hk220
                have hq225 : fld w219 42 4 = af1 + 1 := fld_of hk220
                have hq226 : fld w219 42 5 = nu1 := fld_of hk220
                obtain ⟨k1, k2⟩ := tk_sign (B := B) (n := nn) (p := f42_7) (by omega) (by rw [hq]; exact hcl) (by rw [hq]; exact hcd)
                rw [hq] at k1
                rw [cS_f (by omega), if_neg Bool.false_ne_true] at k1
                have hT : TKw 42 B nn w219 f42_7 := ⟨⟨by omega, by omega, by omega, by omega, by omega⟩, fun z => by omega⟩
                exact xg_e ⟨w219, ⟨rfl, rfl⟩, xInv.up (S := [42]) hI211 ((xFr.of (S := [42]) hb218 (by decide)).tr (xFr.of (S := [42]) hb221 (by decide))) (List.forall_mem_cons.mpr ⟨xqu42 (show cp42 (wget w219 42) from xmC42 le1 4 af1 (af1 + 1) nu1 hk220 hn22 (by decide) hn25 (by omega) hn26 (by omega)), fun _ h => absurd h List.not_mem_nil⟩), (((((hF21.tr (xFr.of (S := [42]) hb181 (by decide))).tr (hF190.up (by decide))).tr (hF201.up (by decide))).tr (hF212.up (by decide))).tr ((xFr.of (S := [42]) hb218 (by decide)).tr (xFr.of (S := [42]) hb221 (by decide)))), by rw [q4_]; exact hT⟩
              · refine xg_t (xg_ifF (u := n213) rfl xnm0 (xj_eqF hc215)) ?_
                refine xg_t (xg_const) ?_
                refine xg_t (xg_goto) ?_
                refine xg_t (xg_blq rfl) ?_
                refine xg_putI (fl1 := [(2, 2), (0, le1), (0, 3), (0, af1), (0, af1), (0, nu1)]) (hF212.get (by decide) (hF201.get (by decide) (hF190.get (by decide) hk180))) rfl rfl rfl (fun w227 hk228 hb229 => ?_)
                refine xg_t (xg_aload (va := (2, 42)) rfl rfl) ?_
                refine xg_t (xg_dup rfl) ?_
                refine xg_t (xg_getf (va := (0, af1)) hk228 rfl) ?_
                refine xg_t (xg_const) ?_
                refine xg_t (xg_iadd (u := af1) (v := 1) (z := af1 + 1) xnm0 xnm0 (by omega)) ?_
                refine xg_putI (fl1 := [(2, 2), (0, le1), (0, 3), (0, af1), (0, af1 + 1), (0, nu1)]) hk228 rfl rfl rfl (fun w230 hk231 hb232 => ?_)
                refine xg_t (xg_blq rfl) ?_
                have hq233 : fld w230 42 1 = le1 := fld_of hk231
                have hq234 : fld w230 42 2 = 3 := fld_of hk231
                have hq235 : fld w230 42 3 = af1 := fld_of hk231
                have hq236 : fld w230 42 4 = af1 + 1 := fld_of hk231
                have hq237 : fld w230 42 5 = nu1 := fld_of hk231
                obtain ⟨k1, k2⟩ := tk_sign (B := B) (n := nn) (p := f42_7) (by omega) (by rw [hq]; exact hcl) (by rw [hq]; exact hcd)
                rw [hq] at k1
                rw [cS_t (by omega), if_pos rfl] at k1
                have hT : TKw 42 B nn w230 f42_7 := ⟨⟨by omega, by omega, by omega, by omega, by omega⟩, fun z => by omega⟩
                exact xg_e ⟨w230, ⟨rfl, rfl⟩, xInv.up (S := [42]) hI211 ((xFr.of (S := [42]) hb229 (by decide)).tr (xFr.of (S := [42]) hb232 (by decide))) (List.forall_mem_cons.mpr ⟨xqu42 (show cp42 (wget w230 42) from xmC42 le1 3 af1 (af1 + 1) nu1 hk231 hn22 (by decide) hn25 (by omega) hn26 (by omega)), fun _ h => absurd h List.not_mem_nil⟩), (((((hF21.tr (xFr.of (S := [42]) hb181 (by decide))).tr (hF190.up (by decide))).tr (hF201.up (by decide))).tr (hF212.up (by decide))).tr ((xFr.of (S := [42]) hb229 (by decide)).tr (xFr.of (S := [42]) hb232 (by decide)))), by rw [q4_]; exact hT⟩
            · refine xg_t (xg_ifF (u := n202) rfl xnm0 (xj_eqF hc204)) ?_
              have hcl : cL (B af1) = false := cL_f (by omega)
              have hcd : cD (B af1) = true := cD_t (by omega)
              refine xg_t (xg_aload (va := (2, 42)) rfl rfl) ?_
              refine xg_cVv mX8_takeDigits (vs := []) (rest := []) (cn1 := 0) (sl1 := 0) rfl (tkDgtX42 (hI200) (hF201.get (by decide) (hF190.get (by decide) hk180)) (by omega) (by omega) (by omega) (by omega) (by omega) (hB.fr ((((hF21.tr (xFr.of (S := [42]) hb181 (by decide))).tr (hF190.up (by decide))).tr (hF201.up (by decide))).1 2 (by decide))) (by omega)) rfl (hF201.get (by decide) (hF190.get (by decide) hk180)) rfl rfl rfl rfl rfl rfl (fun w238 hq239 => ?_)
              obtain ⟨hI240, hF241, hx242⟩ := hq239
              obtain ⟨hd243, hd244, hd245, hd246, hd247⟩ := hx242
              refine xg_t (xg_goto) ?_
              refine xg_t (xg_blq rfl) ?_
              obtain ⟨k1, k2⟩ := tk_num (B := B) (n := nn) (p := f42_7) (by omega) (by rw [hq]; exact hcl) (by rw [hq]; exact hcd)
              rw [hq] at k2
              rw [k2, hq] at k1
              have hv : tnu B nn f42_7 = dgv B af1 (min 4 (prn cD B nn af1 - af1)) := by unfold tnu; rw [k2, hq]
              have hT : TKw 42 B nn w238 f42_7 := ⟨⟨hd243, hd246.trans k1.symm, hd244.trans hq.symm, hd245.trans k2.symm, by omega⟩, fun _ => hd247.trans hv.symm⟩
              exact xg_e ⟨w238, ⟨rfl, rfl⟩, hI240, ((((hF21.tr (xFr.of (S := [42]) hb181 (by decide))).tr (hF190.up (by decide))).tr (hF201.up (by decide))).tr (hF241.up (by decide))), by rw [q4_]; exact hT⟩
          · refine xg_t (xg_ifF (u := n191) rfl xnm0 (xj_eqF hc193)) ?_
            have hcl : cL (B af1) = true := cL_t (by omega)
            refine xg_t (xg_aload (va := (2, 42)) rfl rfl) ?_
            refine xg_t (xg_const) ?_
            refine xg_putI (fl1 := [(2, 2), (0, le1), (0, 1), (0, af1), (0, af1), (0, nu1)]) (hF190.get (by decide) hk180) rfl rfl rfl (fun w248 hk249 hb250 => ?_)
            have key251 : ∀ (m253 : Nat) (le2 kd2 pl2 af2 nu2 : Nat) (w254 : List (List xE)), 500 - af2 < m253 → le2 ≤ 500 → kd2 ≤ 4294967295 → pl2 ≤ 500 → af2 ≤ 500 → nu2 ≤ 4294967295 → wget w254 42 = some (.inl (8, [(2, 2), (0, le2), (0, kd2), (0, pl2), (0, af2), (0, nu2)])) → (kd2 = 0 ∨ pl2 ≤ 499) → xInv w254 → xFr [42] w w254 → (le2 = nn ∧ kd2 = 1 ∧ pl2 = af1 ∧ af1 ≤ af2 ∧ prn cL B nn af2 = prn cL B nn af1) → xTo (d + 2) mX8_advance (99, [], [(0, (2, 42))], [], (w254, bd, fc, 0, 0, rr)) (fun φ => ∃ w', xEnd 0 [] (w', bd, fc, 0, 0, rr) φ ∧ xInv w' ∧ xFr [42] w w' ∧ (TKw 42 B nn w' (fld w 42 4))) := by
              intro m253
              induction m253 with
              | zero => intro le2 kd2 pl2 af2 nu2 w254 hz; exact absurd hz (Nat.not_lt_zero _)
              | succ m253 ih252 =>
                intro le2 kd2 pl2 af2 nu2 w254 hm265 hn257 hn258 hn259 hn260 hn261 hcl262 hx263 hI255 hF256 he264
                obtain ⟨he266, he267, he268, he269, he270⟩ := he264
                refine xg_t (xg_blq rfl) ?_
                refine xg_t (xg_aload (va := (2, 42)) rfl rfl) ?_
                refine xg_t (xg_getf (va := (0, af2)) hcl262 rfl) ?_
                refine xg_t (xg_aload (va := (2, 42)) rfl rfl) ?_
                refine xg_t (xg_getf (va := (0, le2)) hcl262 rfl) ?_
                by_cases hc271 : af2 < le2
                · refine xg_t (xg_icF (u := af2) (v := le2) rfl xnm0 xnm0 (xj_geF hc271 (by omega))) ?_
                  refine xg_t (xg_aload (va := (2, 42)) rfl rfl) ?_
                  refine xg_t (xg_getf (va := (2, 2)) hcl262 rfl) ?_
                  refine xg_t (xg_aload (va := (2, 42)) rfl rfl) ?_
                  refine xg_t (xg_getf (va := (0, af2)) hcl262 rfl) ?_
                  refine xg_baldY (n := af2) (h2_14.fr hF256 (by decide)) (hb15) xnm0 (by omega) (fun u272 hu273 he274 => ?_)
                  have hB275 : B af2 = u272 % 256 := by rw [← he274]; exact (hBg _ (by omega)).symm
                  refine xg_cSi mX8_isLetter (vs := [(0, u272)]) (rest := []) (cn1 := 0) (sl1 := 0) rfl (tkLetX (hI255) (by omega)) rfl rfl rfl rfl rfl rfl rfl (fun n280 w276 hq277 => ?_)
                  obtain ⟨hn281, hI278, hF279⟩ := hq277
                  by_cases hc282 : n280 = 0
                  · refine xg_t (xg_ifT (u := n280) rfl xnm0 (xj_eqT hc282)) ?_
                    refine xg_t (xg_blq rfl) ?_
                    have hq283 : fld w276 42 1 = le2 := fld_of (hF279.get (by decide) hcl262)
                    have hq284 : fld w276 42 2 = kd2 := fld_of (hF279.get (by decide) hcl262)
                    have hq285 : fld w276 42 3 = pl2 := fld_of (hF279.get (by decide) hcl262)
                    have hq286 : fld w276 42 4 = af2 := fld_of (hF279.get (by decide) hcl262)
                    have hq287 : fld w276 42 5 = nu2 := fld_of (hF279.get (by decide) hcl262)
                    obtain ⟨k1, k2⟩ := tk_word (B := B) (n := nn) (p := f42_7) (by omega) (by rw [hq]; exact hcl)
                    rw [hq] at k2
                    have ha : prn cL B nn af2 = af2 := by first | exact prn_e (by omega) | exact prn_n (cL_f (by omega))
                    have hT : TKw 42 B nn w276 f42_7 := ⟨⟨by omega, by omega, by omega, by omega, by omega⟩, fun z => by omega⟩
                    exact xg_e ⟨w276, ⟨rfl, rfl⟩, hI278, (hF256.tr (hF279.up (by decide))), by rw [q4_]; exact hT⟩
                  · refine xg_t (xg_ifF (u := n280) rfl xnm0 (xj_eqF hc282)) ?_
                    refine xg_t (xg_aload (va := (2, 42)) rfl rfl) ?_
                    refine xg_t (xg_dup rfl) ?_
                    refine xg_t (xg_getf (va := (0, af2)) (hF279.get (by decide) hcl262) rfl) ?_
                    refine xg_t (xg_const) ?_
                    refine xg_t (xg_iadd (u := af2) (v := 1) (z := af2 + 1) xnm0 xnm0 (by omega)) ?_
                    refine xg_putI (fl1 := [(2, 2), (0, le2), (0, kd2), (0, pl2), (0, af2 + 1), (0, nu2)]) (hF279.get (by decide) hcl262) rfl rfl rfl (fun w288 hk289 hb290 => ?_)
                    refine xg_t (xg_goto) ?_
                    have hy291 := prn_y (c := cL) (B := B) (n := nn) (p := af2) (by omega) (cL_t (by omega))
                    exact ih252 le2 kd2 pl2 (af2 + 1) nu2 w288 (by omega) (hn257) (hn258) (hn259) (by omega) (hn261) hk289 (by omega) (xInv.up (S := [42]) hI278 (xFr.of (S := [42]) hb290 (by decide)) (List.forall_mem_cons.mpr ⟨xqu42 (show cp42 (wget w288 42) from xmC42 le2 kd2 pl2 (af2 + 1) nu2 hk289 hn257 hn258 hn259 (by omega) hn261 (by omega)), fun _ h => absurd h List.not_mem_nil⟩)) (((hF256.tr (hF279.up (by decide))).tr (xFr.of (S := [42]) hb290 (by decide)))) (⟨by omega, by omega, by omega, by omega, by omega⟩)
                · refine xg_t (xg_icT (u := af2) (v := le2) rfl xnm0 xnm0 (xj_geT (by omega) (by omega))) ?_
                  refine xg_t (xg_blq rfl) ?_
                  have hq292 : fld w254 42 1 = le2 := fld_of hcl262
                  have hq293 : fld w254 42 2 = kd2 := fld_of hcl262
                  have hq294 : fld w254 42 3 = pl2 := fld_of hcl262
                  have hq295 : fld w254 42 4 = af2 := fld_of hcl262
                  have hq296 : fld w254 42 5 = nu2 := fld_of hcl262
                  obtain ⟨k1, k2⟩ := tk_word (B := B) (n := nn) (p := f42_7) (by omega) (by rw [hq]; exact hcl)
                  rw [hq] at k2
                  have ha : prn cL B nn af2 = af2 := by first | exact prn_e (by omega) | exact prn_n (cL_f (by omega))
                  have hT : TKw 42 B nn w254 f42_7 := ⟨⟨by omega, by omega, by omega, by omega, by omega⟩, fun z => by omega⟩
                  exact xg_e ⟨w254, ⟨rfl, rfl⟩, hI255, hF256, by rw [q4_]; exact hT⟩
            exact key251 _ le1 1 af1 af1 nu1 w248 (Nat.lt_succ_self _) (hn22) (by decide) (hn25) (hn25) (hn26) hk249 (by omega) (xInv.up (S := [42]) hI189 (xFr.of (S := [42]) hb250 (by decide)) (List.forall_mem_cons.mpr ⟨xqu42 (show cp42 (wget w248 42) from xmC42 le1 1 af1 af1 nu1 hk249 hn22 (by decide) hn25 hn25 hn26 (by omega)), fun _ h => absurd h List.not_mem_nil⟩)) ((((hF21.tr (xFr.of (S := [42]) hb181 (by decide))).tr (hF190.up (by decide))).tr (xFr.of (S := [42]) hb250 (by decide)))) (⟨by omega, rfl, rfl, Nat.le_refl _, rfl⟩)
        · refine xg_t (xg_icF (u := af1) (v := le1) rfl xnm0 xnm0 (xj_ltF (by omega) (by omega))) ?_
          refine xg_t (xg_aload (va := (2, 42)) rfl rfl) ?_
          refine xg_t (xg_const) ?_
          refine xg_putI (fl1 := [(2, 2), (0, le1), (0, 0), (0, af1), (0, af1), (0, nu1)]) hk180 rfl rfl rfl (fun w297 hk298 hb299 => ?_)
          refine xg_t (xg_goto) ?_
          refine xg_t (xg_blq rfl) ?_
          have hq300 : fld w297 42 1 = le1 := fld_of hk298
          have hq301 : fld w297 42 2 = 0 := fld_of hk298
          have hq302 : fld w297 42 3 = af1 := fld_of hk298
          have hq303 : fld w297 42 4 = af1 := fld_of hk298
          have hq304 : fld w297 42 5 = nu1 := fld_of hk298
          obtain ⟨k1, k2⟩ := tk_end (B := B) (n := nn) (p := f42_7) (by omega)
          have hT : TKw 42 B nn w297 f42_7 := ⟨⟨by omega, by omega, by omega, by omega, by omega⟩, fun z => by omega⟩
          exact xg_e ⟨w297, ⟨rfl, rfl⟩, xInv.up (S := [42]) hI20 ((xFr.of (S := [42]) hb181 (by decide)).tr (xFr.of (S := [42]) hb299 (by decide))) (List.forall_mem_cons.mpr ⟨xqu42 (show cp42 (wget w297 42) from xmC42 le1 0 af1 af1 nu1 hk298 hn22 (by decide) hn25 hn25 hn26 (by omega)), fun _ h => absurd h List.not_mem_nil⟩), (hF21.tr ((xFr.of (S := [42]) hb181 (by decide)).tr (xFr.of (S := [42]) hb299 (by decide)))), by rw [q4_]; exact hT⟩
  exact key16 _ f42_1 f42_3 f42_5 f42_7 f42_9 w (Nat.lt_succ_self _) (hb2) (hb4) (hb6) (hb8) (hb10) h42_11 (by omega) (hI) (xFr.rf) (⟨by omega, by omega, rfl⟩)
theorem tkStaX42 {B : Nat → Nat} {nl : Nat} (hI : xInv w) (h1 : nl ≤ 500) (hB : bsr w B nl) : xPq (d + 3) mX8_start [(2, 42), (0, nl)] w bd fc rr [] (fun w' => xInv w' ∧ xFr [42] w w' ∧ (TKw 42 B nl w' 0)) := by
  refine xPq.of ?_
  show xTo (d + 3) mX8_start (0, [], [(0, (2, 42)), (1, (0, nl))], [], (w, bd, fc, 0, 0, rr)) (fun φ => ∃ w', xEnd 0 [] (w', bd, fc, 0, 0, rr) φ ∧ xInv w' ∧ xFr [42] w w' ∧ (TKw 42 B nl w' 0))
  refine xg_t (xg_blq rfl) ?_
  refine xg_t (xg_aload (va := (2, 42)) rfl rfl) ?_
  refine xg_t (xg_iload (va := (0, nl)) rfl rfl) ?_
  refine xg_t (xg_aload (va := (2, 42)) rfl rfl) ?_
  refine xoC42 (xqc42 hI : cp42 (wget w 42)) (fun f42_1 f42_3 f42_5 f42_7 f42_9 h42_11 hb2 hb4 hb6 hb8 hb10 hb12 => ?_)
  refine xg_t (xg_getf (va := (2, 2)) h42_11 rfl) ?_
  obtain ⟨g2_13, h2_14, hb15⟩ := (xqc2 hI : cpY 500 0 (wget w 2))
  have h2_14 : xRk 1 0 w 2 500 0 g2_13 := h2_14
  obtain ⟨us16, ha17, ha18⟩ := id h2_14
  refine xg_t (xg_alen ha17) ?_
  refine xg_minK (u := nl) (v := 500) xnm0 xnm0 xmx_ok (by omega) (by omega) (fun z19 hz20 hz21 hz22 hz23 => ?_)
  unfold xbs at hz21 hz22
  refine xg_putI (fl1 := [(2, 2), (0, z19), (0, f42_3), (0, f42_5), (0, f42_7), (0, f42_9)]) h42_11 rfl rfl rfl (fun w24 hk25 hb26 => ?_)
  refine xg_t (xg_aload (va := (2, 42)) rfl rfl) ?_
  refine xg_t (xg_const) ?_
  refine xg_putI (fl1 := [(2, 2), (0, z19), (0, f42_3), (0, f42_5), (0, 0), (0, f42_9)]) hk25 rfl rfl rfl (fun w27 hk28 hb29 => ?_)
  refine xg_t (xg_aload (va := (2, 42)) rfl rfl) ?_
  have hq30 : fld w27 42 1 = z19 := fld_of hk28
  have hq31 : fld w27 42 4 = 0 := fld_of hk28
  refine xg_cVv mX8_advance (vs := []) (rest := []) (cn1 := 0) (sl1 := 0) rfl (tkAdvX42 (xInv.up (S := [42]) hI ((xFr.of (S := [42]) hb26 (by decide)).tr (xFr.of (S := [42]) hb29 (by decide))) (List.forall_mem_cons.mpr ⟨xqu42 (show cp42 (wget w27 42) from xmC42 z19 f42_3 f42_5 0 f42_9 hk28 (by omega) hb4 hb6 (by decide) hb10 (by omega)), fun _ h => absurd h List.not_mem_nil⟩)) (hB.fr (((xFr.of (S := [42]) hb26 (by decide)).tr (xFr.of (S := [42]) hb29 (by decide))).1 2 (by decide))) (by omega) (by omega)) rfl hk28 rfl rfl rfl rfl rfl rfl (fun w32 hq33 => ?_)
  obtain ⟨hI34, hF35, hx36⟩ := hq33
  exact xg_e ⟨w32, ⟨rfl, rfl⟩, hI34, (((xFr.of (S := [42]) hb26 (by decide)).tr (xFr.of (S := [42]) hb29 (by decide))).tr (hF35.up (by decide))), by have z := hx36; rw [hq31] at z; exact z⟩
theorem tkSigX42 {B : Nat → Nat} {nn p : Nat} {si : Nat} (hI : xInv w) (h1 : si ≤ 127) (hB : bsr w B nn) (hT : TKw 42 B nn w p) : xPi d mX8_isSign [(2, 42), (0, si)] w bd fc rr (fun n w' => ((n = 1 ∧ tkd B nn p = 3 ∧ B (tq B nn p) = si) ∨ (n = 0 ∧ ¬ (tkd B nn p = 3 ∧ B (tq B nn p) = si))) ∧ xInv w' ∧ xFr [] w w') := by
  refine xPi.of ?_
  show xTo d mX8_isSign (0, [], [(0, (2, 42)), (1, (0, si))], [], (w, bd, fc, 0, 0, rr)) (fun φ => ∃ n w', xEnd 4 [(0, n)] (w', bd, fc, 0, 0, rr) φ ∧ ((n = 1 ∧ tkd B nn p = 3 ∧ B (tq B nn p) = si) ∨ (n = 0 ∧ ¬ (tkd B nn p = 3 ∧ B (tq B nn p) = si))) ∧ xInv w' ∧ xFr [] w w')
  refine xoC42 (xqc42 hI : cp42 (wget w 42)) (fun f42_1 f42_3 f42_5 f42_7 f42_9 h42_11 hb2 hb4 hb6 hb8 hb10 hb12 => ?_)
  obtain ⟨g2_13, h2_14, hb15⟩ := (xqc2 hI : cpY 500 0 (wget w 2))
  have h2_14 : xRk 1 0 w 2 500 0 g2_13 := h2_14
  have hBn := hB.1
  have hBg : ∀ j, j < nn → g2_13 j % 256 = B j := fun j h => by
    have q := hB.2 j h
    rw [rwk_of h2_14 (by omega)] at q
    exact q
  have hq16 : fld w 42 1 = f42_1 := fld_of h42_11
  have hq17 : fld w 42 2 = f42_3 := fld_of h42_11
  have hq18 : fld w 42 3 = f42_5 := fld_of h42_11
  have hq19 : fld w 42 4 = f42_7 := fld_of h42_11
  have hq20 : fld w 42 5 = f42_9 := fld_of h42_11
  obtain ⟨⟨hT1, hT2, hT3, hT4, hT6⟩, -⟩ := hT
  refine xg_t (xg_blq rfl) ?_
  refine xg_t (xg_aload (va := (2, 42)) rfl rfl) ?_
  refine xg_t (xg_getf (va := (0, f42_3)) h42_11 rfl) ?_
  refine xg_t (xg_const) ?_
  by_cases hc21 : f42_3 = 3
  · refine xg_t (xg_icF (u := f42_3) (v := 3) rfl xnm0 xnm0 (xj_neF hc21)) ?_
    have hz := tf_gt (B := B) (n := nn) (p := p) (by omega)
    refine xg_t (xg_aload (va := (2, 42)) rfl rfl) ?_
    refine xg_t (xg_getf (va := (2, 2)) h42_11 rfl) ?_
    refine xg_t (xg_aload (va := (2, 42)) rfl rfl) ?_
    refine xg_t (xg_getf (va := (0, f42_5)) h42_11 rfl) ?_
    refine xg_baldY (n := f42_5) h2_14 (hb15) xnm0 (by omega) (fun u22 hu23 he24 => ?_)
    have hB25 : B f42_5 = u22 % 256 := by rw [← he24]; exact (hBg _ (by omega)).symm
    refine xg_t (xg_iload (va := (0, si)) rfl rfl) ?_
    by_cases hc26 : u22 = si
    · refine xg_t (xg_icF (u := u22) (v := si) rfl xnm0 xnm0 (xj_neF hc26)) ?_
      refine xg_t (xg_const) ?_
      refine xg_t (xg_goto) ?_
      refine xg_t (xg_blq rfl) ?_
      exact xg_e ⟨1, w, ⟨rfl, rfl⟩, Or.inl ⟨rfl, by omega, by rw [show tq B nn p = f42_5 by omega]; omega⟩, hI, xFr.rf⟩
    · refine xg_t (xg_icT (u := u22) (v := si) rfl xnm0 xnm0 (xj_neT hc26)) ?_
      refine xg_t (xg_blq rfl) ?_
      refine xg_t (xg_const) ?_
      refine xg_t (xg_blq rfl) ?_
      exact xg_e ⟨0, w, ⟨rfl, rfl⟩, Or.inr ⟨rfl, fun z => by have z1 := z.1; have z2 := z.2; rw [show tq B nn p = f42_5 by omega] at z2; omega⟩, hI, xFr.rf⟩
  · refine xg_t (xg_icT (u := f42_3) (v := 3) rfl xnm0 xnm0 (xj_neT hc21)) ?_
    refine xg_t (xg_blq rfl) ?_
    refine xg_t (xg_const) ?_
    refine xg_t (xg_blq rfl) ?_
    exact xg_e ⟨0, w, ⟨rfl, rfl⟩, Or.inr ⟨rfl, fun z => by have z1 := z.1; have z2 := z.2; rw [show tq B nn p = f42_5 by omega] at z2; omega⟩, hI, xFr.rf⟩
theorem tkWrdX42 {i : Nat} {qb : List Nat} {C : Nat} {B : Nat → Nat} {nn p : Nat} (hI : xInv w) (hi : xget xsbt i = some qb) (hB : bsr w B nn) (hT : TKw 42 B nn w p) (hC : qcd qb = C) : xPi (d + 4) mX8_isWord [(2, 42), (8, 100 + i)] w bd fc rr (fun n w' => ((n = 1 ∧ twk B nn p = C) ∨ (n = 0 ∧ twk B nn p ≠ C)) ∧ xInv w' ∧ xFr [] w w') := by
  refine xPi.of ?_
  show xTo (d + 4) mX8_isWord (0, [], [(0, (2, 42)), (1, (8, 100 + i))], [], (w, bd, fc, 0, 0, rr)) (fun φ => ∃ n w', xEnd 4 [(0, n)] (w', bd, fc, 0, 0, rr) φ ∧ ((n = 1 ∧ twk B nn p = C) ∨ (n = 0 ∧ twk B nn p ≠ C)) ∧ xInv w' ∧ xFr [] w w')
  obtain ⟨hl6, hq7⟩ := xsbt_ok hi
  obtain ⟨hl1, hql⟩ := xsbt_let hi
  refine xoC42 (xqc42 hI : cp42 (wget w 42)) (fun f42_1 f42_3 f42_5 f42_7 f42_9 h42_11 hb2 hb4 hb6 hb8 hb10 hb12 => ?_)
  obtain ⟨g2_13, h2_14, hb15⟩ := (xqc2 hI : cpY 500 0 (wget w 2))
  have h2_14 : xRk 1 0 w 2 500 0 g2_13 := h2_14
  have hBn := hB.1
  have hBg : ∀ j, j < nn → g2_13 j % 256 = B j := fun j h => by
    have q := hB.2 j h
    rw [rwk_of h2_14 (by omega)] at q
    exact q
  have hq16 : fld w 42 1 = f42_1 := fld_of h42_11
  have hq17 : fld w 42 2 = f42_3 := fld_of h42_11
  have hq18 : fld w 42 3 = f42_5 := fld_of h42_11
  have hq19 : fld w 42 4 = f42_7 := fld_of h42_11
  have hq20 : fld w 42 5 = f42_9 := fld_of h42_11
  obtain ⟨⟨hT1, hT2, hT3, hT4, hT6⟩, -⟩ := hT
  refine xg_t (xg_blq rfl) ?_
  refine xg_t (xg_aload (va := (2, 42)) rfl rfl) ?_
  refine xg_t (xg_getf (va := (0, f42_3)) h42_11 rfl) ?_
  refine xg_t (xg_const) ?_
  have hz0 := tf_ge (B := B) (n := nn) (p := p)
  have hz1 := tf_le (B := B) (n := nn) (p := p) (by omega)
  by_cases hc21 : f42_3 = 1
  · refine xg_t (xg_icF (u := f42_3) (v := 1) rfl xnm0 xnm0 (xj_neF hc21)) ?_
    refine xg_t (xg_aload (va := (2, 42)) rfl rfl) ?_
    refine xg_t (xg_getf (va := (0, f42_7)) h42_11 rfl) ?_
    refine xg_t (xg_aload (va := (2, 42)) rfl rfl) ?_
    refine xg_t (xg_getf (va := (0, f42_5)) h42_11 rfl) ?_
    refine xg_t (xg_isub (u := f42_7) (v := f42_5) (z := f42_7 - f42_5) xnm0 xnm0 (by omega)) ?_
    refine xg_t (xg_aload (va := (8, 100 + i)) rfl rfl) ?_
    refine xg_t (xg_slen (i := i) (qb := qb) (Nat.zero_le _) (Nat.zero_le _) (Nat.le_of_ble_eq_true rfl) hi (by omega)) ?_
    by_cases hc22 : (f42_7 - f42_5) = qb.length
    · refine xg_t (xg_icT (u := f42_7 - f42_5) (v := qb.length) rfl xnm0 xnm0 (xj_eqT hc22)) ?_
      refine xg_t (xg_blq rfl) ?_
      refine xg_t (xg_const) ?_
      refine xg_t (xg_istore (l1 := [(0, (2, 42)), (1, (8, 100 + i))]) rfl rfl rfl) ?_
      refine xg_t (xg_drop (l1 := [(0, (2, 42)), (1, (8, 100 + i)), (2, (0, 0))]) (List.forall_mem_cons.mpr ⟨List.mem_cons_of_mem _ (List.mem_cons_self), List.forall_mem_cons.mpr ⟨List.mem_cons_of_mem _ (List.mem_cons_of_mem _ (List.mem_cons_self)), List.forall_mem_cons.mpr ⟨List.mem_cons_self, fun _ h => absurd h List.not_mem_nil⟩⟩⟩)) ?_
      have key23 : ∀ (m25 : Nat) (ki : Nat) (w26 : List (List xE)), qb.length - ki < m25 → ki ≤ 6 → xInv w26 → xFr [] w w26 → (∀ j, j < ki → B (f42_5 + j) = qb.getD j 0) → xTo (d + 4) mX8_isWord (28, [], [(0, (2, 42)), (1, (8, 100 + i)), (2, (0, ki))], [], (w26, bd, fc, 0, 0, rr)) (fun φ => ∃ n w', xEnd 4 [(0, n)] (w', bd, fc, 0, 0, rr) φ ∧ ((n = 1 ∧ twk B nn p = C) ∨ (n = 0 ∧ twk B nn p ≠ C)) ∧ xInv w' ∧ xFr [] w w') := by
        intro m25
        induction m25 with
        | zero => intro ki w26 hz; exact absurd hz (Nat.not_lt_zero _)
        | succ m25 ih24 =>
          intro ki w26 hm31 hn29 hI27 hF28 he30
          refine xg_t (xg_blq rfl) ?_
          refine xg_t (xg_iload (va := (0, ki)) rfl rfl) ?_
          refine xg_t (xg_aload (va := (8, 100 + i)) rfl rfl) ?_
          refine xg_t (xg_slen (i := i) (qb := qb) (Nat.zero_le _) (Nat.zero_le _) (Nat.le_of_ble_eq_true rfl) hi (by omega)) ?_
          by_cases hc32 : ki < qb.length
          · refine xg_t (xg_icF (u := ki) (v := qb.length) rfl xnm0 xnm0 (xj_geF hc32 (by omega))) ?_
            refine xg_t (xg_aload (va := (2, 42)) rfl rfl) ?_
            refine xg_t (xg_getf (va := (2, 2)) (hF28.get (by decide) h42_11) rfl) ?_
            refine xg_t (xg_aload (va := (2, 42)) rfl rfl) ?_
            refine xg_t (xg_getf (va := (0, f42_5)) (hF28.get (by decide) h42_11) rfl) ?_
            refine xg_t (xg_iload (va := (0, ki)) rfl rfl) ?_
            refine xg_t (xg_iadd (u := f42_5) (v := ki) (z := f42_5 + ki) xnm0 xnm0 (by omega)) ?_
            refine xg_baldY (n := f42_5 + ki) (h2_14.fr hF28 (by decide)) (hb15) xnm0 (by omega) (fun u33 hu34 he35 => ?_)
            have hB36 : B (f42_5 + ki) = u33 % 256 := by rw [← he35]; exact (hBg _ (by omega)).symm
            refine xg_t (xg_aload (va := (8, 100 + i)) rfl rfl) ?_
            refine xg_t (xg_iload (va := (0, ki)) rfl rfl) ?_
            refine xg_t (xg_char (i := i) (qb := qb) (n := ki) (Nat.zero_le _) (Nat.zero_le _) (Nat.le_of_ble_eq_true rfl) hi (by omega) xnm0 (by omega) (hq7 _)) ?_
            have hz38 := hq7 ki
            generalize hge39 : qb.getD ki 0 = ch37 at hz38 ⊢
            by_cases hc40 : u33 = ch37
            · refine xg_t (xg_icT (u := u33) (v := ch37) rfl xnm0 xnm0 (xj_eqT hc40)) ?_
              refine xg_t (xg_blq rfl) ?_
              refine xg_t (xg_iinc (u := ki) (z := ki + 1) (l1 := [(0, (2, 42)), (1, (8, 100 + i))]) rfl rfl (by omega) rfl) ?_
              refine xg_t (xg_goto) ?_
              refine xg_t (xg_drop (l1 := [(0, (2, 42)), (1, (8, 100 + i)), (2, (0, ki + 1))]) (List.forall_mem_cons.mpr ⟨List.mem_cons_of_mem _ (List.mem_cons_self), List.forall_mem_cons.mpr ⟨List.mem_cons_of_mem _ (List.mem_cons_of_mem _ (List.mem_cons_self)), List.forall_mem_cons.mpr ⟨List.mem_cons_self, fun _ h => absurd h List.not_mem_nil⟩⟩⟩)) ?_
              have hy41 : ∀ j, j < ki + 1 → B (f42_5 + j) = qb.getD j 0 := fun j hj => by
                by_cases e : j = ki
                · rw [e, hge39]; omega
                · exact he30 j (by omega)
              exact ih24 (ki + 1) w26 (by omega) (by omega) (hI27) (hF28) (hy41)
            · refine xg_t (xg_icF (u := u33) (v := ch37) rfl xnm0 xnm0 (xj_eqF hc40)) ?_
              refine xg_t (xg_const) ?_
              have hn42 : twk B nn p ≠ qcd qb := twk_n hql hl1 (fun z => by
                have z1 := z.1
                have z2 := z.2.1
                have z3 := z.2.2 ki (by omega)
                rw [show tq B nn p = f42_5 by omega, hge39] at z3
                omega)
              exact xg_e ⟨0, w26, ⟨rfl, rfl⟩, Or.inr ⟨rfl, fun z => hn42 (z.trans hC.symm)⟩, hI27, hF28⟩
          · refine xg_t (xg_icT (u := ki) (v := qb.length) rfl xnm0 xnm0 (xj_geT (by omega) (by omega))) ?_
            refine xg_t (xg_blq rfl) ?_
            refine xg_t (xg_const) ?_
            have hn43 : twk B nn p = qcd qb := twk_y hql hl6 (by omega) (by omega) (fun j hj => by rw [show tq B nn p = f42_5 by omega]; exact he30 j (by omega))
            exact xg_e ⟨1, w26, ⟨rfl, rfl⟩, Or.inl ⟨rfl, hn43.trans hC⟩, hI27, hF28⟩
      exact key23 _ 0 w (Nat.lt_succ_self _) (by omega) (hI) (xFr.rf) (fun j hj => absurd hj (Nat.not_lt_zero _))
    · refine xg_t (xg_icF (u := f42_7 - f42_5) (v := qb.length) rfl xnm0 xnm0 (xj_eqF hc22)) ?_
      refine xg_t (xg_blq rfl) ?_
      refine xg_t (xg_const) ?_
      have hn44 : twk B nn p ≠ qcd qb := twk_n hql hl1 (fun z => by
        have z1 := z.1
        have z2 := z.2.1
        omega)
      exact xg_e ⟨0, w, ⟨rfl, rfl⟩, Or.inr ⟨rfl, fun z => hn44 (z.trans hC.symm)⟩, hI, xFr.rf⟩
  · refine xg_t (xg_icT (u := f42_3) (v := 1) rfl xnm0 xnm0 (xj_neT hc21)) ?_
    refine xg_t (xg_blq rfl) ?_
    refine xg_t (xg_const) ?_
    have hn45 : twk B nn p ≠ qcd qb := twk_n hql hl1 (fun z => by
      have z1 := z.1
      have z2 := z.2.1
      omega)
    exact xg_e ⟨0, w, ⟨rfl, rfl⟩, Or.inr ⟨rfl, fun z => hn45 (z.trans hC.symm)⟩, hI, xFr.rf⟩
end XFCA
