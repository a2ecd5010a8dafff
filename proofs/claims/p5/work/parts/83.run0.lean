/-! both constructors, run by the kernel -/
def xVe (a b : xV) : Bool := Nat.beq a.1 b.1 && Nat.beq a.2 b.2
def xLe {α : Type} (f : α → α → Bool) : List α → List α → Bool
  | [], [] => true
  | a :: l, b :: m => f a b && xLe f l m
  | _, _ => false
theorem xLe_ok {α : Type} {f : α → α → Bool} (hf : ∀ a b, f a b = true → a = b) : ∀ {l m : List α}, xLe f l m = true → l = m
  | [], [], _ => rfl
  | a :: l, b :: m, h => by
    obtain ⟨h1, h2⟩ := Bool.and_eq_true_iff.mp h
    rw [hf a b h1, xLe_ok hf h2]
  | [], _ :: _, h => by cases h
  | _ :: _, [], h => by cases h
theorem xVe_ok (a b : xV) (h : xVe a b = true) : a = b := xsame_ok h
def xKe (a b : Nat × xV) : Bool := Nat.beq a.1 b.1 && xVe a.2 b.2
theorem xKe_ok (a b : Nat × xV) (h : xKe a b = true) : a = b := by
  obtain ⟨h1, h2⟩ := Bool.and_eq_true_iff.mp h
  obtain ⟨a1, a2⟩ := a
  obtain ⟨b1, b2⟩ := b
  have e1 : a1 = b1 := xbeq h1
  have e2 : a2 = b2 := xVe_ok _ _ h2
  rw [e1, e2]
def xEe (a b : xE) : Bool := match a, b with
  | .inl a, .inl b => Nat.beq a.1 b.1 && xLe xVe a.2 b.2
  | .inr a, .inr b => (Nat.beq a.1 b.1 && Nat.beq a.2.1 b.2.1) && (Nat.beq a.2.2.1 b.2.2.1 && xLe xKe a.2.2.2 b.2.2.2)
  | _, _ => false
theorem xEe_ok (a b : xE) (h : xEe a b = true) : a = b := by
  cases a with
  | inl a =>
    cases b with
    | inr b => cases h
    | inl b =>
      obtain ⟨a1, a2⟩ := a
      obtain ⟨b1, b2⟩ := b
      obtain ⟨h1, h2⟩ := Bool.and_eq_true_iff.mp h
      have e1 : a1 = b1 := xbeq h1
      have e2 : a2 = b2 := xLe_ok xVe_ok h2
      rw [e1, e2]
  | inr a =>
    cases b with
    | inl b => cases h
    | inr b =>
      obtain ⟨a1, a2, a3, a4⟩ := a
      obtain ⟨b1, b2, b3, b4⟩ := b
      obtain ⟨h1, h2⟩ := Bool.and_eq_true_iff.mp h
      obtain ⟨h3, h4⟩ := Bool.and_eq_true_iff.mp h1
      obtain ⟨h5, h6⟩ := Bool.and_eq_true_iff.mp h2
      have e1 : a1 = b1 := xbeq h3
      have e2 : a2 = b2 := xbeq h4
      have e3 : a3 = b3 := xbeq h5
      have e4 : a4 = b4 := xLe_ok xKe_ok h6
      rw [e1, e2, e3, e4]
def xHe (a b : xH) : Bool := (xLe (xLe xEe) a.1 b.1 && xLe xVe a.2.1 b.2.1) && ((a.2.2.1.isEmpty && b.2.2.1.isEmpty) && ((Nat.beq a.2.2.2.1 b.2.2.2.1 && Nat.beq a.2.2.2.2.1 b.2.2.2.2.1) && (Nat.beq a.2.2.2.2.2.1 b.2.2.2.2.2.1 && Nat.beq a.2.2.2.2.2.2 b.2.2.2.2.2.2)))
theorem xHe_ok (a b : xH) (h : xHe a b = true) : a = b := by
  obtain ⟨a1, a2, a3, a4, a5, a6, a7⟩ := a
  obtain ⟨b1, b2, b3, b4, b5, b6, b7⟩ := b
  obtain ⟨h1, h2⟩ := Bool.and_eq_true_iff.mp h
  obtain ⟨h3, h4⟩ := Bool.and_eq_true_iff.mp h1
  obtain ⟨h5, h6⟩ := Bool.and_eq_true_iff.mp h2
  obtain ⟨h7, h8⟩ := Bool.and_eq_true_iff.mp h5
  obtain ⟨h9, h10⟩ := Bool.and_eq_true_iff.mp h6
  obtain ⟨h11, h12⟩ := Bool.and_eq_true_iff.mp h9
  obtain ⟨h13, h14⟩ := Bool.and_eq_true_iff.mp h10
  have e1 : a1 = b1 := xLe_ok (fun _ _ z => xLe_ok xEe_ok z) h3
  have e2 : a2 = b2 := xLe_ok xVe_ok h4
  have e3 : a3 = [] := List.isEmpty_iff.mp h7
  have e4 : b3 = [] := List.isEmpty_iff.mp h8
  have e5 : a4 = b4 := xbeq h11
  have e6 : a5 = b5 := xbeq h12
  have e7 : a6 = b6 := xbeq h13
  have e8 : a7 = b7 := xbeq h14
  rw [e1, e2, e3, e4, e5, e6, e7, e8]
def xSe (a b : xS) : Bool := (Nat.beq a.1 b.1 && (a.2.1.isEmpty && b.2.1.isEmpty)) && ((xLe xKe a.2.2.1 b.2.2.1 && xLe xVe a.2.2.2.1 b.2.2.2.1) && xHe a.2.2.2.2 b.2.2.2.2)
theorem xSe_ok (a b : xS) (h : xSe a b = true) : a = b := by
  obtain ⟨a1, a2, a3, a4, a5⟩ := a
  obtain ⟨b1, b2, b3, b4, b5⟩ := b
  obtain ⟨h1, h2⟩ := Bool.and_eq_true_iff.mp h
  obtain ⟨h3, h4⟩ := Bool.and_eq_true_iff.mp h1
  obtain ⟨h5, h6⟩ := Bool.and_eq_true_iff.mp h4
  obtain ⟨h7, h8⟩ := Bool.and_eq_true_iff.mp h2
  obtain ⟨h9, h10⟩ := Bool.and_eq_true_iff.mp h7
  have e1 : a1 = b1 := xbeq h3
  have e2 : a2 = [] := List.isEmpty_iff.mp h5
  have e3 : b2 = [] := List.isEmpty_iff.mp h6
  have e4 : a3 = b3 := xLe_ok xKe_ok h9
  have e5 : a4 = b4 := xLe_ok xVe_ok h10
  have e6 : a5 = b5 := xHe_ok _ _ h8
  rw [e1, e2, e3, e4, e5, e6]
noncomputable def xOe (o : Option (List xS)) (σ : xS) : Bool := Option.rec false (fun fs => xLe xSe fs [σ]) o
theorem xOe_ok {o : Option (List xS)} {σ : xS} (h : xOe o σ = true) : o = some [σ] := by
  cases o with
  | none => cases h
  | some fs =>
    have h : xLe xSe fs [σ] = true := h
    rw [xLe_ok xSe_ok h]
theorem xrun0 : xrun 2000 1000 mLp (0, [], [(0, (8, 99))], [], ([], [], [], 0, 0, 0, 0)) = some [(18, [], xlo0 (8, 99), [], (xW0, [], xhp0.2.2))] := xOe_ok (by decide +kernel)
theorem xW0_shp : xW0.map List.length = shp 114 := by decide +kernel
