/-! how the table of methods is checked -/
def xplB (e : xI) : Bool := (Nat.beq e.2.1 1 && Nat.blt e.2.2.2.1 4) || Nat.beq e.2.1 2
def xpnB (n : Nat) (e : xI) : Bool := Nat.beq e.2.1 n
def xpcB (n : Nat) (e : xI) : Bool := Nat.beq e.2.1 n && Nat.blt e.2.2.2.1 4294967296
def xnoB (_ : xI) : Bool := false
theorem xpl_ok {own : String} {e : xI} (h : xplB e = true) : xPl own e := by
  rcases Bool.or_eq_true_iff.mp h with h | h
  · obtain ⟨h1, h2⟩ := Bool.and_eq_true_iff.mp h
    exact Or.inl ⟨xbeq h1, xblt h2⟩
  · exact Or.inr (xbeq h)
theorem xpn_ok {n : Nat} {own : String} {e : xI} (h : xpnB n e = true) : xPn n own e := xbeq h
theorem xpc_ok {n : Nat} {own : String} {e : xI} (h : xpcB n e = true) : xPc n own e := by
  obtain ⟨h1, h2⟩ := Bool.and_eq_true_iff.mp h
  exact ⟨xbeq h1, xblt h2⟩
/-- the links that a check must be given; none for the others -/
def xsb : List (xI → Bool) := [xplB, xnoB, xplB, xpcB 1, fun e => xpcB 2 e && (Nat.blt e.2.2.2.1 128 || Nat.ble 4294967168 e.2.2.2.1), fun e => xpcB 3 e && (Nat.blt e.2.2.2.1 32768 || Nat.ble 4294934528 e.2.2.2.1), fun e => xpnB 3 e && Nat.blt e.2.2.2.2.1 6, fun e => xpnB 3 e && Nat.blt e.2.2.2.2.1 6, xpnB 3, fun e => xpnB 3 e && Nat.blt e.2.2.2.2.1 4294967296, xpnB 1, xpnB 1, fun e => xpnB 1 e && Nat.blt e.2.2.2.2.1 4, xnoB, xnoB, xplB, xpnB 1, xpnB 1, xpnB 1, xpnB 1, xpnB 1, xpnB 1, xnoB, xpnB 2, xnoB, xnoB, xpnB 1, xplB, xpnB 1, xpnB 1, xpnB 1, xpnB 1, xpnB 1, xnoB, xnoB, xnoB, xnoB, xnoB, xpnB 1, xpnB 1, xpnB 1, xpnB 1, xpnB 1, xpnB 3, xpnB 3, xpnB 1, xnoB, xpnB 1, xpnB 1, xpnB 1, xpnB 1, fun e => xpnB 1 e && Nat.blt e.2.2.2.1 2, xnoB, xplB, xplB, xpnB 1, xpnB 1, xpnB 1, xnoB, xnoB, xnoB, xnoB, xnoB, xnoB, xpnB 1, xpnB 1, xpnB 1, xpnB 1, xpnB 1, xpnB 1, xpnB 1, xnoB, xnoB, xnoB, xnoB, xnoB, xnoB, xnoB]
def xsP (q : xTi × (xI → Bool)) : Prop := ∀ (own : String) (e : xI), q.2 e = true → q.1.2 own e
theorem xno_ok {q : xTi} : xsP (q, xnoB) := fun _ _ h => by cases h
theorem xsb_ok : ∀ q ∈ xopi.zip xsb, xsP q := by
  have L : ∀ {a : xI → Instr}, xsP ((a, xPl), xplB) := fun o _ h => xpl_ok (own := o) h
  have Y : ∀ {a : xI → Instr} {n k : Nat}, xsP ((a, fun o e => xPn n o e ∧ e.2.2.2.2.1 < k), fun e => xpnB n e && Nat.blt e.2.2.2.2.1 k) := fun o _ h => ⟨xpn_ok (own := o) (Bool.and_eq_true_iff.mp h).1, xblt (Bool.and_eq_true_iff.mp h).2⟩
  have P : ∀ {a : xI → Instr} {n : Nat}, xsP ((a, xPn n), xpnB n) := fun o _ h => xpn_ok (own := o) h
  unfold xopi xsb
  simp only [List.zip_cons_cons, List.zip_nil_left, List.zip_nil_right, List.forall_mem_cons]
  refine ⟨L, xno_ok, L, fun o _ h => xpc_ok (own := o) h, fun o e h => ?_, fun o e h => ?_, Y, Y, P, Y, P, P, Y, xno_ok, xno_ok, L, P, P, P, P, P, P, xno_ok, P, xno_ok, xno_ok, P, L, P, P, P, P, P, xno_ok, xno_ok, xno_ok, xno_ok, xno_ok, P, P, P, P, P, P, P, P, xno_ok, P, P, P, P, fun o e h => ⟨xpn_ok (own := o) (Bool.and_eq_true_iff.mp h).1, xblt (Bool.and_eq_true_iff.mp h).2⟩, xno_ok, L, L, P, P, P, xno_ok, xno_ok, xno_ok, xno_ok, xno_ok, xno_ok, P, P, P, P, P, P, P, xno_ok, xno_ok, xno_ok, xno_ok, xno_ok, xno_ok, xno_ok, fun _ h => absurd h List.not_mem_nil⟩
  · obtain ⟨h1, h2⟩ := Bool.and_eq_true_iff.mp h
    exact ⟨xpc_ok (own := o) h1, (Bool.or_eq_true_iff.mp h2).imp xblt xble⟩
  · obtain ⟨h1, h2⟩ := Bool.and_eq_true_iff.mp h
    exact ⟨xpc_ok (own := o) h1, (Bool.or_eq_true_iff.mp h2).imp xblt xble⟩
abbrev xL := Nat × Nat × Nat × Nat × Nat
/-- a link holds wherever it stands -/
def xlops : List Nat := [1, 13, 14, 22, 24, 25, 35, 36, 37, 46, 52, 58, 59, 60, 61, 62, 63, 71, 72, 73, 74, 75, 76, 77]
theorem xlk_pc {own : String} {q : xL} {pc : Nat} : ∀ k ∈ xlops, ∀ t : xTi, xget xopi k = some t → t.2 own (0, q) → t.2 own (pc, q) := by
  intro k hk
  simp only [xlops, List.mem_cons, List.not_mem_nil, or_false] at hk
  rcases hk with rfl | rfl | rfl | rfl | rfl | rfl | rfl | rfl | rfl | rfl | rfl | rfl | rfl | rfl | rfl | rfl | rfl | rfl | rfl | rfl | rfl | rfl | rfl | rfl <;> (intro t h; cases h; exact id)
def xLq (own : String) (q : xL) : Prop := q.2.1 ∈ xlops ∧ ∃ t, xget xopi q.2.1 = some t ∧ t.2 own (0, q)
/-- a switch at its place -/
def xLs (own : String) (e : xI) : Prop := ∃ t, xget xopi e.2.2.1 = some t ∧ t.2 own e
noncomputable def xeB (cc : ByteArray) (lk : List xL) (ls : List xI) (e : xI) : Bool := (match xget xopi e.2.2.1 with
  | some t => decide (decode cc e.1 = .ok (t.1 e, e.2.1))
  | none => false) && ((match xget xsb e.2.2.1 with
  | some f => f e
  | none => false) || (decide (e.2 ∈ lk) || decide (e ∈ ls)))
noncomputable def xcB (cc : ByteArray) (lk : List xL) (ls : List xI) : List xI → Bool
  | [] => true
  | e :: tl => xeB cc lk ls e && ((match tl with
    | [] => true
    | e' :: _ => Nat.beq e'.1 (e.1 + e.2.1)) && xcB cc lk ls tl)
noncomputable def xbB (cc : ByteArray) (lk : List xL) (ls : List xI) (bl : List (Nat × List xI)) : Bool := bl.all fun b => (match b.2 with
  | [] => false
  | e :: _ => Nat.beq e.1 b.1) && xcB cc lk ls b.2
theorem xeB_ok {own : String} {cc : ByteArray} {lk : List xL} {ls : List xI} (hk : ∀ q ∈ lk, xLq own q) (hs : ∀ e ∈ ls, xLs own e) {e : xI} (h : xeB cc lk ls e = true) : xeok own cc e := by
  obtain ⟨h1, h2⟩ := Bool.and_eq_true_iff.mp h
  cases ht : xget xopi e.2.2.1 with
  | none => rw [ht] at h1; cases h1
  | some t =>
    rw [ht] at h1
    refine ⟨t, ht, of_decide_eq_true h1, ?_⟩
    rcases Bool.or_eq_true_iff.mp h2 with h3 | h3
    · cases hf : xget xsb e.2.2.1 with
      | none => rw [hf] at h3; cases h3
      | some f =>
        rw [hf] at h3
        rw [xget_eq] at ht hf
        have hz : (xopi.zip xsb)[e.2.2.1]? = some (t, f) := by
          rw [List.getElem?_zip_eq_some]
          exact ⟨ht, hf⟩
        exact xsb_ok _ (List.mem_of_getElem? hz) own e h3
    · rcases Bool.or_eq_true_iff.mp h3 with h4 | h4
      · obtain ⟨e0, t', e1, e2⟩ := hk _ (of_decide_eq_true h4)
        have e1 : xget xopi e.2.2.1 = some t' := e1
        rw [ht] at e1
        cases e1
        exact xlk_pc _ e0 _ ht e2
      · obtain ⟨t', e1, e2⟩ := hs _ (of_decide_eq_true h4)
        rw [ht] at e1
        cases e1
        exact e2
theorem xcB_ok {own : String} {cc : ByteArray} {lk : List xL} {ls : List xI} (hk : ∀ q ∈ lk, xLq own q) (hs : ∀ e ∈ ls, xLs own e) : ∀ {l : List xI}, xcB cc lk ls l = true → xcok own cc l
  | [], _ => trivial
  | e :: tl, h => by
    obtain ⟨h1, h2⟩ := Bool.and_eq_true_iff.mp h
    obtain ⟨h3, h4⟩ := Bool.and_eq_true_iff.mp h2
    refine ⟨xeB_ok hk hs h1, ?_, xcB_ok hk hs h4⟩
    cases tl with
    | nil => trivial
    | cons a b => exact xbeq h3
theorem xbB_ok {own : String} {cc : ByteArray} {lk : List xL} {ls : List xI} (hk : ∀ q ∈ lk, xLq own q) (hs : ∀ e ∈ ls, xLs own e) {bl : List (Nat × List xI)} (h : xbB cc lk ls bl = true) : ∀ b ∈ bl, xbok own cc b := by
  intro b hb
  obtain ⟨h1, h2⟩ := Bool.and_eq_true_iff.mp (List.all_eq_true.mp h b hb)
  refine ⟨?_, xcB_ok hk hs h2⟩
  obtain ⟨k, l⟩ := b
  cases l with
  | nil => cases h1
  | cons e tl => exact xbeq h1
theorem xno_sw {own : String} : ∀ e ∈ ([] : List xI), xLs own e := fun _ h => absurd h List.not_mem_nil
