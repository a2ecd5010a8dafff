/-! what a state of the kernel's machine promises of the real one -/
/-- the few that go another way -/
def xNw (s : State) : Prop := (∀ (own : String) (ix : Nat) (y : MethodName) (host : String), Cond.methodLinkNest own ix y host ∈ lw_tbl → va_Nw (.methodLinkNest own ix y host) s) ∧ va_AO "BentScreens$Told" s
def xsbt : List (List Nat) := [[115, 108, 105, 100, 101], [104, 111, 108, 100], [108, 97, 121, 101, 114], [108, 105, 102, 101], [102, 111, 108, 100, 115], [112, 97, 110, 101, 108], [102, 108, 97, 119], [115, 104, 101, 101, 116], [110, 101, 116], [115, 108, 105, 100, 101, 115], [119, 104, 111, 108, 101], [108, 97, 121, 101, 114, 115], [108, 101, 97, 115, 116], [114, 111, 119, 115], [102, 101, 100], [100, 97, 114, 107, 115], [119, 111, 114, 116, 104], [99, 114, 97, 99, 107, 115], [107, 101, 112, 116], [100, 97, 121], [105, 102], [110, 111, 116], [97, 110, 100], [98, 97, 114], [112, 114, 105, 99, 101], [108, 101, 115, 115]]
/-- a text constant: the object, its bytes -/
def xSp (a b : Nat) (q : List Nat) (A : Nat → Prop) (U : State) (H : Heap) : Prop := va_O "java/lang/String" a A U H ∧ va_OF "java/lang/String" "coder" "B" (.int 0) a A U H ∧ va_OF "java/lang/String" "value" "[B" (.ref b) a A U H ∧ va_T .byte b q.length (fun j => .int (nI (q.getD j 0))) A U H
def xSt (A : Nat → Prop) (U : State) (H : Heap) : Prop := va_Z "java/lang/String" "COMPACT_STRINGS" "Z" (.int 1) A U H ∧ va_Zq "jdk/internal/util/Preconditions" "SIOOBE_FORMATTER" "Ljava/util/function/BiFunction;" A U H
def xStr (g : xG) (A : Nat → Prop) (s : State) (H : Heap) : Prop := (∀ (i : Nat) (q : List Nat), xget xsbt i = some q → xSp (g.2.2 (100 + i)) (g.2.2 (200 + i)) q A s H) ∧ (∀ (own : String) (ix : Nat) (tx : String) (i : Nat), Cond.stringRef own ix tx ∈ lw_tbl → xget xstrs i = some tx → vk_R own ix tx (g.2.2 (100 + i)) s) ∧ xSt A s H
def xStat (g : xG) (A : Nat → Prop) (s : State) (H : Heap) : Prop := (∀ (i : Nat) (q : String × String × List Nat), xget xst i = some q → va_Z q.1 q.2.1 "[I" (.ref (g.2.2 i)) A s H ∧ va_T .int (g.2.2 i) q.2.2.length (fun j => .int (nI (q.2.2.getD j 0))) A s H) ∧ xStr g A s H
def xScr (g : xG) (A : Nat → Prop) (s : State) (io0 : List Nat) : Prop := ∃ xs : Nat → Int32, va_X g.2.1 (g.2.2 98) xs s s.heap ∧ g.2.1 < s.heap.size ∧ ¬ A g.2.1 ∧ ∀ j, j < g.2.2 98 → ∃ u, xget io0 j = some u ∧ xs j = nI u
def xCx (p : Program) (R : Room) (s : State) (m : MethodId) (args : Array Value) (meth : Method) (c : Code) (A : Nat → Prop) (g : xG) (io0 : List Nat) (d : Nat) (M : xM) : Prop :=
  p.tables.exec = Jvm.exec ∧ c.code = M.2.1 ∧ c.maxLocals = M.2.2.1 ∧ s.vm.findClass M.1.cls = some m.cls ∧ (∀ w ∈ lw_gt, w.before args s = true) ∧ (∀ q, s.heap.size ≤ q → A q) ∧ (d ≤ R.frames ∧ 84 * d ≤ R.locals ∧ M.2.2.2.2.2.2.1 ≤ R.cells ∧ M.2.2.2.2.2.2.2.1 ≤ R.slots) ∧ meth.name = M.1.name ∧ xStat g A s s.heap ∧ (g.1 = true → xScr g A s io0) ∧ xNw s
def xOk (p : Program) (l : Launch) (e : Env) (R : Room) (s : State) (m : MethodId) (args : Array Value) (below : List Frame) (meth : Method) (c : Code) (D : va_G) (A : Nat → Prop) (nL : Nat) (g : xG) (cw0 : xWc) (tys0 : xTy) (io0 : List Nat) (Q : State → Prop) (σ : xS) : Prop :=
  ∀ (cw : xWc) (tys : xTy) (io : List Nat) (H : Heap) (locs : List Loc) (ls : Array Slot) (lv : List (Nat × Value)) (sv : List Value), xExt cw0 tys0 io0 cw tys io → va_K D vwCl tys s → va_P D vwCl cw.flatten H → va_D A cw.flatten → va_S A s.heap H locs → lv_has ls nL lv → xrel (fun (x : Nat × xV) (y : Nat × Value) => x.1 = y.1 ∧ xRv g cw io x.2 y.2) σ.2.2.1 lv → xrel (xRv g cw io) σ.2.2.2.1 sv → xRh g σ.2.2.2.2 cw tys io → W p l e R s m args below meth c H locs σ.2.2.2.2.2.2.2.1 σ.2.2.2.2.2.2.2.2.1 Q (F0 m σ.1 ls sv)
abbrev xT := (xI → Instr) × (String → xI → Prop) × xF
section XOK
variable {p : Program} {l : Launch} {e : Env} {R : Room} {s : State} {m : MethodId} {args : Array Value} {below : List Frame} {meth : Method} {c : Code} {D : va_G} {A : Nat → Prop} {nL : Nat} {g : xG} {cw0 : xWc} {tys0 : xTy} {io0 : List Nat} {Q : State → Prop}
/-- only the stack changes -/
theorem xok_stk {pc pc' : Nat} {cs cs' : List xI} {lo : xLo} {st st' : List xV} {hp : xH} (h : xOk p l e R s m args below meth c D A nL g cw0 tys0 io0 Q (pc', cs', lo, st', hp))
    (hr : ∀ (cw : xWc) (io : List Nat) (sv : List Value), xrel (xRv g cw io) st sv → xRb hp.2.1 io → xRf hp.2.2.1 io → ∃ sv', xrel (xRv g cw io) st' sv' ∧ ∀ (H : Heap) (locs : List Loc) (ls : Array Slot) (cells slots : Nat), W p l e R s m args below meth c H locs cells slots Q (F0 m pc' ls sv') → W p l e R s m args below meth c H locs cells slots Q (F0 m pc ls sv)) : xOk p l e R s m args below meth c D A nL g cw0 tys0 io0 Q (pc, cs, lo, st, hp) := by
  intro cw tys io H locs ls lv sv hE hK hP hD hS hl hlo hst hh
  obtain ⟨sv', h1, h2⟩ := hr cw io sv hst hh.2.1 hh.2.2.1
  exact h2 _ _ _ _ _ (h cw tys io H locs ls lv sv' hE hK hP hD hS hl hlo h1 hh)
/-- the stack changes, and one int gets a name -/
theorem xok_new {pc pc' : Nat} {cs cs' : List xI} {lo : xLo} {st st' : List xV} {w : List (List xE)} {bd : List (Nat × Nat)} {fc : List (Nat × Nat × Bool)} {r : Nat × Nat × Nat × Nat} {b0 b1 : Nat} (h : xOk p l e R s m args below meth c D A nL g cw0 tys0 io0 Q (pc', cs', lo, (1, bd.length) :: st', (w, bd ++ [(b0, b1)], fc, r)))
    (hr : ∀ (cw : xWc) (io : List Nat) (sv : List Value), xrel (xRv g cw io) st sv → xRb bd io → xRf fc io → ∃ (u : Nat) (sv' : List Value), u < 4294967296 ∧ b0 ≤ xbs u ∧ xbs u ≤ b1 ∧ xrel (xRv g cw io) st' sv' ∧ ∀ (H : Heap) (locs : List Loc) (ls : Array Slot) (cells slots : Nat), W p l e R s m args below meth c H locs cells slots Q (F0 m pc' ls (.int (nI u) :: sv')) → W p l e R s m args below meth c H locs cells slots Q (F0 m pc ls sv)) : xOk p l e R s m args below meth c D A nL g cw0 tys0 io0 Q (pc, cs, lo, st, (w, bd, fc, r)) := by
  intro cw tys io H locs ls lv sv hE hK hP hD hS hl hlo hst hh
  obtain ⟨hw, hb, hf, ht⟩ := hh
  obtain ⟨u, sv', hu, h0, h1, h2, h3⟩ := hr cw io sv hst hb hf
  have E : xExt cw tys io cw tys (io ++ [u]) := xExt.name u
  exact h3 _ _ _ _ _ (h cw tys (io ++ [u]) H locs ls lv (.int (nI u) :: sv') (hE.tr E) hK hP hD hS hl (xrel_imp (fun a b q => ⟨q.1, q.2.ext E⟩) hlo) ⟨⟨u, hb.new u, rfl⟩, xrel_imp (fun a b q => q.ext E) h2⟩ ⟨hw.ext E, hb.app hu h0 h1, hf.ext E.2.2, ht⟩)
end XOK
/-- the ints that are known: a named one whose bounds meet is a number -/
noncomputable def xnm (bd : List (Nat × Nat)) (v : xV) : xV := cond (Nat.beq v.1 1) (Option.rec (motive := fun _ => xV) v (fun q => cond (Nat.beq q.1 q.2) (0, (q.1 + 2147483648) % 4294967296) v) (xget bd v.2)) v
theorem xnm_ok {g : xG} {cw : xWc} {bd : List (Nat × Nat)} {io : List Nat} {v : xV} {x : Value} (hb : xRb bd io) (h : xRv g cw io v x) : xRv g cw io (xnm bd v) x := by
  obtain ⟨t, n⟩ := v
  unfold xnm
  cases ht : Nat.beq t 1 with
  | false => exact h
  | true =>
    have e := xbeq ht
    subst e
    obtain ⟨u, h1, h2⟩ := h
    obtain ⟨q, h3, h4, h5, h6⟩ := hb.get h1
    show xRv g cw io (Option.rec (motive := fun _ => xV) (1, n) (fun q => cond (Nat.beq q.1 q.2) (0, (q.1 + 2147483648) % 4294967296) (1, n)) (xget bd n)) x
    rw [h3]
    show xRv g cw io (cond (Nat.beq q.1 q.2) (0, (q.1 + 2147483648) % 4294967296) (1, n)) x
    cases hq : Nat.beq q.1 q.2 with
    | false => exact ⟨u, h1, h2⟩
    | true =>
      have e := xbeq hq
      have e2 : xbs u = q.1 := by omega
      refine ⟨Nat.mod_lt _ (by decide), ?_⟩
      show x = .int (nI ((q.1 + 2147483648) % 4294967296))
      rw [← e2, xbs_inv h4]
      exact h2
/-- is it an int, a reference -/
def xisi (v : xV) : Bool := Nat.ble v.1 1
def xisr (v : xV) : Bool := cond (Nat.beq v.1 2) true (cond (Nat.beq v.1 3) true (cond (Nat.beq v.1 7) true (Nat.beq v.1 8)))
theorem xisi_ok {g : xG} {cw : xWc} {io : List Nat} {v : xV} {x : Value} (h : xisi v = true) (hv : xRv g cw io v x) : ∃ u, x = .int u := by
  obtain ⟨t, n⟩ := v
  have ht : t ≤ 1 := xble h
  rcases (show t = 0 ∨ t = 1 by omega) with rfl | rfl
  · exact ⟨_, hv.2⟩
  · obtain ⟨u, -, h2⟩ := hv
    exact ⟨_, h2⟩
theorem xisr_ok {g : xG} {cw : xWc} {io : List Nat} {v : xV} {x : Value} (h : xisr v = true) (hv : xRv g cw io v x) : (∃ a, x = .ref a) ∨ x = .null := by
  obtain ⟨t, n⟩ := v
  unfold xisr at h
  cases h1 : Nat.beq t 2 with
  | true =>
    have e := xbeq h1
    subst e
    obtain ⟨a, e, -, h2⟩ := hv
    exact Or.inl ⟨a, h2⟩
  | false =>
    cases h2 : Nat.beq t 3 with
    | true =>
      have e := xbeq h2
      subst e
      exact Or.inr hv
    | false =>
      cases h3 : Nat.beq t 7 with
      | true =>
        have e := xbeq h3
        subst e
        exact Or.inl ⟨_, hv.2⟩
      | false =>
        have h' : Nat.beq t 8 = true := by
          simp only [h1, h2, h3, cond] at h
          exact h
        have e := xbeq h'
        subst e
        exact Or.inl ⟨_, hv⟩
theorem xcat1 {g : xG} {cw : xWc} {io : List Nat} {v : xV} {x : Value} (h : (xisi v || xisr v) = true) (hv : xRv g cw io v x) : x.category = 1 := by
  rcases Bool.or_eq_true_iff.mp h with h | h
  · obtain ⟨u, rfl⟩ := xisi_ok h hv
    rfl
  · rcases xisr_ok h hv with ⟨a, rfl⟩ | rfl
    · rfl
    · rfl
