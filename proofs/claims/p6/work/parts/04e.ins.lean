section
/-! instructions and their links: what the tables are checked against -/
noncomputable def xob {α β : Type} (o : Option α) (f : α → Option β) : Option β := Option.rec none f o
theorem xob_some {α β : Type} {o : Option α} {f : α → Option β} {r : β} (h : xob o f = some r) : ∃ a, o = some a ∧ f a = some r := by
  cases o with
  | none => cases h
  | some a => exact ⟨a, rfl, h⟩
def xif {β : Type} (c : Bool) (a : Option β) : Option β := cond c a none
theorem xif_some {β : Type} {c : Bool} {a : Option β} {r : β} (h : xif c a = some r) : c = true ∧ a = some r := by
  cases c with
  | false => cases h
  | true => exact ⟨rfl, h⟩
theorem xbeq {a b : Nat} (h : Nat.beq a b = true) : a = b := Nat.eq_of_beq_eq_true h
theorem xble {a b : Nat} (h : Nat.ble a b = true) : a ≤ b := Nat.le_of_ble_eq_true h
theorem xblt {a b : Nat} (h : Nat.blt a b = true) : a < b := Nat.le_of_ble_eq_true h
theorem xnble {a b : Nat} (h : Nat.ble a b = false) : b < a := by
  rcases Nat.lt_or_ge b a with q | q
  · exact q
  · rw [Nat.ble_eq_true_of_le q] at h; cases h
theorem xnblt {a b : Nat} (h : Nat.blt a b = false) : b ≤ a := by
  have := xnble (a := a + 1) (b := b) h
  omega
theorem xnbeq {a b : Nat} (h : Nat.beq a b = false) : a ≠ b := fun e => by rw [e, Nat.beq_refl] at h; cases h
/-- the words that every method may be told -/
def lw_gt : List Cond := lw_tbl.filter goodWord
/-- the static rows -/
def xst : List (String × String × List Nat) := [("BentScreens$Sheet", "SHORTER", [0, 0, 10, 19, 27, 34, 40, 45, 49, 52, 54]), ("BentScreens$FilmText", "NUMBERS", [3, 2, 2, 3, 2, 2, 2]), ("BentScreens$FilmText", "LEAST", [1, 1, 1, 0, 1, 0, 1, 1, 0, 1, 1, 1, 0, 0, 0, 1, 1, 0, 1, 1, 0]), ("BentScreens$FilmText", "GREATEST", [99, 99, 99, 99, 999, 0, 9999, 9999, 0, 10, 10, 999, 9, 9, 0, 10, 10, 0, 6, 6, 0])]
/-- a signed number of its pattern -/
def xsg (u : Nat) : Int := cond (Nat.blt u 2147483648) (u : Int) ((u : Int) - 4294967296)
def xf4 (n : Nat) : Fin 4 := ⟨n % 4, Nat.mod_lt _ (by decide)⟩
abbrev xTi := (xI → Instr) × (String → xI → Prop)
/-! what each instruction is, and what its links must say -/
def xcnd (y : Nat) : ClassFile.Cond := match y with
  | 0 => .eq
  | 1 => .ne
  | 2 => .lt
  | 3 => .ge
  | 4 => .gt
  | _ => .le
def xoff (e : xI) : Int := (e.2.2.2.1 : Int) - (e.1 : Int)
def xatp (y : Nat) : ClassFile.ArrayType := match y with
  | 0 => .int
  | 1 => .byte
  | 2 => .boolean
  | _ => .long
def xretI (y : Nat) : Instr := match y with
  | 0 => .return_
  | 1 => .ireturn
  | 2 => .lreturn
  | _ => .areturn
def xcalI (e : xI) : Instr := cond (Nat.ble (e.2.2.2.2.1 % 8) 1) (.invokevirtual e.2.2.2.2.2) (cond (Nat.ble (e.2.2.2.2.1 % 8) 3) (.invokestatic e.2.2.2.2.2) (.invokespecial e.2.2.2.2.2))
def xP0 (_ : String) (_ : xI) : Prop := True
def xPl (_ : String) (e : xI) : Prop := (e.2.1 = 1 ∧ e.2.2.2.1 < 4) ∨ e.2.1 = 2
def xPn (n : Nat) (_ : String) (e : xI) : Prop := e.2.1 = n
def xPc (n : Nat) (_ : String) (e : xI) : Prop := e.2.1 = n ∧ e.2.2.2.1 < 4294967296
def xPf (own : String) (e : xI) : Prop := e.2.1 = 3 ∧ ∃ q, vwCl[e.2.2.2.1]? = some q ∧ e.2.2.2.2.1 < q.2.2 ∧ Cond.fieldLink own e.2.2.2.2.2 (q.2.1 e.2.2.2.2.1).1 (q.2.1 e.2.2.2.2.1).2.1 (q.2.1 e.2.2.2.2.1).2.2.1 ∈ lw_gt
def xPp (fin : Bool) (k : FieldType → Prop) (own : String) (e : xI) : Prop := e.2.1 = 3 ∧ ∃ q ty, vwCl[e.2.2.2.1]? = some q ∧ e.2.2.2.2.1 < q.2.2 ∧ Cond.fieldLink own e.2.2.2.2.2 (q.2.1 e.2.2.2.2.1).1 (q.2.1 e.2.2.2.2.1).2.1 (q.2.1 e.2.2.2.2.1).2.2.1 ∈ lw_gt ∧ (q.2.1 e.2.2.2.2.1).2.2.2 = fin ∧ (fin = true → (q.2.1 e.2.2.2.2.1).1 = own) ∧ parseFieldDescriptor (q.2.1 e.2.2.2.2.1).2.2.1 = some ty ∧ k ty
def xtyI (ty : FieldType) : Prop := ty = .int
def xtyZ (ty : FieldType) : Prop := ty = .boolean
def xtyJ (ty : FieldType) : Prop := ty = .long
def xtyR (ty : FieldType) : Prop := (∃ n, ty = .object n) ∨ ∃ t, ty = .array t
def xPg (own : String) (e : xI) : Prop := e.2.1 = 3 ∧ ∃ q, xget xst e.2.2.2.1 = some q ∧ Cond.fieldLink own e.2.2.2.2.2 q.1 q.2.1 "[I" ∈ lw_gt
def xPnew (own : String) (e : xI) : Prop := e.2.1 = 3 ∧ ∃ q, vwCl[e.2.2.2.1]? = some q ∧ Cond.classLink own e.2.2.2.2.2 q.1 ∈ lw_gt ∧ Cond.instantiable q.1 q.2.2 ∈ lw_gt ∧ Cond.initialized q.1 ∈ lw_gt
def xPan (own : String) (e : xI) : Prop := e.2.1 = 3 ∧ Cond.classLink own e.2.2.2.2.2 "BentScreens$Told" ∈ lw_gt
def xPld (n : Nat) (own : String) (e : xI) : Prop := e.2.1 = n ∧ e.2.2.2.1 < 4294967296 ∧ Cond.constant own e.2.2.2.2.2 (nI e.2.2.2.1) ∈ lw_gt
def xPl2 (own : String) (e : xI) : Prop := e.2.1 = 3 ∧ Cond.constantLong own e.2.2.2.2.2 (lN e.2.2.2.1) ∈ lw_gt
def xPob (own : String) (e : xI) : Prop := e.2.1 = 3 ∧ Cond.methodLink own e.2.2.2.2.2 Lib.objectInit ∈ lw_gt
def xPcp (own : String) (e : xI) : Prop := e.2.1 = 3 ∧ Cond.methodLink own e.2.2.2.2.2 arraycopyName ∈ lw_gt
def xPst (own : String) (e : xI) : Prop := e.2.1 = 2 ∧ ∃ tx, xget xstrs e.2.2.2.1 = some tx ∧ Cond.stringRef own e.2.2.2.2.2 tx ∈ lw_tbl
def xPmm (y : MethodName) (own : String) (e : xI) : Prop := e.2.1 = 3 ∧ Cond.methodLink own e.2.2.2.2.2 y ∈ lw_gt
def xPca (own : String) (e : xI) : Prop := e.2.1 = 3 ∧ ∃ M' : xM, mget e.2.2.2.1 = some M' ∧ match e.2.2.2.2.1 % 8 with
  | 0 => Cond.methodLink own e.2.2.2.2.2 M'.1 ∈ lw_gt ∧ Cond.instanceMethod M'.1 ∈ lw_gt ∧ Cond.selects M'.1.cls M'.1 M'.1 ∈ lw_gt ∧ ∃ q, vwCl[e.2.2.2.2.1 / 8]? = some q ∧ q.1 = M'.1.cls
  | 1 => False
  | 2 => Cond.methodLink own e.2.2.2.2.2 M'.1 ∈ lw_gt ∧ Cond.static M'.1 ∈ lw_gt
  | 3 => ∃ host, Cond.methodLinkNest own e.2.2.2.2.2 M'.1 host ∈ lw_tbl ∧ Cond.static M'.1 ∈ lw_gt
  | 4 => Cond.methodLink own e.2.2.2.2.2 M'.1 ∈ lw_gt ∧ M'.1.name = "<init>" ∧ M'.2.2.2.1 = none ∧ M'.2.2.2.2.2.1 = 0 ∧ Cond.instanceMethod M'.1 ∈ lw_gt
  | 5 => ∃ host, Cond.methodLinkNest own e.2.2.2.2.2 M'.1 host ∈ lw_tbl ∧ M'.1.name = "<init>" ∧ M'.2.2.2.1 = none ∧ M'.2.2.2.2.2.1 = 0 ∧ Cond.instanceMethod M'.1 ∈ lw_gt
  | _ => False
/-- a switch: the instruction, and the numbers of xsws beside it -/
def xPts (_ : String) (e : xI) : Prop := ∃ (dflt lo hi : Int) (offs : Array Int) (ks : List (Nat × Nat)), xswi[e.2.2.2.2.2]? = some (.tableswitch dflt lo hi offs) ∧ xget xsws e.2.2.2.2.2 = some ks ∧ (e.1 : Int) + dflt = (e.2.2.2.1 : Int) ∧ 0 ≤ lo ∧ hi < 2147483648 ∧ hi = lo + (ks.length : Int) - 1 ∧ offs.size = ks.length ∧ ∀ j, j < ks.length → (((ks.getD j (0, 0)).1 : Int) = lo + (j : Int) ∧ (e.1 : Int) + offs.getD j 0 = ((ks.getD j (0, 0)).2 : Int))
def xPls (_ : String) (e : xI) : Prop := ∃ (dflt : Int) (ps : Array (Int × Int)) (ks : List (Nat × Nat)), xswi[e.2.2.2.2.2]? = some (.lookupswitch dflt ps) ∧ xget xsws e.2.2.2.2.2 = some ks ∧ (ps.toList.zip (ps.toList.drop 1)).all (fun (a, next) => a.1 < next.1) = true ∧ (e.1 : Int) + dflt = (e.2.2.2.1 : Int) ∧ ps.toList = ks.map (fun q => (xsg q.1, (q.2 : Int) - (e.1 : Int))) ∧ (∀ q ∈ ks, q.1 < 4294967296) ∧ (ks.map (fun q => xsg q.1)).Nodup
def xopi : List xTi := [
  (fun e => cond (Nat.beq e.2.1 1) (.aload_n (xf4 e.2.2.2.1)) (.aload e.2.2.2.1), xPl),
  (fun e => .getfield e.2.2.2.2.2, xPf),
  (fun e => cond (Nat.beq e.2.1 1) (.iload_n (xf4 e.2.2.2.1)) (.iload e.2.2.2.1), xPl),
  (fun e => .iconst (xsg e.2.2.2.1), xPc 1),
  (fun e => .bipush (xsg e.2.2.2.1), fun o e => xPc 2 o e ∧ (e.2.2.2.1 < 128 ∨ 4294967168 ≤ e.2.2.2.1)),
  (fun e => .sipush (xsg e.2.2.2.1), fun o e => xPc 3 o e ∧ (e.2.2.2.1 < 32768 ∨ 4294934528 ≤ e.2.2.2.1)),
  (fun e => .if_icmp (xcnd e.2.2.2.2.1) (xoff e), fun o e => xPn 3 o e ∧ e.2.2.2.2.1 < 6),
  (fun e => .ifCond (xcnd e.2.2.2.2.1) (xoff e), fun o e => xPn 3 o e ∧ e.2.2.2.2.1 < 6),
  (fun e => .goto (xoff e), xPn 3),
  (fun e => .iinc e.2.2.2.1 (xsg e.2.2.2.2.1), fun o e => xPn 3 o e ∧ e.2.2.2.2.1 < 4294967296),
  (fun _ => .iaload, xPn 1),
  (fun _ => .iadd, xPn 1),
  (fun e => xretI e.2.2.2.2.1, fun o e => xPn 1 o e ∧ e.2.2.2.2.1 < 4),
  (fun e => xcalI e, xPca),
  (fun e => .putfield e.2.2.2.2.2, xPp false xtyI),
  (fun e => cond (Nat.beq e.2.1 1) (.istore_n (xf4 e.2.2.2.1)) (.istore e.2.2.2.1), xPl),
  (fun _ => .imul, xPn 1),
  (fun _ => .iastore, xPn 1),
  (fun _ => .isub, xPn 1),
  (fun _ => .dup, xPn 1),
  (fun _ => .idiv, xPn 1),
  (fun _ => .irem, xPn 1),
  (fun e => .putfield e.2.2.2.2.2, xPp true xtyI),
  (fun e => .newarray (xatp e.2.2.2.2.1), xPn 2),
  (fun e => .new e.2.2.2.2.2, xPnew),
  (fun e => .invokespecial e.2.2.2.2.2, xPob),
  (fun _ => .ishl, xPn 1),
  (fun e => cond (Nat.beq e.2.1 1) (.astore_n (xf4 e.2.2.2.1)) (.astore e.2.2.2.1), xPl),
  (fun _ => .bastore, xPn 1),
  (fun _ => .ishr, xPn 1),
  (fun _ => .iand, xPn 1),
  (fun _ => .arraylength, xPn 1),
  (fun _ => .baload, xPn 1),
  (fun e => (xswi[e.2.2.2.2.2]?).getD .nop, xPts),
  (fun e => (xswi[e.2.2.2.2.2]?).getD .nop, xPls),
  (fun e => .ldc e.2.2.2.2.2, xPld 2),
  (fun e => .ldc_w e.2.2.2.2.2, xPld 3),
  (fun e => .getstatic e.2.2.2.2.2, xPg),
  (fun _ => .ior, xPn 1),
  (fun _ => .dup2, xPn 1),
  (fun _ => .pop, xPn 1),
  (fun _ => .i2b, xPn 1),
  (fun _ => .iushr, xPn 1),
  (fun e => .ifnull (xoff e), xPn 3),
  (fun e => .ifnonnull (xoff e), xPn 3),
  (fun _ => .aconst_null, xPn 1),
  (fun e => .anewarray e.2.2.2.2.2, xPan),
  (fun _ => .aaload, xPn 1),
  (fun _ => .aastore, xPn 1),
  (fun _ => .i2l, xPn 1),
  (fun _ => .l2i, xPn 1),
  (fun e => .lconst (⟨e.2.2.2.1 % 2, Nat.mod_lt _ (by decide)⟩ : Fin 2), fun o e => xPn 1 o e ∧ e.2.2.2.1 < 2),
  (fun e => .ldc2_w e.2.2.2.2.2, xPl2),
  (fun e => cond (Nat.beq e.2.1 1) (.lload_n (xf4 e.2.2.2.1)) (.lload e.2.2.2.1), xPl),
  (fun e => cond (Nat.beq e.2.1 1) (.lstore_n (xf4 e.2.2.2.1)) (.lstore e.2.2.2.1), xPl),
  (fun _ => .lmul, xPn 1),
  (fun _ => .ladd, xPn 1),
  (fun _ => .lcmp, xPn 1),
  (fun e => .invokestatic e.2.2.2.2.2, xPcp),
  (fun e => .putfield e.2.2.2.2.2, xPp false xtyZ),
  (fun e => .putfield e.2.2.2.2.2, xPp false xtyR),
  (fun e => .putfield e.2.2.2.2.2, xPp true xtyR),
  (fun e => .invokestatic e.2.2.2.2.2, xPmm Lib.Math.max.name),
  (fun e => .invokestatic e.2.2.2.2.2, xPmm Lib.Math.min.name),
  (fun _ => .laload, xPn 1),
  (fun _ => .lastore, xPn 1),
  (fun _ => .lsub, xPn 1),
  (fun _ => .ldiv, xPn 1),
  (fun _ => .lneg, xPn 1),
  (fun _ => .ineg, xPn 1),
  (fun _ => .ixor, xPn 1),
  (fun e => .putfield e.2.2.2.2.2, xPp false xtyJ),
  (fun e => .ldc e.2.2.2.2.2, xPst),
  (fun e => .invokevirtual e.2.2.2.2.2, xPmm ⟨"java/lang/String", "length", "()I"⟩),
  (fun e => .invokevirtual e.2.2.2.2.2, xPmm ⟨"java/lang/String", "charAt", "(I)C"⟩),
  (fun e => .invokestatic e.2.2.2.2.2, xPmm Lib.MathLoose.abs_long.x),
  (fun e => .invokestatic e.2.2.2.2.2, xPmm Lib.MathLoose.max_long.x),
  (fun e => .invokestatic e.2.2.2.2.2, xPmm Lib.MathLoose.min_long.x)]
/-- an instruction is what the bytes say, and its links hold -/
def xeok (own : String) (cc : ByteArray) (e : xI) : Prop := ∃ t : xTi, xget xopi e.2.2.1 = some t ∧ decode cc e.1 = .ok (t.1 e, e.2.1) ∧ t.2 own e
def xnx (e : xI) (tl : List xI) : Prop := match tl with
  | [] => True
  | e' :: _ => e'.1 = e.1 + e.2.1
def xcok (own : String) (cc : ByteArray) : List xI → Prop
  | [] => True
  | e :: tl => xeok own cc e ∧ xnx e tl ∧ xcok own cc tl
def xbok (own : String) (cc : ByteArray) (bl : Nat × List xI) : Prop := (match bl.2 with
  | [] => False
  | e :: _ => e.1 = bl.1) ∧ xcok own cc bl.2
def xrk (rk : Nat) (ret : Option FieldType) : Prop := match rk with
  | 0 => ret = none
  | 1 => ret = some .int
  | 2 => ret = some .long
  | 3 => ∃ t, ret = some t ∧ xtyR t
  | 4 => ret = some .boolean
  | _ => False
def xMok (M : xM) : Prop := (plainName M.1.cls = true ∧ Cond.code M.1 M.2.1 M.2.2.1 M.2.2.2.1 ∈ lw_gt ∧ Cond.initialized M.1.cls ∈ lw_gt ∧ (M.1.cls ≠ "java/lang/invoke/MethodHandle" ∧ M.1.cls ≠ "java/lang/invoke/VarHandle") ∧ (parseMethodDescriptor M.1.desc).map (fun d => d.parameters.length) = some M.2.2.2.2.1 ∧ M.2.2.1 ≤ 65 ∧ xrk M.2.2.2.2.2.1 M.2.2.2.1) ∧ ∀ bl ∈ M.2.2.2.2.2.2.2.2, xbok M.1.cls M.2.1 bl
def xMb (M : xM) : Prop := ∀ bl ∈ M.2.2.2.2.2.2.2.2, xbok M.1.cls M.2.1 bl
def xpos (M : xM) (σ : xS) : Prop := (match σ.2.1 with
  | [] => True
  | e :: _ => e.1 = σ.1) ∧ xcok M.1.cls M.2.1 σ.2.1
theorem xtb {w : Cond} (i : Nat) (h : lw_tbl[i]? = some w) (hg : goodWord w = true) : w ∈ lw_gt := List.mem_filter.mpr ⟨List.mem_of_getElem? h, hg⟩
end
section
/-! how the table of methods is checked -/
def xplB (e : xI) : Bool := (Nat.beq e.2.1 1 && Nat.blt e.2.2.2.1 4) || Nat.beq e.2.1 2
def xpnB (n : Nat) (e : xI) : Bool := Nat.beq e.2.1 n
def xpcB (n : Nat) (e : xI) : Bool := Nat.beq e.2.1 n && Nat.blt e.2.2.2.1 4294967296
def xnoB (_ : xI) : Bool := false
theorem xpl_ok {own : String} {e : xI} (h : xplB e = true) : xPl own e := by
  rcases Bool.or_eq_true_iff.mp h with h | h
  · obtain ⟨h1, h2⟩ := Bool.and_eq_true_iff.mp h
    exact Or.inl ⟨xbeq h1, xblt h2⟩
  · exact Or.inr (xbeq h)
theorem xpn_ok {n : Nat} {own : String} {e : xI} (h : xpnB n e = true) : xPn n own e := xbeq h
theorem xpc_ok {n : Nat} {own : String} {e : xI} (h : xpcB n e = true) : xPc n own e := by
  obtain ⟨h1, h2⟩ := Bool.and_eq_true_iff.mp h
  exact ⟨xbeq h1, xblt h2⟩
/-- the links that a check must be given; none for the others -/
def xsb : List (xI → Bool) := [xplB, xnoB, xplB, xpcB 1, fun e => xpcB 2 e && (Nat.blt e.2.2.2.1 128 || Nat.ble 4294967168 e.2.2.2.1), fun e => xpcB 3 e && (Nat.blt e.2.2.2.1 32768 || Nat.ble 4294934528 e.2.2.2.1), fun e => xpnB 3 e && Nat.blt e.2.2.2.2.1 6, fun e => xpnB 3 e && Nat.blt e.2.2.2.2.1 6, xpnB 3, fun e => xpnB 3 e && Nat.blt e.2.2.2.2.1 4294967296, xpnB 1, xpnB 1, fun e => xpnB 1 e && Nat.blt e.2.2.2.2.1 4, xnoB, xnoB, xplB, xpnB 1, xpnB 1, xpnB 1, xpnB 1, xpnB 1, xpnB 1, xnoB, xpnB 2, xnoB, xnoB, xpnB 1, xplB, xpnB 1, xpnB 1, xpnB 1, xpnB 1, xpnB 1, xnoB, xnoB, xnoB, xnoB, xnoB, xpnB 1, xpnB 1, xpnB 1, xpnB 1, xpnB 1, xpnB 3, xpnB 3, xpnB 1, xnoB, xpnB 1, xpnB 1, xpnB 1, xpnB 1, fun e => xpnB 1 e && Nat.blt e.2.2.2.1 2, xnoB, xplB, xplB, xpnB 1, xpnB 1, xpnB 1, xnoB, xnoB, xnoB, xnoB, xnoB, xnoB, xpnB 1, xpnB 1, xpnB 1, xpnB 1, xpnB 1, xpnB 1, xpnB 1, xnoB, xnoB, xnoB, xnoB, xnoB, xnoB, xnoB]
def xsP (q : xTi × (xI → Bool)) : Prop := ∀ (own : String) (e : xI), q.2 e = true → q.1.2 own e
theorem xno_ok {q : xTi} : xsP (q, xnoB) := fun _ _ h => by cases h
theorem xsb_ok : ∀ q ∈ xopi.zip xsb, xsP q := by
  have L : ∀ {a : xI → Instr}, xsP ((a, xPl), xplB) := fun o _ h => xpl_ok (own := o) h
  have Y : ∀ {a : xI → Instr} {n k : Nat}, xsP ((a, fun o e => xPn n o e ∧ e.2.2.2.2.1 < k), fun e => xpnB n e && Nat.blt e.2.2.2.2.1 k) := fun o _ h => ⟨xpn_ok (own := o) (Bool.and_eq_true_iff.mp h).1, xblt (Bool.and_eq_true_iff.mp h).2⟩
  have P : ∀ {a : xI → Instr} {n : Nat}, xsP ((a, xPn n), xpnB n) := fun o _ h => xpn_ok (own := o) h
  unfold xopi xsb
  simp only [List.zip_cons_cons, List.zip_nil_left, List.zip_nil_right, List.forall_mem_cons]
  refine ⟨L, xno_ok, L, fun o _ h => xpc_ok (own := o) h, fun o e h => ?_, fun o e h => ?_, Y, Y, P, Y, P, P, Y, xno_ok, xno_ok, L, P, P, P, P, P, P, xno_ok, P, xno_ok, xno_ok, P, L, P, P, P, P, P, xno_ok, xno_ok, xno_ok, xno_ok, xno_ok, P, P, P, P, P, P, P, P, xno_ok, P, P, P, P, fun o e h => ⟨xpn_ok (own := o) (Bool.and_eq_true_iff.mp h).1, xblt (Bool.and_eq_true_iff.mp h).2⟩, xno_ok, L, L, P, P, P, xno_ok, xno_ok, xno_ok, xno_ok, xno_ok, xno_ok, P, P, P, P, P, P, P, xno_ok, xno_ok, xno_ok, xno_ok, xno_ok, xno_ok, xno_ok, fun _ h => absurd h List.not_mem_nil⟩
  · obtain ⟨h1, h2⟩ := Bool.and_eq_true_iff.mp h
    exact ⟨xpc_ok (own := o) h1, (Bool.or_eq_true_iff.mp h2).imp xblt xble⟩
  · obtain ⟨h1, h2⟩ := Bool.and_eq_true_iff.mp h
    exact ⟨xpc_ok (own := o) h1, (Bool.or_eq_true_iff.mp h2).imp xblt xble⟩
abbrev xL := Nat × Nat × Nat × Nat × Nat
/-- a link holds wherever it stands -/
def xlops : List Nat := [1, 13, 14, 22, 24, 25, 35, 36, 37, 46, 52, 58, 59, 60, 61, 62, 63, 71, 72, 73, 74, 75, 76, 77]
theorem xlk_pc {own : String} {q : xL} {pc : Nat} : ∀ k ∈ xlops, ∀ t : xTi, xget xopi k = some t → t.2 own (0, q) → t.2 own (pc, q) := by
  intro k hk
  simp only [xlops, List.mem_cons, List.not_mem_nil, or_false] at hk
  rcases hk with rfl | rfl | rfl | rfl | rfl | rfl | rfl | rfl | rfl | rfl | rfl | rfl | rfl | rfl | rfl | rfl | rfl | rfl | rfl | rfl | rfl | rfl | rfl | rfl <;> (intro t h; cases h; exact id)
def xLq (own : String) (q : xL) : Prop := q.2.1 ∈ xlops ∧ ∃ t, xget xopi q.2.1 = some t ∧ t.2 own (0, q)
/-- a switch at its place -/
def xLs (own : String) (e : xI) : Prop := ∃ t, xget xopi e.2.2.1 = some t ∧ t.2 own e
noncomputable def xeB (cc : ByteArray) (lk : List xL) (ls : List xI) (e : xI) : Bool := (match xget xopi e.2.2.1 with
  | some t => decide (decode cc e.1 = .ok (t.1 e, e.2.1))
  | none => false) && ((match xget xsb e.2.2.1 with
  | some f => f e
  | none => false) || (decide (e.2 ∈ lk) || decide (e ∈ ls)))
noncomputable def xcB (cc : ByteArray) (lk : List xL) (ls : List xI) : List xI → Bool
  | [] => true
  | e :: tl => xeB cc lk ls e && ((match tl with
    | [] => true
    | e' :: _ => Nat.beq e'.1 (e.1 + e.2.1)) && xcB cc lk ls tl)
noncomputable def xbB (cc : ByteArray) (lk : List xL) (ls : List xI) (bl : List (Nat × List xI)) : Bool := bl.all fun b => (match b.2 with
  | [] => false
  | e :: _ => Nat.beq e.1 b.1) && xcB cc lk ls b.2
theorem xeB_ok {own : String} {cc : ByteArray} {lk : List xL} {ls : List xI} (hk : ∀ q ∈ lk, xLq own q) (hs : ∀ e ∈ ls, xLs own e) {e : xI} (h : xeB cc lk ls e = true) : xeok own cc e := by
  obtain ⟨h1, h2⟩ := Bool.and_eq_true_iff.mp h
  cases ht : xget xopi e.2.2.1 with
  | none => rw [ht] at h1; cases h1
  | some t =>
    rw [ht] at h1
    refine ⟨t, ht, of_decide_eq_true h1, ?_⟩
    rcases Bool.or_eq_true_iff.mp h2 with h3 | h3
    · cases hf : xget xsb e.2.2.1 with
      | none => rw [hf] at h3; cases h3
      | some f =>
        rw [hf] at h3
        rw [xget_eq] at ht hf
        have hz : (xopi.zip xsb)[e.2.2.1]? = some (t, f) := by
          rw [List.getElem?_zip_eq_some]
          exact ⟨ht, hf⟩
        exact xsb_ok _ (List.mem_of_getElem? hz) own e h3
    · rcases Bool.or_eq_true_iff.mp h3 with h4 | h4
      · obtain ⟨e0, t', e1, e2⟩ := hk _ (of_decide_eq_true h4)
        have e1 : xget xopi e.2.2.1 = some t' := e1
        rw [ht] at e1
        cases e1
        exact xlk_pc _ e0 _ ht e2
      · obtain ⟨t', e1, e2⟩ := hs _ (of_decide_eq_true h4)
        rw [ht] at e1
        cases e1
        exact e2
theorem xcB_ok {own : String} {cc : ByteArray} {lk : List xL} {ls : List xI} (hk : ∀ q ∈ lk, xLq own q) (hs : ∀ e ∈ ls, xLs own e) : ∀ {l : List xI}, xcB cc lk ls l = true → xcok own cc l
  | [], _ => trivial
  | e :: tl, h => by
    obtain ⟨h1, h2⟩ := Bool.and_eq_true_iff.mp h
    obtain ⟨h3, h4⟩ := Bool.and_eq_true_iff.mp h2
    refine ⟨xeB_ok hk hs h1, ?_, xcB_ok hk hs h4⟩
    cases tl with
    | nil => trivial
    | cons a b => exact xbeq h3
theorem xbB_ok {own : String} {cc : ByteArray} {lk : List xL} {ls : List xI} (hk : ∀ q ∈ lk, xLq own q) (hs : ∀ e ∈ ls, xLs own e) {bl : List (Nat × List xI)} (h : xbB cc lk ls bl = true) : ∀ b ∈ bl, xbok own cc b := by
  intro b hb
  obtain ⟨h1, h2⟩ := Bool.and_eq_true_iff.mp (List.all_eq_true.mp h b hb)
  refine ⟨?_, xcB_ok hk hs h2⟩
  obtain ⟨k, l⟩ := b
  cases l with
  | nil => cases h1
  | cons e tl => exact xbeq h1
theorem xno_sw {own : String} : ∀ e ∈ ([] : List xI), xLs own e := fun _ h => absurd h List.not_mem_nil
end
section
/-! instructions read more quickly: by a tree over the first byte -/
section XDC
variable {cc : ByteArray} {pc p q b b1 b2 op : Nat} {α β : Type}
/-- the byte at p is b -/
def xrd (cc : ByteArray) (p b : Nat) : Prop := Reader.runAt (Reader.u1 : Decoder Nat) cc p = .ok (b, p + 1)
theorem xr_bind {x : Decoder α} {f : α → Decoder β} {a : α} {r : Except DecodeError (β × Nat)} (h : Reader.runAt x cc p = .ok (a, q)) (k : Reader.runAt (f a) cc q = r) : Reader.runAt (x >>= f) cc p = r := by
  show Except.bind (Reader.runAt x cc p) (fun z => Reader.runAt (f z.1) cc z.2) = r
  rw [h]
  exact k
theorem xr_map {x : Decoder α} {g : α → β} {a : α} (h : Reader.runAt x cc p = .ok (a, q)) : Reader.runAt (g <$> x) cc p = .ok (g a, q) := by
  show Except.bind (Reader.runAt x cc p) (fun z => Except.ok (g z.1, z.2)) = _
  rw [h]
  rfl
theorem xr_pure {a : α} : Reader.runAt (pure a : Decoder α) cc p = .ok (a, p) := rfl
theorem xr_u2 (h1 : xrd cc p b1) (h2 : xrd cc (p + 1) b2) : Reader.runAt (Reader.u2 : Decoder Nat) cc p = .ok (b1 * 256 + b2, p + 1 + 1) := xr_bind h1 (xr_bind h2 rfl)
theorem xo_u1 {k : Nat → Instr} (h : xrd cc p b) : Reader.runAt ((Reader.u1 : Decoder Nat) >>= fun x => pure (k x)) cc p = .ok (k b, p + 1) := xr_bind h rfl
theorem xo_s1 {k : Int → Instr} (h : xrd cc p b) : Reader.runAt ((Reader.s1 : Decoder Int) >>= fun x => pure (k x)) cc p = .ok (k (Reader.signed 8 b), p + 1) := xr_bind (xr_map h) rfl
theorem xo_u2 {k : Nat → Instr} (h1 : xrd cc p b1) (h2 : xrd cc (p + 1) b2) : Reader.runAt ((Reader.u2 : Decoder Nat) >>= fun x => pure (k x)) cc p = .ok (k (b1 * 256 + b2), p + 1 + 1) := xr_bind (xr_u2 h1 h2) rfl
theorem xo_s2 {k : Int → Instr} (h1 : xrd cc p b1) (h2 : xrd cc (p + 1) b2) : Reader.runAt ((Reader.s2 : Decoder Int) >>= fun x => pure (k x)) cc p = .ok (k (Reader.signed 16 (b1 * 256 + b2)), p + 1 + 1) := xr_bind (xr_map (xr_u2 h1 h2)) rfl
theorem xo_ii {k : Nat → Int → Instr} (h1 : xrd cc p b1) (h2 : xrd cc (p + 1) b2) : Reader.runAt ((Reader.u1 : Decoder Nat) >>= fun x => (Reader.s1 : Decoder Int) >>= fun y => pure (k x y)) cc p = .ok (k b1 (Reader.signed 8 b2), p + 1 + 1) := xr_bind h1 (xr_bind (xr_map h2) rfl)
/-- what follows the first byte -/
def xdbody (pc : Nat) : { f : Nat → Decoder Instr // Decoder.instr pc = (Reader.u1 : Decoder Nat) >>= f } := ⟨_, rfl⟩
theorem xdk {i : Instr} (h : xrd cc pc op) (k : Reader.runAt ((xdbody pc).1 op) cc (pc + 1) = .ok (i, q)) : decode cc pc = .ok (i, q - pc) := by
  have e : Reader.runAt (Decoder.instr pc) cc pc = .ok (i, q) := by
    rw [(xdbody pc).2]
    exact xr_bind h k
  show Except.bind (Reader.runAt (Decoder.instr pc) cc pc) (fun z => Except.ok (z.1, z.2 - pc)) = _
  rw [e]
  rfl
theorem xdk1 {i : Instr} (h : xrd cc pc op) (k : Reader.runAt ((xdbody pc).1 op) cc (pc + 1) = .ok (i, pc + 1)) : decode cc pc = .ok (i, 1) := by
  rw [xdk h k, Nat.add_sub_cancel_left]
theorem xdk2 {i : Instr} (h : xrd cc pc op) (k : Reader.runAt ((xdbody pc).1 op) cc (pc + 1) = .ok (i, pc + 1 + 1)) : decode cc pc = .ok (i, 2) := by
  rw [xdk h k, Nat.add_assoc, Nat.add_sub_cancel_left]
theorem xdk3 {i : Instr} (h : xrd cc pc op) (k : Reader.runAt ((xdbody pc).1 op) cc (pc + 1) = .ok (i, pc + 1 + 1 + 1)) : decode cc pc = .ok (i, 3) := by
  rw [xdk h k, Nat.add_assoc, Nat.add_assoc, Nat.add_sub_cancel_left]
theorem dk_1 (h : xrd cc pc 1) : decode cc pc = .ok (.aconst_null, 1) := xdk1 h rfl
theorem dk_2 (h : xrd cc pc 2) : decode cc pc = .ok (.iconst (-1), 1) := xdk1 h rfl
theorem dk_3 (h : xrd cc pc 3) : decode cc pc = .ok (.iconst (0), 1) := xdk1 h rfl
theorem dk_4 (h : xrd cc pc 4) : decode cc pc = .ok (.iconst (1), 1) := xdk1 h rfl
theorem dk_5 (h : xrd cc pc 5) : decode cc pc = .ok (.iconst (2), 1) := xdk1 h rfl
theorem dk_6 (h : xrd cc pc 6) : decode cc pc = .ok (.iconst (3), 1) := xdk1 h rfl
theorem dk_7 (h : xrd cc pc 7) : decode cc pc = .ok (.iconst (4), 1) := xdk1 h rfl
theorem dk_8 (h : xrd cc pc 8) : decode cc pc = .ok (.iconst (5), 1) := xdk1 h rfl
theorem dk_9 (h : xrd cc pc 9) : decode cc pc = .ok (.lconst 0, 1) := xdk1 h rfl
theorem dk_10 (h : xrd cc pc 10) : decode cc pc = .ok (.lconst 1, 1) := xdk1 h rfl
theorem dk_16 (h : xrd cc pc 16) (h1 : xrd cc (pc + 1) b1) : decode cc pc = .ok (.bipush (Reader.signed 8 b1), 2) := xdk2 h (xo_s1 (k := fun x => .bipush x) h1)
theorem dk_17 (h : xrd cc pc 17) (h1 : xrd cc (pc + 1) b1) (h2 : xrd cc (pc + 1 + 1) b2) : decode cc pc = .ok (.sipush (Reader.signed 16 (b1 * 256 + b2)), 3) := xdk3 h (xo_s2 (k := fun x => .sipush x) h1 h2)
theorem dk_18 (h : xrd cc pc 18) (h1 : xrd cc (pc + 1) b1) : decode cc pc = .ok (.ldc b1, 2) := xdk2 h (xo_u1 (k := fun x => .ldc x) h1)
theorem dk_19 (h : xrd cc pc 19) (h1 : xrd cc (pc + 1) b1) (h2 : xrd cc (pc + 1 + 1) b2) : decode cc pc = .ok (.ldc_w (b1 * 256 + b2), 3) := xdk3 h (xo_u2 (k := fun x => .ldc_w x) h1 h2)
theorem dk_20 (h : xrd cc pc 20) (h1 : xrd cc (pc + 1) b1) (h2 : xrd cc (pc + 1 + 1) b2) : decode cc pc = .ok (.ldc2_w (b1 * 256 + b2), 3) := xdk3 h (xo_u2 (k := fun x => .ldc2_w x) h1 h2)
theorem dk_21 (h : xrd cc pc 21) (h1 : xrd cc (pc + 1) b1) : decode cc pc = .ok (.iload b1, 2) := xdk2 h (xo_u1 (k := fun x => .iload x) h1)
theorem dk_22 (h : xrd cc pc 22) (h1 : xrd cc (pc + 1) b1) : decode cc pc = .ok (.lload b1, 2) := xdk2 h (xo_u1 (k := fun x => .lload x) h1)
theorem dk_25 (h : xrd cc pc 25) (h1 : xrd cc (pc + 1) b1) : decode cc pc = .ok (.aload b1, 2) := xdk2 h (xo_u1 (k := fun x => .aload x) h1)
theorem dk_26 (h : xrd cc pc 26) : decode cc pc = .ok (.iload_n 0, 1) := xdk1 h rfl
theorem dk_27 (h : xrd cc pc 27) : decode cc pc = .ok (.iload_n 1, 1) := xdk1 h rfl
theorem dk_28 (h : xrd cc pc 28) : decode cc pc = .ok (.iload_n 2, 1) := xdk1 h rfl
theorem dk_29 (h : xrd cc pc 29) : decode cc pc = .ok (.iload_n 3, 1) := xdk1 h rfl
theorem dk_30 (h : xrd cc pc 30) : decode cc pc = .ok (.lload_n 0, 1) := xdk1 h rfl
theorem dk_31 (h : xrd cc pc 31) : decode cc pc = .ok (.lload_n 1, 1) := xdk1 h rfl
theorem dk_32 (h : xrd cc pc 32) : decode cc pc = .ok (.lload_n 2, 1) := xdk1 h rfl
theorem dk_33 (h : xrd cc pc 33) : decode cc pc = .ok (.lload_n 3, 1) := xdk1 h rfl
theorem dk_42 (h : xrd cc pc 42) : decode cc pc = .ok (.aload_n 0, 1) := xdk1 h rfl
theorem dk_43 (h : xrd cc pc 43) : decode cc pc = .ok (.aload_n 1, 1) := xdk1 h rfl
theorem dk_44 (h : xrd cc pc 44) : decode cc pc = .ok (.aload_n 2, 1) := xdk1 h rfl
theorem dk_45 (h : xrd cc pc 45) : decode cc pc = .ok (.aload_n 3, 1) := xdk1 h rfl
theorem dk_46 (h : xrd cc pc 46) : decode cc pc = .ok (.iaload, 1) := xdk1 h rfl
theorem dk_47 (h : xrd cc pc 47) : decode cc pc = .ok (.laload, 1) := xdk1 h rfl
theorem dk_50 (h : xrd cc pc 50) : decode cc pc = .ok (.aaload, 1) := xdk1 h rfl
theorem dk_51 (h : xrd cc pc 51) : decode cc pc = .ok (.baload, 1) := xdk1 h rfl
theorem dk_54 (h : xrd cc pc 54) (h1 : xrd cc (pc + 1) b1) : decode cc pc = .ok (.istore b1, 2) := xdk2 h (xo_u1 (k := fun x => .istore x) h1)
theorem dk_55 (h : xrd cc pc 55) (h1 : xrd cc (pc + 1) b1) : decode cc pc = .ok (.lstore b1, 2) := xdk2 h (xo_u1 (k := fun x => .lstore x) h1)
theorem dk_58 (h : xrd cc pc 58) (h1 : xrd cc (pc + 1) b1) : decode cc pc = .ok (.astore b1, 2) := xdk2 h (xo_u1 (k := fun x => .astore x) h1)
theorem dk_59 (h : xrd cc pc 59) : decode cc pc = .ok (.istore_n 0, 1) := xdk1 h rfl
theorem dk_60 (h : xrd cc pc 60) : decode cc pc = .ok (.istore_n 1, 1) := xdk1 h rfl
theorem dk_61 (h : xrd cc pc 61) : decode cc pc = .ok (.istore_n 2, 1) := xdk1 h rfl
theorem dk_62 (h : xrd cc pc 62) : decode cc pc = .ok (.istore_n 3, 1) := xdk1 h rfl
theorem dk_63 (h : xrd cc pc 63) : decode cc pc = .ok (.lstore_n 0, 1) := xdk1 h rfl
theorem dk_64 (h : xrd cc pc 64) : decode cc pc = .ok (.lstore_n 1, 1) := xdk1 h rfl
theorem dk_65 (h : xrd cc pc 65) : decode cc pc = .ok (.lstore_n 2, 1) := xdk1 h rfl
theorem dk_66 (h : xrd cc pc 66) : decode cc pc = .ok (.lstore_n 3, 1) := xdk1 h rfl
theorem dk_75 (h : xrd cc pc 75) : decode cc pc = .ok (.astore_n 0, 1) := xdk1 h rfl
theorem dk_76 (h : xrd cc pc 76) : decode cc pc = .ok (.astore_n 1, 1) := xdk1 h rfl
theorem dk_77 (h : xrd cc pc 77) : decode cc pc = .ok (.astore_n 2, 1) := xdk1 h rfl
theorem dk_78 (h : xrd cc pc 78) : decode cc pc = .ok (.astore_n 3, 1) := xdk1 h rfl
theorem dk_79 (h : xrd cc pc 79) : decode cc pc = .ok (.iastore, 1) := xdk1 h rfl
theorem dk_80 (h : xrd cc pc 80) : decode cc pc = .ok (.lastore, 1) := xdk1 h rfl
theorem dk_83 (h : xrd cc pc 83) : decode cc pc = .ok (.aastore, 1) := xdk1 h rfl
theorem dk_84 (h : xrd cc pc 84) : decode cc pc = .ok (.bastore, 1) := xdk1 h rfl
theorem dk_87 (h : xrd cc pc 87) : decode cc pc = .ok (.pop, 1) := xdk1 h rfl
theorem dk_89 (h : xrd cc pc 89) : decode cc pc = .ok (.dup, 1) := xdk1 h rfl
theorem dk_92 (h : xrd cc pc 92) : decode cc pc = .ok (.dup2, 1) := xdk1 h rfl
theorem dk_96 (h : xrd cc pc 96) : decode cc pc = .ok (.iadd, 1) := xdk1 h rfl
theorem dk_97 (h : xrd cc pc 97) : decode cc pc = .ok (.ladd, 1) := xdk1 h rfl
theorem dk_100 (h : xrd cc pc 100) : decode cc pc = .ok (.isub, 1) := xdk1 h rfl
theorem dk_101 (h : xrd cc pc 101) : decode cc pc = .ok (.lsub, 1) := xdk1 h rfl
theorem dk_104 (h : xrd cc pc 104) : decode cc pc = .ok (.imul, 1) := xdk1 h rfl
theorem dk_105 (h : xrd cc pc 105) : decode cc pc = .ok (.lmul, 1) := xdk1 h rfl
theorem dk_108 (h : xrd cc pc 108) : decode cc pc = .ok (.idiv, 1) := xdk1 h rfl
theorem dk_109 (h : xrd cc pc 109) : decode cc pc = .ok (.ldiv, 1) := xdk1 h rfl
theorem dk_112 (h : xrd cc pc 112) : decode cc pc = .ok (.irem, 1) := xdk1 h rfl
theorem dk_116 (h : xrd cc pc 116) : decode cc pc = .ok (.ineg, 1) := xdk1 h rfl
theorem dk_117 (h : xrd cc pc 117) : decode cc pc = .ok (.lneg, 1) := xdk1 h rfl
theorem dk_120 (h : xrd cc pc 120) : decode cc pc = .ok (.ishl, 1) := xdk1 h rfl
theorem dk_122 (h : xrd cc pc 122) : decode cc pc = .ok (.ishr, 1) := xdk1 h rfl
theorem dk_124 (h : xrd cc pc 124) : decode cc pc = .ok (.iushr, 1) := xdk1 h rfl
theorem dk_126 (h : xrd cc pc 126) : decode cc pc = .ok (.iand, 1) := xdk1 h rfl
theorem dk_128 (h : xrd cc pc 128) : decode cc pc = .ok (.ior, 1) := xdk1 h rfl
theorem dk_130 (h : xrd cc pc 130) : decode cc pc = .ok (.ixor, 1) := xdk1 h rfl
theorem dk_132 (h : xrd cc pc 132) (h1 : xrd cc (pc + 1) b1) (h2 : xrd cc (pc + 1 + 1) b2) : decode cc pc = .ok (.iinc b1 (Reader.signed 8 b2), 3) := xdk3 h (xo_ii (k := fun x y => .iinc x y) h1 h2)
theorem dk_133 (h : xrd cc pc 133) : decode cc pc = .ok (.i2l, 1) := xdk1 h rfl
theorem dk_136 (h : xrd cc pc 136) : decode cc pc = .ok (.l2i, 1) := xdk1 h rfl
theorem dk_145 (h : xrd cc pc 145) : decode cc pc = .ok (.i2b, 1) := xdk1 h rfl
theorem dk_148 (h : xrd cc pc 148) : decode cc pc = .ok (.lcmp, 1) := xdk1 h rfl
theorem dk_153 (h : xrd cc pc 153) (h1 : xrd cc (pc + 1) b1) (h2 : xrd cc (pc + 1 + 1) b2) : decode cc pc = .ok (.ifCond .eq (Reader.signed 16 (b1 * 256 + b2)), 3) := xdk3 h (xo_s2 (k := fun x => .ifCond .eq x) h1 h2)
theorem dk_154 (h : xrd cc pc 154) (h1 : xrd cc (pc + 1) b1) (h2 : xrd cc (pc + 1 + 1) b2) : decode cc pc = .ok (.ifCond .ne (Reader.signed 16 (b1 * 256 + b2)), 3) := xdk3 h (xo_s2 (k := fun x => .ifCond .ne x) h1 h2)
theorem dk_155 (h : xrd cc pc 155) (h1 : xrd cc (pc + 1) b1) (h2 : xrd cc (pc + 1 + 1) b2) : decode cc pc = .ok (.ifCond .lt (Reader.signed 16 (b1 * 256 + b2)), 3) := xdk3 h (xo_s2 (k := fun x => .ifCond .lt x) h1 h2)
theorem dk_156 (h : xrd cc pc 156) (h1 : xrd cc (pc + 1) b1) (h2 : xrd cc (pc + 1 + 1) b2) : decode cc pc = .ok (.ifCond .ge (Reader.signed 16 (b1 * 256 + b2)), 3) := xdk3 h (xo_s2 (k := fun x => .ifCond .ge x) h1 h2)
theorem dk_157 (h : xrd cc pc 157) (h1 : xrd cc (pc + 1) b1) (h2 : xrd cc (pc + 1 + 1) b2) : decode cc pc = .ok (.ifCond .gt (Reader.signed 16 (b1 * 256 + b2)), 3) := xdk3 h (xo_s2 (k := fun x => .ifCond .gt x) h1 h2)
theorem dk_158 (h : xrd cc pc 158) (h1 : xrd cc (pc + 1) b1) (h2 : xrd cc (pc + 1 + 1) b2) : decode cc pc = .ok (.ifCond .le (Reader.signed 16 (b1 * 256 + b2)), 3) := xdk3 h (xo_s2 (k := fun x => .ifCond .le x) h1 h2)
theorem dk_159 (h : xrd cc pc 159) (h1 : xrd cc (pc + 1) b1) (h2 : xrd cc (pc + 1 + 1) b2) : decode cc pc = .ok (.if_icmp .eq (Reader.signed 16 (b1 * 256 + b2)), 3) := xdk3 h (xo_s2 (k := fun x => .if_icmp .eq x) h1 h2)
theorem dk_160 (h : xrd cc pc 160) (h1 : xrd cc (pc + 1) b1) (h2 : xrd cc (pc + 1 + 1) b2) : decode cc pc = .ok (.if_icmp .ne (Reader.signed 16 (b1 * 256 + b2)), 3) := xdk3 h (xo_s2 (k := fun x => .if_icmp .ne x) h1 h2)
theorem dk_161 (h : xrd cc pc 161) (h1 : xrd cc (pc + 1) b1) (h2 : xrd cc (pc + 1 + 1) b2) : decode cc pc = .ok (.if_icmp .lt (Reader.signed 16 (b1 * 256 + b2)), 3) := xdk3 h (xo_s2 (k := fun x => .if_icmp .lt x) h1 h2)
theorem dk_162 (h : xrd cc pc 162) (h1 : xrd cc (pc + 1) b1) (h2 : xrd cc (pc + 1 + 1) b2) : decode cc pc = .ok (.if_icmp .ge (Reader.signed 16 (b1 * 256 + b2)), 3) := xdk3 h (xo_s2 (k := fun x => .if_icmp .ge x) h1 h2)
theorem dk_163 (h : xrd cc pc 163) (h1 : xrd cc (pc + 1) b1) (h2 : xrd cc (pc + 1 + 1) b2) : decode cc pc = .ok (.if_icmp .gt (Reader.signed 16 (b1 * 256 + b2)), 3) := xdk3 h (xo_s2 (k := fun x => .if_icmp .gt x) h1 h2)
theorem dk_164 (h : xrd cc pc 164) (h1 : xrd cc (pc + 1) b1) (h2 : xrd cc (pc + 1 + 1) b2) : decode cc pc = .ok (.if_icmp .le (Reader.signed 16 (b1 * 256 + b2)), 3) := xdk3 h (xo_s2 (k := fun x => .if_icmp .le x) h1 h2)
theorem dk_167 (h : xrd cc pc 167) (h1 : xrd cc (pc + 1) b1) (h2 : xrd cc (pc + 1 + 1) b2) : decode cc pc = .ok (.goto (Reader.signed 16 (b1 * 256 + b2)), 3) := xdk3 h (xo_s2 (k := fun x => .goto x) h1 h2)
theorem dk_172 (h : xrd cc pc 172) : decode cc pc = .ok (.ireturn, 1) := xdk1 h rfl
theorem dk_173 (h : xrd cc pc 173) : decode cc pc = .ok (.lreturn, 1) := xdk1 h rfl
theorem dk_176 (h : xrd cc pc 176) : decode cc pc = .ok (.areturn, 1) := xdk1 h rfl
theorem dk_177 (h : xrd cc pc 177) : decode cc pc = .ok (.return_, 1) := xdk1 h rfl
theorem dk_178 (h : xrd cc pc 178) (h1 : xrd cc (pc + 1) b1) (h2 : xrd cc (pc + 1 + 1) b2) : decode cc pc = .ok (.getstatic (b1 * 256 + b2), 3) := xdk3 h (xo_u2 (k := fun x => .getstatic x) h1 h2)
theorem dk_180 (h : xrd cc pc 180) (h1 : xrd cc (pc + 1) b1) (h2 : xrd cc (pc + 1 + 1) b2) : decode cc pc = .ok (.getfield (b1 * 256 + b2), 3) := xdk3 h (xo_u2 (k := fun x => .getfield x) h1 h2)
theorem dk_181 (h : xrd cc pc 181) (h1 : xrd cc (pc + 1) b1) (h2 : xrd cc (pc + 1 + 1) b2) : decode cc pc = .ok (.putfield (b1 * 256 + b2), 3) := xdk3 h (xo_u2 (k := fun x => .putfield x) h1 h2)
theorem dk_182 (h : xrd cc pc 182) (h1 : xrd cc (pc + 1) b1) (h2 : xrd cc (pc + 1 + 1) b2) : decode cc pc = .ok (.invokevirtual (b1 * 256 + b2), 3) := xdk3 h (xo_u2 (k := fun x => .invokevirtual x) h1 h2)
theorem dk_183 (h : xrd cc pc 183) (h1 : xrd cc (pc + 1) b1) (h2 : xrd cc (pc + 1 + 1) b2) : decode cc pc = .ok (.invokespecial (b1 * 256 + b2), 3) := xdk3 h (xo_u2 (k := fun x => .invokespecial x) h1 h2)
theorem dk_184 (h : xrd cc pc 184) (h1 : xrd cc (pc + 1) b1) (h2 : xrd cc (pc + 1 + 1) b2) : decode cc pc = .ok (.invokestatic (b1 * 256 + b2), 3) := xdk3 h (xo_u2 (k := fun x => .invokestatic x) h1 h2)
theorem dk_187 (h : xrd cc pc 187) (h1 : xrd cc (pc + 1) b1) (h2 : xrd cc (pc + 1 + 1) b2) : decode cc pc = .ok (.new (b1 * 256 + b2), 3) := xdk3 h (xo_u2 (k := fun x => .new x) h1 h2)
theorem dk_188_4 (h : xrd cc pc 188) (h1 : xrd cc (pc + 1) 4) : decode cc pc = .ok (.newarray .boolean, 2) := xdk2 h (xr_bind h1 rfl)
theorem dk_188_8 (h : xrd cc pc 188) (h1 : xrd cc (pc + 1) 8) : decode cc pc = .ok (.newarray .byte, 2) := xdk2 h (xr_bind h1 rfl)
theorem dk_188_10 (h : xrd cc pc 188) (h1 : xrd cc (pc + 1) 10) : decode cc pc = .ok (.newarray .int, 2) := xdk2 h (xr_bind h1 rfl)
theorem dk_188_11 (h : xrd cc pc 188) (h1 : xrd cc (pc + 1) 11) : decode cc pc = .ok (.newarray .long, 2) := xdk2 h (xr_bind h1 rfl)
theorem dk_189 (h : xrd cc pc 189) (h1 : xrd cc (pc + 1) b1) (h2 : xrd cc (pc + 1 + 1) b2) : decode cc pc = .ok (.anewarray (b1 * 256 + b2), 3) := xdk3 h (xo_u2 (k := fun x => .anewarray x) h1 h2)
theorem dk_190 (h : xrd cc pc 190) : decode cc pc = .ok (.arraylength, 1) := xdk1 h rfl
theorem dk_198 (h : xrd cc pc 198) (h1 : xrd cc (pc + 1) b1) (h2 : xrd cc (pc + 1 + 1) b2) : decode cc pc = .ok (.ifnull (Reader.signed 16 (b1 * 256 + b2)), 3) := xdk3 h (xo_s2 (k := fun x => .ifnull x) h1 h2)
theorem dk_199 (h : xrd cc pc 199) (h1 : xrd cc (pc + 1) b1) (h2 : xrd cc (pc + 1 + 1) b2) : decode cc pc = .ok (.ifnonnull (Reader.signed 16 (b1 * 256 + b2)), 3) := xdk3 h (xo_s2 (k := fun x => .ifnonnull x) h1 h2)
def xfd (op b1 b2 : Nat) : Option (Instr × Nat) := cond (Nat.blt op 87) (cond (Nat.blt op 42) (cond (Nat.blt op 19) (cond (Nat.blt op 7) (cond (Nat.blt op 4) (cond (Nat.blt op 2) (cond (Nat.beq op 1) (some (.aconst_null, 1)) none) (cond (Nat.blt op 3) (cond (Nat.beq op 2) (some (.iconst (-1), 1)) none) (cond (Nat.beq op 3) (some (.iconst (0), 1)) none))) (cond (Nat.blt op 5) (cond (Nat.beq op 4) (some (.iconst (1), 1)) none) (cond (Nat.blt op 6) (cond (Nat.beq op 5) (some (.iconst (2), 1)) none) (cond (Nat.beq op 6) (some (.iconst (3), 1)) none)))) (cond (Nat.blt op 10) (cond (Nat.blt op 8) (cond (Nat.beq op 7) (some (.iconst (4), 1)) none) (cond (Nat.blt op 9) (cond (Nat.beq op 8) (some (.iconst (5), 1)) none) (cond (Nat.beq op 9) (some (.lconst 0, 1)) none))) (cond (Nat.blt op 17) (cond (Nat.blt op 16) (cond (Nat.beq op 10) (some (.lconst 1, 1)) none) (cond (Nat.beq op 16 && Nat.blt b1 256) (some (.bipush (Reader.signed 8 b1), 2)) none)) (cond (Nat.blt op 18) (cond (Nat.beq op 17 && (Nat.blt b1 256 && Nat.blt b2 256)) (some (.sipush (Reader.signed 16 (b1 * 256 + b2)), 3)) none) (cond (Nat.beq op 18 && Nat.blt b1 256) (some (.ldc b1, 2)) none))))) (cond (Nat.blt op 27) (cond (Nat.blt op 22) (cond (Nat.blt op 20) (cond (Nat.beq op 19 && (Nat.blt b1 256 && Nat.blt b2 256)) (some (.ldc_w (b1 * 256 + b2), 3)) none) (cond (Nat.blt op 21) (cond (Nat.beq op 20 && (Nat.blt b1 256 && Nat.blt b2 256)) (some (.ldc2_w (b1 * 256 + b2), 3)) none) (cond (Nat.beq op 21 && Nat.blt b1 256) (some (.iload b1, 2)) none))) (cond (Nat.blt op 25) (cond (Nat.beq op 22 && Nat.blt b1 256) (some (.lload b1, 2)) none) (cond (Nat.blt op 26) (cond (Nat.beq op 25 && Nat.blt b1 256) (some (.aload b1, 2)) none) (cond (Nat.beq op 26) (some (.iload_n 0, 1)) none)))) (cond (Nat.blt op 30) (cond (Nat.blt op 28) (cond (Nat.beq op 27) (some (.iload_n 1, 1)) none) (cond (Nat.blt op 29) (cond (Nat.beq op 28) (some (.iload_n 2, 1)) none) (cond (Nat.beq op 29) (some (.iload_n 3, 1)) none))) (cond (Nat.blt op 32) (cond (Nat.blt op 31) (cond (Nat.beq op 30) (some (.lload_n 0, 1)) none) (cond (Nat.beq op 31) (some (.lload_n 1, 1)) none)) (cond (Nat.blt op 33) (cond (Nat.beq op 32) (some (.lload_n 2, 1)) none) (cond (Nat.beq op 33) (some (.lload_n 3, 1)) none)))))) (cond (Nat.blt op 61) (cond (Nat.blt op 50) (cond (Nat.blt op 45) (cond (Nat.blt op 43) (cond (Nat.beq op 42) (some (.aload_n 0, 1)) none) (cond (Nat.blt op 44) (cond (Nat.beq op 43) (some (.aload_n 1, 1)) none) (cond (Nat.beq op 44) (some (.aload_n 2, 1)) none))) (cond (Nat.blt op 46) (cond (Nat.beq op 45) (some (.aload_n 3, 1)) none) (cond (Nat.blt op 47) (cond (Nat.beq op 46) (some (.iaload, 1)) none) (cond (Nat.beq op 47) (some (.laload, 1)) none)))) (cond (Nat.blt op 55) (cond (Nat.blt op 51) (cond (Nat.beq op 50) (some (.aaload, 1)) none) (cond (Nat.blt op 54) (cond (Nat.beq op 51) (some (.baload, 1)) none) (cond (Nat.beq op 54 && Nat.blt b1 256) (some (.istore b1, 2)) none))) (cond (Nat.blt op 59) (cond (Nat.blt op 58) (cond (Nat.beq op 55 && Nat.blt b1 256) (some (.lstore b1, 2)) none) (cond (Nat.beq op 58 && Nat.blt b1 256) (some (.astore b1, 2)) none)) (cond (Nat.blt op 60) (cond (Nat.beq op 59) (some (.istore_n 0, 1)) none) (cond (Nat.beq op 60) (some (.istore_n 1, 1)) none))))) (cond (Nat.blt op 76) (cond (Nat.blt op 64) (cond (Nat.blt op 62) (cond (Nat.beq op 61) (some (.istore_n 2, 1)) none) (cond (Nat.blt op 63) (cond (Nat.beq op 62) (some (.istore_n 3, 1)) none) (cond (Nat.beq op 63) (some (.lstore_n 0, 1)) none))) (cond (Nat.blt op 66) (cond (Nat.blt op 65) (cond (Nat.beq op 64) (some (.lstore_n 1, 1)) none) (cond (Nat.beq op 65) (some (.lstore_n 2, 1)) none)) (cond (Nat.blt op 75) (cond (Nat.beq op 66) (some (.lstore_n 3, 1)) none) (cond (Nat.beq op 75) (some (.astore_n 0, 1)) none)))) (cond (Nat.blt op 79) (cond (Nat.blt op 77) (cond (Nat.beq op 76) (some (.astore_n 1, 1)) none) (cond (Nat.blt op 78) (cond (Nat.beq op 77) (some (.astore_n 2, 1)) none) (cond (Nat.beq op 78) (some (.astore_n 3, 1)) none))) (cond (Nat.blt op 83) (cond (Nat.blt op 80) (cond (Nat.beq op 79) (some (.iastore, 1)) none) (cond (Nat.beq op 80) (some (.lastore, 1)) none)) (cond (Nat.blt op 84) (cond (Nat.beq op 83) (some (.aastore, 1)) none) (cond (Nat.beq op 84) (some (.bastore, 1)) none))))))) (cond (Nat.blt op 155) (cond (Nat.blt op 117) (cond (Nat.blt op 101) (cond (Nat.blt op 96) (cond (Nat.blt op 89) (cond (Nat.beq op 87) (some (.pop, 1)) none) (cond (Nat.blt op 92) (cond (Nat.beq op 89) (some (.dup, 1)) none) (cond (Nat.beq op 92) (some (.dup2, 1)) none))) (cond (Nat.blt op 97) (cond (Nat.beq op 96) (some (.iadd, 1)) none) (cond (Nat.blt op 100) (cond (Nat.beq op 97) (some (.ladd, 1)) none) (cond (Nat.beq op 100) (some (.isub, 1)) none)))) (cond (Nat.blt op 108) (cond (Nat.blt op 104) (cond (Nat.beq op 101) (some (.lsub, 1)) none) (cond (Nat.blt op 105) (cond (Nat.beq op 104) (some (.imul, 1)) none) (cond (Nat.beq op 105) (some (.lmul, 1)) none))) (cond (Nat.blt op 112) (cond (Nat.blt op 109) (cond (Nat.beq op 108) (some (.idiv, 1)) none) (cond (Nat.beq op 109) (some (.ldiv, 1)) none)) (cond (Nat.blt op 116) (cond (Nat.beq op 112) (some (.irem, 1)) none) (cond (Nat.beq op 116) (some (.ineg, 1)) none))))) (cond (Nat.blt op 132) (cond (Nat.blt op 124) (cond (Nat.blt op 120) (cond (Nat.beq op 117) (some (.lneg, 1)) none) (cond (Nat.blt op 122) (cond (Nat.beq op 120) (some (.ishl, 1)) none) (cond (Nat.beq op 122) (some (.ishr, 1)) none))) (cond (Nat.blt op 128) (cond (Nat.blt op 126) (cond (Nat.beq op 124) (some (.iushr, 1)) none) (cond (Nat.beq op 126) (some (.iand, 1)) none)) (cond (Nat.blt op 130) (cond (Nat.beq op 128) (some (.ior, 1)) none) (cond (Nat.beq op 130) (some (.ixor, 1)) none)))) (cond (Nat.blt op 145) (cond (Nat.blt op 133) (cond (Nat.beq op 132 && (Nat.blt b1 256 && Nat.blt b2 256)) (some (.iinc b1 (Reader.signed 8 b2), 3)) none) (cond (Nat.blt op 136) (cond (Nat.beq op 133) (some (.i2l, 1)) none) (cond (Nat.beq op 136) (some (.l2i, 1)) none))) (cond (Nat.blt op 153) (cond (Nat.blt op 148) (cond (Nat.beq op 145) (some (.i2b, 1)) none) (cond (Nat.beq op 148) (some (.lcmp, 1)) none)) (cond (Nat.blt op 154) (cond (Nat.beq op 153 && (Nat.blt b1 256 && Nat.blt b2 256)) (some (.ifCond .eq (Reader.signed 16 (b1 * 256 + b2)), 3)) none) (cond (Nat.beq op 154 && (Nat.blt b1 256 && Nat.blt b2 256)) (some (.ifCond .ne (Reader.signed 16 (b1 * 256 + b2)), 3)) none)))))) (cond (Nat.blt op 176) (cond (Nat.blt op 161) (cond (Nat.blt op 158) (cond (Nat.blt op 156) (cond (Nat.beq op 155 && (Nat.blt b1 256 && Nat.blt b2 256)) (some (.ifCond .lt (Reader.signed 16 (b1 * 256 + b2)), 3)) none) (cond (Nat.blt op 157) (cond (Nat.beq op 156 && (Nat.blt b1 256 && Nat.blt b2 256)) (some (.ifCond .ge (Reader.signed 16 (b1 * 256 + b2)), 3)) none) (cond (Nat.beq op 157 && (Nat.blt b1 256 && Nat.blt b2 256)) (some (.ifCond .gt (Reader.signed 16 (b1 * 256 + b2)), 3)) none))) (cond (Nat.blt op 159) (cond (Nat.beq op 158 && (Nat.blt b1 256 && Nat.blt b2 256)) (some (.ifCond .le (Reader.signed 16 (b1 * 256 + b2)), 3)) none) (cond (Nat.blt op 160) (cond (Nat.beq op 159 && (Nat.blt b1 256 && Nat.blt b2 256)) (some (.if_icmp .eq (Reader.signed 16 (b1 * 256 + b2)), 3)) none) (cond (Nat.beq op 160 && (Nat.blt b1 256 && Nat.blt b2 256)) (some (.if_icmp .ne (Reader.signed 16 (b1 * 256 + b2)), 3)) none)))) (cond (Nat.blt op 164) (cond (Nat.blt op 162) (cond (Nat.beq op 161 && (Nat.blt b1 256 && Nat.blt b2 256)) (some (.if_icmp .lt (Reader.signed 16 (b1 * 256 + b2)), 3)) none) (cond (Nat.blt op 163) (cond (Nat.beq op 162 && (Nat.blt b1 256 && Nat.blt b2 256)) (some (.if_icmp .ge (Reader.signed 16 (b1 * 256 + b2)), 3)) none) (cond (Nat.beq op 163 && (Nat.blt b1 256 && Nat.blt b2 256)) (some (.if_icmp .gt (Reader.signed 16 (b1 * 256 + b2)), 3)) none))) (cond (Nat.blt op 172) (cond (Nat.blt op 167) (cond (Nat.beq op 164 && (Nat.blt b1 256 && Nat.blt b2 256)) (some (.if_icmp .le (Reader.signed 16 (b1 * 256 + b2)), 3)) none) (cond (Nat.beq op 167 && (Nat.blt b1 256 && Nat.blt b2 256)) (some (.goto (Reader.signed 16 (b1 * 256 + b2)), 3)) none)) (cond (Nat.blt op 173) (cond (Nat.beq op 172) (some (.ireturn, 1)) none) (cond (Nat.beq op 173) (some (.lreturn, 1)) none))))) (cond (Nat.blt op 184) (cond (Nat.blt op 180) (cond (Nat.blt op 177) (cond (Nat.beq op 176) (some (.areturn, 1)) none) (cond (Nat.blt op 178) (cond (Nat.beq op 177) (some (.return_, 1)) none) (cond (Nat.beq op 178 && (Nat.blt b1 256 && Nat.blt b2 256)) (some (.getstatic (b1 * 256 + b2), 3)) none))) (cond (Nat.blt op 182) (cond (Nat.blt op 181) (cond (Nat.beq op 180 && (Nat.blt b1 256 && Nat.blt b2 256)) (some (.getfield (b1 * 256 + b2), 3)) none) (cond (Nat.beq op 181 && (Nat.blt b1 256 && Nat.blt b2 256)) (some (.putfield (b1 * 256 + b2), 3)) none)) (cond (Nat.blt op 183) (cond (Nat.beq op 182 && (Nat.blt b1 256 && Nat.blt b2 256)) (some (.invokevirtual (b1 * 256 + b2), 3)) none) (cond (Nat.beq op 183 && (Nat.blt b1 256 && Nat.blt b2 256)) (some (.invokespecial (b1 * 256 + b2), 3)) none)))) (cond (Nat.blt op 189) (cond (Nat.blt op 187) (cond (Nat.beq op 184 && (Nat.blt b1 256 && Nat.blt b2 256)) (some (.invokestatic (b1 * 256 + b2), 3)) none) (cond (Nat.blt op 188) (cond (Nat.beq op 187 && (Nat.blt b1 256 && Nat.blt b2 256)) (some (.new (b1 * 256 + b2), 3)) none) (cond (Nat.beq op 188) (cond (Nat.beq b1 4) (some (.newarray .boolean, 2)) (cond (Nat.beq b1 8) (some (.newarray .byte, 2)) (cond (Nat.beq b1 10) (some (.newarray .int, 2)) (cond (Nat.beq b1 11) (some (.newarray .long, 2)) (none))))) none))) (cond (Nat.blt op 198) (cond (Nat.blt op 190) (cond (Nat.beq op 189 && (Nat.blt b1 256 && Nat.blt b2 256)) (some (.anewarray (b1 * 256 + b2), 3)) none) (cond (Nat.beq op 190) (some (.arraylength, 1)) none)) (cond (Nat.blt op 199) (cond (Nat.beq op 198 && (Nat.blt b1 256 && Nat.blt b2 256)) (some (.ifnull (Reader.signed 16 (b1 * 256 + b2)), 3)) none) (cond (Nat.beq op 199 && (Nat.blt b1 256 && Nat.blt b2 256)) (some (.ifnonnull (Reader.signed 16 (b1 * 256 + b2)), 3)) none)))))))
theorem xfd_ok {r : Instr × Nat} (h : xfd op b1 b2 = some r) (h0 : xrd cc pc op) (h1 : b1 < 256 → xrd cc (pc + 1) b1) (h2 : b2 < 256 → xrd cc (pc + 1 + 1) b2) : decode cc pc = .ok r := by
  unfold xfd at h
  cases c : Nat.blt op 87 with
  | true =>
    rw [c, cond_true] at h
    clear c
    cases c : Nat.blt op 42 with
    | true =>
      rw [c, cond_true] at h
      clear c
      cases c : Nat.blt op 19 with
      | true =>
        rw [c, cond_true] at h
        clear c
        cases c : Nat.blt op 7 with
        | true =>
          rw [c, cond_true] at h
          clear c
          cases c : Nat.blt op 4 with
          | true =>
            rw [c, cond_true] at h
            clear c
            cases c : Nat.blt op 2 with
            | true =>
              rw [c, cond_true] at h
              clear c
              cases c : Nat.beq op 1 with
              | false => rw [c, cond_false] at h; cases h
              | true =>
                rw [c, cond_true] at h
                cases xbeq c
                cases h
                exact dk_1 h0
            | false =>
              rw [c, cond_false] at h
              clear c
              cases c : Nat.blt op 3 with
              | true =>
                rw [c, cond_true] at h
                clear c
                cases c : Nat.beq op 2 with
                | false => rw [c, cond_false] at h; cases h
                | true =>
                  rw [c, cond_true] at h
                  cases xbeq c
                  cases h
                  exact dk_2 h0
              | false =>
                rw [c, cond_false] at h
                clear c
                cases c : Nat.beq op 3 with
                | false => rw [c, cond_false] at h; cases h
                | true =>
                  rw [c, cond_true] at h
                  cases xbeq c
                  cases h
                  exact dk_3 h0
          | false =>
            rw [c, cond_false] at h
            clear c
            cases c : Nat.blt op 5 with
            | true =>
              rw [c, cond_true] at h
              clear c
              cases c : Nat.beq op 4 with
              | false => rw [c, cond_false] at h; cases h
              | true =>
                rw [c, cond_true] at h
                cases xbeq c
                cases h
                exact dk_4 h0
            | false =>
              rw [c, cond_false] at h
              clear c
              cases c : Nat.blt op 6 with
              | true =>
                rw [c, cond_true] at h
                clear c
                cases c : Nat.beq op 5 with
                | false => rw [c, cond_false] at h; cases h
                | true =>
                  rw [c, cond_true] at h
                  cases xbeq c
                  cases h
                  exact dk_5 h0
              | false =>
                rw [c, cond_false] at h
                clear c
                cases c : Nat.beq op 6 with
                | false => rw [c, cond_false] at h; cases h
                | true =>
                  rw [c, cond_true] at h
                  cases xbeq c
                  cases h
                  exact dk_6 h0
        | false =>
          rw [c, cond_false] at h
          clear c
          cases c : Nat.blt op 10 with
          | true =>
            rw [c, cond_true] at h
            clear c
            cases c : Nat.blt op 8 with
            | true =>
              rw [c, cond_true] at h
              clear c
              cases c : Nat.beq op 7 with
              | false => rw [c, cond_false] at h; cases h
              | true =>
                rw [c, cond_true] at h
                cases xbeq c
                cases h
                exact dk_7 h0
            | false =>
              rw [c, cond_false] at h
              clear c
              cases c : Nat.blt op 9 with
              | true =>
                rw [c, cond_true] at h
                clear c
                cases c : Nat.beq op 8 with
                | false => rw [c, cond_false] at h; cases h
                | true =>
                  rw [c, cond_true] at h
                  cases xbeq c
                  cases h
                  exact dk_8 h0
              | false =>
                rw [c, cond_false] at h
                clear c
                cases c : Nat.beq op 9 with
                | false => rw [c, cond_false] at h; cases h
                | true =>
                  rw [c, cond_true] at h
                  cases xbeq c
                  cases h
                  exact dk_9 h0
          | false =>
            rw [c, cond_false] at h
            clear c
            cases c : Nat.blt op 17 with
            | true =>
              rw [c, cond_true] at h
              clear c
              cases c : Nat.blt op 16 with
              | true =>
                rw [c, cond_true] at h
                clear c
                cases c : Nat.beq op 10 with
                | false => rw [c, cond_false] at h; cases h
                | true =>
                  rw [c, cond_true] at h
                  cases xbeq c
                  cases h
                  exact dk_10 h0
              | false =>
                rw [c, cond_false] at h
                clear c
                cases c : (Nat.beq op 16 && Nat.blt b1 256) with
                | false => rw [c, cond_false] at h; cases h
                | true =>
                  rw [c, cond_true] at h
                  obtain ⟨c1, c2⟩ := Bool.and_eq_true_iff.mp c
                  cases xbeq c1
                  cases h
                  exact dk_16 h0 (h1 (xblt c2))
            | false =>
              rw [c, cond_false] at h
              clear c
              cases c : Nat.blt op 18 with
              | true =>
                rw [c, cond_true] at h
                clear c
                cases c : (Nat.beq op 17 && (Nat.blt b1 256 && Nat.blt b2 256)) with
                | false => rw [c, cond_false] at h; cases h
                | true =>
                  rw [c, cond_true] at h
                  obtain ⟨c1, c2⟩ := Bool.and_eq_true_iff.mp c
                  obtain ⟨c3, c4⟩ := Bool.and_eq_true_iff.mp c2
                  cases xbeq c1
                  cases h
                  exact dk_17 h0 (h1 (xblt c3)) (h2 (xblt c4))
              | false =>
                rw [c, cond_false] at h
                clear c
                cases c : (Nat.beq op 18 && Nat.blt b1 256) with
                | false => rw [c, cond_false] at h; cases h
                | true =>
                  rw [c, cond_true] at h
                  obtain ⟨c1, c2⟩ := Bool.and_eq_true_iff.mp c
                  cases xbeq c1
                  cases h
                  exact dk_18 h0 (h1 (xblt c2))
      | false =>
        rw [c, cond_false] at h
        clear c
        cases c : Nat.blt op 27 with
        | true =>
          rw [c, cond_true] at h
          clear c
          cases c : Nat.blt op 22 with
          | true =>
            rw [c, cond_true] at h
            clear c
            cases c : Nat.blt op 20 with
            | true =>
              rw [c, cond_true] at h
              clear c
              cases c : (Nat.beq op 19 && (Nat.blt b1 256 && Nat.blt b2 256)) with
              | false => rw [c, cond_false] at h; cases h
              | true =>
                rw [c, cond_true] at h
                obtain ⟨c1, c2⟩ := Bool.and_eq_true_iff.mp c
                obtain ⟨c3, c4⟩ := Bool.and_eq_true_iff.mp c2
                cases xbeq c1
                cases h
                exact dk_19 h0 (h1 (xblt c3)) (h2 (xblt c4))
            | false =>
              rw [c, cond_false] at h
              clear c
              cases c : Nat.blt op 21 with
              | true =>
                rw [c, cond_true] at h
                clear c
                cases c : (Nat.beq op 20 && (Nat.blt b1 256 && Nat.blt b2 256)) with
                | false => rw [c, cond_false] at h; cases h
                | true =>
                  rw [c, cond_true] at h
                  obtain ⟨c1, c2⟩ := Bool.and_eq_true_iff.mp c
                  obtain ⟨c3, c4⟩ := Bool.and_eq_true_iff.mp c2
                  cases xbeq c1
                  cases h
                  exact dk_20 h0 (h1 (xblt c3)) (h2 (xblt c4))
              | false =>
                rw [c, cond_false] at h
                clear c
                cases c : (Nat.beq op 21 && Nat.blt b1 256) with
                | false => rw [c, cond_false] at h; cases h
                | true =>
                  rw [c, cond_true] at h
                  obtain ⟨c1, c2⟩ := Bool.and_eq_true_iff.mp c
                  cases xbeq c1
                  cases h
                  exact dk_21 h0 (h1 (xblt c2))
          | false =>
            rw [c, cond_false] at h
            clear c
            cases c : Nat.blt op 25 with
            | true =>
              rw [c, cond_true] at h
              clear c
              cases c : (Nat.beq op 22 && Nat.blt b1 256) with
              | false => rw [c, cond_false] at h; cases h
              | true =>
                rw [c, cond_true] at h
                obtain ⟨c1, c2⟩ := Bool.and_eq_true_iff.mp c
                cases xbeq c1
                cases h
                exact dk_22 h0 (h1 (xblt c2))
            | false =>
              rw [c, cond_false] at h
              clear c
              cases c : Nat.blt op 26 with
              | true =>
                rw [c, cond_true] at h
                clear c
                cases c : (Nat.beq op 25 && Nat.blt b1 256) with
                | false => rw [c, cond_false] at h; cases h
                | true =>
                  rw [c, cond_true] at h
                  obtain ⟨c1, c2⟩ := Bool.and_eq_true_iff.mp c
                  cases xbeq c1
                  cases h
                  exact dk_25 h0 (h1 (xblt c2))
              | false =>
                rw [c, cond_false] at h
                clear c
                cases c : Nat.beq op 26 with
                | false => rw [c, cond_false] at h; cases h
                | true =>
                  rw [c, cond_true] at h
                  cases xbeq c
                  cases h
                  exact dk_26 h0
        | false =>
          rw [c, cond_false] at h
          clear c
          cases c : Nat.blt op 30 with
          | true =>
            rw [c, cond_true] at h
            clear c
            cases c : Nat.blt op 28 with
            | true =>
              rw [c, cond_true] at h
              clear c
              cases c : Nat.beq op 27 with
              | false => rw [c, cond_false] at h; cases h
              | true =>
                rw [c, cond_true] at h
                cases xbeq c
                cases h
                exact dk_27 h0
            | false =>
              rw [c, cond_false] at h
              clear c
              cases c : Nat.blt op 29 with
              | true =>
                rw [c, cond_true] at h
                clear c
                cases c : Nat.beq op 28 with
                | false => rw [c, cond_false] at h; cases h
                | true =>
                  rw [c, cond_true] at h
                  cases xbeq c
                  cases h
                  exact dk_28 h0
              | false =>
                rw [c, cond_false] at h
                clear c
                cases c : Nat.beq op 29 with
                | false => rw [c, cond_false] at h; cases h
                | true =>
                  rw [c, cond_true] at h
                  cases xbeq c
                  cases h
                  exact dk_29 h0
          | false =>
            rw [c, cond_false] at h
            clear c
            cases c : Nat.blt op 32 with
            | true =>
              rw [c, cond_true] at h
              clear c
              cases c : Nat.blt op 31 with
              | true =>
                rw [c, cond_true] at h
                clear c
                cases c : Nat.beq op 30 with
                | false => rw [c, cond_false] at h; cases h
                | true =>
                  rw [c, cond_true] at h
                  cases xbeq c
                  cases h
                  exact dk_30 h0
              | false =>
                rw [c, cond_false] at h
                clear c
                cases c : Nat.beq op 31 with
                | false => rw [c, cond_false] at h; cases h
                | true =>
                  rw [c, cond_true] at h
                  cases xbeq c
                  cases h
                  exact dk_31 h0
            | false =>
              rw [c, cond_false] at h
              clear c
              cases c : Nat.blt op 33 with
              | true =>
                rw [c, cond_true] at h
                clear c
                cases c : Nat.beq op 32 with
                | false => rw [c, cond_false] at h; cases h
                | true =>
                  rw [c, cond_true] at h
                  cases xbeq c
                  cases h
                  exact dk_32 h0
              | false =>
                rw [c, cond_false] at h
                clear c
                cases c : Nat.beq op 33 with
                | false => rw [c, cond_false] at h; cases h
                | true =>
                  rw [c, cond_true] at h
                  cases xbeq c
                  cases h
                  exact dk_33 h0
    | false =>
      rw [c, cond_false] at h
      clear c
      cases c : Nat.blt op 61 with
      | true =>
        rw [c, cond_true] at h
        clear c
        cases c : Nat.blt op 50 with
        | true =>
          rw [c, cond_true] at h
          clear c
          cases c : Nat.blt op 45 with
          | true =>
            rw [c, cond_true] at h
            clear c
            cases c : Nat.blt op 43 with
            | true =>
              rw [c, cond_true] at h
              clear c
              cases c : Nat.beq op 42 with
              | false => rw [c, cond_false] at h; cases h
              | true =>
                rw [c, cond_true] at h
                cases xbeq c
                cases h
                exact dk_42 h0
            | false =>
              rw [c, cond_false] at h
              clear c
              cases c : Nat.blt op 44 with
              | true =>
                rw [c, cond_true] at h
                clear c
                cases c : Nat.beq op 43 with
                | false => rw [c, cond_false] at h; cases h
                | true =>
                  rw [c, cond_true] at h
                  cases xbeq c
                  cases h
                  exact dk_43 h0
              | false =>
                rw [c, cond_false] at h
                clear c
                cases c : Nat.beq op 44 with
                | false => rw [c, cond_false] at h; cases h
                | true =>
                  rw [c, cond_true] at h
                  cases xbeq c
                  cases h
                  exact dk_44 h0
          | false =>
            rw [c, cond_false] at h
            clear c
            cases c : Nat.blt op 46 with
            | true =>
              rw [c, cond_true] at h
              clear c
              cases c : Nat.beq op 45 with
              | false => rw [c, cond_false] at h; cases h
              | true =>
                rw [c, cond_true] at h
                cases xbeq c
                cases h
                exact dk_45 h0
            | false =>
              rw [c, cond_false] at h
              clear c
              cases c : Nat.blt op 47 with
              | true =>
                rw [c, cond_true] at h
                clear c
                cases c : Nat.beq op 46 with
                | false => rw [c, cond_false] at h; cases h
                | true =>
                  rw [c, cond_true] at h
                  cases xbeq c
                  cases h
                  exact dk_46 h0
              | false =>
                rw [c, cond_false] at h
                clear c
                cases c : Nat.beq op 47 with
                | false => rw [c, cond_false] at h; cases h
                | true =>
                  rw [c, cond_true] at h
                  cases xbeq c
                  cases h
                  exact dk_47 h0
        | false =>
          rw [c, cond_false] at h
          clear c
          cases c : Nat.blt op 55 with
          | true =>
            rw [c, cond_true] at h
            clear c
            cases c : Nat.blt op 51 with
            | true =>
              rw [c, cond_true] at h
              clear c
              cases c : Nat.beq op 50 with
              | false => rw [c, cond_false] at h; cases h
              | true =>
                rw [c, cond_true] at h
                cases xbeq c
                cases h
                exact dk_50 h0
            | false =>
              rw [c, cond_false] at h
              clear c
              cases c : Nat.blt op 54 with
              | true =>
                rw [c, cond_true] at h
                clear c
                cases c : Nat.beq op 51 with
                | false => rw [c, cond_false] at h; cases h
                | true =>
                  rw [c, cond_true] at h
                  cases xbeq c
                  cases h
                  exact dk_51 h0
              | false =>
                rw [c, cond_false] at h
                clear c
                cases c : (Nat.beq op 54 && Nat.blt b1 256) with
                | false => rw [c, cond_false] at h; cases h
                | true =>
                  rw [c, cond_true] at h
                  obtain ⟨c1, c2⟩ := Bool.and_eq_true_iff.mp c
                  cases xbeq c1
                  cases h
                  exact dk_54 h0 (h1 (xblt c2))
          | false =>
            rw [c, cond_false] at h
            clear c
            cases c : Nat.blt op 59 with
            | true =>
              rw [c, cond_true] at h
              clear c
              cases c : Nat.blt op 58 with
              | true =>
                rw [c, cond_true] at h
                clear c
                cases c : (Nat.beq op 55 && Nat.blt b1 256) with
                | false => rw [c, cond_false] at h; cases h
                | true =>
                  rw [c, cond_true] at h
                  obtain ⟨c1, c2⟩ := Bool.and_eq_true_iff.mp c
                  cases xbeq c1
                  cases h
                  exact dk_55 h0 (h1 (xblt c2))
              | false =>
                rw [c, cond_false] at h
                clear c
                cases c : (Nat.beq op 58 && Nat.blt b1 256) with
                | false => rw [c, cond_false] at h; cases h
                | true =>
                  rw [c, cond_true] at h
                  obtain ⟨c1, c2⟩ := Bool.and_eq_true_iff.mp c
                  cases xbeq c1
                  cases h
                  exact dk_58 h0 (h1 (xblt c2))
            | false =>
              rw [c, cond_false] at h
              clear c
              cases c : Nat.blt op 60 with
              | true =>
                rw [c, cond_true] at h
                clear c
                cases c : Nat.beq op 59 with
                | false => rw [c, cond_false] at h; cases h
                | true =>
                  rw [c, cond_true] at h
                  cases xbeq c
                  cases h
                  exact dk_59 h0
              | false =>
                rw [c, cond_false] at h
                clear c
                cases c : Nat.beq op 60 with
                | false => rw [c, cond_false] at h; cases h
                | true =>
                  rw [c, cond_true] at h
                  cases xbeq c
                  cases h
                  exact dk_60 h0
      | false =>
        rw [c, cond_false] at h
        clear c
        cases c : Nat.blt op 76 with
        | true =>
          rw [c, cond_true] at h
          clear c
          cases c : Nat.blt op 64 with
          | true =>
            rw [c, cond_true] at h
            clear c
            cases c : Nat.blt op 62 with
            | true =>
              rw [c, cond_true] at h
              clear c
              cases c : Nat.beq op 61 with
              | false => rw [c, cond_false] at h; cases h
              | true =>
                rw [c, cond_true] at h
                cases xbeq c
                cases h
                exact dk_61 h0
            | false =>
              rw [c, cond_false] at h
              clear c
              cases c : Nat.blt op 63 with
              | true =>
                rw [c, cond_true] at h
                clear c
                cases c : Nat.beq op 62 with
                | false => rw [c, cond_false] at h; cases h
                | true =>
                  rw [c, cond_true] at h
                  cases xbeq c
                  cases h
                  exact dk_62 h0
              | false =>
                rw [c, cond_false] at h
                clear c
                cases c : Nat.beq op 63 with
                | false => rw [c, cond_false] at h; cases h
                | true =>
                  rw [c, cond_true] at h
                  cases xbeq c
                  cases h
                  exact dk_63 h0
          | false =>
            rw [c, cond_false] at h
            clear c
            cases c : Nat.blt op 66 with
            | true =>
              rw [c, cond_true] at h
              clear c
              cases c : Nat.blt op 65 with
              | true =>
                rw [c, cond_true] at h
                clear c
                cases c : Nat.beq op 64 with
                | false => rw [c, cond_false] at h; cases h
                | true =>
                  rw [c, cond_true] at h
                  cases xbeq c
                  cases h
                  exact dk_64 h0
              | false =>
                rw [c, cond_false] at h
                clear c
                cases c : Nat.beq op 65 with
                | false => rw [c, cond_false] at h; cases h
                | true =>
                  rw [c, cond_true] at h
                  cases xbeq c
                  cases h
                  exact dk_65 h0
            | false =>
              rw [c, cond_false] at h
              clear c
              cases c : Nat.blt op 75 with
              | true =>
                rw [c, cond_true] at h
                clear c
                cases c : Nat.beq op 66 with
                | false => rw [c, cond_false] at h; cases h
                | true =>
                  rw [c, cond_true] at h
                  cases xbeq c
                  cases h
                  exact dk_66 h0
              | false =>
                rw [c, cond_false] at h
                clear c
                cases c : Nat.beq op 75 with
                | false => rw [c, cond_false] at h; cases h
                | true =>
                  rw [c, cond_true] at h
                  cases xbeq c
                  cases h
                  exact dk_75 h0
        | false =>
          rw [c, cond_false] at h
          clear c
          cases c : Nat.blt op 79 with
          | true =>
            rw [c, cond_true] at h
            clear c
            cases c : Nat.blt op 77 with
            | true =>
              rw [c, cond_true] at h
              clear c
              cases c : Nat.beq op 76 with
              | false => rw [c, cond_false] at h; cases h
              | true =>
                rw [c, cond_true] at h
                cases xbeq c
                cases h
                exact dk_76 h0
            | false =>
              rw [c, cond_false] at h
              clear c
              cases c : Nat.blt op 78 with
              | true =>
                rw [c, cond_true] at h
                clear c
                cases c : Nat.beq op 77 with
                | false => rw [c, cond_false] at h; cases h
                | true =>
                  rw [c, cond_true] at h
                  cases xbeq c
                  cases h
                  exact dk_77 h0
              | false =>
                rw [c, cond_false] at h
                clear c
                cases c : Nat.beq op 78 with
                | false => rw [c, cond_false] at h; cases h
                | true =>
                  rw [c, cond_true] at h
                  cases xbeq c
                  cases h
                  exact dk_78 h0
          | false =>
            rw [c, cond_false] at h
            clear c
            cases c : Nat.blt op 83 with
            | true =>
              rw [c, cond_true] at h
              clear c
              cases c : Nat.blt op 80 with
              | true =>
                rw [c, cond_true] at h
                clear c
                cases c : Nat.beq op 79 with
                | false => rw [c, cond_false] at h; cases h
                | true =>
                  rw [c, cond_true] at h
                  cases xbeq c
                  cases h
                  exact dk_79 h0
              | false =>
                rw [c, cond_false] at h
                clear c
                cases c : Nat.beq op 80 with
                | false => rw [c, cond_false] at h; cases h
                | true =>
                  rw [c, cond_true] at h
                  cases xbeq c
                  cases h
                  exact dk_80 h0
            | false =>
              rw [c, cond_false] at h
              clear c
              cases c : Nat.blt op 84 with
              | true =>
                rw [c, cond_true] at h
                clear c
                cases c : Nat.beq op 83 with
                | false => rw [c, cond_false] at h; cases h
                | true =>
                  rw [c, cond_true] at h
                  cases xbeq c
                  cases h
                  exact dk_83 h0
              | false =>
                rw [c, cond_false] at h
                clear c
                cases c : Nat.beq op 84 with
                | false => rw [c, cond_false] at h; cases h
                | true =>
                  rw [c, cond_true] at h
                  cases xbeq c
                  cases h
                  exact dk_84 h0
  | false =>
    rw [c, cond_false] at h
    clear c
    cases c : Nat.blt op 155 with
    | true =>
      rw [c, cond_true] at h
      clear c
      cases c : Nat.blt op 117 with
      | true =>
        rw [c, cond_true] at h
        clear c
        cases c : Nat.blt op 101 with
        | true =>
          rw [c, cond_true] at h
          clear c
          cases c : Nat.blt op 96 with
          | true =>
            rw [c, cond_true] at h
            clear c
            cases c : Nat.blt op 89 with
            | true =>
              rw [c, cond_true] at h
              clear c
              cases c : Nat.beq op 87 with
              | false => rw [c, cond_false] at h; cases h
              | true =>
                rw [c, cond_true] at h
                cases xbeq c
                cases h
                exact dk_87 h0
            | false =>
              rw [c, cond_false] at h
              clear c
              cases c : Nat.blt op 92 with
              | true =>
                rw [c, cond_true] at h
                clear c
                cases c : Nat.beq op 89 with
                | false => rw [c, cond_false] at h; cases h
                | true =>
                  rw [c, cond_true] at h
                  cases xbeq c
                  cases h
                  exact dk_89 h0
              | false =>
                rw [c, cond_false] at h
                clear c
                cases c : Nat.beq op 92 with
                | false => rw [c, cond_false] at h; cases h
                | true =>
                  rw [c, cond_true] at h
                  cases xbeq c
                  cases h
                  exact dk_92 h0
          | false =>
            rw [c, cond_false] at h
            clear c
            cases c : Nat.blt op 97 with
            | true =>
              rw [c, cond_true] at h
              clear c
              cases c : Nat.beq op 96 with
              | false => rw [c, cond_false] at h; cases h
              | true =>
                rw [c, cond_true] at h
                cases xbeq c
                cases h
                exact dk_96 h0
            | false =>
              rw [c, cond_false] at h
              clear c
              cases c : Nat.blt op 100 with
              | true =>
                rw [c, cond_true] at h
                clear c
                cases c : Nat.beq op 97 with
                | false => rw [c, cond_false] at h; cases h
                | true =>
                  rw [c, cond_true] at h
                  cases xbeq c
                  cases h
                  exact dk_97 h0
              | false =>
                rw [c, cond_false] at h
                clear c
                cases c : Nat.beq op 100 with
                | false => rw [c, cond_false] at h; cases h
                | true =>
                  rw [c, cond_true] at h
                  cases xbeq c
                  cases h
                  exact dk_100 h0
        | false =>
          rw [c, cond_false] at h
          clear c
          cases c : Nat.blt op 108 with
          | true =>
            rw [c, cond_true] at h
            clear c
            cases c : Nat.blt op 104 with
            | true =>
              rw [c, cond_true] at h
              clear c
              cases c : Nat.beq op 101 with
              | false => rw [c, cond_false] at h; cases h
              | true =>
                rw [c, cond_true] at h
                cases xbeq c
                cases h
                exact dk_101 h0
            | false =>
              rw [c, cond_false] at h
              clear c
              cases c : Nat.blt op 105 with
              | true =>
                rw [c, cond_true] at h
                clear c
                cases c : Nat.beq op 104 with
                | false => rw [c, cond_false] at h; cases h
                | true =>
                  rw [c, cond_true] at h
                  cases xbeq c
                  cases h
                  exact dk_104 h0
              | false =>
                rw [c, cond_false] at h
                clear c
                cases c : Nat.beq op 105 with
                | false => rw [c, cond_false] at h; cases h
                | true =>
                  rw [c, cond_true] at h
                  cases xbeq c
                  cases h
                  exact dk_105 h0
          | false =>
            rw [c, cond_false] at h
            clear c
            cases c : Nat.blt op 112 with
            | true =>
              rw [c, cond_true] at h
              clear c
              cases c : Nat.blt op 109 with
              | true =>
                rw [c, cond_true] at h
                clear c
                cases c : Nat.beq op 108 with
                | false => rw [c, cond_false] at h; cases h
                | true =>
                  rw [c, cond_true] at h
                  cases xbeq c
                  cases h
                  exact dk_108 h0
              | false =>
                rw [c, cond_false] at h
                clear c
                cases c : Nat.beq op 109 with
                | false => rw [c, cond_false] at h; cases h
                | true =>
                  rw [c, cond_true] at h
                  cases xbeq c
                  cases h
                  exact dk_109 h0
            | false =>
              rw [c, cond_false] at h
              clear c
              cases c : Nat.blt op 116 with
              | true =>
                rw [c, cond_true] at h
                clear c
                cases c : Nat.beq op 112 with
                | false => rw [c, cond_false] at h; cases h
                | true =>
                  rw [c, cond_true] at h
                  cases xbeq c
                  cases h
                  exact dk_112 h0
              | false =>
                rw [c, cond_false] at h
                clear c
                cases c : Nat.beq op 116 with
                | false => rw [c, cond_false] at h; cases h
                | true =>
                  rw [c, cond_true] at h
                  cases xbeq c
                  cases h
                  exact dk_116 h0
      | false =>
        rw [c, cond_false] at h
        clear c
        cases c : Nat.blt op 132 with
        | true =>
          rw [c, cond_true] at h
          clear c
          cases c : Nat.blt op 124 with
          | true =>
            rw [c, cond_true] at h
            clear c
            cases c : Nat.blt op 120 with
            | true =>
              rw [c, cond_true] at h
              clear c
              cases c : Nat.beq op 117 with
              | false => rw [c, cond_false] at h; cases h
              | true =>
                rw [c, cond_true] at h
                cases xbeq c
                cases h
                exact dk_117 h0
            | false =>
              rw [c, cond_false] at h
              clear c
              cases c : Nat.blt op 122 with
              | true =>
                rw [c, cond_true] at h
                clear c
                cases c : Nat.beq op 120 with
                | false => rw [c, cond_false] at h; cases h
                | true =>
                  rw [c, cond_true] at h
                  cases xbeq c
                  cases h
                  exact dk_120 h0
              | false =>
                rw [c, cond_false] at h
                clear c
                cases c : Nat.beq op 122 with
                | false => rw [c, cond_false] at h; cases h
                | true =>
                  rw [c, cond_true] at h
                  cases xbeq c
                  cases h
                  exact dk_122 h0
          | false =>
            rw [c, cond_false] at h
            clear c
            cases c : Nat.blt op 128 with
            | true =>
              rw [c, cond_true] at h
              clear c
              cases c : Nat.blt op 126 with
              | true =>
                rw [c, cond_true] at h
                clear c
                cases c : Nat.beq op 124 with
                | false => rw [c, cond_false] at h; cases h
                | true =>
                  rw [c, cond_true] at h
                  cases xbeq c
                  cases h
                  exact dk_124 h0
              | false =>
                rw [c, cond_false] at h
                clear c
                cases c : Nat.beq op 126 with
                | false => rw [c, cond_false] at h; cases h
                | true =>
                  rw [c, cond_true] at h
                  cases xbeq c
                  cases h
                  exact dk_126 h0
            | false =>
              rw [c, cond_false] at h
              clear c
              cases c : Nat.blt op 130 with
              | true =>
                rw [c, cond_true] at h
                clear c
                cases c : Nat.beq op 128 with
                | false => rw [c, cond_false] at h; cases h
                | true =>
                  rw [c, cond_true] at h
                  cases xbeq c
                  cases h
                  exact dk_128 h0
              | false =>
                rw [c, cond_false] at h
                clear c
                cases c : Nat.beq op 130 with
                | false => rw [c, cond_false] at h; cases h
                | true =>
                  rw [c, cond_true] at h
                  cases xbeq c
                  cases h
                  exact dk_130 h0
        | false =>
          rw [c, cond_false] at h
          clear c
          cases c : Nat.blt op 145 with
          | true =>
            rw [c, cond_true] at h
            clear c
            cases c : Nat.blt op 133 with
            | true =>
              rw [c, cond_true] at h
              clear c
              cases c : (Nat.beq op 132 && (Nat.blt b1 256 && Nat.blt b2 256)) with
              | false => rw [c, cond_false] at h; cases h
              | true =>
                rw [c, cond_true] at h
                obtain ⟨c1, c2⟩ := Bool.and_eq_true_iff.mp c
                obtain ⟨c3, c4⟩ := Bool.and_eq_true_iff.mp c2
                cases xbeq c1
                cases h
                exact dk_132 h0 (h1 (xblt c3)) (h2 (xblt c4))
            | false =>
              rw [c, cond_false] at h
              clear c
              cases c : Nat.blt op 136 with
              | true =>
                rw [c, cond_true] at h
                clear c
                cases c : Nat.beq op 133 with
                | false => rw [c, cond_false] at h; cases h
                | true =>
                  rw [c, cond_true] at h
                  cases xbeq c
                  cases h
                  exact dk_133 h0
              | false =>
                rw [c, cond_false] at h
                clear c
                cases c : Nat.beq op 136 with
                | false => rw [c, cond_false] at h; cases h
                | true =>
                  rw [c, cond_true] at h
                  cases xbeq c
                  cases h
                  exact dk_136 h0
          | false =>
            rw [c, cond_false] at h
            clear c
            cases c : Nat.blt op 153 with
            | true =>
              rw [c, cond_true] at h
              clear c
              cases c : Nat.blt op 148 with
              | true =>
                rw [c, cond_true] at h
                clear c
                cases c : Nat.beq op 145 with
                | false => rw [c, cond_false] at h; cases h
                | true =>
                  rw [c, cond_true] at h
                  cases xbeq c
                  cases h
                  exact dk_145 h0
              | false =>
                rw [c, cond_false] at h
                clear c
                cases c : Nat.beq op 148 with
                | false => rw [c, cond_false] at h; cases h
                | true =>
                  rw [c, cond_true] at h
                  cases xbeq c
                  cases h
                  exact dk_148 h0
            | false =>
              rw [c, cond_false] at h
              clear c
              cases c : Nat.blt op 154 with
              | true =>
                rw [c, cond_true] at h
                clear c
                cases c : (Nat.beq op 153 && (Nat.blt b1 256 && Nat.blt b2 256)) with
                | false => rw [c, cond_false] at h; cases h
                | true =>
                  rw [c, cond_true] at h
                  obtain ⟨c1, c2⟩ := Bool.and_eq_true_iff.mp c
                  obtain ⟨c3, c4⟩ := Bool.and_eq_true_iff.mp c2
                  cases xbeq c1
                  cases h
                  exact dk_153 h0 (h1 (xblt c3)) (h2 (xblt c4))
              | false =>
                rw [c, cond_false] at h
                clear c
                cases c : (Nat.beq op 154 && (Nat.blt b1 256 && Nat.blt b2 256)) with
                | false => rw [c, cond_false] at h; cases h
                | true =>
                  rw [c, cond_true] at h
                  obtain ⟨c1, c2⟩ := Bool.and_eq_true_iff.mp c
                  obtain ⟨c3, c4⟩ := Bool.and_eq_true_iff.mp c2
                  cases xbeq c1
                  cases h
                  exact dk_154 h0 (h1 (xblt c3)) (h2 (xblt c4))
    | false =>
      rw [c, cond_false] at h
      clear c
      cases c : Nat.blt op 176 with
      | true =>
        rw [c, cond_true] at h
        clear c
        cases c : Nat.blt op 161 with
        | true =>
          rw [c, cond_true] at h
          clear c
          cases c : Nat.blt op 158 with
          | true =>
            rw [c, cond_true] at h
            clear c
            cases c : Nat.blt op 156 with
            | true =>
              rw [c, cond_true] at h
              clear c
              cases c : (Nat.beq op 155 && (Nat.blt b1 256 && Nat.blt b2 256)) with
              | false => rw [c, cond_false] at h; cases h
              | true =>
                rw [c, cond_true] at h
                obtain ⟨c1, c2⟩ := Bool.and_eq_true_iff.mp c
                obtain ⟨c3, c4⟩ := Bool.and_eq_true_iff.mp c2
                cases xbeq c1
                cases h
                exact dk_155 h0 (h1 (xblt c3)) (h2 (xblt c4))
            | false =>
              rw [c, cond_false] at h
              clear c
              cases c : Nat.blt op 157 with
              | true =>
                rw [c, cond_true] at h
                clear c
                cases c : (Nat.beq op 156 && (Nat.blt b1 256 && Nat.blt b2 256)) with
                | false => rw [c, cond_false] at h; cases h
                | true =>
                  rw [c, cond_true] at h
                  obtain ⟨c1, c2⟩ := Bool.and_eq_true_iff.mp c
                  obtain ⟨c3, c4⟩ := Bool.and_eq_true_iff.mp c2
                  cases xbeq c1
                  cases h
                  exact dk_156 h0 (h1 (xblt c3)) (h2 (xblt c4))
              | false =>
                rw [c, cond_false] at h
                clear c
                cases c : (Nat.beq op 157 && (Nat.blt b1 256 && Nat.blt b2 256)) with
                | false => rw [c, cond_false] at h; cases h
                | true =>
                  rw [c, cond_true] at h
                  obtain ⟨c1, c2⟩ := Bool.and_eq_true_iff.mp c
                  obtain ⟨c3, c4⟩ := Bool.and_eq_true_iff.mp c2
                  cases xbeq c1
                  cases h
                  exact dk_157 h0 (h1 (xblt c3)) (h2 (xblt c4))
          | false =>
            rw [c, cond_false] at h
            clear c
            cases c : Nat.blt op 159 with
            | true =>
              rw [c, cond_true] at h
              clear c
              cases c : (Nat.beq op 158 && (Nat.blt b1 256 && Nat.blt b2 256)) with
              | false => rw [c, cond_false] at h; cases h
              | true =>
                rw [c, cond_true] at h
                obtain ⟨c1, c2⟩ := Bool.and_eq_true_iff.mp c
                obtain ⟨c3, c4⟩ := Bool.and_eq_true_iff.mp c2
                cases xbeq c1
                cases h
                exact dk_158 h0 (h1 (xblt c3)) (h2 (xblt c4))
            | false =>
              rw [c, cond_false] at h
              clear c
              cases c : Nat.blt op 160 with
              | true =>
                rw [c, cond_true] at h
                clear c
                cases c : (Nat.beq op 159 && (Nat.blt b1 256 && Nat.blt b2 256)) with
                | false => rw [c, cond_false] at h; cases h
                | true =>
                  rw [c, cond_true] at h
                  obtain ⟨c1, c2⟩ := Bool.and_eq_true_iff.mp c
                  obtain ⟨c3, c4⟩ := Bool.and_eq_true_iff.mp c2
                  cases xbeq c1
                  cases h
                  exact dk_159 h0 (h1 (xblt c3)) (h2 (xblt c4))
              | false =>
                rw [c, cond_false] at h
                clear c
                cases c : (Nat.beq op 160 && (Nat.blt b1 256 && Nat.blt b2 256)) with
                | false => rw [c, cond_false] at h; cases h
                | true =>
                  rw [c, cond_true] at h
                  obtain ⟨c1, c2⟩ := Bool.and_eq_true_iff.mp c
                  obtain ⟨c3, c4⟩ := Bool.and_eq_true_iff.mp c2
                  cases xbeq c1
                  cases h
                  exact dk_160 h0 (h1 (xblt c3)) (h2 (xblt c4))
        | false =>
          rw [c, cond_false] at h
          clear c
          cases c : Nat.blt op 164 with
          | true =>
            rw [c, cond_true] at h
            clear c
            cases c : Nat.blt op 162 with
            | true =>
              rw [c, cond_true] at h
              clear c
              cases c : (Nat.beq op 161 && (Nat.blt b1 256 && Nat.blt b2 256)) with
              | false => rw [c, cond_false] at h; cases h
              | true =>
                rw [c, cond_true] at h
                obtain ⟨c1, c2⟩ := Bool.and_eq_true_iff.mp c
                obtain ⟨c3, c4⟩ := Bool.and_eq_true_iff.mp c2
                cases xbeq c1
                cases h
                exact dk_161 h0 (h1 (xblt c3)) (h2 (xblt c4))
            | false =>
              rw [c, cond_false] at h
              clear c
              cases c : Nat.blt op 163 with
              | true =>
                rw [c, cond_true] at h
                clear c
                cases c : (Nat.beq op 162 && (Nat.blt b1 256 && Nat.blt b2 256)) with
                | false => rw [c, cond_false] at h; cases h
                | true =>
                  rw [c, cond_true] at h
                  obtain ⟨c1, c2⟩ := Bool.and_eq_true_iff.mp c
                  obtain ⟨c3, c4⟩ := Bool.and_eq_true_iff.mp c2
                  cases xbeq c1
                  cases h
                  exact dk_162 h0 (h1 (xblt c3)) (h2 (xblt c4))
              | false =>
                rw [c, cond_false] at h
                clear c
                cases c : (Nat.beq op 163 && (Nat.blt b1 256 && Nat.blt b2 256)) with
                | false => rw [c, cond_false] at h; cases h
                | true =>
                  rw [c, cond_true] at h
                  obtain ⟨c1, c2⟩ := Bool.and_eq_true_iff.mp c
                  obtain ⟨c3, c4⟩ := Bool.and_eq_true_iff.mp c2
                  cases xbeq c1
                  cases h
                  exact dk_163 h0 (h1 (xblt c3)) (h2 (xblt c4))
          | false =>
            rw [c, cond_false] at h
            clear c
            cases c : Nat.blt op 172 with
            | true =>
              rw [c, cond_true] at h
              clear c
              cases c : Nat.blt op 167 with
              | true =>
                rw [c, cond_true] at h
                clear c
                cases c : (Nat.beq op 164 && (Nat.blt b1 256 && Nat.blt b2 256)) with
                | false => rw [c, cond_false] at h; cases h
                | true =>
                  rw [c, cond_true] at h
                  obtain ⟨c1, c2⟩ := Bool.and_eq_true_iff.mp c
                  obtain ⟨c3, c4⟩ := Bool.and_eq_true_iff.mp c2
                  cases xbeq c1
                  cases h
                  exact dk_164 h0 (h1 (xblt c3)) (h2 (xblt c4))
              | false =>
                rw [c, cond_false] at h
                clear c
                cases c : (Nat.beq op 167 && (Nat.blt b1 256 && Nat.blt b2 256)) with
                | false => rw [c, cond_false] at h; cases h
                | true =>
                  rw [c, cond_true] at h
                  obtain ⟨c1, c2⟩ := Bool.and_eq_true_iff.mp c
                  obtain ⟨c3, c4⟩ := Bool.and_eq_true_iff.mp c2
                  cases xbeq c1
                  cases h
                  exact dk_167 h0 (h1 (xblt c3)) (h2 (xblt c4))
            | false =>
              rw [c, cond_false] at h
              clear c
              cases c : Nat.blt op 173 with
              | true =>
                rw [c, cond_true] at h
                clear c
                cases c : Nat.beq op 172 with
                | false => rw [c, cond_false] at h; cases h
                | true =>
                  rw [c, cond_true] at h
                  cases xbeq c
                  cases h
                  exact dk_172 h0
              | false =>
                rw [c, cond_false] at h
                clear c
                cases c : Nat.beq op 173 with
                | false => rw [c, cond_false] at h; cases h
                | true =>
                  rw [c, cond_true] at h
                  cases xbeq c
                  cases h
                  exact dk_173 h0
      | false =>
        rw [c, cond_false] at h
        clear c
        cases c : Nat.blt op 184 with
        | true =>
          rw [c, cond_true] at h
          clear c
          cases c : Nat.blt op 180 with
          | true =>
            rw [c, cond_true] at h
            clear c
            cases c : Nat.blt op 177 with
            | true =>
              rw [c, cond_true] at h
              clear c
              cases c : Nat.beq op 176 with
              | false => rw [c, cond_false] at h; cases h
              | true =>
                rw [c, cond_true] at h
                cases xbeq c
                cases h
                exact dk_176 h0
            | false =>
              rw [c, cond_false] at h
              clear c
              cases c : Nat.blt op 178 with
              | true =>
                rw [c, cond_true] at h
                clear c
                cases c : Nat.beq op 177 with
                | false => rw [c, cond_false] at h; cases h
                | true =>
                  rw [c, cond_true] at h
                  cases xbeq c
                  cases h
                  exact dk_177 h0
              | false =>
                rw [c, cond_false] at h
                clear c
                cases c : (Nat.beq op 178 && (Nat.blt b1 256 && Nat.blt b2 256)) with
                | false => rw [c, cond_false] at h; cases h
                | true =>
                  rw [c, cond_true] at h
                  obtain ⟨c1, c2⟩ := Bool.and_eq_true_iff.mp c
                  obtain ⟨c3, c4⟩ := Bool.and_eq_true_iff.mp c2
                  cases xbeq c1
                  cases h
                  exact dk_178 h0 (h1 (xblt c3)) (h2 (xblt c4))
          | false =>
            rw [c, cond_false] at h
            clear c
            cases c : Nat.blt op 182 with
            | true =>
              rw [c, cond_true] at h
              clear c
              cases c : Nat.blt op 181 with
              | true =>
                rw [c, cond_true] at h
                clear c
                cases c : (Nat.beq op 180 && (Nat.blt b1 256 && Nat.blt b2 256)) with
                | false => rw [c, cond_false] at h; cases h
                | true =>
                  rw [c, cond_true] at h
                  obtain ⟨c1, c2⟩ := Bool.and_eq_true_iff.mp c
                  obtain ⟨c3, c4⟩ := Bool.and_eq_true_iff.mp c2
                  cases xbeq c1
                  cases h
                  exact dk_180 h0 (h1 (xblt c3)) (h2 (xblt c4))
              | false =>
                rw [c, cond_false] at h
                clear c
                cases c : (Nat.beq op 181 && (Nat.blt b1 256 && Nat.blt b2 256)) with
                | false => rw [c, cond_false] at h; cases h
                | true =>
                  rw [c, cond_true] at h
                  obtain ⟨c1, c2⟩ := Bool.and_eq_true_iff.mp c
                  obtain ⟨c3, c4⟩ := Bool.and_eq_true_iff.mp c2
                  cases xbeq c1
                  cases h
                  exact dk_181 h0 (h1 (xblt c3)) (h2 (xblt c4))
            | false =>
              rw [c, cond_false] at h
              clear c
              cases c : Nat.blt op 183 with
              | true =>
                rw [c, cond_true] at h
                clear c
                cases c : (Nat.beq op 182 && (Nat.blt b1 256 && Nat.blt b2 256)) with
                | false => rw [c, cond_false] at h; cases h
                | true =>
                  rw [c, cond_true] at h
                  obtain ⟨c1, c2⟩ := Bool.and_eq_true_iff.mp c
                  obtain ⟨c3, c4⟩ := Bool.and_eq_true_iff.mp c2
                  cases xbeq c1
                  cases h
                  exact dk_182 h0 (h1 (xblt c3)) (h2 (xblt c4))
              | false =>
                rw [c, cond_false] at h
                clear c
                cases c : (Nat.beq op 183 && (Nat.blt b1 256 && Nat.blt b2 256)) with
                | false => rw [c, cond_false] at h; cases h
                | true =>
                  rw [c, cond_true] at h
                  obtain ⟨c1, c2⟩ := Bool.and_eq_true_iff.mp c
                  obtain ⟨c3, c4⟩ := Bool.and_eq_true_iff.mp c2
                  cases xbeq c1
                  cases h
                  exact dk_183 h0 (h1 (xblt c3)) (h2 (xblt c4))
        | false =>
          rw [c, cond_false] at h
          clear c
          cases c : Nat.blt op 189 with
          | true =>
            rw [c, cond_true] at h
            clear c
            cases c : Nat.blt op 187 with
            | true =>
              rw [c, cond_true] at h
              clear c
              cases c : (Nat.beq op 184 && (Nat.blt b1 256 && Nat.blt b2 256)) with
              | false => rw [c, cond_false] at h; cases h
              | true =>
                rw [c, cond_true] at h
                obtain ⟨c1, c2⟩ := Bool.and_eq_true_iff.mp c
                obtain ⟨c3, c4⟩ := Bool.and_eq_true_iff.mp c2
                cases xbeq c1
                cases h
                exact dk_184 h0 (h1 (xblt c3)) (h2 (xblt c4))
            | false =>
              rw [c, cond_false] at h
              clear c
              cases c : Nat.blt op 188 with
              | true =>
                rw [c, cond_true] at h
                clear c
                cases c : (Nat.beq op 187 && (Nat.blt b1 256 && Nat.blt b2 256)) with
                | false => rw [c, cond_false] at h; cases h
                | true =>
                  rw [c, cond_true] at h
                  obtain ⟨c1, c2⟩ := Bool.and_eq_true_iff.mp c
                  obtain ⟨c3, c4⟩ := Bool.and_eq_true_iff.mp c2
                  cases xbeq c1
                  cases h
                  exact dk_187 h0 (h1 (xblt c3)) (h2 (xblt c4))
              | false =>
                rw [c, cond_false] at h
                clear c
                cases c : Nat.beq op 188 with
                | false => rw [c, cond_false] at h; cases h
                | true =>
                  rw [c, cond_true] at h
                  cases xbeq c
                  cases d : Nat.beq b1 4 with
                  | true => rw [d, cond_true] at h; cases h; cases xbeq d; exact dk_188_4 h0 (h1 (by decide))
                  | false =>
                    rw [d, cond_false] at h
                    cases d : Nat.beq b1 8 with
                    | true => rw [d, cond_true] at h; cases h; cases xbeq d; exact dk_188_8 h0 (h1 (by decide))
                    | false =>
                      rw [d, cond_false] at h
                      cases d : Nat.beq b1 10 with
                      | true => rw [d, cond_true] at h; cases h; cases xbeq d; exact dk_188_10 h0 (h1 (by decide))
                      | false =>
                        rw [d, cond_false] at h
                        cases d : Nat.beq b1 11 with
                        | true => rw [d, cond_true] at h; cases h; cases xbeq d; exact dk_188_11 h0 (h1 (by decide))
                        | false =>
                          rw [d, cond_false] at h
                          cases h
          | false =>
            rw [c, cond_false] at h
            clear c
            cases c : Nat.blt op 198 with
            | true =>
              rw [c, cond_true] at h
              clear c
              cases c : Nat.blt op 190 with
              | true =>
                rw [c, cond_true] at h
                clear c
                cases c : (Nat.beq op 189 && (Nat.blt b1 256 && Nat.blt b2 256)) with
                | false => rw [c, cond_false] at h; cases h
                | true =>
                  rw [c, cond_true] at h
                  obtain ⟨c1, c2⟩ := Bool.and_eq_true_iff.mp c
                  obtain ⟨c3, c4⟩ := Bool.and_eq_true_iff.mp c2
                  cases xbeq c1
                  cases h
                  exact dk_189 h0 (h1 (xblt c3)) (h2 (xblt c4))
              | false =>
                rw [c, cond_false] at h
                clear c
                cases c : Nat.beq op 190 with
                | false => rw [c, cond_false] at h; cases h
                | true =>
                  rw [c, cond_true] at h
                  cases xbeq c
                  cases h
                  exact dk_190 h0
            | false =>
              rw [c, cond_false] at h
              clear c
              cases c : Nat.blt op 199 with
              | true =>
                rw [c, cond_true] at h
                clear c
                cases c : (Nat.beq op 198 && (Nat.blt b1 256 && Nat.blt b2 256)) with
                | false => rw [c, cond_false] at h; cases h
                | true =>
                  rw [c, cond_true] at h
                  obtain ⟨c1, c2⟩ := Bool.and_eq_true_iff.mp c
                  obtain ⟨c3, c4⟩ := Bool.and_eq_true_iff.mp c2
                  cases xbeq c1
                  cases h
                  exact dk_198 h0 (h1 (xblt c3)) (h2 (xblt c4))
              | false =>
                rw [c, cond_false] at h
                clear c
                cases c : (Nat.beq op 199 && (Nat.blt b1 256 && Nat.blt b2 256)) with
                | false => rw [c, cond_false] at h; cases h
                | true =>
                  rw [c, cond_true] at h
                  obtain ⟨c1, c2⟩ := Bool.and_eq_true_iff.mp c
                  obtain ⟨c3, c4⟩ := Bool.and_eq_true_iff.mp c2
                  cases xbeq c1
                  cases h
                  exact dk_199 h0 (h1 (xblt c3)) (h2 (xblt c4))
def xbh : List UInt8 → Nat
  | [] => 256
  | a :: _ => a.toNat
theorem xbh_ok {n : Nat} (h : xbh (cc.data.toList.drop n) < 256) : xrd cc n (xbh (cc.data.toList.drop n)) := by
  cases e : cc.data.toList.drop n with
  | nil =>
    rw [e] at h
    exact absurd h (by decide)
  | cons a tl =>
    have hl : n < cc.data.toList.length := by
      have := congrArg List.length e
      rw [List.length_drop, List.length_cons] at this
      omega
    have hn : n < cc.size := hl
    have ha : cc.data.toList[n] = a := by
      have := List.drop_eq_getElem_cons hl
      rw [e] at this
      exact (List.cons.inj this).1.symm
    have hb : cc[n] = a := ha
    show Reader.runAt (Reader.u1 : Decoder Nat) cc n = .ok (a.toNat, n + 1)
    show (if h : n < cc.size then (set (n + 1) >>= fun _ => pure cc[n].toNat : Decoder Nat) else throw (HasTruncated.truncated n)) cc n = _
    rw [dif_pos hn, hb]
    rfl
noncomputable def xeF (cc : ByteArray) (L : List UInt8) (lk : List xL) (ls : List xI) (e : xI) : Bool := (match xget xopi e.2.2.1 with
  | some t => decide (xfd (xbh L) (xbh (L.drop 1)) (xbh (L.drop 2)) = some (t.1 e, e.2.1)) || decide (decode cc e.1 = .ok (t.1 e, e.2.1))
  | none => false) && ((match xget xsb e.2.2.1 with
  | some f => f e
  | none => false) || (decide (e.2 ∈ lk) || decide (e ∈ ls)))
noncomputable def xcF (cc : ByteArray) (lk : List xL) (ls : List xI) : List UInt8 → List xI → Bool
  | _, [] => true
  | L, e :: tl => xeF cc L lk ls e && ((match tl with
    | [] => true
    | e' :: _ => Nat.beq e'.1 (e.1 + e.2.1)) && xcF cc lk ls (L.drop e.2.1) tl)
noncomputable def xbF (cc : ByteArray) (lk : List xL) (ls : List xI) (bl : List (Nat × List xI)) : Bool := bl.all fun b => (match b.2 with
  | [] => false
  | e :: _ => Nat.beq e.1 b.1) && xcF cc lk ls (cc.data.toList.drop b.1) b.2
theorem xeF_ok {lk : List xL} {ls : List xI} {e : xI} {L : List UInt8} (hL : L = cc.data.toList.drop e.1) (h : xeF cc L lk ls e = true) : xeB cc lk ls e = true := by
  unfold xeF at h
  obtain ⟨h1, h2⟩ := Bool.and_eq_true_iff.mp h
  unfold xeB
  refine Bool.and_eq_true_iff.mpr ⟨?_, h2⟩
  cases ht : xget xopi e.2.2.1 with
  | none => rw [ht] at h1; cases h1
  | some t =>
    rw [ht] at h1
    rcases Bool.or_eq_true_iff.mp h1 with h3 | h3
    · have h3 := of_decide_eq_true h3
      subst hL
      rw [List.drop_drop, List.drop_drop] at h3
      refine decide_eq_true ?_
      by_cases z : xbh (cc.data.toList.drop e.1) < 256
      · exact xfd_ok h3 (xbh_ok z) (fun w => xbh_ok w) (fun w => xbh_ok w)
      · exfalso
        have y : xbh (cc.data.toList.drop e.1) = 256 := by
          cases q : cc.data.toList.drop e.1 with
          | nil => rfl
          | cons a tl =>
            rw [q] at z
            exact absurd (UInt8.toNat_lt a) z
        rw [y] at h3
        have h5 : (none : Option (Instr × Nat)) = some (t.1 e, e.2.1) := h3
        cases h5
    · exact h3
theorem xcF_ok {lk : List xL} {ls : List xI} : ∀ {l : List xI} {L : List UInt8} {a : Nat}, L = cc.data.toList.drop a → (∀ e tl, l = e :: tl → e.1 = a) → xcF cc lk ls L l = true → xcB cc lk ls l = true
  | [], _, _, _, _, _ => rfl
  | e :: tl, L, a, hL, ha, h => by
    unfold xcF at h
    obtain ⟨h1, h2⟩ := Bool.and_eq_true_iff.mp h
    obtain ⟨h3, h4⟩ := Bool.and_eq_true_iff.mp h2
    have e1 := ha e tl rfl
    unfold xcB
    refine Bool.and_eq_true_iff.mpr ⟨xeF_ok (by rw [e1]; exact hL) h1, Bool.and_eq_true_iff.mpr ⟨h3, ?_⟩⟩
    refine xcF_ok (a := a + e.2.1) (by rw [hL, List.drop_drop]) (fun e' tl' q => ?_) h4
    subst q
    rw [← e1]
    exact xbeq h3
theorem xbF_ok {own : String} {cc : ByteArray} {lk : List xL} {ls : List xI} (hk : ∀ q ∈ lk, xLq own q) (hs : ∀ e ∈ ls, xLs own e) {bl : List (Nat × List xI)} (h : xbF cc lk ls bl = true) : ∀ b ∈ bl, xbok own cc b := by
  refine xbB_ok hk hs ?_
  unfold xbB
  refine List.all_eq_true.mpr (fun b hb => ?_)
  obtain ⟨h1, h2⟩ := Bool.and_eq_true_iff.mp (List.all_eq_true.mp h b hb)
  refine Bool.and_eq_true_iff.mpr ⟨h1, ?_⟩
  refine xcF_ok rfl (fun e tl q => ?_) h2
  rw [q] at h1
  exact xbeq h1
end XDC
theorem xtc1 {w : Cond} (i : Nat) (h : tables_1_1[i]? = some w) (hg : goodWord w = true) : w ∈ lw_gt := List.mem_filter.mpr ⟨List.mem_append_right _ (show w ∈ tables_1 from List.mem_append_left _ (List.mem_of_getElem? h)), hg⟩
theorem xtc2 {w : Cond} (i : Nat) (h : tables_1_2[i]? = some w) (hg : goodWord w = true) : w ∈ lw_gt := List.mem_filter.mpr ⟨List.mem_append_right _ (show w ∈ tables_1 from List.mem_append_right _ (List.mem_append_left _ (List.mem_of_getElem? h))), hg⟩
theorem xtc3 {w : Cond} (i : Nat) (h : tables_1_3[i]? = some w) (hg : goodWord w = true) : w ∈ lw_gt := List.mem_filter.mpr ⟨List.mem_append_right _ (show w ∈ tables_1 from List.mem_append_right _ (List.mem_append_right _ (List.mem_append_left _ (List.mem_of_getElem? h)))), hg⟩
theorem xtc4 {w : Cond} (i : Nat) (h : tables_1_4[i]? = some w) (hg : goodWord w = true) : w ∈ lw_gt := List.mem_filter.mpr ⟨List.mem_append_right _ (show w ∈ tables_1 from List.mem_append_right _ (List.mem_append_right _ (List.mem_append_right _ (List.mem_append_left _ (List.mem_of_getElem? h))))), hg⟩
theorem xtc5 {w : Cond} (i : Nat) (h : tables_1_5[i]? = some w) (hg : goodWord w = true) : w ∈ lw_gt := List.mem_filter.mpr ⟨List.mem_append_right _ (show w ∈ tables_1 from List.mem_append_right _ (List.mem_append_right _ (List.mem_append_right _ (List.mem_append_right _ (List.mem_append_left _ (List.mem_of_getElem? h)))))), hg⟩
theorem xtc6 {w : Cond} (i : Nat) (h : tables_1_6[i]? = some w) (hg : goodWord w = true) : w ∈ lw_gt := List.mem_filter.mpr ⟨List.mem_append_right _ (show w ∈ tables_1 from List.mem_append_right _ (List.mem_append_right _ (List.mem_append_right _ (List.mem_append_right _ (List.mem_append_right _ (List.mem_append_left _ (List.mem_of_getElem? h))))))), hg⟩
theorem xtc7 {w : Cond} (i : Nat) (h : tables_1_7[i]? = some w) (hg : goodWord w = true) : w ∈ lw_gt := List.mem_filter.mpr ⟨List.mem_append_right _ (show w ∈ tables_1 from List.mem_append_right _ (List.mem_append_right _ (List.mem_append_right _ (List.mem_append_right _ (List.mem_append_right _ (List.mem_append_right _ (List.mem_append_left _ (List.mem_of_getElem? h)))))))), hg⟩
theorem xtc8 {w : Cond} (i : Nat) (h : tables_1_8[i]? = some w) (hg : goodWord w = true) : w ∈ lw_gt := List.mem_filter.mpr ⟨List.mem_append_right _ (show w ∈ tables_1 from List.mem_append_right _ (List.mem_append_right _ (List.mem_append_right _ (List.mem_append_right _ (List.mem_append_right _ (List.mem_append_right _ (List.mem_append_right _ (List.mem_append_left _ (List.mem_of_getElem? h))))))))), hg⟩
theorem xtc9 {w : Cond} (i : Nat) (h : tables_1_9[i]? = some w) (hg : goodWord w = true) : w ∈ lw_gt := List.mem_filter.mpr ⟨List.mem_append_right _ (show w ∈ tables_1 from List.mem_append_right _ (List.mem_append_right _ (List.mem_append_right _ (List.mem_append_right _ (List.mem_append_right _ (List.mem_append_right _ (List.mem_append_right _ (List.mem_append_right _ (List.mem_of_getElem? h))))))))), hg⟩
end
section
theorem lk_0 : xLq RJ6 (3, 36, 1431655765, 0, 265) := ⟨by decide, _, rfl, ⟨rfl, by decide, xtc5 56 rfl rfl⟩⟩
theorem lk_1 : xLq RJ6 (3, 36, 858993459, 0, 266) := ⟨by decide, _, rfl, ⟨rfl, by decide, xtc5 57 rfl rfl⟩⟩
theorem lk_2 : xLq RJ6 (3, 36, 252645135, 0, 267) := ⟨by decide, _, rfl, ⟨rfl, by decide, xtc5 58 rfl rfl⟩⟩
theorem lk_3 : xLq RX0 (3, 1, 0, 0, 39) := ⟨by decide, _, rfl, ⟨rfl, (RX0, TX0, 11), rfl, by decide, xtc2 69 rfl rfl⟩⟩
theorem lk_4 : xLq RX0 (3, 1, 1, 0, 50) := ⟨by decide, _, rfl, ⟨rfl, (RX1, TX1, 10), rfl, by decide, xtc1 73 rfl rfl⟩⟩
theorem lk_5 : xLq RX0 (3, 1, 0, 1, 11) := ⟨by decide, _, rfl, ⟨rfl, (RX0, TX0, 11), rfl, by decide, xtc2 70 rfl rfl⟩⟩
theorem lk_6 : xLq RX0 (3, 13, 285, 40, 60) := ⟨by decide, _, rfl, ⟨rfl, mX5_get, rfl, xtc4 50 rfl rfl, xtc3 202 rfl rfl, xtc3 203 rfl rfl, (RX5, TX5, 4), rfl, rfl⟩⟩
theorem lk_7 : xLq RX0 (3, 1, 0, 5, 27) := ⟨by decide, _, rfl, ⟨rfl, (RX0, TX0, 11), rfl, by decide, xtc2 76 rfl rfl⟩⟩
theorem lk_8 : xLq RX0 (3, 1, 0, 3, 20) := ⟨by decide, _, rfl, ⟨rfl, (RX0, TX0, 11), rfl, by decide, xtc2 73 rfl rfl⟩⟩
theorem lk_9 : xLq RX0 (3, 1, 5, 3, 54) := ⟨by decide, _, rfl, ⟨rfl, (RX5, TX5, 4), rfl, by decide, xtc1 54 rfl rfl⟩⟩
theorem lk_10 : xLq RX0 (3, 13, 16, 0, 139) := ⟨by decide, _, rfl, ⟨rfl, mX0_restWear, rfl, xtc5 239 rfl rfl, xtc4 145 rfl rfl, xtc4 146 rfl rfl, (RX0, TX0, 11), rfl, rfl⟩⟩
theorem lk_11 : xLq RX0 (3, 1, 1, 2, 142) := ⟨by decide, _, rfl, ⟨rfl, (RX1, TX1, 10), rfl, by decide, xtc1 80 rfl rfl⟩⟩
theorem lk_12 : xLq RX0 (3, 13, 21, 0, 145) := ⟨by decide, _, rfl, ⟨rfl, mX0_wear, rfl, xtc6 0 rfl rfl, xtc4 152 rfl rfl, xtc4 153 rfl rfl, (RX0, TX0, 11), rfl, rfl⟩⟩
theorem lk_13 : xLq RX0 (3, 13, 10, 0, 149) := ⟨by decide, _, rfl, ⟨rfl, mX0_isWornOut, rfl, xtc6 1 rfl rfl, xtc4 176 rfl rfl, xtc4 177 rfl rfl, (RX0, TX0, 11), rfl, rfl⟩⟩
theorem lk_14 : xLq RX0 (3, 52, 1000, 0, 72) := ⟨by decide, _, rfl, ⟨rfl, xtc4 64 rfl rfl⟩⟩
theorem lk_15 : xLq RX0 (3, 1, 0, 6, 30) := ⟨by decide, _, rfl, ⟨rfl, (RX0, TX0, 11), rfl, by decide, xtc2 77 rfl rfl⟩⟩
theorem lk_16 : xLq RX0 (3, 75, 0, 0, 66) := ⟨by decide, _, rfl, ⟨rfl, xtc4 52 rfl rfl⟩⟩
theorem lk_17 : xLq RX0 (3, 13, 3, 0, 80) := ⟨by decide, _, rfl, ⟨rfl, mX0_borneBy, rfl, xtc4 90 rfl rfl, xtc4 92 rfl rfl, xtb 11 (by decide +kernel) rfl, (RX0, TX0, 11), rfl, rfl⟩⟩
theorem lk_18 : xLq RX0 (3, 1, 1, 1, 126) := ⟨by decide, _, rfl, ⟨rfl, (RX1, TX1, 10), rfl, by decide, xtc1 77 rfl rfl⟩⟩
theorem lk_19 : xLq RX0 (3, 1, 0, 10, 43) := ⟨by decide, _, rfl, ⟨rfl, (RX0, TX0, 11), rfl, by decide, xtc2 83 rfl rfl⟩⟩
theorem lk_20 : xLq RX0 (3, 13, 12, 0, 92) := ⟨by decide, _, rfl, ⟨rfl, mX0_layAsTold, rfl, xtc4 125 rfl rfl, xtc4 43 rfl rfl, xtc4 44 rfl rfl, (RX0, TX0, 11), rfl, rfl⟩⟩
theorem lk_21 : xLq RX0 (3, 13, 13, 0, 95) := ⟨by decide, _, rfl, ⟨rfl, mX0_leastRound, rfl, xtc4 126 rfl rfl, xtc4 99 rfl rfl, xtc4 100 rfl rfl, (RX0, TX0, 11), rfl, rfl⟩⟩
theorem lk_22 : xLq RX0 (3, 13, 20, 0, 99) := ⟨by decide, _, rfl, ⟨rfl, mX0_takeOrder, rfl, xtc4 127 rfl rfl, xtc4 129 rfl rfl, xtb 12 (by decide +kernel) rfl, (RX0, TX0, 11), rfl, rfl⟩⟩
theorem lk_23 : xLq RX0 (3, 13, 17, 0, 103) := ⟨by decide, _, rfl, ⟨rfl, mX0_stepOrder, rfl, xtc4 132 rfl rfl, xtc4 134 rfl rfl, xtb 13 (by decide +kernel) rfl, (RX0, TX0, 11), rfl, rfl⟩⟩
theorem lk_24 : xLq RX0 (3, 13, 11, 0, 47) := ⟨by decide, _, rfl, ⟨rfl, mX0_lay, rfl, xtc4 46 rfl rfl, xtc4 48 rfl rfl, xtb 10 (by decide +kernel) rfl, (RX0, TX0, 11), rfl, rfl⟩⟩
theorem lk_25 : xLq RX0 (3, 1, 0, 9, 107) := ⟨by decide, _, rfl, ⟨rfl, (RX0, TX0, 11), rfl, by decide, xtc2 81 rfl rfl⟩⟩
theorem lk_26 : xLq RX0 (3, 59, 0, 10, 43) := ⟨by decide, _, rfl, ⟨rfl, (RX0, TX0, 11), .boolean, rfl, by decide, xtc2 83 rfl rfl, rfl, (fun h => by cases h), by decide +kernel, rfl⟩⟩
theorem lk_27 : xLq RX0 (3, 25, 0, 0, 3) := ⟨by decide, _, rfl, ⟨rfl, xtc2 68 rfl rfl⟩⟩
theorem lk_28 : xLq RX0 (3, 61, 0, 1, 11) := ⟨by decide, _, rfl, ⟨rfl, (RX0, TX0, 11), .array .int, rfl, by decide, xtc2 70 rfl rfl, rfl, (fun _ => rfl), by decide +kernel, Or.inr ⟨_, rfl⟩⟩⟩
theorem lk_29 : xLq RX0 (3, 61, 0, 2, 17) := ⟨by decide, _, rfl, ⟨rfl, (RX0, TX0, 11), .array .int, rfl, by decide, xtc2 71 rfl rfl, rfl, (fun _ => rfl), by decide +kernel, Or.inr ⟨_, rfl⟩⟩⟩
theorem lk_30 : xLq RX0 (3, 61, 0, 3, 20) := ⟨by decide, _, rfl, ⟨rfl, (RX0, TX0, 11), .array .int, rfl, by decide, xtc2 73 rfl rfl, rfl, (fun _ => rfl), by decide +kernel, Or.inr ⟨_, rfl⟩⟩⟩
theorem lk_31 : xLq RX0 (3, 61, 0, 4, 23) := ⟨by decide, _, rfl, ⟨rfl, (RX0, TX0, 11), .array .long, rfl, by decide, xtc2 75 rfl rfl, rfl, (fun _ => rfl), by decide +kernel, Or.inr ⟨_, rfl⟩⟩⟩
theorem lk_32 : xLq RX0 (3, 61, 0, 5, 27) := ⟨by decide, _, rfl, ⟨rfl, (RX0, TX0, 11), .array .long, rfl, by decide, xtc2 76 rfl rfl, rfl, (fun _ => rfl), by decide +kernel, Or.inr ⟨_, rfl⟩⟩⟩
theorem lk_33 : xLq RX0 (3, 61, 0, 6, 30) := ⟨by decide, _, rfl, ⟨rfl, (RX0, TX0, 11), .array .long, rfl, by decide, xtc2 77 rfl rfl, rfl, (fun _ => rfl), by decide +kernel, Or.inr ⟨_, rfl⟩⟩⟩
theorem lk_34 : xLq RX0 (3, 61, 0, 7, 33) := ⟨by decide, _, rfl, ⟨rfl, (RX0, TX0, 11), .array .long, rfl, by decide, xtc2 78 rfl rfl, rfl, (fun _ => rfl), by decide +kernel, Or.inr ⟨_, rfl⟩⟩⟩
theorem lk_35 : xLq RX0 (3, 61, 0, 8, 36) := ⟨by decide, _, rfl, ⟨rfl, (RX0, TX0, 11), .array .int, rfl, by decide, xtc2 79 rfl rfl, rfl, (fun _ => rfl), by decide +kernel, Or.inr ⟨_, rfl⟩⟩⟩
theorem lk_36 : xLq RX0 (3, 61, 0, 0, 39) := ⟨by decide, _, rfl, ⟨rfl, (RX0, TX0, 11), .object "BentScreens$Film", rfl, by decide, xtc2 69 rfl rfl, rfl, (fun _ => rfl), by decide +kernel, Or.inl ⟨_, rfl⟩⟩⟩
theorem lk_37 : xLq RX0 (3, 13, 6, 0, 129) := ⟨by decide, _, rfl, ⟨rfl, mX0_commonLife, rfl, xtc4 159 rfl rfl, xtc4 161 rfl rfl, xtb 15 (by decide +kernel) rfl, (RX0, TX0, 11), rfl, rfl⟩⟩
theorem lk_38 : xLq RX0 (3, 13, 22, 0, 133) := ⟨by decide, _, rfl, ⟨rfl, mX0_wholeLives, rfl, xtc4 163 rfl rfl, xtc4 165 rfl rfl, xtb 16 (by decide +kernel) rfl, (RX0, TX0, 11), rfl, rfl⟩⟩
theorem lk_39 : xLq RX0 (3, 13, 15, 0, 136) := ⟨by decide, _, rfl, ⟨rfl, mX0_partLives, rfl, xtc4 167 rfl rfl, xtc4 169 rfl rfl, xtb 17 (by decide +kernel) rfl, (RX0, TX0, 11), rfl, rfl⟩⟩
theorem lk_40 : xLq RX0 (3, 1, 0, 4, 23) := ⟨by decide, _, rfl, ⟨rfl, (RX0, TX0, 11), rfl, by decide, xtc2 75 rfl rfl⟩⟩
theorem lk_41 : xLq RX0 (3, 52, 2, 0, 64) := ⟨by decide, _, rfl, ⟨rfl, xtc4 51 rfl rfl⟩⟩
theorem lk_42 : xLq RX0 (3, 1, 0, 2, 17) := ⟨by decide, _, rfl, ⟨rfl, (RX0, TX0, 11), rfl, by decide, xtc2 71 rfl rfl⟩⟩
theorem lk_43 : xLq RX0 (3, 13, 55, 91, 74) := ⟨by decide, _, rfl, ⟨rfl, mX11_divide, rfl, "BentScreens", List.mem_of_getElem? (i := 910) (by decide +kernel), xtc4 66 rfl rfl⟩⟩
theorem lk_44 : xLq RX0 (3, 76, 0, 0, 84) := ⟨by decide, _, rfl, ⟨rfl, xtc4 102 rfl rfl⟩⟩
theorem lk_45 : xLq RX0 (3, 52, 10000, 0, 87) := ⟨by decide, _, rfl, ⟨rfl, xtc4 105 rfl rfl⟩⟩
theorem lk_46 : xLq RX0 (3, 77, 0, 0, 89) := ⟨by decide, _, rfl, ⟨rfl, xtc4 106 rfl rfl⟩⟩
theorem lk_47 : xLq RX0 (3, 1, 0, 7, 33) := ⟨by decide, _, rfl, ⟨rfl, (RX0, TX0, 11), rfl, by decide, xtc2 78 rfl rfl⟩⟩
theorem lk_48 : xLq RX0 (3, 13, 2, 2, 120) := ⟨by decide, _, rfl, ⟨rfl, mJ7_fill_d0a16, rfl, xtc4 148 rfl rfl, xtc4 149 rfl rfl⟩⟩
theorem lk_49 : xLq RX0 (3, 13, 19, 0, 116) := ⟨by decide, _, rfl, ⟨rfl, mX0_swapPlaces, rfl, xtc4 136 rfl rfl, xtc4 138 rfl rfl, xtb 14 (by decide +kernel) rfl, (RX0, TX0, 11), rfl, rfl⟩⟩
theorem lk_50 : xLq RX0 (3, 52, 1000000, 0, 78) := ⟨by decide, _, rfl, ⟨rfl, xtc4 81 rfl rfl⟩⟩
theorem lk_51 : xLq RX0 (3, 14, 0, 9, 107) := ⟨by decide, _, rfl, ⟨rfl, (RX0, TX0, 11), .int, rfl, by decide, xtc2 81 rfl rfl, rfl, (fun h => by cases h), by decide +kernel, rfl⟩⟩
theorem lk_52 : xLq RX0 (3, 1, 0, 8, 36) := ⟨by decide, _, rfl, ⟨rfl, (RX0, TX0, 11), rfl, by decide, xtc2 79 rfl rfl⟩⟩
theorem lk_53 : xLq RX0 (3, 58, 0, 0, 110) := ⟨by decide, _, rfl, ⟨rfl, xtc4 131 rfl rfl⟩⟩
theorem lk_54 : xLq RX10 (3, 13, 28, 80, 100) := ⟨by decide, _, rfl, ⟨rfl, mX10_explore, rfl, xtc5 1 rfl rfl, xtc5 3 rfl rfl, xtb 23 (by decide +kernel) rfl, (RX10, TX10, 13), rfl, rfl⟩⟩
theorem lk_55 : xLq RX10 (3, 1, 10, 7, 33) := ⟨by decide, _, rfl, ⟨rfl, (RX10, TX10, 13), rfl, by decide, xtc2 121 rfl rfl⟩⟩
theorem lk_56 : xLq RX10 (3, 13, 32, 80, 103) := ⟨by decide, _, rfl, ⟨rfl, mX10_isReached, rfl, xtc5 9 rfl rfl, xtc5 11 rfl rfl, xtb 25 (by decide +kernel) rfl, (RX10, TX10, 13), rfl, rfl⟩⟩
theorem lk_57 : xLq RX10 (3, 1, 10, 8, 36) := ⟨by decide, _, rfl, ⟨rfl, (RX10, TX10, 13), rfl, by decide, xtc2 123 rfl rfl⟩⟩
theorem lk_58 : xLq RX10 (3, 1, 10, 3, 20) := ⟨by decide, _, rfl, ⟨rfl, (RX10, TX10, 13), rfl, by decide, xtc2 117 rfl rfl⟩⟩
theorem lk_59 : xLq RX10 (3, 13, 36, 82, 107) := ⟨by decide, _, rfl, ⟨rfl, mX10_turnFlow, rfl, xtc5 13 rfl rfl, xtc5 14 rfl rfl⟩⟩
theorem lk_60 : xLq RX10 (3, 1, 10, 4, 24) := ⟨by decide, _, rfl, ⟨rfl, (RX10, TX10, 13), rfl, by decide, xtc2 118 rfl rfl⟩⟩
theorem lk_61 : xLq RX10 (3, 1, 10, 5, 27) := ⟨by decide, _, rfl, ⟨rfl, (RX10, TX10, 13), rfl, by decide, xtc2 119 rfl rfl⟩⟩
theorem lk_62 : xLq RX10 (3, 1, 10, 0, 42) := ⟨by decide, _, rfl, ⟨rfl, (RX10, TX10, 13), rfl, by decide, xtc2 114 rfl rfl⟩⟩
theorem lk_63 : xLq RX10 (3, 1, 9, 4, 56) := ⟨by decide, _, rfl, ⟨rfl, (RX9, TX9, 14), rfl, by decide, xtc1 144 rfl rfl⟩⟩
theorem lk_64 : xLq RX10 (3, 1, 1, 8, 66) := ⟨by decide, _, rfl, ⟨rfl, (RX1, TX1, 10), rfl, by decide, xtc1 100 rfl rfl⟩⟩
theorem lk_65 : xLq RX10 (3, 1, 1, 7, 62) := ⟨by decide, _, rfl, ⟨rfl, (RX1, TX1, 10), rfl, by decide, xtc1 95 rfl rfl⟩⟩
theorem lk_66 : xLq RX10 (3, 13, 27, 80, 118) := ⟨by decide, _, rfl, ⟨rfl, mX10_cuts, rfl, xtc5 28 rfl rfl, xtc5 29 rfl rfl, xtc5 30 rfl rfl, (RX10, TX10, 13), rfl, rfl⟩⟩
theorem lk_67 : xLq RX10 (3, 13, 70, 91, 83) := ⟨by decide, _, rfl, ⟨rfl, mX11_isIn, rfl, "BentScreens", List.mem_of_getElem? (i := 1074) (by decide +kernel), xtc3 210 rfl rfl⟩⟩
theorem lk_68 : xLq RX10 (3, 1, 10, 1, 11) := ⟨by decide, _, rfl, ⟨rfl, (RX10, TX10, 13), rfl, by decide, xtc2 115 rfl rfl⟩⟩
theorem lk_69 : xLq RX10 (3, 1, 10, 2, 17) := ⟨by decide, _, rfl, ⟨rfl, (RX10, TX10, 13), rfl, by decide, xtc2 116 rfl rfl⟩⟩
theorem lk_70 : xLq RX10 (3, 13, 1, 2, 87) := ⟨by decide, _, rfl, ⟨rfl, mJ7_fill_53178, rfl, xtc4 234 rfl rfl, xtc4 235 rfl rfl⟩⟩
theorem lk_71 : xLq RX10 (3, 14, 10, 10, 111) := ⟨by decide, _, rfl, ⟨rfl, (RX10, TX10, 13), .int, rfl, by decide, xtc2 125 rfl rfl, rfl, (fun h => by cases h), by decide +kernel, rfl⟩⟩
theorem lk_72 : xLq RX10 (3, 13, 34, 80, 114) := ⟨by decide, _, rfl, ⟨rfl, mX10_reach, rfl, xtc5 5 rfl rfl, xtc5 7 rfl rfl, xtb 24 (by decide +kernel) rfl, (RX10, TX10, 13), rfl, rfl⟩⟩
theorem lk_73 : xLq RX10 (3, 1, 10, 10, 111) := ⟨by decide, _, rfl, ⟨rfl, (RX10, TX10, 13), rfl, by decide, xtc2 125 rfl rfl⟩⟩
theorem lk_74 : xLq RX10 (3, 1, 10, 9, 39) := ⟨by decide, _, rfl, ⟨rfl, (RX10, TX10, 13), rfl, by decide, xtc2 124 rfl rfl⟩⟩
theorem lk_75 : xLq RX10 (3, 1, 10, 6, 30) := ⟨by decide, _, rfl, ⟨rfl, (RX10, TX10, 13), rfl, by decide, xtc2 120 rfl rfl⟩⟩
theorem lk_76 : xLq RX10 (3, 14, 10, 11, 93) := ⟨by decide, _, rfl, ⟨rfl, (RX10, TX10, 13), .int, rfl, by decide, xtc2 126 rfl rfl, rfl, (fun h => by cases h), by decide +kernel, rfl⟩⟩
theorem lk_77 : xLq RX10 (3, 13, 25, 80, 96) := ⟨by decide, _, rfl, ⟨rfl, mX10_addWay, rfl, xtc4 237 rfl rfl, xtc4 239 rfl rfl, xtb 22 (by decide +kernel) rfl, (RX10, TX10, 13), rfl, rfl⟩⟩
theorem lk_78 : xLq RX10 (3, 1, 10, 11, 93) := ⟨by decide, _, rfl, ⟨rfl, (RX10, TX10, 13), rfl, by decide, xtc2 126 rfl rfl⟩⟩
theorem lk_79 : xLq RX10 (3, 59, 10, 12, 46) := ⟨by decide, _, rfl, ⟨rfl, (RX10, TX10, 13), .boolean, rfl, by decide, xtc2 128 rfl rfl, rfl, (fun h => by cases h), by decide +kernel, rfl⟩⟩
theorem lk_80 : xLq RX10 (3, 25, 0, 0, 3) := ⟨by decide, _, rfl, ⟨rfl, xtc2 113 rfl rfl⟩⟩
theorem lk_81 : xLq RX10 (3, 61, 10, 1, 11) := ⟨by decide, _, rfl, ⟨rfl, (RX10, TX10, 13), .array .boolean, rfl, by decide, xtc2 115 rfl rfl, rfl, (fun _ => rfl), by decide +kernel, Or.inr ⟨_, rfl⟩⟩⟩
theorem lk_82 : xLq RX10 (3, 61, 10, 2, 17) := ⟨by decide, _, rfl, ⟨rfl, (RX10, TX10, 13), .array .boolean, rfl, by decide, xtc2 116 rfl rfl, rfl, (fun _ => rfl), by decide +kernel, Or.inr ⟨_, rfl⟩⟩⟩
theorem lk_83 : xLq RX10 (3, 61, 10, 3, 20) := ⟨by decide, _, rfl, ⟨rfl, (RX10, TX10, 13), .array .int, rfl, by decide, xtc2 117 rfl rfl, rfl, (fun _ => rfl), by decide +kernel, Or.inr ⟨_, rfl⟩⟩⟩
theorem lk_84 : xLq RX10 (3, 61, 10, 4, 24) := ⟨by decide, _, rfl, ⟨rfl, (RX10, TX10, 13), .array .int, rfl, by decide, xtc2 118 rfl rfl, rfl, (fun _ => rfl), by decide +kernel, Or.inr ⟨_, rfl⟩⟩⟩
theorem lk_85 : xLq RX10 (3, 61, 10, 5, 27) := ⟨by decide, _, rfl, ⟨rfl, (RX10, TX10, 13), .array .boolean, rfl, by decide, xtc2 119 rfl rfl, rfl, (fun _ => rfl), by decide +kernel, Or.inr ⟨_, rfl⟩⟩⟩
theorem lk_86 : xLq RX10 (3, 61, 10, 6, 30) := ⟨by decide, _, rfl, ⟨rfl, (RX10, TX10, 13), .array .boolean, rfl, by decide, xtc2 120 rfl rfl, rfl, (fun _ => rfl), by decide +kernel, Or.inr ⟨_, rfl⟩⟩⟩
theorem lk_87 : xLq RX10 (3, 61, 10, 7, 33) := ⟨by decide, _, rfl, ⟨rfl, (RX10, TX10, 13), .array .boolean, rfl, by decide, xtc2 121 rfl rfl, rfl, (fun _ => rfl), by decide +kernel, Or.inr ⟨_, rfl⟩⟩⟩
theorem lk_88 : xLq RX10 (3, 61, 10, 8, 36) := ⟨by decide, _, rfl, ⟨rfl, (RX10, TX10, 13), .array .int, rfl, by decide, xtc2 123 rfl rfl, rfl, (fun _ => rfl), by decide +kernel, Or.inr ⟨_, rfl⟩⟩⟩
theorem lk_89 : xLq RX10 (3, 61, 10, 9, 39) := ⟨by decide, _, rfl, ⟨rfl, (RX10, TX10, 13), .array .int, rfl, by decide, xtc2 124 rfl rfl, rfl, (fun _ => rfl), by decide +kernel, Or.inr ⟨_, rfl⟩⟩⟩
theorem lk_90 : xLq RX10 (3, 61, 10, 0, 42) := ⟨by decide, _, rfl, ⟨rfl, (RX10, TX10, 13), .object "BentScreens$Told", rfl, by decide, xtc2 114 rfl rfl, rfl, (fun _ => rfl), by decide +kernel, Or.inl ⟨_, rfl⟩⟩⟩
theorem lk_91 : xLq RX10 (3, 13, 323, 72, 69) := ⟨by decide, _, rfl, ⟨rfl, mX9_cracksInView, rfl, xtc4 227 rfl rfl, xtc4 212 rfl rfl, xtc4 213 rfl rfl, (RX9, TX9, 14), rfl, rfl⟩⟩
theorem lk_92 : xLq RX10 (3, 1, 9, 5, 73) := ⟨by decide, _, rfl, ⟨rfl, (RX9, TX9, 14), rfl, by decide, xtc1 148 rfl rfl⟩⟩
theorem lk_93 : xLq RX10 (3, 13, 285, 40, 77) := ⟨by decide, _, rfl, ⟨rfl, mX5_get, rfl, xtc4 228 rfl rfl, xtc3 202 rfl rfl, xtc3 203 rfl rfl, (RX5, TX5, 4), rfl, rfl⟩⟩
theorem lk_94 : xLq RX10 (3, 1, 10, 12, 46) := ⟨by decide, _, rfl, ⟨rfl, (RX10, TX10, 13), rfl, by decide, xtc2 128 rfl rfl⟩⟩
theorem lk_95 : xLq RX10 (3, 13, 33, 80, 50) := ⟨by decide, _, rfl, ⟨rfl, mX10_layNet, rfl, xtc4 223 rfl rfl, xtc4 225 rfl rfl, xtb 20 (by decide +kernel) rfl, (RX10, TX10, 13), rfl, rfl⟩⟩
theorem lk_96 : xLq RX10 (3, 13, 29, 80, 53) := ⟨by decide, _, rfl, ⟨rfl, mX10_findWays, rfl, xtc4 230 rfl rfl, xtc4 232 rfl rfl, xtb 21 (by decide +kernel) rfl, (RX10, TX10, 13), rfl, rfl⟩⟩
theorem lk_97 : xLq RX11 (3, 13, 70, 90, 238) := ⟨by decide, _, rfl, ⟨rfl, mX11_isIn, rfl, xtc4 75 rfl rfl, xtc3 210 rfl rfl⟩⟩
theorem lk_98 : xLq RX11 (3, 1, 11, 1, 16) := ⟨by decide, _, rfl, ⟨rfl, (RX11, TX11, 11), rfl, by decide, xtc3 16 rfl rfl⟩⟩
theorem lk_99 : xLq RX11 (3, 1, 11, 0, 10) := ⟨by decide, _, rfl, ⟨rfl, (RX11, TX11, 11), rfl, by decide, xtc3 15 rfl rfl⟩⟩
theorem lk_100 : xLq RX11 (3, 13, 322, 72, 378) := ⟨by decide, _, rfl, ⟨rfl, mX9_copy, rfl, xtc6 196 rfl rfl, xtc6 197 rfl rfl, xtc6 198 rfl rfl, (RX9, TX9, 14), rfl, rfl⟩⟩
theorem lk_101 : xLq RX11 (3, 13, 61, 88, 103) := ⟨by decide, _, rfl, ⟨rfl, mX11_forgetFilm, rfl, xtc4 9 rfl rfl, xtc4 11 rfl rfl, xtb 9 (by decide +kernel) rfl, (RX11, TX11, 11), rfl, rfl⟩⟩
theorem lk_102 : xLq RX11 (3, 1, 11, 8, 79) := ⟨by decide, _, rfl, ⟨rfl, (RX11, TX11, 11), rfl, by decide, xtc3 23 rfl rfl⟩⟩
theorem lk_103 : xLq RX11 (3, 13, 272, 32, 326) := ⟨by decide, _, rfl, ⟨rfl, mX4_forget, rfl, xtc6 21 rfl rfl, xtc6 22 rfl rfl, xtc6 23 rfl rfl, (RX4, TX4, 12), rfl, rfl⟩⟩
theorem lk_104 : xLq RX11 (3, 13, 80, 88, 361) := ⟨by decide, _, rfl, ⟨rfl, mX11_measureAll, rfl, xtc6 160 rfl rfl, xtc6 162 rfl rfl, xtb 53 (by decide +kernel) rfl, (RX11, TX11, 11), rfl, rfl⟩⟩
theorem lk_105 : xLq RX11 (3, 13, 72, 88, 364) := ⟨by decide, _, rfl, ⟨rfl, mX11_judgeLines, rfl, xtc6 170 rfl rfl, xtc6 172 rfl rfl, xtb 54 (by decide +kernel) rfl, (RX11, TX11, 11), rfl, rfl⟩⟩
theorem lk_106 : xLq RX11 (3, 1, 9, 12, 367) := ⟨by decide, _, rfl, ⟨rfl, (RX9, TX9, 14), rfl, by decide, xtc1 167 rfl rfl⟩⟩
theorem lk_107 : xLq RX11 (3, 1, 5, 3, 151) := ⟨by decide, _, rfl, ⟨rfl, (RX5, TX5, 4), rfl, by decide, xtc1 60 rfl rfl⟩⟩
theorem lk_108 : xLq RX11 (3, 1, 11, 10, 87) := ⟨by decide, _, rfl, ⟨rfl, (RX11, TX11, 11), rfl, by decide, xtc3 25 rfl rfl⟩⟩
theorem lk_109 : xLq RX11 (3, 13, 285, 40, 132) := ⟨by decide, _, rfl, ⟨rfl, mX5_get, rfl, xtc4 55 rfl rfl, xtc3 202 rfl rfl, xtc3 203 rfl rfl, (RX5, TX5, 4), rfl, rfl⟩⟩
theorem lk_110 : xLq RX11 (3, 1, 9, 4, 38) := ⟨by decide, _, rfl, ⟨rfl, (RX9, TX9, 14), rfl, by decide, xtc1 142 rfl rfl⟩⟩
theorem lk_111 : xLq RX11 (3, 1, 1, 0, 112) := ⟨by decide, _, rfl, ⟨rfl, (RX1, TX1, 10), rfl, by decide, xtc1 74 rfl rfl⟩⟩
theorem lk_112 : xLq RX11 (3, 13, 287, 40, 117) := ⟨by decide, _, rfl, ⟨rfl, mX5_has, rfl, xtc4 41 rfl rfl, xtc3 226 rfl rfl, xtc3 227 rfl rfl, (RX5, TX5, 4), rfl, rfl⟩⟩
theorem lk_113 : xLq RX11 (3, 13, 71, 90, 140) := ⟨by decide, _, rfl, ⟨rfl, mX11_isRound, rfl, xtc4 72 rfl rfl, xtc4 73 rfl rfl⟩⟩
theorem lk_114 : xLq RX11 (3, 1, 11, 4, 45) := ⟨by decide, _, rfl, ⟨rfl, (RX11, TX11, 11), rfl, by decide, xtc3 19 rfl rfl⟩⟩
theorem lk_115 : xLq RX11 (3, 13, 12, 0, 123) := ⟨by decide, _, rfl, ⟨rfl, mX0_layAsTold, rfl, xtc4 42 rfl rfl, xtc4 43 rfl rfl, xtc4 44 rfl rfl, (RX0, TX0, 11), rfl, rfl⟩⟩
theorem lk_116 : xLq RX11 (3, 13, 5, 0, 147) := ⟨by decide, _, rfl, ⟨rfl, mX0_canBear, rfl, xtc4 86 rfl rfl, xtc4 87 rfl rfl, xtc4 88 rfl rfl, (RX0, TX0, 11), rfl, rfl⟩⟩
theorem lk_117 : xLq RX11 (3, 1, 9, 10, 316) := ⟨by decide, _, rfl, ⟨rfl, (RX9, TX9, 14), rfl, by decide, xtc1 162 rfl rfl⟩⟩
theorem lk_118 : xLq RX11 (3, 13, 68, 88, 319) := ⟨by decide, _, rfl, ⟨rfl, mX11_isBroken, rfl, xtc5 230 rfl rfl, xtc5 232 rfl rfl, xtb 42 (by decide +kernel) rfl, (RX11, TX11, 11), rfl, rfl⟩⟩
theorem lk_119 : xLq RX11 (3, 52, 1000, 0, 394) := ⟨by decide, _, rfl, ⟨rfl, xtc6 10 rfl rfl⟩⟩
theorem lk_120 : xLq RX11 (3, 13, 55, 90, 396) := ⟨by decide, _, rfl, ⟨rfl, mX11_divide, rfl, xtc6 11 rfl rfl, xtc4 66 rfl rfl⟩⟩
theorem lk_121 : xLq RX11 (3, 1, 9, 5, 195) := ⟨by decide, _, rfl, ⟨rfl, (RX9, TX9, 14), rfl, by decide, xtc1 149 rfl rfl⟩⟩
theorem lk_122 : xLq RX11 (3, 13, 290, 40, 212) := ⟨by decide, _, rfl, ⟨rfl, mX5_put, rfl, xtc4 206 rfl rfl, xtc3 222 rfl rfl, xtc3 223 rfl rfl, (RX5, TX5, 4), rfl, rfl⟩⟩
theorem lk_123 : xLq RX11 (3, 1, 9, 8, 252) := ⟨by decide, _, rfl, ⟨rfl, (RX9, TX9, 14), rfl, by decide, xtc1 157 rfl rfl⟩⟩
theorem lk_124 : xLq RX11 (3, 1, 9, 6, 186) := ⟨by decide, _, rfl, ⟨rfl, (RX9, TX9, 14), rfl, by decide, xtc1 151 rfl rfl⟩⟩
theorem lk_125 : xLq RX11 (3, 1, 9, 7, 189) := ⟨by decide, _, rfl, ⟨rfl, (RX9, TX9, 14), rfl, by decide, xtc1 153 rfl rfl⟩⟩
theorem lk_126 : xLq RX11 (3, 1, 9, 9, 273) := ⟨by decide, _, rfl, ⟨rfl, (RX9, TX9, 14), rfl, by decide, xtc1 160 rfl rfl⟩⟩
theorem lk_127 : xLq RX11 (3, 1, 9, 11, 72) := ⟨by decide, _, rfl, ⟨rfl, (RX9, TX9, 14), rfl, by decide, xtc1 164 rfl rfl⟩⟩
theorem lk_128 : xLq RX11 (3, 13, 323, 72, 216) := ⟨by decide, _, rfl, ⟨rfl, mX9_cracksInView, rfl, xtc4 211 rfl rfl, xtc4 212 rfl rfl, xtc4 213 rfl rfl, (RX9, TX9, 14), rfl, rfl⟩⟩
theorem lk_129 : xLq RX11 (3, 13, 46, 88, 375) := ⟨by decide, _, rfl, ⟨rfl, mX11_countOfFilm, rfl, xtc6 187 rfl rfl, xtc6 189 rfl rfl, xtb 56 (by decide +kernel) rfl, (RX11, TX11, 11), rfl, rfl⟩⟩
theorem lk_130 : xLq RX11 (3, 1, 1, 7, 225) := ⟨by decide, _, rfl, ⟨rfl, (RX1, TX1, 10), rfl, by decide, xtc1 98 rfl rfl⟩⟩
theorem lk_131 : xLq RX11 (3, 1, 1, 8, 255) := ⟨by decide, _, rfl, ⟨rfl, (RX1, TX1, 10), rfl, by decide, xtc1 103 rfl rfl⟩⟩
theorem lk_132 : xLq RX11 (3, 13, 69, 88, 288) := ⟨by decide, _, rfl, ⟨rfl, mX11_isDark, rfl, xtc5 123 rfl rfl, xtc5 125 rfl rfl, xtb 32 (by decide +kernel) rfl, (RX11, TX11, 11), rfl, rfl⟩⟩
theorem lk_133 : xLq RX11 (3, 1, 1, 5, 297) := ⟨by decide, _, rfl, ⟨rfl, (RX1, TX1, 10), rfl, by decide, xtc1 89 rfl rfl⟩⟩
theorem lk_134 : xLq RX11 (3, 1, 1, 6, 300) := ⟨by decide, _, rfl, ⟨rfl, (RX1, TX1, 10), rfl, by decide, xtc1 93 rfl rfl⟩⟩
theorem lk_135 : xLq RX11 (3, 1, 1, 9, 412) := ⟨by decide, _, rfl, ⟨rfl, (RX1, TX1, 10), rfl, by decide, xtc1 106 rfl rfl⟩⟩
theorem lk_136 : xLq RX11 (3, 13, 243, 8, 415) := ⟨by decide, _, rfl, ⟨rfl, mX1_rowsOf, rfl, xtc6 191 rfl rfl, xtc3 190 rfl rfl, xtc3 191 rfl rfl, (RX1, TX1, 10), rfl, rfl⟩⟩
theorem lk_137 : xLq RX11 (3, 13, 289, 40, 198) := ⟨by decide, _, rfl, ⟨rfl, mX5_isFull, rfl, xtc4 191 rfl rfl, xtc3 194 rfl rfl, xtc3 195 rfl rfl, (RX5, TX5, 4), rfl, rfl⟩⟩
theorem lk_138 : xLq RX11 (3, 13, 63, 88, 201) := ⟨by decide, _, rfl, ⟨rfl, mX11_hasPart, rfl, xtc4 192 rfl rfl, xtc4 194 rfl rfl, xtb 18 (by decide +kernel) rfl, (RX11, TX11, 11), rfl, rfl⟩⟩
theorem lk_139 : xLq RX11 (3, 13, 324, 72, 205) := ⟨by decide, _, rfl, ⟨rfl, mX9_findCrack, rfl, xtc4 200 rfl rfl, xtc4 201 rfl rfl, xtc4 202 rfl rfl, (RX9, TX9, 14), rfl, rfl⟩⟩
theorem lk_140 : xLq RX11 (3, 13, 286, 40, 209) := ⟨by decide, _, rfl, ⟨rfl, mX5_grow, rfl, xtc4 205 rfl rfl, xtc3 217 rfl rfl, xtc3 218 rfl rfl, (RX5, TX5, 4), rfl, rfl⟩⟩
theorem lk_141 : xLq RX11 (3, 1, 11, 5, 52) := ⟨by decide, _, rfl, ⟨rfl, (RX11, TX11, 11), rfl, by decide, xtc3 20 rfl rfl⟩⟩
theorem lk_142 : xLq RX11 (3, 13, 30, 80, 192) := ⟨by decide, _, rfl, ⟨rfl, mX10_forget, rfl, xtc4 17 rfl rfl, xtc4 18 rfl rfl, xtc4 19 rfl rfl, (RX10, TX10, 13), rfl, rfl⟩⟩
theorem lk_143 : xLq RX11 (3, 1, 1, 2, 169) := ⟨by decide, _, rfl, ⟨rfl, (RX1, TX1, 10), rfl, by decide, xtc1 79 rfl rfl⟩⟩
theorem lk_144 : xLq RX11 (3, 13, 16, 0, 172) := ⟨by decide, _, rfl, ⟨rfl, mX0_restWear, rfl, xtc4 144 rfl rfl, xtc4 145 rfl rfl, xtc4 146 rfl rfl, (RX0, TX0, 11), rfl, rfl⟩⟩
theorem lk_145 : xLq RX11 (3, 13, 21, 0, 175) := ⟨by decide, _, rfl, ⟨rfl, mX0_wear, rfl, xtc4 151 rfl rfl, xtc4 152 rfl rfl, xtc4 153 rfl rfl, (RX0, TX0, 11), rfl, rfl⟩⟩
theorem lk_146 : xLq RX11 (3, 13, 10, 0, 182) := ⟨by decide, _, rfl, ⟨rfl, mX0_isWornOut, rfl, xtc4 175 rfl rfl, xtc4 176 rfl rfl, xtc4 177 rfl rfl, (RX0, TX0, 11), rfl, rfl⟩⟩
theorem lk_147 : xLq RX11 (3, 13, 35, 80, 219) := ⟨by decide, _, rfl, ⟨rfl, mX10_refresh, rfl, xtc4 219 rfl rfl, xtc4 220 rfl rfl, xtc4 221 rfl rfl, (RX10, TX10, 13), rfl, rfl⟩⟩
theorem lk_148 : xLq RX11 (3, 1, 10, 11, 222) := ⟨by decide, _, rfl, ⟨rfl, (RX10, TX10, 13), rfl, by decide, xtc2 127 rfl rfl⟩⟩
theorem lk_149 : xLq RX11 (3, 13, 26, 80, 231) := ⟨by decide, _, rfl, ⟨rfl, mX10_countCut, rfl, xtc5 24 rfl rfl, xtc5 25 rfl rfl, xtc5 26 rfl rfl, (RX10, TX10, 13), rfl, rfl⟩⟩
theorem lk_150 : xLq RX11 (3, 13, 64, 88, 261) := ⟨by decide, _, rfl, ⟨rfl, mX11_hasPoint, rfl, xtc4 196 rfl rfl, xtc4 198 rfl rfl, xtb 19 (by decide +kernel) rfl, (RX11, TX11, 11), rfl, rfl⟩⟩
theorem lk_151 : xLq RX11 (3, 1, 11, 6, 59) := ⟨by decide, _, rfl, ⟨rfl, (RX11, TX11, 11), rfl, by decide, xtc3 21 rfl rfl⟩⟩
theorem lk_152 : xLq RX11 (3, 13, 266, 24, 279) := ⟨by decide, _, rfl, ⟨rfl, mX3_refreshDamp, rfl, xtc5 102 rfl rfl, xtc5 103 rfl rfl, xtc5 104 rfl rfl, (RX3, TX3, 6), rfl, rfl⟩⟩
theorem lk_153 : xLq RX11 (3, 1, 3, 2, 282) := ⟨by decide, _, rfl, ⟨rfl, (RX3, TX3, 6), rfl, by decide, xtc2 166 rfl rfl⟩⟩
theorem lk_154 : xLq RX11 (3, 13, 92, 88, 285) := ⟨by decide, _, rfl, ⟨rfl, mX11_refreshLamps, rfl, xtc5 119 rfl rfl, xtc5 121 rfl rfl, xtb 31 (by decide +kernel) rfl, (RX11, TX11, 11), rfl, rfl⟩⟩
theorem lk_155 : xLq RX11 (3, 13, 45, 88, 291) := ⟨by decide, _, rfl, ⟨rfl, mX11_countDark, rfl, xtc5 135 rfl rfl, xtc5 137 rfl rfl, xtb 33 (by decide +kernel) rfl, (RX11, TX11, 11), rfl, rfl⟩⟩
theorem lk_156 : xLq RX11 (3, 14, 9, 6, 186) := ⟨by decide, _, rfl, ⟨rfl, (RX9, TX9, 14), .int, rfl, by decide, xtc1 151 rfl rfl, rfl, (fun h => by cases h), by decide +kernel, rfl⟩⟩
theorem lk_157 : xLq RX11 (3, 1, 9, 1, 91) := ⟨by decide, _, rfl, ⟨rfl, (RX9, TX9, 14), rfl, by decide, xtc1 133 rfl rfl⟩⟩
theorem lk_158 : xLq RX11 (3, 14, 9, 1, 91) := ⟨by decide, _, rfl, ⟨rfl, (RX9, TX9, 14), .int, rfl, by decide, xtc1 133 rfl rfl, rfl, (fun h => by cases h), by decide +kernel, rfl⟩⟩
theorem lk_159 : xLq RX11 (3, 1, 9, 2, 106) := ⟨by decide, _, rfl, ⟨rfl, (RX9, TX9, 14), rfl, by decide, xtc1 138 rfl rfl⟩⟩
theorem lk_160 : xLq RX11 (3, 1, 9, 3, 109) := ⟨by decide, _, rfl, ⟨rfl, (RX9, TX9, 14), rfl, by decide, xtc1 140 rfl rfl⟩⟩
theorem lk_161 : xLq RX11 (3, 1, 10, 7, 228) := ⟨by decide, _, rfl, ⟨rfl, (RX10, TX10, 13), rfl, by decide, xtc2 122 rfl rfl⟩⟩
theorem lk_162 : xLq RX11 (3, 13, 321, 72, 95) := ⟨by decide, _, rfl, ⟨rfl, mX9_append, rfl, xtc3 53 rfl rfl, xtc3 54 rfl rfl, xtc3 55 rfl rfl, (RX9, TX9, 14), rfl, rfl⟩⟩
theorem lk_163 : xLq RX11 (3, 1, 11, 2, 25) := ⟨by decide, _, rfl, ⟨rfl, (RX11, TX11, 11), rfl, by decide, xtc3 17 rfl rfl⟩⟩
theorem lk_164 : xLq RX11 (3, 13, 250, 16, 99) := ⟨by decide, _, rfl, ⟨rfl, mX2_readFilm, rfl, xtc3 65 rfl rfl, xtc3 66 rfl rfl, xtc3 67 rfl rfl, (RX2, TX2, 11), rfl, rfl⟩⟩
theorem lk_165 : xLq RX11 (3, 13, 8, 0, 381) := ⟨by decide, _, rfl, ⟨rfl, mX0_forgetOrder, rfl, xtc4 13 rfl rfl, xtc4 14 rfl rfl, xtc4 15 rfl rfl, (RX0, TX0, 11), rfl, rfl⟩⟩
theorem lk_166 : xLq RX11 (3, 13, 259, 24, 258) := ⟨by decide, _, rfl, ⟨rfl, mX3_forgetAges, rfl, xtc4 21 rfl rfl, xtc4 22 rfl rfl, xtc4 23 rfl rfl, (RX3, TX3, 6), rfl, rfl⟩⟩
theorem lk_167 : xLq RX11 (3, 13, 260, 24, 276) := ⟨by decide, _, rfl, ⟨rfl, mX3_forgetDamp, rfl, xtc4 25 rfl rfl, xtc4 26 rfl rfl, xtc4 27 rfl rfl, (RX3, TX3, 6), rfl, rfl⟩⟩
theorem lk_168 : xLq RX11 (3, 1, 11, 7, 66) := ⟨by decide, _, rfl, ⟨rfl, (RX11, TX11, 11), rfl, by decide, xtc3 22 rfl rfl⟩⟩
theorem lk_169 : xLq RX11 (3, 13, 300, 56, 384) := ⟨by decide, _, rfl, ⟨rfl, mX7_forget, rfl, xtc4 29 rfl rfl, xtc4 30 rfl rfl, xtc4 31 rfl rfl, (RX7, TX7, 5), rfl, rfl⟩⟩
theorem lk_170 : xLq RX11 (3, 24, 9, 0, 7) := ⟨by decide, _, rfl, ⟨rfl, (RX9, TX9, 14), rfl, xtc1 30 rfl rfl, xtc1 31 rfl rfl, xtc1 2 rfl rfl⟩⟩
theorem lk_171 : xLq RX11 (3, 13, 325, 77, 9) := ⟨by decide, _, rfl, ⟨rfl, mX9_init, rfl, "BentScreens", List.mem_of_getElem? (i := 157) (by decide +kernel), rfl, rfl, rfl, xtc1 33 rfl rfl⟩⟩
theorem lk_172 : xLq RX11 (3, 13, 27, 80, 234) := ⟨by decide, _, rfl, ⟨rfl, mX10_cuts, rfl, xtc5 36 rfl rfl, xtc5 29 rfl rfl, xtc5 30 rfl rfl, (RX10, TX10, 13), rfl, rfl⟩⟩
theorem lk_173 : xLq RX11 (3, 25, 0, 0, 1) := ⟨by decide, _, rfl, ⟨rfl, xtc1 27 rfl rfl⟩⟩
theorem lk_174 : xLq RX11 (3, 61, 11, 0, 10) := ⟨by decide, _, rfl, ⟨rfl, (RX11, TX11, 11), .object "BentScreens$Told", rfl, by decide, xtc3 15 rfl rfl, rfl, (fun _ => rfl), by decide +kernel, Or.inl ⟨_, rfl⟩⟩⟩
theorem lk_175 : xLq RX11 (3, 46, 0, 0, 7) := ⟨by decide, _, rfl, ⟨rfl, xtc1 30 rfl rfl⟩⟩
theorem lk_176 : xLq RX11 (3, 61, 11, 1, 16) := ⟨by decide, _, rfl, ⟨rfl, (RX11, TX11, 11), .array (.object "BentScreens$Told"), rfl, by decide, xtc3 16 rfl rfl, rfl, (fun _ => rfl), by decide +kernel, Or.inr ⟨_, rfl⟩⟩⟩
theorem lk_177 : xLq RX11 (3, 24, 2, 0, 20) := ⟨by decide, _, rfl, ⟨rfl, (RX2, TX2, 11), rfl, xtc1 201 rfl rfl, xtc1 202 rfl rfl, xtc1 5 rfl rfl⟩⟩
theorem lk_178 : xLq RX11 (3, 13, 246, 20, 22) := ⟨by decide, _, rfl, ⟨rfl, mX2_init, rfl, xtc1 203 rfl rfl, rfl, rfl, rfl, xtc1 204 rfl rfl⟩⟩
theorem lk_179 : xLq RX11 (3, 61, 11, 2, 25) := ⟨by decide, _, rfl, ⟨rfl, (RX11, TX11, 11), .object "BentScreens$FilmText", rfl, by decide, xtc3 17 rfl rfl, rfl, (fun _ => rfl), by decide +kernel, Or.inl ⟨_, rfl⟩⟩⟩
theorem lk_180 : xLq RX11 (3, 24, 6, 0, 29) := ⟨by decide, _, rfl, ⟨rfl, (RX6, TX6, 6), rfl, xtc2 34 rfl rfl, xtc2 35 rfl rfl, xtc1 7 rfl rfl⟩⟩
theorem lk_181 : xLq RX11 (3, 13, 291, 52, 31) := ⟨by decide, _, rfl, ⟨rfl, mX6_init, rfl, xtc2 36 rfl rfl, rfl, rfl, rfl, xtc2 37 rfl rfl⟩⟩
theorem lk_182 : xLq RX11 (3, 61, 11, 3, 32) := ⟨by decide, _, rfl, ⟨rfl, (RX11, TX11, 11), .object "BentScreens$RulesText", rfl, by decide, xtc3 18 rfl rfl, rfl, (fun _ => rfl), by decide +kernel, Or.inl ⟨_, rfl⟩⟩⟩
theorem lk_183 : xLq RX11 (3, 24, 0, 0, 36) := ⟨by decide, _, rfl, ⟨rfl, (RX0, TX0, 11), rfl, xtc2 63 rfl rfl, xtc2 64 rfl rfl, xtc1 8 rfl rfl⟩⟩
theorem lk_184 : xLq RX11 (3, 13, 9, 4, 42) := ⟨by decide, _, rfl, ⟨rfl, mX0_init, rfl, xtc2 65 rfl rfl, rfl, rfl, rfl, xtc2 66 rfl rfl⟩⟩
theorem lk_185 : xLq RX11 (3, 61, 11, 4, 45) := ⟨by decide, _, rfl, ⟨rfl, (RX11, TX11, 11), .object "BentScreens$Bend", rfl, by decide, xtc3 19 rfl rfl, rfl, (fun _ => rfl), by decide +kernel, Or.inl ⟨_, rfl⟩⟩⟩
theorem lk_186 : xLq RX11 (3, 24, 10, 0, 49) := ⟨by decide, _, rfl, ⟨rfl, (RX10, TX10, 13), rfl, xtc2 108 rfl rfl, xtc2 109 rfl rfl, xtc1 9 rfl rfl⟩⟩
theorem lk_187 : xLq RX11 (3, 13, 31, 84, 51) := ⟨by decide, _, rfl, ⟨rfl, mX10_init, rfl, xtc2 110 rfl rfl, rfl, rfl, rfl, xtc2 111 rfl rfl⟩⟩
theorem lk_188 : xLq RX11 (3, 61, 11, 5, 52) := ⟨by decide, _, rfl, ⟨rfl, (RX11, TX11, 11), .object "BentScreens$Ways", rfl, by decide, xtc3 20 rfl rfl, rfl, (fun _ => rfl), by decide +kernel, Or.inl ⟨_, rfl⟩⟩⟩
theorem lk_189 : xLq RX11 (3, 24, 3, 0, 56) := ⟨by decide, _, rfl, ⟨rfl, (RX3, TX3, 6), rfl, xtc2 157 rfl rfl, xtc2 158 rfl rfl, xtc1 10 rfl rfl⟩⟩
theorem lk_190 : xLq RX11 (3, 13, 261, 28, 58) := ⟨by decide, _, rfl, ⟨rfl, mX3_init, rfl, xtc2 159 rfl rfl, rfl, rfl, rfl, xtc2 160 rfl rfl⟩⟩
theorem lk_191 : xLq RX11 (3, 61, 11, 6, 59) := ⟨by decide, _, rfl, ⟨rfl, (RX11, TX11, 11), .object "BentScreens$Lamps", rfl, by decide, xtc3 21 rfl rfl, rfl, (fun _ => rfl), by decide +kernel, Or.inl ⟨_, rfl⟩⟩⟩
theorem lk_192 : xLq RX11 (3, 24, 7, 0, 63) := ⟨by decide, _, rfl, ⟨rfl, (RX7, TX7, 5), rfl, xtc2 183 rfl rfl, xtc2 184 rfl rfl, xtc1 11 rfl rfl⟩⟩
theorem lk_193 : xLq RX11 (3, 13, 302, 60, 65) := ⟨by decide, _, rfl, ⟨rfl, mX7_init, rfl, xtc2 185 rfl rfl, rfl, rfl, rfl, xtc2 186 rfl rfl⟩⟩
theorem lk_194 : xLq RX11 (3, 61, 11, 7, 66) := ⟨by decide, _, rfl, ⟨rfl, (RX11, TX11, 11), .object "BentScreens$Sheet", rfl, by decide, xtc3 22 rfl rfl, rfl, (fun _ => rfl), by decide +kernel, Or.inl ⟨_, rfl⟩⟩⟩
theorem lk_195 : xLq RX11 (3, 24, 4, 0, 70) := ⟨by decide, _, rfl, ⟨rfl, (RX4, TX4, 12), rfl, xtc2 208 rfl rfl, xtc2 209 rfl rfl, xtc1 12 rfl rfl⟩⟩
theorem lk_196 : xLq RX11 (3, 13, 273, 36, 76) := ⟨by decide, _, rfl, ⟨rfl, mX4_init, rfl, xtc2 210 rfl rfl, rfl, rfl, rfl, xtc2 211 rfl rfl⟩⟩
theorem lk_197 : xLq RX11 (3, 61, 11, 8, 79) := ⟨by decide, _, rfl, ⟨rfl, (RX11, TX11, 11), .object "BentScreens$Laws", rfl, by decide, xtc3 23 rfl rfl, rfl, (fun _ => rfl), by decide +kernel, Or.inl ⟨_, rfl⟩⟩⟩
theorem lk_198 : xLq RX11 (3, 61, 11, 9, 83) := ⟨by decide, _, rfl, ⟨rfl, (RX11, TX11, 11), .array .int, rfl, by decide, xtc3 24 rfl rfl, rfl, (fun _ => rfl), by decide +kernel, Or.inr ⟨_, rfl⟩⟩⟩
theorem lk_199 : xLq RX11 (3, 61, 11, 10, 87) := ⟨by decide, _, rfl, ⟨rfl, (RX11, TX11, 11), .array .boolean, rfl, by decide, xtc3 25 rfl rfl, rfl, (fun _ => rfl), by decide +kernel, Or.inr ⟨_, rfl⟩⟩⟩
theorem lk_200 : xLq RX11 (3, 52, 365, 0, 388) := ⟨by decide, _, rfl, ⟨rfl, xtc5 234 rfl rfl⟩⟩
theorem lk_201 : xLq RX11 (3, 13, 4, 0, 390) := ⟨by decide, _, rfl, ⟨rfl, mX0_breaksBehind, rfl, xtc5 235 rfl rfl, xtc5 236 rfl rfl, xtc5 237 rfl rfl, (RX0, TX0, 11), rfl, rfl⟩⟩
theorem lk_202 : xLq RX11 (3, 13, 263, 24, 267) := ⟨by decide, _, rfl, ⟨rfl, mX3_leftOf, rfl, xtc5 81 rfl rfl, xtc5 82 rfl rfl, xtc5 83 rfl rfl, (RX3, TX3, 6), rfl, rfl⟩⟩
theorem lk_203 : xLq RX11 (3, 13, 262, 24, 385) := ⟨by decide, _, rfl, ⟨rfl, mX3_isDamp, rfl, xtc5 127 rfl rfl, xtc5 128 rfl rfl, xtc5 129 rfl rfl, (RX3, TX3, 6), rfl, rfl⟩⟩
theorem lk_204 : xLq RX11 (3, 1, 9, 13, 406) := ⟨by decide, _, rfl, ⟨rfl, (RX9, TX9, 14), rfl, by decide, xtc1 170 rfl rfl⟩⟩
theorem lk_205 : xLq RX11 (3, 13, 99, 88, 409) := ⟨by decide, _, rfl, ⟨rfl, mX11_testHolds, rfl, xtc6 174 rfl rfl, xtc6 176 rfl rfl, xtb 55 (by decide +kernel) rfl, (RX11, TX11, 11), rfl, rfl⟩⟩
theorem lk_206 : xLq RX11 (3, 13, 276, 32, 327) := ⟨by decide, _, rfl, ⟨rfl, mX4_refresh, rfl, xtc6 29 rfl rfl, xtc6 30 rfl rfl, xtc6 31 rfl rfl, (RX4, TX4, 12), rfl, rfl⟩⟩
theorem lk_207 : xLq RX11 (3, 1, 4, 4, 328) := ⟨by decide, _, rfl, ⟨rfl, (RX4, TX4, 12), rfl, by decide, xtc2 219 rfl rfl⟩⟩
theorem lk_208 : xLq RX11 (3, 13, 265, 24, 264) := ⟨by decide, _, rfl, ⟨rfl, mX3_refreshAges, rfl, xtc5 67 rfl rfl, xtc5 68 rfl rfl, xtc5 69 rfl rfl, (RX3, TX3, 6), rfl, rfl⟩⟩
theorem lk_209 : xLq RX11 (3, 13, 268, 24, 294) := ⟨by decide, _, rfl, ⟨rfl, mX3_roundsWith, rfl, xtc5 143 rfl rfl, xtc5 144 rfl rfl, xtc5 145 rfl rfl, (RX3, TX3, 6), rfl, rfl⟩⟩
theorem lk_210 : xLq RX11 (3, 13, 274, 32, 331) := ⟨by decide, _, rfl, ⟨rfl, mX4_keptAt, rfl, xtc6 48 rfl rfl, xtc6 49 rfl rfl, xtc6 50 rfl rfl, (RX4, TX4, 12), rfl, rfl⟩⟩
theorem lk_211 : xLq RX11 (3, 1, 0, 2, 126) := ⟨by decide, _, rfl, ⟨rfl, (RX0, TX0, 11), rfl, by decide, xtc2 72 rfl rfl⟩⟩
theorem lk_212 : xLq RX11 (3, 1, 0, 3, 129) := ⟨by decide, _, rfl, ⟨rfl, (RX0, TX0, 11), rfl, by decide, xtc2 74 rfl rfl⟩⟩
theorem lk_213 : xLq RX11 (3, 13, 13, 0, 154) := ⟨by decide, _, rfl, ⟨rfl, mX0_leastRound, rfl, xtc4 98 rfl rfl, xtc4 99 rfl rfl, xtc4 100 rfl rfl, (RX0, TX0, 11), rfl, rfl⟩⟩
theorem lk_214 : xLq RX11 (3, 13, 308, 56, 303) := ⟨by decide, _, rfl, ⟨rfl, mX7_refreshWorth, rfl, xtc5 163 rfl rfl, xtc5 164 rfl rfl, xtc5 165 rfl rfl, (RX7, TX7, 5), rfl, rfl⟩⟩
theorem lk_215 : xLq RX11 (3, 1, 11, 9, 83) := ⟨by decide, _, rfl, ⟨rfl, (RX11, TX11, 11), rfl, by decide, xtc3 24 rfl rfl⟩⟩
theorem lk_216 : xLq RX11 (3, 13, 244, 8, 400) := ⟨by decide, _, rfl, ⟨rfl, mX1_slidesAnywhere, rfl, xtc6 164 rfl rfl, xtc6 165 rfl rfl, xtc6 166 rfl rfl, (RX1, TX1, 10), rfl, rfl⟩⟩
theorem lk_217 : xLq RX11 (3, 13, 310, 56, 306) := ⟨by decide, _, rfl, ⟨rfl, mX7_worthOf, rfl, xtc5 194 rfl rfl, xtc5 195 rfl rfl, xtc5 196 rfl rfl, (RX7, TX7, 5), rfl, rfl⟩⟩
theorem lk_218 : xLq RX11 (3, 63, 0, 0, 403) := ⟨by decide, _, rfl, ⟨rfl, xtc6 169 rfl rfl⟩⟩
theorem lk_219 : xLq RX11 (3, 13, 49, 88, 241) := ⟨by decide, _, rfl, ⟨rfl, mX11_cracksToMend, rfl, xtc5 45 rfl rfl, xtc5 47 rfl rfl, xtb 26 (by decide +kernel) rfl, (RX11, TX11, 11), rfl, rfl⟩⟩
theorem lk_220 : xLq RX11 (3, 13, 43, 88, 244) := ⟨by decide, _, rfl, ⟨rfl, mX11_costOf, rfl, xtc5 49 rfl rfl, xtc5 51 rfl rfl, xtb 27 (by decide +kernel) rfl, (RX11, TX11, 11), rfl, rfl⟩⟩
theorem lk_221 : xLq RX11 (3, 13, 0, 2, 247) := ⟨by decide, _, rfl, ⟨rfl, mJ6_bitCount_0f7a4, rfl, xtc5 53 rfl rfl, xtc5 54 rfl rfl⟩⟩
theorem lk_222 : xLq RX11 (3, 13, 14, 0, 136) := ⟨by decide, _, rfl, ⟨rfl, mX0_neutralThousandths, rfl, xtc4 60 rfl rfl, xtc4 61 rfl rfl, xtc4 62 rfl rfl, (RX0, TX0, 11), rfl, rfl⟩⟩
theorem lk_223 : xLq RX11 (3, 13, 277, 32, 346) := ⟨by decide, _, rfl, ⟨rfl, mX4_refreshNext, rfl, xtc6 88 rfl rfl, xtc6 89 rfl rfl, xtc6 90 rfl rfl, (RX4, TX4, 12), rfl, rfl⟩⟩
theorem lk_224 : xLq RX11 (3, 1, 4, 6, 349) := ⟨by decide, _, rfl, ⟨rfl, (RX4, TX4, 12), rfl, by decide, xtc2 222 rfl rfl⟩⟩
theorem lk_225 : xLq RX11 (3, 1, 4, 7, 352) := ⟨by decide, _, rfl, ⟨rfl, (RX4, TX4, 12), rfl, by decide, xtc2 224 rfl rfl⟩⟩
theorem lk_226 : xLq RX11 (3, 1, 4, 8, 355) := ⟨by decide, _, rfl, ⟨rfl, (RX4, TX4, 12), rfl, by decide, xtc2 226 rfl rfl⟩⟩
theorem lk_227 : xLq RX11 (3, 13, 7, 0, 160) := ⟨by decide, _, rfl, ⟨rfl, mX0_findOrder, rfl, xtc4 121 rfl rfl, xtc4 122 rfl rfl, xtc4 123 rfl rfl, (RX0, TX0, 11), rfl, rfl⟩⟩
theorem lk_228 : xLq RX11 (3, 1, 0, 9, 163) := ⟨by decide, _, rfl, ⟨rfl, (RX0, TX0, 11), rfl, by decide, xtc2 82 rfl rfl⟩⟩
theorem lk_229 : xLq RX11 (3, 1, 0, 8, 166) := ⟨by decide, _, rfl, ⟨rfl, (RX0, TX0, 11), rfl, by decide, xtc2 80 rfl rfl⟩⟩
theorem lk_230 : xLq RX11 (3, 13, 307, 56, 310) := ⟨by decide, _, rfl, ⟨rfl, mX7_refreshPlan, rfl, xtc5 202 rfl rfl, xtc5 203 rfl rfl, xtc5 204 rfl rfl, (RX7, TX7, 5), rfl, rfl⟩⟩
theorem lk_231 : xLq RX11 (3, 1, 7, 2, 313) := ⟨by decide, _, rfl, ⟨rfl, (RX7, TX7, 5), rfl, by decide, xtc2 194 rfl rfl⟩⟩
theorem lk_232 : xLq RX11 (3, 62, 0, 0, 370) := ⟨by decide, _, rfl, ⟨rfl, xtc6 182 rfl rfl⟩⟩
theorem lk_233 : xLq RX11 (3, 13, 41, 88, 322) := ⟨by decide, _, rfl, ⟨rfl, mX11_brokenShare, rfl, xtc6 6 rfl rfl, xtc6 8 rfl rfl, xtb 43 (by decide +kernel) rfl, (RX11, TX11, 11), rfl, rfl⟩⟩
theorem lk_234 : xLq RX11 (3, 13, 278, 32, 340) := ⟨by decide, _, rfl, ⟨rfl, mX4_refreshQuarrel, rfl, xtc6 71 rfl rfl, xtc6 72 rfl rfl, xtc6 73 rfl rfl, (RX4, TX4, 12), rfl, rfl⟩⟩
theorem lk_235 : xLq RX11 (3, 13, 275, 32, 343) := ⟨by decide, _, rfl, ⟨rfl, mX4_quarrelAt, rfl, xtc6 80 rfl rfl, xtc6 81 rfl rfl, xtc6 82 rfl rfl, (RX4, TX4, 12), rfl, rfl⟩⟩
theorem lk_236 : xLq RX11 (3, 1, 11, 3, 32) := ⟨by decide, _, rfl, ⟨rfl, (RX11, TX11, 11), rfl, by decide, xtc3 18 rfl rfl⟩⟩
theorem lk_237 : xLq RX11 (3, 13, 295, 48, 358) := ⟨by decide, _, rfl, ⟨rfl, mX6_readRules, rfl, xtc6 101 rfl rfl, xtc6 102 rfl rfl, xtc6 103 rfl rfl, (RX6, TX6, 6), rfl, rfl⟩⟩
theorem lk_238 : xLq RX11 (3, 13, 279, 32, 334) := ⟨by decide, _, rfl, ⟨rfl, mX4_spanEnd, rfl, xtc6 56 rfl rfl, xtc6 57 rfl rfl, xtc6 58 rfl rfl, (RX4, TX4, 12), rfl, rfl⟩⟩
theorem lk_239 : xLq RX11 (3, 13, 280, 32, 337) := ⟨by decide, _, rfl, ⟨rfl, mX4_spanStart, rfl, xtc6 61 rfl rfl, xtc6 62 rfl rfl, xtc6 63 rfl rfl, (RX4, TX4, 12), rfl, rfl⟩⟩
theorem lk_240 : xLq RX11 (2, 35, 2294967296, 0, 143) := ⟨by decide, _, rfl, ⟨rfl, by decide, xtc4 76 rfl rfl⟩⟩
theorem lk_241 : xLq RX11 (3, 13, 18, 0, 144) := ⟨by decide, _, rfl, ⟨rfl, mX0_stretchMillionths, rfl, xtc4 77 rfl rfl, xtc4 78 rfl rfl, xtc4 79 rfl rfl, (RX0, TX0, 11), rfl, rfl⟩⟩
theorem lk_242 : xLq RX11 (3, 36, 999999, 0, 325) := ⟨by decide, _, rfl, ⟨rfl, by decide, xtc6 20 rfl rfl⟩⟩
theorem lk_243 : xLq RX11 (3, 13, 23, 0, 179) := ⟨by decide, _, rfl, ⟨rfl, mX0_wornThousandths, rfl, xtc4 155 rfl rfl, xtc4 156 rfl rfl, xtc4 157 rfl rfl, (RX0, TX0, 11), rfl, rfl⟩⟩
theorem lk_244 : xLq RX11 (3, 13, 264, 24, 270) := ⟨by decide, _, rfl, ⟨rfl, mX3_leftSpread, rfl, xtc5 89 rfl rfl, xtc5 90 rfl rfl, xtc5 91 rfl rfl, (RX3, TX3, 6), rfl, rfl⟩⟩
theorem lk_245 : xLq RX11 (3, 14, 9, 7, 189) := ⟨by decide, _, rfl, ⟨rfl, (RX9, TX9, 14), .int, rfl, by decide, xtc1 153 rfl rfl, rfl, (fun h => by cases h), by decide +kernel, rfl⟩⟩
theorem lk_246 : xLq RX11 (3, 14, 9, 9, 273) := ⟨by decide, _, rfl, ⟨rfl, (RX9, TX9, 14), .int, rfl, by decide, xtc1 160 rfl rfl, rfl, (fun h => by cases h), by decide +kernel, rfl⟩⟩
theorem lk_247 : xLq RX11 (3, 13, 24, 0, 157) := ⟨by decide, _, rfl, ⟨rfl, mX0_worstPlace, rfl, xtc4 113 rfl rfl, xtc4 114 rfl rfl, xtc4 115 rfl rfl, (RX0, TX0, 11), rfl, rfl⟩⟩
theorem lk_248 : xLq RX12 (3, 13, 199, 96, 196) := ⟨by decide, _, rfl, ⟨rfl, mX12_numbered, rfl, xtc7 193 rfl rfl, xtc7 195 rfl rfl, xtb 65 (by decide +kernel) rfl, (RX12, TX12, 47), rfl, rfl⟩⟩
theorem lk_249 : xLq RX12 (3, 13, 211, 96, 200) := ⟨by decide, _, rfl, ⟨rfl, mX12_puts, rfl, xtc7 197 rfl rfl, xtc7 199 rfl rfl, xtb 66 (by decide +kernel) rfl, (RX12, TX12, 47), rfl, rfl⟩⟩
theorem lk_250 : xLq RX12 (3, 1, 12, 10, 180) := ⟨by decide, _, rfl, ⟨rfl, (RX12, TX12, 47), rfl, by decide, xtc6 223 rfl rfl⟩⟩
theorem lk_251 : xLq RX12 (3, 1, 12, 7, 151) := ⟨by decide, _, rfl, ⟨rfl, (RX12, TX12, 47), rfl, by decide, xtc6 220 rfl rfl⟩⟩
theorem lk_252 : xLq RX12 (3, 1, 12, 9, 165) := ⟨by decide, _, rfl, ⟨rfl, (RX12, TX12, 47), rfl, by decide, xtc6 222 rfl rfl⟩⟩
theorem lk_253 : xLq RX12 (3, 13, 140, 96, 183) := ⟨by decide, _, rfl, ⟨rfl, mX12_ends, rfl, xtc7 178 rfl rfl, xtc7 180 rfl rfl, xtb 62 (by decide +kernel) rfl, (RX12, TX12, 47), rfl, rfl⟩⟩
theorem lk_254 : xLq RX12 (3, 13, 110, 96, 190) := ⟨by decide, _, rfl, ⟨rfl, mX12_advance, rfl, xtc7 131 rfl rfl, xtc7 133 rfl rfl, xtb 58 (by decide +kernel) rfl, (RX12, TX12, 47), rfl, rfl⟩⟩
theorem lk_255 : xLq RX12 (3, 1, 12, 6, 148) := ⟨by decide, _, rfl, ⟨rfl, (RX12, TX12, 47), rfl, by decide, xtc6 219 rfl rfl⟩⟩
theorem lk_256 : xLq RX12 (3, 13, 161, 98, 105) := ⟨by decide, _, rfl, ⟨rfl, mX12_isIn, rfl, xtc7 175 rfl rfl, xtc7 176 rfl rfl⟩⟩
theorem lk_257 : xLq RX12 (3, 1, 12, 11, 17) := ⟨by decide, _, rfl, ⟨rfl, (RX12, TX12, 47), rfl, by decide, xtc6 224 rfl rfl⟩⟩
theorem lk_258 : xLq RX12 (3, 13, 194, 98, 193) := ⟨by decide, _, rfl, ⟨rfl, mX12_mostOf, rfl, xtc7 182 rfl rfl, xtc7 183 rfl rfl⟩⟩
theorem lk_259 : xLq RX12 (3, 13, 115, 96, 186) := ⟨by decide, _, rfl, ⟨rfl, mX12_also, rfl, xtc7 185 rfl rfl, xtc7 187 rfl rfl, xtb 63 (by decide +kernel) rfl, (RX12, TX12, 47), rfl, rfl⟩⟩
theorem lk_260 : xLq RX12 (3, 13, 106, 96, 204) := ⟨by decide, _, rfl, ⟨rfl, mX12_aLayer, rfl, xtc7 189 rfl rfl, xtc7 191 rfl rfl, xtb 64 (by decide +kernel) rfl, (RX12, TX12, 47), rfl, rfl⟩⟩
theorem lk_261 : xLq RX12 (3, 13, 167, 96, 208) := ⟨by decide, _, rfl, ⟨rfl, mX12_isLifeTold, rfl, xtc7 201 rfl rfl, xtc7 203 rfl rfl, xtb 67 (by decide +kernel) rfl, (RX12, TX12, 47), rfl, rfl⟩⟩
theorem lk_262 : xLq RX12 (3, 1, 12, 13, 23) := ⟨by decide, _, rfl, ⟨rfl, (RX12, TX12, 47), rfl, by decide, xtc6 226 rfl rfl⟩⟩
theorem lk_263 : xLq RX12 (3, 1, 12, 14, 212) := ⟨by decide, _, rfl, ⟨rfl, (RX12, TX12, 47), rfl, by decide, xtc6 227 rfl rfl⟩⟩
theorem lk_264 : xLq RX12 (3, 14, 12, 14, 212) := ⟨by decide, _, rfl, ⟨rfl, (RX12, TX12, 47), .int, rfl, by decide, xtc6 227 rfl rfl, rfl, (fun h => by cases h), by decide +kernel, rfl⟩⟩
theorem lk_265 : xLq RX12 (3, 13, 227, 96, 415) := ⟨by decide, _, rfl, ⟨rfl, mX12_takes, rfl, xtc9 112 rfl rfl, xtc9 114 rfl rfl, xtb 117 (by decide +kernel) rfl, (RX12, TX12, 47), rfl, rfl⟩⟩
theorem lk_266 : xLq RX12 (3, 13, 109, 96, 421) := ⟨by decide, _, rfl, ⟨rfl, mX12_aTest, rfl, xtc9 116 rfl rfl, xtc9 118 rfl rfl, xtb 118 (by decide +kernel) rfl, (RX12, TX12, 47), rfl, rfl⟩⟩
theorem lk_267 : xLq RX12 (3, 1, 12, 46, 102) := ⟨by decide, _, rfl, ⟨rfl, (RX12, TX12, 47), rfl, by decide, xtc7 19 rfl rfl⟩⟩
theorem lk_268 : xLq RX12 (3, 13, 214, 96, 424) := ⟨by decide, _, rfl, ⟨rfl, mX12_rulePuts, rfl, xtc9 124 rfl rfl, xtc9 126 rfl rfl, xtb 120 (by decide +kernel) rfl, (RX12, TX12, 47), rfl, rfl⟩⟩
theorem lk_269 : xLq RX12 (3, 13, 195, 96, 427) := ⟨by decide, _, rfl, ⟨rfl, mX12_must, rfl, xtc9 128 rfl rfl, xtc9 130 rfl rfl, xtb 121 (by decide +kernel) rfl, (RX12, TX12, 47), rfl, rfl⟩⟩
theorem lk_270 : xLq RX12 (3, 13, 198, 96, 418) := ⟨by decide, _, rfl, ⟨rfl, mX12_numberNow, rfl, xtc9 120 rfl rfl, xtc9 122 rfl rfl, xtb 119 (by decide +kernel) rfl, (RX12, TX12, 47), rfl, rfl⟩⟩
theorem lk_271 : xLq RX12 (3, 1, 12, 3, 174) := ⟨by decide, _, rfl, ⟨rfl, (RX12, TX12, 47), rfl, by decide, xtc6 216 rfl rfl⟩⟩
theorem lk_272 : xLq RX12 (3, 1, 12, 5, 141) := ⟨by decide, _, rfl, ⟨rfl, (RX12, TX12, 47), rfl, by decide, xtc6 218 rfl rfl⟩⟩
theorem lk_273 : xLq RX12 (3, 13, 125, 96, 144) := ⟨by decide, _, rfl, ⟨rfl, mX12_byteAt, rfl, xtc7 135 rfl rfl, xtc7 137 rfl rfl, xtb 59 (by decide +kernel) rfl, (RX12, TX12, 47), rfl, rfl⟩⟩
theorem lk_274 : xLq RX12 (3, 14, 12, 5, 141) := ⟨by decide, _, rfl, ⟨rfl, (RX12, TX12, 47), .int, rfl, by decide, xtc6 218 rfl rfl, rfl, (fun h => by cases h), by decide +kernel, rfl⟩⟩
theorem lk_275 : xLq RX12 (3, 14, 12, 6, 148) := ⟨by decide, _, rfl, ⟨rfl, (RX12, TX12, 47), .int, rfl, by decide, xtc6 219 rfl rfl, rfl, (fun h => by cases h), by decide +kernel, rfl⟩⟩
theorem lk_276 : xLq RX12 (3, 14, 12, 7, 151) := ⟨by decide, _, rfl, ⟨rfl, (RX12, TX12, 47), .int, rfl, by decide, xtc6 220 rfl rfl, rfl, (fun h => by cases h), by decide +kernel, rfl⟩⟩
theorem lk_277 : xLq RX12 (3, 13, 166, 98, 154) := ⟨by decide, _, rfl, ⟨rfl, mX12_isLetter, rfl, xtc7 139 rfl rfl, xtc7 140 rfl rfl⟩⟩
theorem lk_278 : xLq RX12 (3, 52, 32, 0, 113) := ⟨by decide, _, rfl, ⟨rfl, xtc7 142 rfl rfl⟩⟩
theorem lk_279 : xLq RX12 (3, 52, 96, 0, 115) := ⟨by decide, _, rfl, ⟨rfl, xtc7 143 rfl rfl⟩⟩
theorem lk_280 : xLq RX12 (3, 1, 12, 2, 137) := ⟨by decide, _, rfl, ⟨rfl, (RX12, TX12, 47), rfl, by decide, xtc6 215 rfl rfl⟩⟩
theorem lk_281 : xLq RX12 (3, 13, 215, 98, 158) := ⟨by decide, _, rfl, ⟨rfl, mX12_ruleWordOf, rfl, xtc7 144 rfl rfl, xtc7 145 rfl rfl⟩⟩
theorem lk_282 : xLq RX12 (3, 13, 238, 98, 162) := ⟨by decide, _, rfl, ⟨rfl, mX12_wordOf, rfl, xtc7 161 rfl rfl, xtc7 162 rfl rfl⟩⟩
theorem lk_283 : xLq RX12 (3, 14, 12, 9, 165) := ⟨by decide, _, rfl, ⟨rfl, (RX12, TX12, 47), .int, rfl, by decide, xtc6 222 rfl rfl, rfl, (fun h => by cases h), by decide +kernel, rfl⟩⟩
theorem lk_284 : xLq RX12 (3, 13, 159, 98, 168) := ⟨by decide, _, rfl, ⟨rfl, mX12_isDigit, rfl, xtc7 164 rfl rfl, xtc7 165 rfl rfl⟩⟩
theorem lk_285 : xLq RX12 (3, 14, 12, 8, 171) := ⟨by decide, _, rfl, ⟨rfl, (RX12, TX12, 47), .int, rfl, by decide, xtc6 221 rfl rfl, rfl, (fun h => by cases h), by decide +kernel, rfl⟩⟩
theorem lk_286 : xLq RX12 (3, 1, 12, 8, 171) := ⟨by decide, _, rfl, ⟨rfl, (RX12, TX12, 47), rfl, by decide, xtc6 221 rfl rfl⟩⟩
theorem lk_287 : xLq RX12 (3, 14, 12, 3, 174) := ⟨by decide, _, rfl, ⟨rfl, (RX12, TX12, 47), .int, rfl, by decide, xtc6 216 rfl rfl, rfl, (fun h => by cases h), by decide +kernel, rfl⟩⟩
theorem lk_288 : xLq RX12 (3, 13, 172, 96, 177) := ⟨by decide, _, rfl, ⟨rfl, mX12_isSignByte, rfl, xtc7 167 rfl rfl, xtc7 169 rfl rfl, xtb 60 (by decide +kernel) rfl, (RX12, TX12, 47), rfl, rfl⟩⟩
theorem lk_289 : xLq RX12 (3, 1, 12, 1, 13) := ⟨by decide, _, rfl, ⟨rfl, (RX12, TX12, 47), rfl, by decide, xtc6 214 rfl rfl⟩⟩
theorem lk_290 : xLq RX12 (3, 1, 12, 0, 7) := ⟨by decide, _, rfl, ⟨rfl, (RX12, TX12, 47), rfl, by decide, xtc6 213 rfl rfl⟩⟩
theorem lk_291 : xLq RX12 (3, 1, 12, 34, 72) := ⟨by decide, _, rfl, ⟨rfl, (RX12, TX12, 47), rfl, by decide, xtc7 7 rfl rfl⟩⟩
theorem lk_292 : xLq RX12 (3, 13, 155, 96, 235) := ⟨by decide, _, rfl, ⟨rfl, mX12_inOrder, rfl, xtc7 221 rfl rfl, xtc7 223 rfl rfl, xtb 70 (by decide +kernel) rfl, (RX12, TX12, 47), rfl, rfl⟩⟩
theorem lk_293 : xLq RX12 (3, 13, 122, 96, 238) := ⟨by decide, _, rfl, ⟨rfl, mX12_blocks, rfl, xtc7 225 rfl rfl, xtc7 227 rfl rfl, xtb 71 (by decide +kernel) rfl, (RX12, TX12, 47), rfl, rfl⟩⟩
theorem lk_294 : xLq RX12 (3, 13, 222, 96, 433) := ⟨by decide, _, rfl, ⟨rfl, mX12_slides, rfl, xtc9 144 rfl rfl, xtc9 146 rfl rfl, xtb 124 (by decide +kernel) rfl, (RX12, TX12, 47), rfl, rfl⟩⟩
theorem lk_295 : xLq RX12 (3, 13, 130, 96, 376) := ⟨by decide, _, rfl, ⟨rfl, mX12_cracksSeen, rfl, xtc9 8 rfl rfl, xtc9 10 rfl rfl, xtb 106 (by decide +kernel) rfl, (RX12, TX12, 47), rfl, rfl⟩⟩
theorem lk_296 : xLq RX12 (3, 13, 184, 96, 436) := ⟨by decide, _, rfl, ⟨rfl, mX12_least, rfl, xtc9 148 rfl rfl, xtc8 17 rfl rfl, xtc8 18 rfl rfl, (RX12, TX12, 47), rfl, rfl⟩⟩
theorem lk_297 : xLq RX12 (3, 13, 193, 96, 439) := ⟨by decide, _, rfl, ⟨rfl, mX12_most, rfl, xtc9 149 rfl rfl, xtc8 86 rfl rfl, xtc8 87 rfl rfl, (RX12, TX12, 47), rfl, rfl⟩⟩
theorem lk_298 : xLq RX12 (3, 13, 137, 96, 442) := ⟨by decide, _, rfl, ⟨rfl, mX12_darks, rfl, xtc9 150 rfl rfl, xtc8 194 rfl rfl, xtc8 195 rfl rfl, (RX12, TX12, 47), rfl, rfl⟩⟩
theorem lk_299 : xLq RX12 (3, 13, 233, 96, 445) := ⟨by decide, _, rfl, ⟨rfl, mX12_value, rfl, xtc9 151 rfl rfl, xtc8 198 rfl rfl, xtc8 199 rfl rfl, (RX12, TX12, 47), rfl, rfl⟩⟩
theorem lk_300 : xLq RX12 (3, 13, 190, 96, 409) := ⟨by decide, _, rfl, ⟨rfl, mX12_manyKept, rfl, xtc9 65 rfl rfl, xtc9 67 rfl rfl, xtb 111 (by decide +kernel) rfl, (RX12, TX12, 47), rfl, rfl⟩⟩
theorem lk_301 : xLq RX12 (3, 13, 152, 96, 450) := ⟨by decide, _, rfl, ⟨rfl, mX12_holds, rfl, xtc9 136 rfl rfl, xtc9 138 rfl rfl, xtb 122 (by decide +kernel) rfl, (RX12, TX12, 47), rfl, rfl⟩⟩
theorem lk_302 : xLq RX12 (3, 13, 168, 96, 241) := ⟨by decide, _, rfl, ⟨rfl, mX12_isOf, rfl, xtc7 213 rfl rfl, xtc7 215 rfl rfl, xtb 68 (by decide +kernel) rfl, (RX12, TX12, 47), rfl, rfl⟩⟩
theorem lk_303 : xLq RX12 (3, 13, 171, 96, 247) := ⟨by decide, _, rfl, ⟨rfl, mX12_isRound, rfl, xtc8 6 rfl rfl, xtc8 8 rfl rfl, xtb 73 (by decide +kernel) rfl, (RX12, TX12, 47), rfl, rfl⟩⟩
theorem lk_304 : xLq RX12 (3, 13, 116, 96, 244) := ⟨by decide, _, rfl, ⟨rfl, mX12_asTold, rfl, xtc7 217 rfl rfl, xtc7 219 rfl rfl, xtb 69 (by decide +kernel) rfl, (RX12, TX12, 47), rfl, rfl⟩⟩
theorem lk_305 : xLq RX12 (3, 52, 1000, 0, 231) := ⟨by decide, _, rfl, ⟨rfl, xtc8 1 rfl rfl⟩⟩
theorem lk_306 : xLq RX12 (3, 1, 12, 21, 45) := ⟨by decide, _, rfl, ⟨rfl, (RX12, TX12, 47), rfl, by decide, xtc6 234 rfl rfl⟩⟩
theorem lk_307 : xLq RX12 (3, 13, 221, 98, 227) := ⟨by decide, _, rfl, ⟨rfl, mX12_size0, rfl, xtc7 234 rfl rfl, xtc7 235 rfl rfl⟩⟩
theorem lk_308 : xLq RX12 (3, 13, 181, 96, 222) := ⟨by decide, _, rfl, ⟨rfl, mX12_layerOf, rfl, xtc7 229 rfl rfl, xtc7 231 rfl rfl, xtb 72 (by decide +kernel) rfl, (RX12, TX12, 47), rfl, rfl⟩⟩
theorem lk_309 : xLq RX12 (3, 1, 12, 20, 42) := ⟨by decide, _, rfl, ⟨rfl, (RX12, TX12, 47), rfl, by decide, xtc6 233 rfl rfl⟩⟩
theorem lk_310 : xLq RX12 (3, 59, 12, 2, 137) := ⟨by decide, _, rfl, ⟨rfl, (RX12, TX12, 47), .boolean, rfl, by decide, xtc6 215 rfl rfl, rfl, (fun h => by cases h), by decide +kernel, rfl⟩⟩
theorem lk_311 : xLq RX12 (3, 14, 12, 4, 109) := ⟨by decide, _, rfl, ⟨rfl, (RX12, TX12, 47), .int, rfl, by decide, xtc6 217 rfl rfl, rfl, (fun h => by cases h), by decide +kernel, rfl⟩⟩
theorem lk_312 : xLq RX12 (3, 59, 12, 10, 180) := ⟨by decide, _, rfl, ⟨rfl, (RX12, TX12, 47), .boolean, rfl, by decide, xtc6 223 rfl rfl, rfl, (fun h => by cases h), by decide +kernel, rfl⟩⟩
theorem lk_313 : xLq RX12 (3, 1, 12, 18, 35) := ⟨by decide, _, rfl, ⟨rfl, (RX12, TX12, 47), rfl, by decide, xtc6 231 rfl rfl⟩⟩
theorem lk_314 : xLq RX12 (3, 1, 12, 17, 32) := ⟨by decide, _, rfl, ⟨rfl, (RX12, TX12, 47), rfl, by decide, xtc6 230 rfl rfl⟩⟩
theorem lk_315 : xLq RX12 (3, 1, 12, 19, 38) := ⟨by decide, _, rfl, ⟨rfl, (RX12, TX12, 47), rfl, by decide, xtc6 232 rfl rfl⟩⟩
theorem lk_316 : xLq RX12 (3, 52, 2, 0, 225) := ⟨by decide, _, rfl, ⟨rfl, xtc7 233 rfl rfl⟩⟩
theorem lk_317 : xLq RX12 (3, 13, 231, 96, 273) := ⟨by decide, _, rfl, ⟨rfl, mX12_tires, rfl, xtc8 45 rfl rfl, xtc8 47 rfl rfl, xtb 77 (by decide +kernel) rfl, (RX12, TX12, 47), rfl, rfl⟩⟩
theorem lk_318 : xLq RX12 (3, 13, 188, 96, 270) := ⟨by decide, _, rfl, ⟨rfl, mX12_lifeOf, rfl, xtc8 49 rfl rfl, xtc8 51 rfl rfl, xtb 78 (by decide +kernel) rfl, (RX12, TX12, 47), rfl, rfl⟩⟩
theorem lk_319 : xLq RX12 (3, 1, 12, 22, 267) := ⟨by decide, _, rfl, ⟨rfl, (RX12, TX12, 47), rfl, by decide, xtc6 235 rfl rfl⟩⟩
theorem lk_320 : xLq RX12 (3, 1, 12, 23, 263) := ⟨by decide, _, rfl, ⟨rfl, (RX12, TX12, 47), rfl, by decide, xtc6 236 rfl rfl⟩⟩
theorem lk_321 : xLq RX12 (3, 52, 365, 0, 385) := ⟨by decide, _, rfl, ⟨rfl, xtc9 31 rfl rfl⟩⟩
theorem lk_322 : xLq RX12 (3, 71, 12, 22, 267) := ⟨by decide, _, rfl, ⟨rfl, (RX12, TX12, 47), .long, rfl, by decide, xtc6 235 rfl rfl, rfl, (fun h => by cases h), by decide +kernel, rfl⟩⟩
theorem lk_323 : xLq RX12 (3, 13, 123, 96, 387) := ⟨by decide, _, rfl, ⟨rfl, mX12_breaks, rfl, xtc9 27 rfl rfl, xtc9 29 rfl rfl, xtb 108 (by decide +kernel) rfl, (RX12, TX12, 47), rfl, rfl⟩⟩
theorem lk_324 : xLq RX12 (3, 1, 12, 4, 109) := ⟨by decide, _, rfl, ⟨rfl, (RX12, TX12, 47), rfl, by decide, xtc6 217 rfl rfl⟩⟩
theorem lk_325 : xLq RX12 (3, 13, 173, 96, 279) := ⟨by decide, _, rfl, ⟨rfl, mX12_isThere, rfl, xtc8 69 rfl rfl, xtc8 71 rfl rfl, xtb 79 (by decide +kernel) rfl, (RX12, TX12, 47), rfl, rfl⟩⟩
theorem lk_326 : xLq RX12 (3, 13, 157, 96, 283) := ⟨by decide, _, rfl, ⟨rfl, mX12_isCracked, rfl, xtc8 73 rfl rfl, xtc8 75 rfl rfl, xtb 80 (by decide +kernel) rfl, (RX12, TX12, 47), rfl, rfl⟩⟩
theorem lk_327 : xLq RX12 (3, 13, 132, 96, 317) := ⟨by decide, _, rfl, ⟨rfl, mX12_cuts, rfl, xtc8 125 rfl rfl, xtc8 127 rfl rfl, xtb 89 (by decide +kernel) rfl, (RX12, TX12, 47), rfl, rfl⟩⟩
theorem lk_328 : xLq RX12 (3, 13, 162, 96, 320) := ⟨by decide, _, rfl, ⟨rfl, mX12_isInCut, rfl, xtc8 129 rfl rfl, xtc8 131 rfl rfl, xtb 90 (by decide +kernel) rfl, (RX12, TX12, 47), rfl, rfl⟩⟩
theorem lk_329 : xLq RX12 (3, 13, 189, 96, 302) := ⟨by decide, _, rfl, ⟨rfl, mX12_looks, rfl, xtc8 89 rfl rfl, xtc8 91 rfl rfl, xtb 82 (by decide +kernel) rfl, (RX12, TX12, 47), rfl, rfl⟩⟩
theorem lk_330 : xLq RX12 (3, 13, 113, 96, 305) := ⟨by decide, _, rfl, ⟨rfl, mX12_allRows, rfl, xtc8 93 rfl rfl, xtc8 95 rfl rfl, xtb 83 (by decide +kernel) rfl, (RX12, TX12, 47), rfl, rfl⟩⟩
theorem lk_331 : xLq RX12 (3, 13, 147, 96, 308) := ⟨by decide, _, rfl, ⟨rfl, mX12_flows, rfl, xtc8 97 rfl rfl, xtc8 99 rfl rfl, xtb 84 (by decide +kernel) rfl, (RX12, TX12, 47), rfl, rfl⟩⟩
theorem lk_332 : xLq RX12 (3, 13, 224, 96, 296) := ⟨by decide, _, rfl, ⟨rfl, mX12_spreads, rfl, xtc8 101 rfl rfl, xtc8 103 rfl rfl, xtb 85 (by decide +kernel) rfl, (RX12, TX12, 47), rfl, rfl⟩⟩
theorem lk_333 : xLq RX12 (3, 13, 169, 96, 323) := ⟨by decide, _, rfl, ⟨rfl, mX12_isPoint, rfl, xtc8 149 rfl rfl, xtc8 151 rfl rfl, xtb 92 (by decide +kernel) rfl, (RX12, TX12, 47), rfl, rfl⟩⟩
theorem lk_334 : xLq RX12 (3, 13, 134, 96, 335) := ⟨by decide, _, rfl, ⟨rfl, mX12_damps, rfl, xtc8 173 rfl rfl, xtc8 175 rfl rfl, xtb 95 (by decide +kernel) rfl, (RX12, TX12, 47), rfl, rfl⟩⟩
theorem lk_335 : xLq RX12 (3, 1, 12, 35, 75) := ⟨by decide, _, rfl, ⟨rfl, (RX12, TX12, 47), rfl, by decide, xtc7 8 rfl rfl⟩⟩
theorem lk_336 : xLq RX12 (3, 1, 12, 36, 78) := ⟨by decide, _, rfl, ⟨rfl, (RX12, TX12, 47), rfl, by decide, xtc7 9 rfl rfl⟩⟩
theorem lk_337 : xLq RX12 (3, 13, 237, 96, 332) := ⟨by decide, _, rfl, ⟨rfl, mX12_wetAt, rfl, xtc8 177 rfl rfl, xtc8 179 rfl rfl, xtb 96 (by decide +kernel) rfl, (RX12, TX12, 47), rfl, rfl⟩⟩
theorem lk_338 : xLq RX12 (3, 13, 136, 96, 338) := ⟨by decide, _, rfl, ⟨rfl, mX12_darkens, rfl, xtc8 185 rfl rfl, xtc8 187 rfl rfl, xtb 97 (by decide +kernel) rfl, (RX12, TX12, 47), rfl, rfl⟩⟩
theorem lk_339 : xLq RX12 (3, 13, 158, 96, 341) := ⟨by decide, _, rfl, ⟨rfl, mX12_isDark, rfl, xtc8 189 rfl rfl, xtc8 191 rfl rfl, xtb 98 (by decide +kernel) rfl, (RX12, TX12, 47), rfl, rfl⟩⟩
theorem lk_340 : xLq RX12 (3, 13, 112, 96, 326) := ⟨by decide, _, rfl, ⟨rfl, mX12_ages, rfl, xtc8 153 rfl rfl, xtc8 155 rfl rfl, xtb 93 (by decide +kernel) rfl, (RX12, TX12, 47), rfl, rfl⟩⟩
theorem lk_341 : xLq RX12 (3, 13, 143, 96, 311) := ⟨by decide, _, rfl, ⟨rfl, mX12_fedRows, rfl, xtc8 117 rfl rfl, xtc8 119 rfl rfl, xtb 88 (by decide +kernel) rfl, (RX12, TX12, 47), rfl, rfl⟩⟩
theorem lk_342 : xLq RX12 (3, 13, 121, 96, 215) := ⟨by decide, _, rfl, ⟨rfl, mX12_begins, rfl, xtc7 127 rfl rfl, xtc7 129 rfl rfl, xtb 57 (by decide +kernel) rfl, (RX12, TX12, 47), rfl, rfl⟩⟩
theorem lk_343 : xLq RX12 (3, 1, 12, 12, 20) := ⟨by decide, _, rfl, ⟨rfl, (RX12, TX12, 47), rfl, by decide, xtc6 225 rfl rfl⟩⟩
theorem lk_344 : xLq RX12 (3, 13, 107, 96, 219) := ⟨by decide, _, rfl, ⟨rfl, mX12_aLine, rfl, xtc7 171 rfl rfl, xtc7 173 rfl rfl, xtb 61 (by decide +kernel) rfl, (RX12, TX12, 47), rfl, rfl⟩⟩
theorem lk_345 : xLq RX12 (3, 13, 148, 98, 121) := ⟨by decide, _, rfl, ⟨rfl, mX12_four, rfl, xtc7 157 rfl rfl, xtc7 158 rfl rfl⟩⟩
theorem lk_346 : xLq RX12 (3, 1, 12, 25, 48) := ⟨by decide, _, rfl, ⟨rfl, (RX12, TX12, 47), rfl, by decide, xtc6 238 rfl rfl⟩⟩
theorem lk_347 : xLq RX12 (3, 1, 12, 26, 51) := ⟨by decide, _, rfl, ⟨rfl, (RX12, TX12, 47), rfl, by decide, xtc6 239 rfl rfl⟩⟩
theorem lk_348 : xLq RX12 (3, 1, 12, 27, 54) := ⟨by decide, _, rfl, ⟨rfl, (RX12, TX12, 47), rfl, by decide, xtc7 0 rfl rfl⟩⟩
theorem lk_349 : xLq RX12 (3, 1, 12, 28, 57) := ⟨by decide, _, rfl, ⟨rfl, (RX12, TX12, 47), rfl, by decide, xtc7 1 rfl rfl⟩⟩
theorem lk_350 : xLq RX12 (3, 1, 12, 32, 69) := ⟨by decide, _, rfl, ⟨rfl, (RX12, TX12, 47), rfl, by decide, xtc7 5 rfl rfl⟩⟩
theorem lk_351 : xLq RX12 (3, 13, 149, 96, 299) := ⟨by decide, _, rfl, ⟨rfl, mX12_goesBack, rfl, xtc8 109 rfl rfl, xtc8 111 rfl rfl, xtb 87 (by decide +kernel) rfl, (RX12, TX12, 47), rfl, rfl⟩⟩
theorem lk_352 : xLq RX12 (3, 13, 229, 98, 117) := ⟨by decide, _, rfl, ⟨rfl, mX12_three, rfl, xtc7 147 rfl rfl, xtc7 148 rfl rfl⟩⟩
theorem lk_353 : xLq RX12 (3, 13, 117, 96, 447) := ⟨by decide, _, rfl, ⟨rfl, mX12_asked, rfl, xtc9 140 rfl rfl, xtc9 142 rfl rfl, xtb 123 (by decide +kernel) rfl, (RX12, TX12, 47), rfl, rfl⟩⟩
theorem lk_354 : xLq RX12 (3, 1, 12, 15, 26) := ⟨by decide, _, rfl, ⟨rfl, (RX12, TX12, 47), rfl, by decide, xtc6 228 rfl rfl⟩⟩
theorem lk_355 : xLq RX12 (3, 25, 0, 0, 1) := ⟨by decide, _, rfl, ⟨rfl, xtc6 212 rfl rfl⟩⟩
theorem lk_356 : xLq RX12 (3, 61, 12, 0, 7) := ⟨by decide, _, rfl, ⟨rfl, (RX12, TX12, 47), .array .int, rfl, by decide, xtc6 213 rfl rfl, rfl, (fun _ => rfl), by decide +kernel, Or.inr ⟨_, rfl⟩⟩⟩
theorem lk_357 : xLq RX12 (3, 61, 12, 1, 13) := ⟨by decide, _, rfl, ⟨rfl, (RX12, TX12, 47), .array .boolean, rfl, by decide, xtc6 214 rfl rfl, rfl, (fun _ => rfl), by decide +kernel, Or.inr ⟨_, rfl⟩⟩⟩
theorem lk_358 : xLq RX12 (3, 61, 12, 11, 17) := ⟨by decide, _, rfl, ⟨rfl, (RX12, TX12, 47), .array .int, rfl, by decide, xtc6 224 rfl rfl, rfl, (fun _ => rfl), by decide +kernel, Or.inr ⟨_, rfl⟩⟩⟩
theorem lk_359 : xLq RX12 (3, 61, 12, 12, 20) := ⟨by decide, _, rfl, ⟨rfl, (RX12, TX12, 47), .array .int, rfl, by decide, xtc6 225 rfl rfl, rfl, (fun _ => rfl), by decide +kernel, Or.inr ⟨_, rfl⟩⟩⟩
theorem lk_360 : xLq RX12 (3, 61, 12, 13, 23) := ⟨by decide, _, rfl, ⟨rfl, (RX12, TX12, 47), .array .int, rfl, by decide, xtc6 226 rfl rfl, rfl, (fun _ => rfl), by decide +kernel, Or.inr ⟨_, rfl⟩⟩⟩
theorem lk_361 : xLq RX12 (3, 61, 12, 15, 26) := ⟨by decide, _, rfl, ⟨rfl, (RX12, TX12, 47), .array .int, rfl, by decide, xtc6 228 rfl rfl, rfl, (fun _ => rfl), by decide +kernel, Or.inr ⟨_, rfl⟩⟩⟩
theorem lk_362 : xLq RX12 (3, 61, 12, 16, 29) := ⟨by decide, _, rfl, ⟨rfl, (RX12, TX12, 47), .array .int, rfl, by decide, xtc6 229 rfl rfl, rfl, (fun _ => rfl), by decide +kernel, Or.inr ⟨_, rfl⟩⟩⟩
theorem lk_363 : xLq RX12 (3, 61, 12, 17, 32) := ⟨by decide, _, rfl, ⟨rfl, (RX12, TX12, 47), .array .int, rfl, by decide, xtc6 230 rfl rfl, rfl, (fun _ => rfl), by decide +kernel, Or.inr ⟨_, rfl⟩⟩⟩
theorem lk_364 : xLq RX12 (3, 61, 12, 18, 35) := ⟨by decide, _, rfl, ⟨rfl, (RX12, TX12, 47), .array .int, rfl, by decide, xtc6 231 rfl rfl, rfl, (fun _ => rfl), by decide +kernel, Or.inr ⟨_, rfl⟩⟩⟩
theorem lk_365 : xLq RX12 (3, 61, 12, 19, 38) := ⟨by decide, _, rfl, ⟨rfl, (RX12, TX12, 47), .array .long, rfl, by decide, xtc6 232 rfl rfl, rfl, (fun _ => rfl), by decide +kernel, Or.inr ⟨_, rfl⟩⟩⟩
theorem lk_366 : xLq RX12 (3, 61, 12, 20, 42) := ⟨by decide, _, rfl, ⟨rfl, (RX12, TX12, 47), .array .long, rfl, by decide, xtc6 233 rfl rfl, rfl, (fun _ => rfl), by decide +kernel, Or.inr ⟨_, rfl⟩⟩⟩
theorem lk_367 : xLq RX12 (3, 61, 12, 21, 45) := ⟨by decide, _, rfl, ⟨rfl, (RX12, TX12, 47), .array .long, rfl, by decide, xtc6 234 rfl rfl, rfl, (fun _ => rfl), by decide +kernel, Or.inr ⟨_, rfl⟩⟩⟩
theorem lk_368 : xLq RX12 (3, 61, 12, 25, 48) := ⟨by decide, _, rfl, ⟨rfl, (RX12, TX12, 47), .array .int, rfl, by decide, xtc6 238 rfl rfl, rfl, (fun _ => rfl), by decide +kernel, Or.inr ⟨_, rfl⟩⟩⟩
theorem lk_369 : xLq RX12 (3, 61, 12, 26, 51) := ⟨by decide, _, rfl, ⟨rfl, (RX12, TX12, 47), .array .int, rfl, by decide, xtc6 239 rfl rfl, rfl, (fun _ => rfl), by decide +kernel, Or.inr ⟨_, rfl⟩⟩⟩
theorem lk_370 : xLq RX12 (3, 61, 12, 27, 54) := ⟨by decide, _, rfl, ⟨rfl, (RX12, TX12, 47), .array .int, rfl, by decide, xtc7 0 rfl rfl, rfl, (fun _ => rfl), by decide +kernel, Or.inr ⟨_, rfl⟩⟩⟩
theorem lk_371 : xLq RX12 (3, 61, 12, 28, 57) := ⟨by decide, _, rfl, ⟨rfl, (RX12, TX12, 47), .array .int, rfl, by decide, xtc7 1 rfl rfl, rfl, (fun _ => rfl), by decide +kernel, Or.inr ⟨_, rfl⟩⟩⟩
theorem lk_372 : xLq RX12 (3, 61, 12, 29, 60) := ⟨by decide, _, rfl, ⟨rfl, (RX12, TX12, 47), .array .boolean, rfl, by decide, xtc7 2 rfl rfl, rfl, (fun _ => rfl), by decide +kernel, Or.inr ⟨_, rfl⟩⟩⟩
theorem lk_373 : xLq RX12 (3, 61, 12, 30, 63) := ⟨by decide, _, rfl, ⟨rfl, (RX12, TX12, 47), .array .boolean, rfl, by decide, xtc7 3 rfl rfl, rfl, (fun _ => rfl), by decide +kernel, Or.inr ⟨_, rfl⟩⟩⟩
theorem lk_374 : xLq RX12 (3, 61, 12, 31, 66) := ⟨by decide, _, rfl, ⟨rfl, (RX12, TX12, 47), .array .int, rfl, by decide, xtc7 4 rfl rfl, rfl, (fun _ => rfl), by decide +kernel, Or.inr ⟨_, rfl⟩⟩⟩
theorem lk_375 : xLq RX12 (3, 61, 12, 32, 69) := ⟨by decide, _, rfl, ⟨rfl, (RX12, TX12, 47), .array .int, rfl, by decide, xtc7 5 rfl rfl, rfl, (fun _ => rfl), by decide +kernel, Or.inr ⟨_, rfl⟩⟩⟩
theorem lk_376 : xLq RX12 (3, 61, 12, 34, 72) := ⟨by decide, _, rfl, ⟨rfl, (RX12, TX12, 47), .array .int, rfl, by decide, xtc7 7 rfl rfl, rfl, (fun _ => rfl), by decide +kernel, Or.inr ⟨_, rfl⟩⟩⟩
theorem lk_377 : xLq RX12 (3, 61, 12, 35, 75) := ⟨by decide, _, rfl, ⟨rfl, (RX12, TX12, 47), .array .int, rfl, by decide, xtc7 8 rfl rfl, rfl, (fun _ => rfl), by decide +kernel, Or.inr ⟨_, rfl⟩⟩⟩
theorem lk_378 : xLq RX12 (3, 61, 12, 36, 78) := ⟨by decide, _, rfl, ⟨rfl, (RX12, TX12, 47), .array .int, rfl, by decide, xtc7 9 rfl rfl, rfl, (fun _ => rfl), by decide +kernel, Or.inr ⟨_, rfl⟩⟩⟩
theorem lk_379 : xLq RX12 (3, 61, 12, 37, 81) := ⟨by decide, _, rfl, ⟨rfl, (RX12, TX12, 47), .array .int, rfl, by decide, xtc7 10 rfl rfl, rfl, (fun _ => rfl), by decide +kernel, Or.inr ⟨_, rfl⟩⟩⟩
end
section
theorem lk_380 : xLq RX12 (3, 61, 12, 38, 84) := ⟨by decide, _, rfl, ⟨rfl, (RX12, TX12, 47), .array .boolean, rfl, by decide, xtc7 11 rfl rfl, rfl, (fun _ => rfl), by decide +kernel, Or.inr ⟨_, rfl⟩⟩⟩
theorem lk_381 : xLq RX12 (3, 61, 12, 39, 87) := ⟨by decide, _, rfl, ⟨rfl, (RX12, TX12, 47), .array .int, rfl, by decide, xtc7 12 rfl rfl, rfl, (fun _ => rfl), by decide +kernel, Or.inr ⟨_, rfl⟩⟩⟩
theorem lk_382 : xLq RX12 (3, 61, 12, 40, 90) := ⟨by decide, _, rfl, ⟨rfl, (RX12, TX12, 47), .array .int, rfl, by decide, xtc7 13 rfl rfl, rfl, (fun _ => rfl), by decide +kernel, Or.inr ⟨_, rfl⟩⟩⟩
theorem lk_383 : xLq RX12 (3, 61, 12, 43, 93) := ⟨by decide, _, rfl, ⟨rfl, (RX12, TX12, 47), .array .int, rfl, by decide, xtc7 16 rfl rfl, rfl, (fun _ => rfl), by decide +kernel, Or.inr ⟨_, rfl⟩⟩⟩
theorem lk_384 : xLq RX12 (3, 61, 12, 44, 96) := ⟨by decide, _, rfl, ⟨rfl, (RX12, TX12, 47), .array .int, rfl, by decide, xtc7 17 rfl rfl, rfl, (fun _ => rfl), by decide +kernel, Or.inr ⟨_, rfl⟩⟩⟩
theorem lk_385 : xLq RX12 (3, 61, 12, 45, 99) := ⟨by decide, _, rfl, ⟨rfl, (RX12, TX12, 47), .array .int, rfl, by decide, xtc7 18 rfl rfl, rfl, (fun _ => rfl), by decide +kernel, Or.inr ⟨_, rfl⟩⟩⟩
theorem lk_386 : xLq RX12 (3, 61, 12, 46, 102) := ⟨by decide, _, rfl, ⟨rfl, (RX12, TX12, 47), .array .int, rfl, by decide, xtc7 19 rfl rfl, rfl, (fun _ => rfl), by decide +kernel, Or.inr ⟨_, rfl⟩⟩⟩
theorem lk_387 : xLq RX12 (3, 1, 12, 24, 276) := ⟨by decide, _, rfl, ⟨rfl, (RX12, TX12, 47), rfl, by decide, xtc6 237 rfl rfl⟩⟩
theorem lk_388 : xLq RX12 (3, 13, 187, 96, 329) := ⟨by decide, _, rfl, ⟨rfl, mX12_leftOf, rfl, xtc8 157 rfl rfl, xtc8 159 rfl rfl, xtb 94 (by decide +kernel) rfl, (RX12, TX12, 47), rfl, rfl⟩⟩
theorem lk_389 : xLq RX12 (3, 14, 12, 24, 276) := ⟨by decide, _, rfl, ⟨rfl, (RX12, TX12, 47), .int, rfl, by decide, xtc6 237 rfl rfl, rfl, (fun h => by cases h), by decide +kernel, rfl⟩⟩
theorem lk_390 : xLq RX12 (3, 1, 12, 29, 60) := ⟨by decide, _, rfl, ⟨rfl, (RX12, TX12, 47), rfl, by decide, xtc7 2 rfl rfl⟩⟩
theorem lk_391 : xLq RX12 (3, 13, 163, 96, 314) := ⟨by decide, _, rfl, ⟨rfl, mX12_isJoined, rfl, xtc8 133 rfl rfl, xtc8 135 rfl rfl, xtb 91 (by decide +kernel) rfl, (RX12, TX12, 47), rfl, rfl⟩⟩
theorem lk_392 : xLq RX12 (3, 1, 12, 30, 63) := ⟨by decide, _, rfl, ⟨rfl, (RX12, TX12, 47), rfl, by decide, xtc7 3 rfl rfl⟩⟩
theorem lk_393 : xLq RX12 (3, 1, 12, 44, 96) := ⟨by decide, _, rfl, ⟨rfl, (RX12, TX12, 47), rfl, by decide, xtc7 17 rfl rfl⟩⟩
theorem lk_394 : xLq RX12 (3, 13, 114, 96, 400) := ⟨by decide, _, rfl, ⟨rfl, mX12_allTests, rfl, xtc9 80 rfl rfl, xtc9 82 rfl rfl, xtb 114 (by decide +kernel) rfl, (RX12, TX12, 47), rfl, rfl⟩⟩
theorem lk_395 : xLq RX12 (3, 13, 179, 98, 397) := ⟨by decide, _, rfl, ⟨rfl, mX12_lawAt, rfl, xtc9 73 rfl rfl, xtc9 74 rfl rfl⟩⟩
theorem lk_396 : xLq RX12 (3, 13, 177, 96, 393) := ⟨by decide, _, rfl, ⟨rfl, mX12_lastsOf, rfl, xtc9 48 rfl rfl, xtc9 50 rfl rfl, xtb 110 (by decide +kernel) rfl, (RX12, TX12, 47), rfl, rfl⟩⟩
theorem lk_397 : xLq RX12 (3, 1, 12, 43, 93) := ⟨by decide, _, rfl, ⟨rfl, (RX12, TX12, 47), rfl, by decide, xtc7 16 rfl rfl⟩⟩
theorem lk_398 : xLq RX12 (3, 13, 174, 96, 403) := ⟨by decide, _, rfl, ⟨rfl, mX12_keeps, rfl, xtc9 69 rfl rfl, xtc9 71 rfl rfl, xtb 112 (by decide +kernel) rfl, (RX12, TX12, 47), rfl, rfl⟩⟩
theorem lk_399 : xLq RX12 (3, 13, 164, 96, 406) := ⟨by decide, _, rfl, ⟨rfl, mX12_isLaw, rfl, xtc9 76 rfl rfl, xtc9 78 rfl rfl, xtb 113 (by decide +kernel) rfl, (RX12, TX12, 47), rfl, rfl⟩⟩
theorem lk_400 : xLq RX12 (3, 1, 12, 39, 87) := ⟨by decide, _, rfl, ⟨rfl, (RX12, TX12, 47), rfl, by decide, xtc7 12 rfl rfl⟩⟩
theorem lk_401 : xLq RX12 (3, 1, 12, 42, 361) := ⟨by decide, _, rfl, ⟨rfl, (RX12, TX12, 47), rfl, by decide, xtc7 15 rfl rfl⟩⟩
theorem lk_402 : xLq RX12 (3, 13, 118, 98, 344) := ⟨by decide, _, rfl, ⟨rfl, mX12_at, rfl, xtc8 205 rfl rfl, xtc8 206 rfl rfl⟩⟩
theorem lk_403 : xLq RX12 (3, 14, 12, 42, 361) := ⟨by decide, _, rfl, ⟨rfl, (RX12, TX12, 47), .int, rfl, by decide, xtc7 15 rfl rfl, rfl, (fun h => by cases h), by decide +kernel, rfl⟩⟩
theorem lk_404 : xLq RX12 (3, 13, 165, 96, 287) := ⟨by decide, _, rfl, ⟨rfl, mX12_isLed, rfl, xtc8 81 rfl rfl, xtc8 83 rfl rfl, xtb 81 (by decide +kernel) rfl, (RX12, TX12, 47), rfl, rfl⟩⟩
theorem lk_405 : xLq RX12 (3, 13, 185, 96, 253) := ⟨by decide, _, rfl, ⟨rfl, mX12_leastNow, rfl, xtc8 20 rfl rfl, xtc8 22 rfl rfl, xtb 74 (by decide +kernel) rfl, (RX12, TX12, 47), rfl, rfl⟩⟩
theorem lk_406 : xLq RX12 (3, 52, 9999, 0, 233) := ⟨by decide, _, rfl, ⟨rfl, xtc8 24 rfl rfl⟩⟩
theorem lk_407 : xLq RX12 (3, 1, 12, 31, 66) := ⟨by decide, _, rfl, ⟨rfl, (RX12, TX12, 47), rfl, by decide, xtc7 4 rfl rfl⟩⟩
theorem lk_408 : xLq RX12 (3, 1, 12, 33, 290) := ⟨by decide, _, rfl, ⟨rfl, (RX12, TX12, 47), rfl, by decide, xtc7 6 rfl rfl⟩⟩
theorem lk_409 : xLq RX12 (3, 14, 12, 33, 290) := ⟨by decide, _, rfl, ⟨rfl, (RX12, TX12, 47), .int, rfl, by decide, xtc7 6 rfl rfl, rfl, (fun h => by cases h), by decide +kernel, rfl⟩⟩
theorem lk_410 : xLq RX12 (3, 13, 200, 98, 379) := ⟨by decide, _, rfl, ⟨rfl, mX12_ones, rfl, xtc9 12 rfl rfl, xtc9 13 rfl rfl⟩⟩
theorem lk_411 : xLq RX12 (3, 13, 160, 96, 382) := ⟨by decide, _, rfl, ⟨rfl, mX12_isFedBy, rfl, xtc9 15 rfl rfl, xtc9 17 rfl rfl, xtb 107 (by decide +kernel) rfl, (RX12, TX12, 47), rfl, rfl⟩⟩
theorem lk_412 : xLq RX12 (3, 1, 12, 16, 29) := ⟨by decide, _, rfl, ⟨rfl, (RX12, TX12, 47), rfl, by decide, xtc6 229 rfl rfl⟩⟩
theorem lk_413 : xLq RX12 (3, 13, 213, 96, 260) := ⟨by decide, _, rfl, ⟨rfl, mX12_reorders, rfl, xtc8 33 rfl rfl, xtc8 35 rfl rfl, xtb 75 (by decide +kernel) rfl, (RX12, TX12, 47), rfl, rfl⟩⟩
theorem lk_414 : xLq RX12 (3, 13, 207, 96, 373) := ⟨by decide, _, rfl, ⟨rfl, mX12_plans, rfl, xtc8 224 rfl rfl, xtc8 226 rfl rfl, xtb 103 (by decide +kernel) rfl, (RX12, TX12, 47), rfl, rfl⟩⟩
theorem lk_415 : xLq RX12 (3, 1, 12, 41, 364) := ⟨by decide, _, rfl, ⟨rfl, (RX12, TX12, 47), rfl, by decide, xtc7 14 rfl rfl⟩⟩
theorem lk_416 : xLq RX12 (3, 1, 12, 40, 90) := ⟨by decide, _, rfl, ⟨rfl, (RX12, TX12, 47), rfl, by decide, xtc7 13 rfl rfl⟩⟩
theorem lk_417 : xLq RX12 (3, 1, 12, 38, 84) := ⟨by decide, _, rfl, ⟨rfl, (RX12, TX12, 47), rfl, by decide, xtc7 11 rfl rfl⟩⟩
theorem lk_418 : xLq RX12 (3, 13, 203, 96, 348) := ⟨by decide, _, rfl, ⟨rfl, mX12_panelOf, rfl, xtc8 216 rfl rfl, xtc8 218 rfl rfl, xtb 102 (by decide +kernel) rfl, (RX12, TX12, 47), rfl, rfl⟩⟩
theorem lk_419 : xLq RX12 (3, 1, 12, 37, 81) := ⟨by decide, _, rfl, ⟨rfl, (RX12, TX12, 47), rfl, by decide, xtc7 10 rfl rfl⟩⟩
theorem lk_420 : xLq RX12 (3, 13, 234, 96, 358) := ⟨by decide, _, rfl, ⟨rfl, mX12_values, rfl, xtc8 201 rfl rfl, xtc8 203 rfl rfl, xtb 99 (by decide +kernel) rfl, (RX12, TX12, 47), rfl, rfl⟩⟩
theorem lk_421 : xLq RX12 (3, 14, 12, 41, 364) := ⟨by decide, _, rfl, ⟨rfl, (RX12, TX12, 47), .int, rfl, by decide, xtc7 14 rfl rfl, rfl, (fun h => by cases h), by decide +kernel, rfl⟩⟩
theorem lk_422 : xLq RX12 (3, 13, 182, 96, 367) := ⟨by decide, _, rfl, ⟨rfl, mX12_lays, rfl, xtc8 228 rfl rfl, xtc8 230 rfl rfl, xtb 104 (by decide +kernel) rfl, (RX12, TX12, 47), rfl, rfl⟩⟩
theorem lk_423 : xLq RX12 (3, 13, 208, 96, 370) := ⟨by decide, _, rfl, ⟨rfl, mX12_plansOne, rfl, xtc8 232 rfl rfl, xtc8 234 rfl rfl, xtb 105 (by decide +kernel) rfl, (RX12, TX12, 47), rfl, rfl⟩⟩
theorem lk_424 : xLq RX12 (3, 13, 218, 96, 390) := ⟨by decide, _, rfl, ⟨rfl, mX12_shareOf, rfl, xtc9 36 rfl rfl, xtc9 38 rfl rfl, xtb 109 (by decide +kernel) rfl, (RX12, TX12, 47), rfl, rfl⟩⟩
theorem lk_425 : xLq RX12 (3, 13, 170, 96, 412) := ⟨by decide, _, rfl, ⟨rfl, mX12_isQuarrel, rfl, xtc9 96 rfl rfl, xtc9 98 rfl rfl, xtb 115 (by decide +kernel) rfl, (RX12, TX12, 47), rfl, rfl⟩⟩
theorem lk_426 : xLq RX12 (3, 13, 226, 96, 257) := ⟨by decide, _, rfl, ⟨rfl, mX12_swap, rfl, xtc8 37 rfl rfl, xtc8 39 rfl rfl, xtb 76 (by decide +kernel) rfl, (RX12, TX12, 47), rfl, rfl⟩⟩
theorem lk_427 : xLq RX12 (3, 1, 12, 45, 99) := ⟨by decide, _, rfl, ⟨rfl, (RX12, TX12, 47), rfl, by decide, xtc7 18 rfl rfl⟩⟩
theorem lk_428 : xLq RX12 (3, 13, 220, 98, 131) := ⟨by decide, _, rfl, ⟨rfl, mX12_six, rfl, xtc7 150 rfl rfl, xtc7 151 rfl rfl⟩⟩
theorem lk_429 : xLq RX12 (3, 13, 146, 98, 125) := ⟨by decide, _, rfl, ⟨rfl, mX12_five, rfl, xtc7 154 rfl rfl, xtc7 155 rfl rfl⟩⟩
theorem lk_430 : xLq RX12 (3, 52, 294, 0, 135) := ⟨by decide, _, rfl, ⟨rfl, xtc7 160 rfl rfl⟩⟩
theorem lk_431 : xLq RX12 (3, 13, 108, 96, 430) := ⟨by decide, _, rfl, ⟨rfl, mX12_aRule, rfl, xtc9 108 rfl rfl, xtc9 110 rfl rfl, xtb 116 (by decide +kernel) rfl, (RX12, TX12, 47), rfl, rfl⟩⟩
theorem lk_432 : xLq RX12 (3, 52, 32768, 0, 129) := ⟨by decide, _, rfl, ⟨rfl, xtc7 153 rfl rfl⟩⟩
theorem lk_433 : xLq RX12 (3, 13, 191, 96, 293) := ⟨by decide, _, rfl, ⟨rfl, mX12_meets, rfl, xtc8 105 rfl rfl, xtc8 107 rfl rfl, xtb 86 (by decide +kernel) rfl, (RX12, TX12, 47), rfl, rfl⟩⟩
theorem lk_434 : xLq RX12 (2, 35, 2294967296, 0, 250) := ⟨by decide, _, rfl, ⟨rfl, by decide, xtc8 10 rfl rfl⟩⟩
theorem lk_435 : xLq RX12 (3, 52, 1000000, 0, 251) := ⟨by decide, _, rfl, ⟨rfl, xtc8 11 rfl rfl⟩⟩
theorem lk_436 : xLq RX12 (3, 36, 999999, 0, 396) := ⟨by decide, _, rfl, ⟨rfl, by decide, xtc9 60 rfl rfl⟩⟩
theorem lk_437 : xLq RX12 (3, 71, 12, 23, 263) := ⟨by decide, _, rfl, ⟨rfl, (RX12, TX12, 47), .long, rfl, by decide, xtc6 236 rfl rfl, rfl, (fun h => by cases h), by decide +kernel, rfl⟩⟩
theorem lk_438 : xLq RX12 (3, 13, 151, 96, 351) := ⟨by decide, _, rfl, ⟨rfl, mX12_hasFlaw, rfl, xtc8 208 rfl rfl, xtc8 210 rfl rfl, xtb 100 (by decide +kernel) rfl, (RX12, TX12, 47), rfl, rfl⟩⟩
theorem lk_439 : xLq RX12 (3, 13, 206, 96, 355) := ⟨by decide, _, rfl, ⟨rfl, mX12_pieceOf, rfl, xtc8 212 rfl rfl, xtc8 214 rfl rfl, xtb 101 (by decide +kernel) rfl, (RX12, TX12, 47), rfl, rfl⟩⟩
theorem lk_440 : xLq RX1 (3, 1, 1, 0, 14) := ⟨by decide, _, rfl, ⟨rfl, (RX1, TX1, 10), rfl, by decide, xtc1 72 rfl rfl⟩⟩
theorem lk_441 : xLq RX1 (3, 13, 283, 40, 50) := ⟨by decide, _, rfl, ⟨rfl, mX5_clear, rfl, xtc3 73 rfl rfl, xtc3 74 rfl rfl, xtc3 75 rfl rfl, (RX5, TX5, 4), rfl, rfl⟩⟩
theorem lk_442 : xLq RX1 (3, 1, 1, 1, 18) := ⟨by decide, _, rfl, ⟨rfl, (RX1, TX1, 10), rfl, by decide, xtc1 75 rfl rfl⟩⟩
theorem lk_443 : xLq RX1 (3, 1, 1, 2, 21) := ⟨by decide, _, rfl, ⟨rfl, (RX1, TX1, 10), rfl, by decide, xtc1 78 rfl rfl⟩⟩
theorem lk_444 : xLq RX1 (3, 1, 1, 3, 24) := ⟨by decide, _, rfl, ⟨rfl, (RX1, TX1, 10), rfl, by decide, xtc1 81 rfl rfl⟩⟩
theorem lk_445 : xLq RX1 (3, 1, 1, 4, 27) := ⟨by decide, _, rfl, ⟨rfl, (RX1, TX1, 10), rfl, by decide, xtc1 83 rfl rfl⟩⟩
theorem lk_446 : xLq RX1 (3, 14, 1, 5, 30) := ⟨by decide, _, rfl, ⟨rfl, (RX1, TX1, 10), .int, rfl, by decide, xtc1 86 rfl rfl, rfl, (fun h => by cases h), by decide +kernel, rfl⟩⟩
theorem lk_447 : xLq RX1 (3, 14, 1, 6, 34) := ⟨by decide, _, rfl, ⟨rfl, (RX1, TX1, 10), .int, rfl, by decide, xtc1 90 rfl rfl, rfl, (fun h => by cases h), by decide +kernel, rfl⟩⟩
theorem lk_448 : xLq RX1 (3, 14, 1, 7, 37) := ⟨by decide, _, rfl, ⟨rfl, (RX1, TX1, 10), .int, rfl, by decide, xtc1 94 rfl rfl, rfl, (fun h => by cases h), by decide +kernel, rfl⟩⟩
theorem lk_449 : xLq RX1 (3, 14, 1, 8, 40) := ⟨by decide, _, rfl, ⟨rfl, (RX1, TX1, 10), .int, rfl, by decide, xtc1 99 rfl rfl, rfl, (fun h => by cases h), by decide +kernel, rfl⟩⟩
theorem lk_450 : xLq RX1 (3, 14, 1, 9, 53) := ⟨by decide, _, rfl, ⟨rfl, (RX1, TX1, 10), .int, rfl, by decide, xtc1 105 rfl rfl, rfl, (fun h => by cases h), by decide +kernel, rfl⟩⟩
theorem lk_451 : xLq RX1 (3, 13, 284, 40, 56) := ⟨by decide, _, rfl, ⟨rfl, mX5_copy, rfl, xtc4 1 rfl rfl, xtc4 2 rfl rfl, xtc4 3 rfl rfl, (RX5, TX5, 4), rfl, rfl⟩⟩
theorem lk_452 : xLq RX1 (3, 1, 1, 5, 30) := ⟨by decide, _, rfl, ⟨rfl, (RX1, TX1, 10), rfl, by decide, xtc1 86 rfl rfl⟩⟩
theorem lk_453 : xLq RX1 (3, 1, 1, 6, 34) := ⟨by decide, _, rfl, ⟨rfl, (RX1, TX1, 10), rfl, by decide, xtc1 90 rfl rfl⟩⟩
theorem lk_454 : xLq RX1 (3, 1, 1, 7, 37) := ⟨by decide, _, rfl, ⟨rfl, (RX1, TX1, 10), rfl, by decide, xtc1 94 rfl rfl⟩⟩
theorem lk_455 : xLq RX1 (3, 1, 1, 8, 40) := ⟨by decide, _, rfl, ⟨rfl, (RX1, TX1, 10), rfl, by decide, xtc1 99 rfl rfl⟩⟩
theorem lk_456 : xLq RX1 (3, 1, 1, 9, 53) := ⟨by decide, _, rfl, ⟨rfl, (RX1, TX1, 10), rfl, by decide, xtc1 105 rfl rfl⟩⟩
theorem lk_457 : xLq RX1 (3, 25, 0, 0, 1) := ⟨by decide, _, rfl, ⟨rfl, xtc1 41 rfl rfl⟩⟩
theorem lk_458 : xLq RX1 (3, 24, 5, 0, 7) := ⟨by decide, _, rfl, ⟨rfl, (RX5, TX5, 4), rfl, xtc1 42 rfl rfl, xtc1 43 rfl rfl, xtc1 4 rfl rfl⟩⟩
theorem lk_459 : xLq RX1 (3, 13, 288, 44, 11) := ⟨by decide, _, rfl, ⟨rfl, mX5_init, rfl, xtc1 44 rfl rfl, rfl, rfl, rfl, xtc1 45 rfl rfl⟩⟩
theorem lk_460 : xLq RX1 (3, 61, 1, 0, 14) := ⟨by decide, _, rfl, ⟨rfl, (RX1, TX1, 10), .object "BentScreens$Rows", rfl, by decide, xtc1 72 rfl rfl, rfl, (fun _ => rfl), by decide +kernel, Or.inl ⟨_, rfl⟩⟩⟩
theorem lk_461 : xLq RX1 (3, 61, 1, 1, 18) := ⟨by decide, _, rfl, ⟨rfl, (RX1, TX1, 10), .object "BentScreens$Rows", rfl, by decide, xtc1 75 rfl rfl, rfl, (fun _ => rfl), by decide +kernel, Or.inl ⟨_, rfl⟩⟩⟩
theorem lk_462 : xLq RX1 (3, 61, 1, 2, 21) := ⟨by decide, _, rfl, ⟨rfl, (RX1, TX1, 10), .object "BentScreens$Rows", rfl, by decide, xtc1 78 rfl rfl, rfl, (fun _ => rfl), by decide +kernel, Or.inl ⟨_, rfl⟩⟩⟩
theorem lk_463 : xLq RX1 (3, 61, 1, 3, 24) := ⟨by decide, _, rfl, ⟨rfl, (RX1, TX1, 10), .object "BentScreens$Rows", rfl, by decide, xtc1 81 rfl rfl, rfl, (fun _ => rfl), by decide +kernel, Or.inl ⟨_, rfl⟩⟩⟩
theorem lk_464 : xLq RX1 (3, 61, 1, 4, 27) := ⟨by decide, _, rfl, ⟨rfl, (RX1, TX1, 10), .object "BentScreens$Rows", rfl, by decide, xtc1 83 rfl rfl, rfl, (fun _ => rfl), by decide +kernel, Or.inl ⟨_, rfl⟩⟩⟩
theorem lk_465 : xLq RX1 (3, 1, 5, 3, 43) := ⟨by decide, _, rfl, ⟨rfl, (RX5, TX5, 4), rfl, by decide, xtc1 53 rfl rfl⟩⟩
theorem lk_466 : xLq RX1 (3, 13, 285, 40, 46) := ⟨by decide, _, rfl, ⟨rfl, mX5_get, rfl, xtc6 168 rfl rfl, xtc3 202 rfl rfl, xtc3 203 rfl rfl, (RX5, TX5, 4), rfl, rfl⟩⟩
theorem lk_467 : xLq RX2 (3, 1, 2, 9, 57) := ⟨by decide, _, rfl, ⟨rfl, (RX2, TX2, 11), rfl, by decide, xtc2 9 rfl rfl⟩⟩
theorem lk_468 : xLq RX2 (3, 1, 2, 2, 12) := ⟨by decide, _, rfl, ⟨rfl, (RX2, TX2, 11), rfl, by decide, xtc2 2 rfl rfl⟩⟩
theorem lk_469 : xLq RX2 (3, 1, 1, 4, 211) := ⟨by decide, _, rfl, ⟨rfl, (RX1, TX1, 10), rfl, by decide, xtc1 85 rfl rfl⟩⟩
theorem lk_470 : xLq RX2 (3, 1, 5, 3, 185) := ⟨by decide, _, rfl, ⟨rfl, (RX5, TX5, 4), rfl, by decide, xtc1 58 rfl rfl⟩⟩
theorem lk_471 : xLq RX2 (3, 1, 2, 5, 25) := ⟨by decide, _, rfl, ⟨rfl, (RX2, TX2, 11), rfl, by decide, xtc2 5 rfl rfl⟩⟩
theorem lk_472 : xLq RX2 (3, 13, 285, 40, 188) := ⟨by decide, _, rfl, ⟨rfl, mX5_get, rfl, xtc3 201 rfl rfl, xtc3 202 rfl rfl, xtc3 203 rfl rfl, (RX5, TX5, 4), rfl, rfl⟩⟩
theorem lk_473 : xLq RX2 (3, 1, 1, 5, 192) := ⟨by decide, _, rfl, ⟨rfl, (RX1, TX1, 10), rfl, by decide, xtc1 88 rfl rfl⟩⟩
theorem lk_474 : xLq RX2 (3, 1, 1, 6, 195) := ⟨by decide, _, rfl, ⟨rfl, (RX1, TX1, 10), rfl, by decide, xtc1 92 rfl rfl⟩⟩
theorem lk_475 : xLq RX2 (3, 14, 2, 9, 57) := ⟨by decide, _, rfl, ⟨rfl, (RX2, TX2, 11), .int, rfl, by decide, xtc2 9 rfl rfl, rfl, (fun h => by cases h), by decide +kernel, rfl⟩⟩
theorem lk_476 : xLq RX2 (3, 14, 2, 10, 88) := ⟨by decide, _, rfl, ⟨rfl, (RX2, TX2, 11), .int, rfl, by decide, xtc2 10 rfl rfl, rfl, (fun h => by cases h), by decide +kernel, rfl⟩⟩
theorem lk_477 : xLq RX2 (3, 25, 0, 0, 3) := ⟨by decide, _, rfl, ⟨rfl, xtc1 206 rfl rfl⟩⟩
theorem lk_478 : xLq RX2 (3, 24, 1, 0, 9) := ⟨by decide, _, rfl, ⟨rfl, (RX1, TX1, 10), rfl, xtc1 207 rfl rfl, xtc1 37 rfl rfl, xtc1 3 rfl rfl⟩⟩
theorem lk_479 : xLq RX2 (3, 13, 242, 13, 11) := ⟨by decide, _, rfl, ⟨rfl, mX1_init, rfl, "BentScreens", List.mem_of_getElem? (i := 333) (by decide +kernel), rfl, rfl, rfl, xtc1 39 rfl rfl⟩⟩
theorem lk_480 : xLq RX2 (3, 61, 2, 2, 12) := ⟨by decide, _, rfl, ⟨rfl, (RX2, TX2, 11), .object "BentScreens$Film", rfl, by decide, xtc2 2 rfl rfl, rfl, (fun _ => rfl), by decide +kernel, Or.inl ⟨_, rfl⟩⟩⟩
theorem lk_481 : xLq RX2 (3, 61, 2, 3, 18) := ⟨by decide, _, rfl, ⟨rfl, (RX2, TX2, 11), .array .int, rfl, by decide, xtc2 3 rfl rfl, rfl, (fun _ => rfl), by decide +kernel, Or.inr ⟨_, rfl⟩⟩⟩
theorem lk_482 : xLq RX2 (3, 61, 2, 4, 22) := ⟨by decide, _, rfl, ⟨rfl, (RX2, TX2, 11), .array .int, rfl, by decide, xtc2 4 rfl rfl, rfl, (fun _ => rfl), by decide +kernel, Or.inr ⟨_, rfl⟩⟩⟩
theorem lk_483 : xLq RX2 (3, 61, 2, 5, 25) := ⟨by decide, _, rfl, ⟨rfl, (RX2, TX2, 11), .array .int, rfl, by decide, xtc2 5 rfl rfl, rfl, (fun _ => rfl), by decide +kernel, Or.inr ⟨_, rfl⟩⟩⟩
theorem lk_484 : xLq RX2 (3, 61, 2, 0, 28) := ⟨by decide, _, rfl, ⟨rfl, (RX2, TX2, 11), .object "BentScreens$Told", rfl, by decide, xtc2 0 rfl rfl, rfl, (fun _ => rfl), by decide +kernel, Or.inl ⟨_, rfl⟩⟩⟩
theorem lk_485 : xLq RX2 (3, 24, 8, 0, 32) := ⟨by decide, _, rfl, ⟨rfl, (RX8, TX8, 6), rfl, xtc1 209 rfl rfl, xtc1 210 rfl rfl, xtc1 6 rfl rfl⟩⟩
theorem lk_486 : xLq RX2 (3, 1, 9, 0, 34) := ⟨by decide, _, rfl, ⟨rfl, (RX9, TX9, 14), rfl, by decide, xtc1 132 rfl rfl⟩⟩
theorem lk_487 : xLq RX2 (3, 13, 313, 68, 40) := ⟨by decide, _, rfl, ⟨rfl, mX8_init, rfl, xtc1 211 rfl rfl, rfl, rfl, rfl, xtc1 212 rfl rfl⟩⟩
theorem lk_488 : xLq RX2 (3, 61, 2, 1, 43) := ⟨by decide, _, rfl, ⟨rfl, (RX2, TX2, 11), .object "BentScreens$Tokens", rfl, by decide, xtc2 1 rfl rfl, rfl, (fun _ => rfl), by decide +kernel, Or.inl ⟨_, rfl⟩⟩⟩
theorem lk_489 : xLq RX2 (3, 13, 249, 16, 158) := ⟨by decide, _, rfl, ⟨rfl, mX2_isTooMany, rfl, xtc3 185 rfl rfl, xtc3 187 rfl rfl, xtb 5 (by decide +kernel) rfl, (RX2, TX2, 11), rfl, rfl⟩⟩
theorem lk_490 : xLq RX2 (3, 37, 1, 0, 115) := ⟨by decide, _, rfl, ⟨rfl, _, rfl, xtc3 169 rfl rfl⟩⟩
theorem lk_491 : xLq RX2 (3, 1, 2, 3, 18) := ⟨by decide, _, rfl, ⟨rfl, (RX2, TX2, 11), rfl, by decide, xtc2 3 rfl rfl⟩⟩
theorem lk_492 : xLq RX2 (3, 37, 2, 0, 162) := ⟨by decide, _, rfl, ⟨rfl, _, rfl, xtc3 205 rfl rfl⟩⟩
theorem lk_493 : xLq RX2 (3, 37, 3, 0, 165) := ⟨by decide, _, rfl, ⟨rfl, _, rfl, xtc3 207 rfl rfl⟩⟩
theorem lk_494 : xLq RX2 (3, 13, 70, 91, 168) := ⟨by decide, _, rfl, ⟨rfl, mX11_isIn, rfl, "BentScreens", List.mem_of_getElem? (i := 814) (by decide +kernel), xtc3 210 rfl rfl⟩⟩
theorem lk_495 : xLq RX2 (3, 1, 2, 4, 22) := ⟨by decide, _, rfl, ⟨rfl, (RX2, TX2, 11), rfl, by decide, xtc2 4 rfl rfl⟩⟩
theorem lk_496 : xLq RX2 (3, 1, 1, 1, 182) := ⟨by decide, _, rfl, ⟨rfl, (RX1, TX1, 10), rfl, by decide, xtc1 76 rfl rfl⟩⟩
theorem lk_497 : xLq RX2 (3, 1, 2, 7, 50) := ⟨by decide, _, rfl, ⟨rfl, (RX2, TX2, 11), rfl, by decide, xtc2 7 rfl rfl⟩⟩
theorem lk_498 : xLq RX2 (3, 1, 2, 8, 54) := ⟨by decide, _, rfl, ⟨rfl, (RX2, TX2, 11), rfl, by decide, xtc2 8 rfl rfl⟩⟩
theorem lk_499 : xLq RX2 (3, 13, 243, 8, 172) := ⟨by decide, _, rfl, ⟨rfl, mX1_rowsOf, rfl, xtc3 189 rfl rfl, xtc3 190 rfl rfl, xtc3 191 rfl rfl, (RX1, TX1, 10), rfl, rfl⟩⟩
theorem lk_500 : xLq RX2 (3, 13, 289, 40, 176) := ⟨by decide, _, rfl, ⟨rfl, mX5_isFull, rfl, xtc3 193 rfl rfl, xtc3 194 rfl rfl, xtc3 195 rfl rfl, (RX5, TX5, 4), rfl, rfl⟩⟩
theorem lk_501 : xLq RX2 (3, 13, 248, 16, 179) := ⟨by decide, _, rfl, ⟨rfl, mX2_isLifeTold, rfl, xtc3 197 rfl rfl, xtc3 199 rfl rfl, xtb 6 (by decide +kernel) rfl, (RX2, TX2, 11), rfl, rfl⟩⟩
theorem lk_502 : xLq RX2 (3, 13, 240, 8, 47) := ⟨by decide, _, rfl, ⟨rfl, mX1_clear, rfl, xtc3 69 rfl rfl, xtc3 70 rfl rfl, xtc3 71 rfl rfl, (RX1, TX1, 10), rfl, rfl⟩⟩
theorem lk_503 : xLq RX2 (3, 59, 2, 7, 50) := ⟨by decide, _, rfl, ⟨rfl, (RX2, TX2, 11), .boolean, rfl, by decide, xtc2 7 rfl rfl, rfl, (fun h => by cases h), by decide +kernel, rfl⟩⟩
theorem lk_504 : xLq RX2 (3, 59, 2, 8, 54) := ⟨by decide, _, rfl, ⟨rfl, (RX2, TX2, 11), .boolean, rfl, by decide, xtc2 8 rfl rfl, rfl, (fun h => by cases h), by decide +kernel, rfl⟩⟩
theorem lk_505 : xLq RX2 (3, 1, 2, 1, 43) := ⟨by decide, _, rfl, ⟨rfl, (RX2, TX2, 11), rfl, by decide, xtc2 1 rfl rfl⟩⟩
theorem lk_506 : xLq RX2 (3, 1, 2, 0, 28) := ⟨by decide, _, rfl, ⟨rfl, (RX2, TX2, 11), rfl, by decide, xtc2 0 rfl rfl⟩⟩
theorem lk_507 : xLq RX2 (3, 1, 9, 1, 61) := ⟨by decide, _, rfl, ⟨rfl, (RX9, TX9, 14), rfl, by decide, xtc1 136 rfl rfl⟩⟩
theorem lk_508 : xLq RX2 (3, 13, 319, 64, 64) := ⟨by decide, _, rfl, ⟨rfl, mX8_start, rfl, xtc3 77 rfl rfl, xtc3 78 rfl rfl, xtc3 79 rfl rfl, (RX8, TX8, 6), rfl, rfl⟩⟩
theorem lk_509 : xLq RX2 (3, 1, 1, 9, 68) := ⟨by decide, _, rfl, ⟨rfl, (RX1, TX1, 10), rfl, by decide, xtc1 104 rfl rfl⟩⟩
theorem lk_510 : xLq RX2 (3, 1, 8, 2, 71) := ⟨by decide, _, rfl, ⟨rfl, (RX8, TX8, 6), rfl, by decide, xtc1 218 rfl rfl⟩⟩
theorem lk_511 : xLq RX2 (3, 13, 252, 16, 74) := ⟨by decide, _, rfl, ⟨rfl, mX2_readLine, rfl, xtc3 101 rfl rfl, xtc3 103 rfl rfl, xtb 1 (by decide +kernel) rfl, (RX2, TX2, 11), rfl, rfl⟩⟩
theorem lk_512 : xLq RX2 (3, 1, 8, 3, 78) := ⟨by decide, _, rfl, ⟨rfl, (RX8, TX8, 6), rfl, by decide, xtc1 221 rfl rfl⟩⟩
theorem lk_513 : xLq RX2 (3, 13, 326, 72, 81) := ⟨by decide, _, rfl, ⟨rfl, mX9_take, rfl, xtc3 229 rfl rfl, xtc3 230 rfl rfl, xtc3 231 rfl rfl, (RX9, TX9, 14), rfl, rfl⟩⟩
theorem lk_514 : xLq RX2 (3, 14, 1, 9, 68) := ⟨by decide, _, rfl, ⟨rfl, (RX1, TX1, 10), .int, rfl, by decide, xtc1 104 rfl rfl, rfl, (fun h => by cases h), by decide +kernel, rfl⟩⟩
theorem lk_515 : xLq RX2 (3, 13, 245, 16, 85) := ⟨by decide, _, rfl, ⟨rfl, mX2_findFlawBeside, rfl, xtc3 233 rfl rfl, xtc3 235 rfl rfl, xtb 8 (by decide +kernel) rfl, (RX2, TX2, 11), rfl, rfl⟩⟩
theorem lk_516 : xLq RX2 (3, 1, 2, 10, 88) := ⟨by decide, _, rfl, ⟨rfl, (RX2, TX2, 11), rfl, by decide, xtc2 10 rfl rfl⟩⟩
theorem lk_517 : xLq RX2 (3, 1, 9, 4, 91) := ⟨by decide, _, rfl, ⟨rfl, (RX9, TX9, 14), rfl, by decide, xtc1 143 rfl rfl⟩⟩
theorem lk_518 : xLq RX2 (3, 13, 241, 8, 94) := ⟨by decide, _, rfl, ⟨rfl, mX1_copy, rfl, xtc3 237 rfl rfl, xtc3 238 rfl rfl, xtc3 239 rfl rfl, (RX1, TX1, 10), rfl, rfl⟩⟩
theorem lk_519 : xLq RX2 (3, 1, 9, 5, 98) := ⟨by decide, _, rfl, ⟨rfl, (RX9, TX9, 14), rfl, by decide, xtc1 147 rfl rfl⟩⟩
theorem lk_520 : xLq RX2 (3, 13, 283, 40, 102) := ⟨by decide, _, rfl, ⟨rfl, mX5_clear, rfl, xtc4 8 rfl rfl, xtc3 74 rfl rfl, xtc3 75 rfl rfl, (RX5, TX5, 4), rfl, rfl⟩⟩
theorem lk_521 : xLq RX2 (3, 1, 9, 8, 105) := ⟨by decide, _, rfl, ⟨rfl, (RX9, TX9, 14), rfl, by decide, xtc1 155 rfl rfl⟩⟩
theorem lk_522 : xLq RX2 (2, 72, 0, 0, 151) := ⟨by decide, _, rfl, ⟨rfl, "slide", rfl, List.mem_of_getElem? (i := 780) (by decide +kernel)⟩⟩
theorem lk_523 : xLq RX2 (3, 13, 318, 64, 135) := ⟨by decide, _, rfl, ⟨rfl, mX8_isWord, rfl, xtc3 110 rfl rfl, xtc3 111 rfl rfl, xtc3 112 rfl rfl, (RX8, TX8, 6), rfl, rfl⟩⟩
theorem lk_524 : xLq RX2 (3, 59, 2, 6, 153) := ⟨by decide, _, rfl, ⟨rfl, (RX2, TX2, 11), .boolean, rfl, by decide, xtc2 6 rfl rfl, rfl, (fun h => by cases h), by decide +kernel, rfl⟩⟩
theorem lk_525 : xLq RX2 (3, 1, 2, 6, 153) := ⟨by decide, _, rfl, ⟨rfl, (RX2, TX2, 11), rfl, by decide, xtc2 6 rfl rfl⟩⟩
theorem lk_526 : xLq RX2 (2, 72, 1, 0, 156) := ⟨by decide, _, rfl, ⟨rfl, "hold", rfl, List.mem_of_getElem? (i := 781) (by decide +kernel)⟩⟩
theorem lk_527 : xLq RX2 (3, 13, 312, 64, 112) := ⟨by decide, _, rfl, ⟨rfl, mX8_advance, rfl, xtc3 168 rfl rfl, xtc3 85 rfl rfl, xtc3 86 rfl rfl, (RX8, TX8, 6), rfl, rfl⟩⟩
theorem lk_528 : xLq RX2 (3, 13, 253, 16, 108) := ⟨by decide, _, rfl, ⟨rfl, mX2_sortOfWord, rfl, xtc3 105 rfl rfl, xtc3 107 rfl rfl, xtb 2 (by decide +kernel) rfl, (RX2, TX2, 11), rfl, rfl⟩⟩
theorem lk_529 : xLq RX2 (3, 1, 8, 5, 118) := ⟨by decide, _, rfl, ⟨rfl, (RX8, TX8, 6), rfl, by decide, xtc1 224 rfl rfl⟩⟩
theorem lk_530 : xLq RX2 (3, 13, 251, 16, 121) := ⟨by decide, _, rfl, ⟨rfl, mX2_readGlue, rfl, xtc3 171 rfl rfl, xtc3 173 rfl rfl, xtb 3 (by decide +kernel) rfl, (RX2, TX2, 11), rfl, rfl⟩⟩
theorem lk_531 : xLq RX2 (3, 13, 316, 64, 124) := ⟨by decide, _, rfl, ⟨rfl, mX8_isSign, rfl, xtc3 177 rfl rfl, xtc3 178 rfl rfl, xtc3 179 rfl rfl, (RX8, TX8, 6), rfl, rfl⟩⟩
theorem lk_532 : xLq RX2 (3, 13, 247, 16, 128) := ⟨by decide, _, rfl, ⟨rfl, mX2_isFine, rfl, xtc3 181 rfl rfl, xtc3 183 rfl rfl, xtb 4 (by decide +kernel) rfl, (RX2, TX2, 11), rfl, rfl⟩⟩
theorem lk_533 : xLq RX2 (3, 13, 254, 16, 132) := ⟨by decide, _, rfl, ⟨rfl, mX2_take, rfl, xtc3 212 rfl rfl, xtc3 214 rfl rfl, xtb 7 (by decide +kernel) rfl, (RX2, TX2, 11), rfl, rfl⟩⟩
theorem lk_534 : xLq RX2 (2, 72, 2, 0, 133) := ⟨by decide, _, rfl, ⟨rfl, "layer", rfl, List.mem_of_getElem? (i := 714) (by decide +kernel)⟩⟩
theorem lk_535 : xLq RX2 (2, 72, 3, 0, 139) := ⟨by decide, _, rfl, ⟨rfl, "life", rfl, List.mem_of_getElem? (i := 767) (by decide +kernel)⟩⟩
theorem lk_536 : xLq RX2 (2, 72, 4, 0, 141) := ⟨by decide, _, rfl, ⟨rfl, "folds", rfl, List.mem_of_getElem? (i := 768) (by decide +kernel)⟩⟩
theorem lk_537 : xLq RX2 (2, 72, 5, 0, 143) := ⟨by decide, _, rfl, ⟨rfl, "panel", rfl, List.mem_of_getElem? (i := 769) (by decide +kernel)⟩⟩
theorem lk_538 : xLq RX2 (2, 72, 6, 0, 145) := ⟨by decide, _, rfl, ⟨rfl, "flaw", rfl, List.mem_of_getElem? (i := 770) (by decide +kernel)⟩⟩
theorem lk_539 : xLq RX2 (2, 72, 7, 0, 147) := ⟨by decide, _, rfl, ⟨rfl, "sheet", rfl, List.mem_of_getElem? (i := 771) (by decide +kernel)⟩⟩
theorem lk_540 : xLq RX2 (2, 72, 8, 0, 149) := ⟨by decide, _, rfl, ⟨rfl, "net", rfl, List.mem_of_getElem? (i := 772) (by decide +kernel)⟩⟩
theorem lk_541 : xLq RX2 (3, 14, 1, 5, 192) := ⟨by decide, _, rfl, ⟨rfl, (RX1, TX1, 10), .int, rfl, by decide, xtc1 88 rfl rfl, rfl, (fun h => by cases h), by decide +kernel, rfl⟩⟩
theorem lk_542 : xLq RX2 (3, 14, 1, 6, 195) := ⟨by decide, _, rfl, ⟨rfl, (RX1, TX1, 10), .int, rfl, by decide, xtc1 92 rfl rfl, rfl, (fun h => by cases h), by decide +kernel, rfl⟩⟩
theorem lk_543 : xLq RX2 (3, 14, 1, 7, 198) := ⟨by decide, _, rfl, ⟨rfl, (RX1, TX1, 10), .int, rfl, by decide, xtc1 97 rfl rfl, rfl, (fun h => by cases h), by decide +kernel, rfl⟩⟩
theorem lk_544 : xLq RX2 (3, 14, 1, 8, 201) := ⟨by decide, _, rfl, ⟨rfl, (RX1, TX1, 10), .int, rfl, by decide, xtc1 102 rfl rfl, rfl, (fun h => by cases h), by decide +kernel, rfl⟩⟩
theorem lk_545 : xLq RX2 (3, 13, 286, 40, 204) := ⟨by decide, _, rfl, ⟨rfl, mX5_grow, rfl, xtc3 216 rfl rfl, xtc3 217 rfl rfl, xtc3 218 rfl rfl, (RX5, TX5, 4), rfl, rfl⟩⟩
theorem lk_546 : xLq RX2 (3, 13, 290, 40, 207) := ⟨by decide, _, rfl, ⟨rfl, mX5_put, rfl, xtc3 221 rfl rfl, xtc3 222 rfl rfl, xtc3 223 rfl rfl, (RX5, TX5, 4), rfl, rfl⟩⟩
theorem lk_547 : xLq RX3 (3, 1, 3, 0, 21) := ⟨by decide, _, rfl, ⟨rfl, (RX3, TX3, 6), rfl, by decide, xtc2 163 rfl rfl⟩⟩
theorem lk_548 : xLq RX3 (3, 1, 9, 8, 38) := ⟨by decide, _, rfl, ⟨rfl, (RX9, TX9, 14), rfl, by decide, xtc1 156 rfl rfl⟩⟩
theorem lk_549 : xLq RX3 (3, 13, 285, 40, 54) := ⟨by decide, _, rfl, ⟨rfl, mX5_get, rfl, xtc5 76 rfl rfl, xtc3 202 rfl rfl, xtc3 203 rfl rfl, (RX5, TX5, 4), rfl, rfl⟩⟩
theorem lk_550 : xLq RX3 (3, 63, 0, 0, 58) := ⟨by decide, _, rfl, ⟨rfl, xtc5 77 rfl rfl⟩⟩
theorem lk_551 : xLq RX3 (3, 62, 0, 0, 63) := ⟨by decide, _, rfl, ⟨rfl, xtc5 78 rfl rfl⟩⟩
theorem lk_552 : xLq RX3 (3, 1, 3, 1, 9) := ⟨by decide, _, rfl, ⟨rfl, (RX3, TX3, 6), rfl, by decide, xtc2 164 rfl rfl⟩⟩
theorem lk_553 : xLq RX3 (3, 1, 9, 4, 66) := ⟨by decide, _, rfl, ⟨rfl, (RX9, TX9, 14), rfl, by decide, xtc1 145 rfl rfl⟩⟩
theorem lk_554 : xLq RX3 (3, 1, 1, 8, 73) := ⟨by decide, _, rfl, ⟨rfl, (RX1, TX1, 10), rfl, by decide, xtc1 101 rfl rfl⟩⟩
theorem lk_555 : xLq RX3 (3, 1, 1, 7, 70) := ⟨by decide, _, rfl, ⟨rfl, (RX1, TX1, 10), rfl, by decide, xtc1 96 rfl rfl⟩⟩
theorem lk_556 : xLq RX3 (3, 13, 258, 24, 87) := ⟨by decide, _, rfl, ⟨rfl, mX3_dampAt, rfl, xtc5 110 rfl rfl, xtc5 112 rfl rfl, xtb 30 (by decide +kernel) rfl, (RX3, TX3, 6), rfl, rfl⟩⟩
theorem lk_557 : xLq RX3 (3, 1, 3, 3, 18) := ⟨by decide, _, rfl, ⟨rfl, (RX3, TX3, 6), rfl, by decide, xtc2 167 rfl rfl⟩⟩
theorem lk_558 : xLq RX3 (3, 1, 3, 2, 15) := ⟨by decide, _, rfl, ⟨rfl, (RX3, TX3, 6), rfl, by decide, xtc2 165 rfl rfl⟩⟩
theorem lk_559 : xLq RX3 (3, 58, 0, 0, 90) := ⟨by decide, _, rfl, ⟨rfl, xtc5 114 rfl rfl⟩⟩
theorem lk_560 : xLq RX3 (3, 59, 3, 4, 25) := ⟨by decide, _, rfl, ⟨rfl, (RX3, TX3, 6), .boolean, rfl, by decide, xtc2 168 rfl rfl, rfl, (fun h => by cases h), by decide +kernel, rfl⟩⟩
theorem lk_561 : xLq RX3 (3, 59, 3, 5, 29) := ⟨by decide, _, rfl, ⟨rfl, (RX3, TX3, 6), .boolean, rfl, by decide, xtc2 169 rfl rfl, rfl, (fun h => by cases h), by decide +kernel, rfl⟩⟩
theorem lk_562 : xLq RX3 (3, 25, 0, 0, 1) := ⟨by decide, _, rfl, ⟨rfl, xtc2 162 rfl rfl⟩⟩
theorem lk_563 : xLq RX3 (3, 61, 3, 1, 9) := ⟨by decide, _, rfl, ⟨rfl, (RX3, TX3, 6), .array .int, rfl, by decide, xtc2 164 rfl rfl, rfl, (fun _ => rfl), by decide +kernel, Or.inr ⟨_, rfl⟩⟩⟩
theorem lk_564 : xLq RX3 (3, 61, 3, 2, 15) := ⟨by decide, _, rfl, ⟨rfl, (RX3, TX3, 6), .array .int, rfl, by decide, xtc2 165 rfl rfl, rfl, (fun _ => rfl), by decide +kernel, Or.inr ⟨_, rfl⟩⟩⟩
theorem lk_565 : xLq RX3 (3, 61, 3, 3, 18) := ⟨by decide, _, rfl, ⟨rfl, (RX3, TX3, 6), .array .int, rfl, by decide, xtc2 167 rfl rfl, rfl, (fun _ => rfl), by decide +kernel, Or.inr ⟨_, rfl⟩⟩⟩
theorem lk_566 : xLq RX3 (3, 61, 3, 0, 21) := ⟨by decide, _, rfl, ⟨rfl, (RX3, TX3, 6), .object "BentScreens$Told", rfl, by decide, xtc2 163 rfl rfl, rfl, (fun _ => rfl), by decide +kernel, Or.inl ⟨_, rfl⟩⟩⟩
theorem lk_567 : xLq RX3 (3, 13, 263, 24, 76) := ⟨by decide, _, rfl, ⟨rfl, mX3_leftOf, rfl, xtc5 93 rfl rfl, xtc5 82 rfl rfl, xtc5 83 rfl rfl, (RX3, TX3, 6), rfl, rfl⟩⟩
theorem lk_568 : xLq RX3 (3, 1, 3, 4, 25) := ⟨by decide, _, rfl, ⟨rfl, (RX3, TX3, 6), rfl, by decide, xtc2 168 rfl rfl⟩⟩
theorem lk_569 : xLq RX3 (3, 13, 1, 2, 32) := ⟨by decide, _, rfl, ⟨rfl, mJ7_fill_53178, rfl, xtc5 71 rfl rfl, xtc4 235 rfl rfl⟩⟩
theorem lk_570 : xLq RX3 (3, 1, 5, 3, 44) := ⟨by decide, _, rfl, ⟨rfl, (RX5, TX5, 4), rfl, by decide, xtc1 57 rfl rfl⟩⟩
theorem lk_571 : xLq RX3 (3, 13, 255, 24, 50) := ⟨by decide, _, rfl, ⟨rfl, mX3_addPicture, rfl, xtc5 72 rfl rfl, xtc5 74 rfl rfl, xtb 28 (by decide +kernel) rfl, (RX3, TX3, 6), rfl, rfl⟩⟩
theorem lk_572 : xLq RX3 (3, 1, 3, 5, 29) := ⟨by decide, _, rfl, ⟨rfl, (RX3, TX3, 6), rfl, by decide, xtc2 169 rfl rfl⟩⟩
theorem lk_573 : xLq RX3 (3, 1, 9, 9, 80) := ⟨by decide, _, rfl, ⟨rfl, (RX9, TX9, 14), rfl, by decide, xtc1 159 rfl rfl⟩⟩
theorem lk_574 : xLq RX3 (3, 13, 257, 24, 83) := ⟨by decide, _, rfl, ⟨rfl, mX3_creepOn, rfl, xtc5 106 rfl rfl, xtc5 108 rfl rfl, xtb 29 (by decide +kernel) rfl, (RX3, TX3, 6), rfl, rfl⟩⟩
theorem lk_575 : xLq RX3 (3, 13, 256, 24, 100) := ⟨by decide, _, rfl, ⟨rfl, mX3_agingIn, rfl, xtc5 151 rfl rfl, xtc5 153 rfl rfl, xtb 35 (by decide +kernel) rfl, (RX3, TX3, 6), rfl, rfl⟩⟩
theorem lk_576 : xLq RX3 (3, 13, 267, 24, 96) := ⟨by decide, _, rfl, ⟨rfl, mX3_roundsOfLamp, rfl, xtc5 147 rfl rfl, xtc5 149 rfl rfl, xtb 34 (by decide +kernel) rfl, (RX3, TX3, 6), rfl, rfl⟩⟩
theorem lk_577 : xLq RX4 (3, 1, 4, 1, 11) := ⟨by decide, _, rfl, ⟨rfl, (RX4, TX4, 12), rfl, by decide, xtc2 215 rfl rfl⟩⟩
theorem lk_578 : xLq RX4 (3, 1, 4, 2, 15) := ⟨by decide, _, rfl, ⟨rfl, (RX4, TX4, 12), rfl, by decide, xtc2 216 rfl rfl⟩⟩
theorem lk_579 : xLq RX4 (3, 13, 1, 2, 94) := ⟨by decide, _, rfl, ⟨rfl, mJ7_fill_53178, rfl, xtc6 96 rfl rfl, xtc4 235 rfl rfl⟩⟩
theorem lk_580 : xLq RX4 (3, 1, 4, 3, 18) := ⟨by decide, _, rfl, ⟨rfl, (RX4, TX4, 12), rfl, by decide, xtc2 217 rfl rfl⟩⟩
theorem lk_581 : xLq RX4 (3, 13, 282, 34, 54) := ⟨by decide, _, rfl, ⟨rfl, mX4_unitAt, rfl, xtc6 38 rfl rfl, xtc6 39 rfl rfl⟩⟩
theorem lk_582 : xLq RX4 (3, 59, 4, 9, 25) := ⟨by decide, _, rfl, ⟨rfl, (RX4, TX4, 12), .boolean, rfl, by decide, xtc2 227 rfl rfl, rfl, (fun h => by cases h), by decide +kernel, rfl⟩⟩
theorem lk_583 : xLq RX4 (3, 59, 4, 10, 29) := ⟨by decide, _, rfl, ⟨rfl, (RX4, TX4, 12), .boolean, rfl, by decide, xtc2 228 rfl rfl, rfl, (fun h => by cases h), by decide +kernel, rfl⟩⟩
theorem lk_584 : xLq RX4 (3, 59, 4, 11, 32) := ⟨by decide, _, rfl, ⟨rfl, (RX4, TX4, 12), .boolean, rfl, by decide, xtc2 229 rfl rfl, rfl, (fun h => by cases h), by decide +kernel, rfl⟩⟩
theorem lk_585 : xLq RX4 (3, 25, 0, 0, 3) := ⟨by decide, _, rfl, ⟨rfl, xtc2 213 rfl rfl⟩⟩
theorem lk_586 : xLq RX4 (3, 61, 4, 1, 11) := ⟨by decide, _, rfl, ⟨rfl, (RX4, TX4, 12), .array .int, rfl, by decide, xtc2 215 rfl rfl, rfl, (fun _ => rfl), by decide +kernel, Or.inr ⟨_, rfl⟩⟩⟩
theorem lk_587 : xLq RX4 (3, 61, 4, 2, 15) := ⟨by decide, _, rfl, ⟨rfl, (RX4, TX4, 12), .array .int, rfl, by decide, xtc2 216 rfl rfl, rfl, (fun _ => rfl), by decide +kernel, Or.inr ⟨_, rfl⟩⟩⟩
theorem lk_588 : xLq RX4 (3, 61, 4, 3, 18) := ⟨by decide, _, rfl, ⟨rfl, (RX4, TX4, 12), .array .int, rfl, by decide, xtc2 217 rfl rfl, rfl, (fun _ => rfl), by decide +kernel, Or.inr ⟨_, rfl⟩⟩⟩
theorem lk_589 : xLq RX4 (3, 61, 4, 0, 21) := ⟨by decide, _, rfl, ⟨rfl, (RX4, TX4, 12), .object "BentScreens$Rows", rfl, by decide, xtc2 214 rfl rfl, rfl, (fun _ => rfl), by decide +kernel, Or.inl ⟨_, rfl⟩⟩⟩
theorem lk_590 : xLq RX4 (3, 1, 4, 0, 21) := ⟨by decide, _, rfl, ⟨rfl, (RX4, TX4, 12), rfl, by decide, xtc2 214 rfl rfl⟩⟩
theorem lk_591 : xLq RX4 (3, 1, 5, 3, 43) := ⟨by decide, _, rfl, ⟨rfl, (RX5, TX5, 4), rfl, by decide, xtc1 55 rfl rfl⟩⟩
theorem lk_592 : xLq RX4 (3, 1, 4, 5, 71) := ⟨by decide, _, rfl, ⟨rfl, (RX4, TX4, 12), rfl, by decide, xtc2 220 rfl rfl⟩⟩
theorem lk_593 : xLq RX4 (3, 13, 270, 34, 57) := ⟨by decide, _, rfl, ⟨rfl, mX4_bitOf, rfl, xtc6 41 rfl rfl, xtc6 42 rfl rfl⟩⟩
theorem lk_594 : xLq RX4 (3, 1, 4, 9, 25) := ⟨by decide, _, rfl, ⟨rfl, (RX4, TX4, 12), rfl, by decide, xtc2 227 rfl rfl⟩⟩
theorem lk_595 : xLq RX4 (3, 14, 4, 4, 35) := ⟨by decide, _, rfl, ⟨rfl, (RX4, TX4, 12), .int, rfl, by decide, xtc2 218 rfl rfl, rfl, (fun h => by cases h), by decide +kernel, rfl⟩⟩
theorem lk_596 : xLq RX4 (3, 13, 281, 32, 39) := ⟨by decide, _, rfl, ⟨rfl, mX4_testsAgainst, rfl, xtc6 33 rfl rfl, xtc6 35 rfl rfl, xtb 44 (by decide +kernel) rfl, (RX4, TX4, 12), rfl, rfl⟩⟩
theorem lk_597 : xLq RX4 (3, 1, 4, 4, 35) := ⟨by decide, _, rfl, ⟨rfl, (RX4, TX4, 12), rfl, by decide, xtc2 218 rfl rfl⟩⟩
theorem lk_598 : xLq RX4 (3, 1, 4, 11, 32) := ⟨by decide, _, rfl, ⟨rfl, (RX4, TX4, 12), rfl, by decide, xtc2 229 rfl rfl⟩⟩
theorem lk_599 : xLq RX4 (3, 14, 4, 8, 81) := ⟨by decide, _, rfl, ⟨rfl, (RX4, TX4, 12), .int, rfl, by decide, xtc2 225 rfl rfl, rfl, (fun h => by cases h), by decide +kernel, rfl⟩⟩
theorem lk_600 : xLq RX4 (3, 13, 271, 32, 84) := ⟨by decide, _, rfl, ⟨rfl, mX4_countTries, rfl, xtc6 92 rfl rfl, xtc6 94 rfl rfl, xtb 46 (by decide +kernel) rfl, (RX4, TX4, 12), rfl, rfl⟩⟩
theorem lk_601 : xLq RX4 (3, 62, 0, 0, 68) := ⟨by decide, _, rfl, ⟨rfl, xtc6 60 rfl rfl⟩⟩
theorem lk_602 : xLq RX4 (3, 1, 4, 8, 81) := ⟨by decide, _, rfl, ⟨rfl, (RX4, TX4, 12), rfl, by decide, xtc2 225 rfl rfl⟩⟩
theorem lk_603 : xLq RX4 (3, 14, 4, 6, 88) := ⟨by decide, _, rfl, ⟨rfl, (RX4, TX4, 12), .int, rfl, by decide, xtc2 221 rfl rfl, rfl, (fun h => by cases h), by decide +kernel, rfl⟩⟩
theorem lk_604 : xLq RX4 (3, 14, 4, 7, 91) := ⟨by decide, _, rfl, ⟨rfl, (RX4, TX4, 12), .int, rfl, by decide, xtc2 223 rfl rfl, rfl, (fun h => by cases h), by decide +kernel, rfl⟩⟩
theorem lk_605 : xLq RX4 (3, 1, 4, 10, 29) := ⟨by decide, _, rfl, ⟨rfl, (RX4, TX4, 12), rfl, by decide, xtc2 228 rfl rfl⟩⟩
theorem lk_606 : xLq RX4 (3, 14, 4, 5, 71) := ⟨by decide, _, rfl, ⟨rfl, (RX4, TX4, 12), .int, rfl, by decide, xtc2 220 rfl rfl, rfl, (fun h => by cases h), by decide +kernel, rfl⟩⟩
theorem lk_607 : xLq RX4 (3, 13, 0, 2, 74) := ⟨by decide, _, rfl, ⟨rfl, mJ6_bitCount_0f7a4, rfl, xtc6 75 rfl rfl, xtc5 54 rfl rfl⟩⟩
theorem lk_608 : xLq RX4 (3, 13, 269, 32, 77) := ⟨by decide, _, rfl, ⟨rfl, mX4_barsAll, rfl, xtc6 76 rfl rfl, xtc6 78 rfl rfl, xtb 45 (by decide +kernel) rfl, (RX4, TX4, 12), rfl, rfl⟩⟩
theorem lk_609 : xLq RX4 (2, 35, 2147483647, 0, 62) := ⟨by decide, _, rfl, ⟨rfl, by decide, xtc6 65 rfl rfl⟩⟩
theorem lk_610 : xLq RX4 (3, 63, 0, 0, 63) := ⟨by decide, _, rfl, ⟨rfl, xtc6 66 rfl rfl⟩⟩
theorem lk_611 : xLq RX4 (3, 13, 285, 40, 50) := ⟨by decide, _, rfl, ⟨rfl, mX5_get, rfl, xtc6 37 rfl rfl, xtc3 202 rfl rfl, xtc3 203 rfl rfl, (RX5, TX5, 4), rfl, rfl⟩⟩
theorem lk_612 : xLq RX5 (3, 14, 5, 3, 22) := ⟨by decide, _, rfl, ⟨rfl, (RX5, TX5, 4), .int, rfl, by decide, xtc1 51 rfl rfl, rfl, (fun h => by cases h), by decide +kernel, rfl⟩⟩
theorem lk_613 : xLq RX5 (3, 1, 5, 0, 9) := ⟨by decide, _, rfl, ⟨rfl, (RX5, TX5, 4), rfl, by decide, xtc1 48 rfl rfl⟩⟩
theorem lk_614 : xLq RX5 (3, 1, 5, 1, 15) := ⟨by decide, _, rfl, ⟨rfl, (RX5, TX5, 4), rfl, by decide, xtc1 49 rfl rfl⟩⟩
theorem lk_615 : xLq RX5 (3, 1, 5, 3, 22) := ⟨by decide, _, rfl, ⟨rfl, (RX5, TX5, 4), rfl, by decide, xtc1 51 rfl rfl⟩⟩
theorem lk_616 : xLq RX5 (3, 1, 5, 2, 18) := ⟨by decide, _, rfl, ⟨rfl, (RX5, TX5, 4), rfl, by decide, xtc1 50 rfl rfl⟩⟩
theorem lk_617 : xLq RX5 (3, 58, 0, 0, 33) := ⟨by decide, _, rfl, ⟨rfl, xtc4 5 rfl rfl⟩⟩
theorem lk_618 : xLq RX5 (3, 13, 289, 40, 29) := ⟨by decide, _, rfl, ⟨rfl, mX5_isFull, rfl, xtc3 220 rfl rfl, xtc3 194 rfl rfl, xtc3 195 rfl rfl, (RX5, TX5, 4), rfl, rfl⟩⟩
theorem lk_619 : xLq RX5 (3, 25, 0, 0, 3) := ⟨by decide, _, rfl, ⟨rfl, xtc1 47 rfl rfl⟩⟩
theorem lk_620 : xLq RX5 (3, 22, 5, 0, 9) := ⟨by decide, _, rfl, ⟨rfl, (RX5, TX5, 4), .int, rfl, by decide, xtc1 48 rfl rfl, rfl, (fun _ => rfl), by decide +kernel, rfl⟩⟩
theorem lk_621 : xLq RX5 (3, 22, 5, 1, 15) := ⟨by decide, _, rfl, ⟨rfl, (RX5, TX5, 4), .int, rfl, by decide, xtc1 49 rfl rfl, rfl, (fun _ => rfl), by decide +kernel, rfl⟩⟩
theorem lk_622 : xLq RX5 (3, 61, 5, 2, 18) := ⟨by decide, _, rfl, ⟨rfl, (RX5, TX5, 4), .array .int, rfl, by decide, xtc1 50 rfl rfl, rfl, (fun _ => rfl), by decide +kernel, Or.inr ⟨_, rfl⟩⟩⟩
theorem lk_623 : xLq RX5 (3, 13, 287, 40, 25) := ⟨by decide, _, rfl, ⟨rfl, mX5_has, rfl, xtc3 225 rfl rfl, xtc3 226 rfl rfl, xtc3 227 rfl rfl, (RX5, TX5, 4), rfl, rfl⟩⟩
theorem lk_624 : xLq RX6 (3, 25, 0, 0, 3) := ⟨by decide, _, rfl, ⟨rfl, xtc2 39 rfl rfl⟩⟩
theorem lk_625 : xLq RX6 (3, 24, 5, 0, 9) := ⟨by decide, _, rfl, ⟨rfl, (RX5, TX5, 4), rfl, xtc2 40 rfl rfl, xtc1 43 rfl rfl, xtc1 4 rfl rfl⟩⟩
theorem lk_626 : xLq RX6 (3, 13, 288, 44, 13) := ⟨by decide, _, rfl, ⟨rfl, mX5_init, rfl, xtc2 41 rfl rfl, rfl, rfl, rfl, xtc1 45 rfl rfl⟩⟩
theorem lk_627 : xLq RX6 (3, 61, 6, 2, 16) := ⟨by decide, _, rfl, ⟨rfl, (RX6, TX6, 6), .object "BentScreens$Rows", rfl, by decide, xtc2 46 rfl rfl, rfl, (fun _ => rfl), by decide +kernel, Or.inl ⟨_, rfl⟩⟩⟩
theorem lk_628 : xLq RX6 (3, 61, 6, 3, 20) := ⟨by decide, _, rfl, ⟨rfl, (RX6, TX6, 6), .object "BentScreens$Rows", rfl, by decide, xtc2 47 rfl rfl, rfl, (fun _ => rfl), by decide +kernel, Or.inl ⟨_, rfl⟩⟩⟩
theorem lk_629 : xLq RX6 (3, 61, 6, 0, 23) := ⟨by decide, _, rfl, ⟨rfl, (RX6, TX6, 6), .object "BentScreens$Told", rfl, by decide, xtc2 44 rfl rfl, rfl, (fun _ => rfl), by decide +kernel, Or.inl ⟨_, rfl⟩⟩⟩
theorem lk_630 : xLq RX6 (3, 24, 8, 0, 27) := ⟨by decide, _, rfl, ⟨rfl, (RX8, TX8, 6), rfl, xtc2 42 rfl rfl, xtc1 210 rfl rfl, xtc1 6 rfl rfl⟩⟩
theorem lk_631 : xLq RX6 (3, 1, 9, 0, 29) := ⟨by decide, _, rfl, ⟨rfl, (RX9, TX9, 14), rfl, by decide, xtc1 131 rfl rfl⟩⟩
theorem lk_632 : xLq RX6 (3, 13, 313, 68, 35) := ⟨by decide, _, rfl, ⟨rfl, mX8_init, rfl, xtc2 43 rfl rfl, rfl, rfl, rfl, xtc1 212 rfl rfl⟩⟩
theorem lk_633 : xLq RX6 (3, 61, 6, 1, 38) := ⟨by decide, _, rfl, ⟨rfl, (RX6, TX6, 6), .object "BentScreens$Tokens", rfl, by decide, xtc2 45 rfl rfl, rfl, (fun _ => rfl), by decide +kernel, Or.inl ⟨_, rfl⟩⟩⟩
theorem lk_634 : xLq RX6 (3, 1, 6, 1, 38) := ⟨by decide, _, rfl, ⟨rfl, (RX6, TX6, 6), rfl, by decide, xtc2 45 rfl rfl⟩⟩
theorem lk_635 : xLq RX6 (2, 72, 9, 0, 138) := ⟨by decide, _, rfl, ⟨rfl, "slides", rfl, List.mem_of_getElem? (i := 1458) (by decide +kernel)⟩⟩
theorem lk_636 : xLq RX6 (3, 13, 318, 64, 97) := ⟨by decide, _, rfl, ⟨rfl, mX8_isWord, rfl, xtc6 118 rfl rfl, xtc3 111 rfl rfl, xtc3 112 rfl rfl, (RX8, TX8, 6), rfl, rfl⟩⟩
theorem lk_637 : xLq RX6 (2, 72, 10, 0, 140) := ⟨by decide, _, rfl, ⟨rfl, "whole", rfl, List.mem_of_getElem? (i := 1459) (by decide +kernel)⟩⟩
theorem lk_638 : xLq RX6 (2, 72, 11, 0, 142) := ⟨by decide, _, rfl, ⟨rfl, "layers", rfl, List.mem_of_getElem? (i := 1460) (by decide +kernel)⟩⟩
theorem lk_639 : xLq RX6 (2, 72, 12, 0, 144) := ⟨by decide, _, rfl, ⟨rfl, "least", rfl, List.mem_of_getElem? (i := 1461) (by decide +kernel)⟩⟩
theorem lk_640 : xLq RX6 (2, 72, 13, 0, 146) := ⟨by decide, _, rfl, ⟨rfl, "rows", rfl, List.mem_of_getElem? (i := 1462) (by decide +kernel)⟩⟩
theorem lk_641 : xLq RX6 (2, 72, 14, 0, 148) := ⟨by decide, _, rfl, ⟨rfl, "fed", rfl, List.mem_of_getElem? (i := 1463) (by decide +kernel)⟩⟩
theorem lk_642 : xLq RX6 (2, 72, 15, 0, 150) := ⟨by decide, _, rfl, ⟨rfl, "darks", rfl, List.mem_of_getElem? (i := 1464) (by decide +kernel)⟩⟩
theorem lk_643 : xLq RX6 (2, 72, 16, 0, 152) := ⟨by decide, _, rfl, ⟨rfl, "worth", rfl, List.mem_of_getElem? (i := 1465) (by decide +kernel)⟩⟩
theorem lk_644 : xLq RX6 (2, 72, 17, 0, 154) := ⟨by decide, _, rfl, ⟨rfl, "cracks", rfl, List.mem_of_getElem? (i := 1466) (by decide +kernel)⟩⟩
theorem lk_645 : xLq RX6 (2, 72, 18, 0, 156) := ⟨by decide, _, rfl, ⟨rfl, "kept", rfl, List.mem_of_getElem? (i := 1467) (by decide +kernel)⟩⟩
theorem lk_646 : xLq RX6 (2, 72, 19, 0, 158) := ⟨by decide, _, rfl, ⟨rfl, "day", rfl, List.mem_of_getElem? (i := 1468) (by decide +kernel)⟩⟩
theorem lk_647 : xLq RX6 (3, 1, 6, 4, 45) := ⟨by decide, _, rfl, ⟨rfl, (RX6, TX6, 6), rfl, by decide, xtc2 48 rfl rfl⟩⟩
theorem lk_648 : xLq RX6 (3, 14, 6, 4, 45) := ⟨by decide, _, rfl, ⟨rfl, (RX6, TX6, 6), .int, rfl, by decide, xtc2 48 rfl rfl, rfl, (fun h => by cases h), by decide +kernel, rfl⟩⟩
theorem lk_649 : xLq RX6 (3, 1, 8, 3, 63) := ⟨by decide, _, rfl, ⟨rfl, (RX8, TX8, 6), rfl, by decide, xtc1 220 rfl rfl⟩⟩
theorem lk_650 : xLq RX6 (3, 14, 6, 5, 69) := ⟨by decide, _, rfl, ⟨rfl, (RX6, TX6, 6), .int, rfl, by decide, xtc2 49 rfl rfl, rfl, (fun h => by cases h), by decide +kernel, rfl⟩⟩
theorem lk_651 : xLq RX6 (3, 1, 6, 2, 16) := ⟨by decide, _, rfl, ⟨rfl, (RX6, TX6, 6), rfl, by decide, xtc2 46 rfl rfl⟩⟩
theorem lk_652 : xLq RX6 (3, 13, 289, 40, 85) := ⟨by decide, _, rfl, ⟨rfl, mX5_isFull, rfl, xtc6 111 rfl rfl, xtc3 194 rfl rfl, xtc3 195 rfl rfl, (RX5, TX5, 4), rfl, rfl⟩⟩
theorem lk_653 : xLq RX6 (3, 13, 293, 48, 88) := ⟨by decide, _, rfl, ⟨rfl, mX6_noteTooMany, rfl, xtc6 112 rfl rfl, xtc6 114 rfl rfl, xtb 48 (by decide +kernel) rfl, (RX6, TX6, 6), rfl, rfl⟩⟩
theorem lk_654 : xLq RX6 (3, 13, 286, 40, 91) := ⟨by decide, _, rfl, ⟨rfl, mX5_grow, rfl, xtc6 116 rfl rfl, xtc3 217 rfl rfl, xtc3 218 rfl rfl, (RX5, TX5, 4), rfl, rfl⟩⟩
theorem lk_655 : xLq RX6 (2, 72, 20, 0, 95) := ⟨by decide, _, rfl, ⟨rfl, "if", rfl, List.mem_of_getElem? (i := 1442) (by decide +kernel)⟩⟩
theorem lk_656 : xLq RX6 (3, 13, 297, 48, 101) := ⟨by decide, _, rfl, ⟨rfl, mX6_readTests, rfl, xtc6 119 rfl rfl, xtc6 121 rfl rfl, xtb 49 (by decide +kernel) rfl, (RX6, TX6, 6), rfl, rfl⟩⟩
theorem lk_657 : xLq RX6 (3, 13, 298, 48, 105) := ⟨by decide, _, rfl, ⟨rfl, mX6_verbOfWord, rfl, xtc6 147 rfl rfl, xtc6 149 rfl rfl, xtb 52 (by decide +kernel) rfl, (RX6, TX6, 6), rfl, rfl⟩⟩
theorem lk_658 : xLq RX6 (3, 13, 312, 64, 108) := ⟨by decide, _, rfl, ⟨rfl, mX8_advance, rfl, xtc6 123 rfl rfl, xtc3 85 rfl rfl, xtc3 86 rfl rfl, (RX8, TX8, 6), rfl, rfl⟩⟩
theorem lk_659 : xLq RX6 (3, 1, 8, 2, 56) := ⟨by decide, _, rfl, ⟨rfl, (RX8, TX8, 6), rfl, by decide, xtc1 217 rfl rfl⟩⟩
theorem lk_660 : xLq RX6 (3, 1, 8, 5, 111) := ⟨by decide, _, rfl, ⟨rfl, (RX8, TX8, 6), rfl, by decide, xtc1 225 rfl rfl⟩⟩
theorem lk_661 : xLq RX6 (3, 13, 316, 64, 114) := ⟨by decide, _, rfl, ⟨rfl, mX8_isSign, rfl, xtc6 144 rfl rfl, xtc3 178 rfl rfl, xtc3 179 rfl rfl, (RX8, TX8, 6), rfl, rfl⟩⟩
theorem lk_662 : xLq RX6 (3, 13, 290, 40, 118) := ⟨by decide, _, rfl, ⟨rfl, mX5_put, rfl, xtc6 145 rfl rfl, xtc3 222 rfl rfl, xtc3 223 rfl rfl, (RX5, TX5, 4), rfl, rfl⟩⟩
theorem lk_663 : xLq RX6 (3, 13, 283, 40, 42) := ⟨by decide, _, rfl, ⟨rfl, mX5_clear, rfl, xtc6 105 rfl rfl, xtc3 74 rfl rfl, xtc3 75 rfl rfl, (RX5, TX5, 4), rfl, rfl⟩⟩
theorem lk_664 : xLq RX6 (3, 1, 6, 3, 20) := ⟨by decide, _, rfl, ⟨rfl, (RX6, TX6, 6), rfl, by decide, xtc2 47 rfl rfl⟩⟩
theorem lk_665 : xLq RX6 (3, 1, 6, 0, 23) := ⟨by decide, _, rfl, ⟨rfl, (RX6, TX6, 6), rfl, by decide, xtc2 44 rfl rfl⟩⟩
theorem lk_666 : xLq RX6 (3, 1, 9, 1, 49) := ⟨by decide, _, rfl, ⟨rfl, (RX9, TX9, 14), rfl, by decide, xtc1 135 rfl rfl⟩⟩
theorem lk_667 : xLq RX6 (3, 13, 319, 64, 52) := ⟨by decide, _, rfl, ⟨rfl, mX8_start, rfl, xtc6 106 rfl rfl, xtc3 78 rfl rfl, xtc3 79 rfl rfl, (RX8, TX8, 6), rfl, rfl⟩⟩
theorem lk_668 : xLq RX6 (3, 13, 294, 48, 59) := ⟨by decide, _, rfl, ⟨rfl, mX6_readLine, rfl, xtc6 107 rfl rfl, xtc6 109 rfl rfl, xtb 47 (by decide +kernel) rfl, (RX6, TX6, 6), rfl, rfl⟩⟩
theorem lk_669 : xLq RX6 (3, 13, 326, 72, 66) := ⟨by decide, _, rfl, ⟨rfl, mX9_take, rfl, xtc6 154 rfl rfl, xtc3 230 rfl rfl, xtc3 231 rfl rfl, (RX9, TX9, 14), rfl, rfl⟩⟩
theorem lk_670 : xLq RX6 (3, 1, 6, 5, 69) := ⟨by decide, _, rfl, ⟨rfl, (RX6, TX6, 6), rfl, by decide, xtc2 49 rfl rfl⟩⟩
theorem lk_671 : xLq RX6 (3, 1, 9, 12, 72) := ⟨by decide, _, rfl, ⟨rfl, (RX9, TX9, 14), rfl, by decide, xtc1 166 rfl rfl⟩⟩
theorem lk_672 : xLq RX6 (3, 13, 284, 40, 75) := ⟨by decide, _, rfl, ⟨rfl, mX5_copy, rfl, xtc6 155 rfl rfl, xtc4 2 rfl rfl, xtc4 3 rfl rfl, (RX5, TX5, 4), rfl, rfl⟩⟩
theorem lk_673 : xLq RX6 (3, 1, 9, 13, 79) := ⟨by decide, _, rfl, ⟨rfl, (RX9, TX9, 14), rfl, by decide, xtc1 169 rfl rfl⟩⟩
theorem lk_674 : xLq RX6 (3, 1, 5, 3, 82) := ⟨by decide, _, rfl, ⟨rfl, (RX5, TX5, 4), rfl, by decide, xtc1 52 rfl rfl⟩⟩
theorem lk_675 : xLq RX6 (2, 72, 21, 0, 133) := ⟨by decide, _, rfl, ⟨rfl, "not", rfl, List.mem_of_getElem? (i := 1453) (by decide +kernel)⟩⟩
theorem lk_676 : xLq RX6 (3, 13, 292, 48, 135) := ⟨by decide, _, rfl, ⟨rfl, mX6_measureOfWord, rfl, xtc6 129 rfl rfl, xtc6 131 rfl rfl, xtb 51 (by decide +kernel) rfl, (RX6, TX6, 6), rfl, rfl⟩⟩
theorem lk_677 : xLq RX6 (3, 13, 296, 48, 128) := ⟨by decide, _, rfl, ⟨rfl, mX6_readTest, rfl, xtc6 124 rfl rfl, xtc6 126 rfl rfl, xtb 50 (by decide +kernel) rfl, (RX6, TX6, 6), rfl, rfl⟩⟩
theorem lk_678 : xLq RX6 (2, 72, 22, 0, 131) := ⟨by decide, _, rfl, ⟨rfl, "and", rfl, List.mem_of_getElem? (i := 1471) (by decide +kernel)⟩⟩
theorem lk_679 : xLq RX6 (2, 72, 23, 0, 122) := ⟨by decide, _, rfl, ⟨rfl, "bar", rfl, List.mem_of_getElem? (i := 1476) (by decide +kernel)⟩⟩
theorem lk_680 : xLq RX6 (2, 72, 24, 0, 124) := ⟨by decide, _, rfl, ⟨rfl, "price", rfl, List.mem_of_getElem? (i := 1477) (by decide +kernel)⟩⟩
theorem lk_681 : xLq RX6 (2, 72, 25, 0, 126) := ⟨by decide, _, rfl, ⟨rfl, "less", rfl, List.mem_of_getElem? (i := 1478) (by decide +kernel)⟩⟩
theorem lk_682 : xLq RX7 (3, 1, 7, 0, 22) := ⟨by decide, _, rfl, ⟨rfl, (RX7, TX7, 5), rfl, by decide, xtc2 191 rfl rfl⟩⟩
theorem lk_683 : xLq RX7 (3, 1, 1, 5, 33) := ⟨by decide, _, rfl, ⟨rfl, (RX1, TX1, 10), rfl, by decide, xtc1 87 rfl rfl⟩⟩
theorem lk_684 : xLq RX7 (3, 1, 1, 6, 39) := ⟨by decide, _, rfl, ⟨rfl, (RX1, TX1, 10), rfl, by decide, xtc1 91 rfl rfl⟩⟩
theorem lk_685 : xLq RX7 (3, 13, 301, 56, 50) := ⟨by decide, _, rfl, ⟨rfl, mX7_hasFlaw, rfl, xtc5 181 rfl rfl, xtc5 183 rfl rfl, xtb 39 (by decide +kernel) rfl, (RX7, TX7, 5), rfl, rfl⟩⟩
theorem lk_686 : xLq RX7 (3, 1, 7, 1, 9) := ⟨by decide, _, rfl, ⟨rfl, (RX7, TX7, 5), rfl, by decide, xtc2 192 rfl rfl⟩⟩
theorem lk_687 : xLq RX7 (3, 13, 304, 58, 54) := ⟨by decide, _, rfl, ⟨rfl, mX7_pieceOf, rfl, xtc5 185 rfl rfl, xtc5 186 rfl rfl⟩⟩
theorem lk_688 : xLq RX7 (3, 13, 309, 56, 58) := ⟨by decide, _, rfl, ⟨rfl, mX7_worthCut, rfl, xtc5 190 rfl rfl, xtc5 192 rfl rfl, xtb 40 (by decide +kernel) rfl, (RX7, TX7, 5), rfl, rfl⟩⟩
theorem lk_689 : xLq RX7 (3, 62, 0, 0, 61) := ⟨by decide, _, rfl, ⟨rfl, xtc5 176 rfl rfl⟩⟩
theorem lk_690 : xLq RX7 (3, 59, 7, 3, 26) := ⟨by decide, _, rfl, ⟨rfl, (RX7, TX7, 5), .boolean, rfl, by decide, xtc2 195 rfl rfl, rfl, (fun h => by cases h), by decide +kernel, rfl⟩⟩
theorem lk_691 : xLq RX7 (3, 59, 7, 4, 30) := ⟨by decide, _, rfl, ⟨rfl, (RX7, TX7, 5), .boolean, rfl, by decide, xtc2 196 rfl rfl, rfl, (fun h => by cases h), by decide +kernel, rfl⟩⟩
theorem lk_692 : xLq RX7 (3, 1, 1, 4, 82) := ⟨by decide, _, rfl, ⟨rfl, (RX1, TX1, 10), rfl, by decide, xtc1 84 rfl rfl⟩⟩
theorem lk_693 : xLq RX7 (3, 1, 5, 3, 72) := ⟨by decide, _, rfl, ⟨rfl, (RX5, TX5, 4), rfl, by decide, xtc1 59 rfl rfl⟩⟩
theorem lk_694 : xLq RX7 (3, 13, 285, 40, 79) := ⟨by decide, _, rfl, ⟨rfl, mX5_get, rfl, xtc5 175 rfl rfl, xtc3 202 rfl rfl, xtc3 203 rfl rfl, (RX5, TX5, 4), rfl, rfl⟩⟩
theorem lk_695 : xLq RX7 (3, 25, 0, 0, 1) := ⟨by decide, _, rfl, ⟨rfl, xtc2 188 rfl rfl⟩⟩
theorem lk_696 : xLq RX7 (3, 61, 7, 1, 9) := ⟨by decide, _, rfl, ⟨rfl, (RX7, TX7, 5), .array .int, rfl, by decide, xtc2 192 rfl rfl, rfl, (fun _ => rfl), by decide +kernel, Or.inr ⟨_, rfl⟩⟩⟩
theorem lk_697 : xLq RX7 (3, 24, 5, 0, 13) := ⟨by decide, _, rfl, ⟨rfl, (RX5, TX5, 4), rfl, xtc2 189 rfl rfl, xtc1 43 rfl rfl, xtc1 4 rfl rfl⟩⟩
theorem lk_698 : xLq RX7 (3, 13, 288, 44, 15) := ⟨by decide, _, rfl, ⟨rfl, mX5_init, rfl, xtc2 190 rfl rfl, rfl, rfl, rfl, xtc1 45 rfl rfl⟩⟩
theorem lk_699 : xLq RX7 (3, 61, 7, 2, 18) := ⟨by decide, _, rfl, ⟨rfl, (RX7, TX7, 5), .object "BentScreens$Rows", rfl, by decide, xtc2 193 rfl rfl, rfl, (fun _ => rfl), by decide +kernel, Or.inl ⟨_, rfl⟩⟩⟩
theorem lk_700 : xLq RX7 (3, 61, 7, 0, 22) := ⟨by decide, _, rfl, ⟨rfl, (RX7, TX7, 5), .object "BentScreens$Film", rfl, by decide, xtc2 191 rfl rfl, rfl, (fun _ => rfl), by decide +kernel, Or.inl ⟨_, rfl⟩⟩⟩
theorem lk_701 : xLq RX7 (3, 1, 1, 3, 69) := ⟨by decide, _, rfl, ⟨rfl, (RX1, TX1, 10), rfl, by decide, xtc1 82 rfl rfl⟩⟩
theorem lk_702 : xLq RX7 (3, 37, 0, 0, 66) := ⟨by decide, _, rfl, ⟨rfl, _, rfl, xtc5 188 rfl rfl⟩⟩
theorem lk_703 : xLq RX7 (3, 13, 303, 56, 75) := ⟨by decide, _, rfl, ⟨rfl, mX7_isAsLarge, rfl, xtc5 171 rfl rfl, xtc5 173 rfl rfl, xtb 37 (by decide +kernel) rfl, (RX7, TX7, 5), rfl, rfl⟩⟩
theorem lk_704 : xLq RX7 (3, 1, 7, 2, 18) := ⟨by decide, _, rfl, ⟨rfl, (RX7, TX7, 5), rfl, by decide, xtc2 193 rfl rfl⟩⟩
theorem lk_705 : xLq RX7 (3, 13, 286, 40, 102) := ⟨by decide, _, rfl, ⟨rfl, mX5_grow, rfl, xtc5 216 rfl rfl, xtc3 217 rfl rfl, xtc3 218 rfl rfl, (RX5, TX5, 4), rfl, rfl⟩⟩
theorem lk_706 : xLq RX7 (3, 13, 290, 40, 106) := ⟨by decide, _, rfl, ⟨rfl, mX5_put, rfl, xtc5 217 rfl rfl, xtc3 222 rfl rfl, xtc3 223 rfl rfl, (RX5, TX5, 4), rfl, rfl⟩⟩
theorem lk_707 : xLq RX7 (3, 13, 310, 56, 95) := ⟨by decide, _, rfl, ⟨rfl, mX7_worthOf, rfl, xtc5 211 rfl rfl, xtc5 195 rfl rfl, xtc5 196 rfl rfl, (RX7, TX7, 5), rfl, rfl⟩⟩
theorem lk_708 : xLq RX7 (3, 13, 311, 56, 42) := ⟨by decide, _, rfl, ⟨rfl, mX7_worthOfSize, rfl, xtc5 167 rfl rfl, xtc5 169 rfl rfl, xtb 36 (by decide +kernel) rfl, (RX7, TX7, 5), rfl, rfl⟩⟩
theorem lk_709 : xLq RX7 (3, 13, 305, 56, 98) := ⟨by decide, _, rfl, ⟨rfl, mX7_planPanel, rfl, xtc5 212 rfl rfl, xtc5 214 rfl rfl, xtb 41 (by decide +kernel) rfl, (RX7, TX7, 5), rfl, rfl⟩⟩
theorem lk_710 : xLq RX7 (3, 13, 306, 58, 91) := ⟨by decide, _, rfl, ⟨rfl, mX7_planPiece, rfl, xtc5 208 rfl rfl, xtc5 209 rfl rfl⟩⟩
theorem lk_711 : xLq RX7 (3, 1, 7, 4, 30) := ⟨by decide, _, rfl, ⟨rfl, (RX7, TX7, 5), rfl, by decide, xtc2 196 rfl rfl⟩⟩
theorem lk_712 : xLq RX7 (3, 13, 308, 56, 85) := ⟨by decide, _, rfl, ⟨rfl, mX7_refreshWorth, rfl, xtc5 206 rfl rfl, xtc5 164 rfl rfl, xtc5 165 rfl rfl, (RX7, TX7, 5), rfl, rfl⟩⟩
theorem lk_713 : xLq RX7 (3, 13, 283, 40, 88) := ⟨by decide, _, rfl, ⟨rfl, mX5_clear, rfl, xtc5 207 rfl rfl, xtc3 74 rfl rfl, xtc3 75 rfl rfl, (RX5, TX5, 4), rfl, rfl⟩⟩
theorem lk_714 : xLq RX7 (3, 1, 7, 3, 26) := ⟨by decide, _, rfl, ⟨rfl, (RX7, TX7, 5), rfl, by decide, xtc2 195 rfl rfl⟩⟩
theorem lk_715 : xLq RX7 (3, 13, 299, 56, 46) := ⟨by decide, _, rfl, ⟨rfl, mX7_fillWorths, rfl, xtc5 177 rfl rfl, xtc5 179 rfl rfl, xtb 38 (by decide +kernel) rfl, (RX7, TX7, 5), rfl, rfl⟩⟩
theorem lk_716 : xLq RX8 (3, 1, 8, 4, 23) := ⟨by decide, _, rfl, ⟨rfl, (RX8, TX8, 6), rfl, by decide, xtc1 223 rfl rfl⟩⟩
theorem lk_717 : xLq RX8 (3, 1, 8, 1, 19) := ⟨by decide, _, rfl, ⟨rfl, (RX8, TX8, 6), rfl, by decide, xtc1 216 rfl rfl⟩⟩
theorem lk_718 : xLq RX8 (3, 1, 8, 0, 7) := ⟨by decide, _, rfl, ⟨rfl, (RX8, TX8, 6), rfl, by decide, xtc1 215 rfl rfl⟩⟩
theorem lk_719 : xLq RX8 (3, 14, 8, 4, 23) := ⟨by decide, _, rfl, ⟨rfl, (RX8, TX8, 6), .int, rfl, by decide, xtc1 223 rfl rfl, rfl, (fun h => by cases h), by decide +kernel, rfl⟩⟩
theorem lk_720 : xLq RX8 (3, 14, 8, 3, 29) := ⟨by decide, _, rfl, ⟨rfl, (RX8, TX8, 6), .int, rfl, by decide, xtc1 222 rfl rfl, rfl, (fun h => by cases h), by decide +kernel, rfl⟩⟩
theorem lk_721 : xLq RX8 (3, 14, 8, 2, 32) := ⟨by decide, _, rfl, ⟨rfl, (RX8, TX8, 6), .int, rfl, by decide, xtc1 219 rfl rfl, rfl, (fun h => by cases h), by decide +kernel, rfl⟩⟩
theorem lk_722 : xLq RX8 (3, 13, 315, 66, 35) := ⟨by decide, _, rfl, ⟨rfl, mX8_isLetter, rfl, xtc3 88 rfl rfl, xtc3 89 rfl rfl⟩⟩
theorem lk_723 : xLq RX8 (3, 13, 314, 66, 39) := ⟨by decide, _, rfl, ⟨rfl, mX8_isDigit, rfl, xtc3 91 rfl rfl, xtc3 92 rfl rfl⟩⟩
theorem lk_724 : xLq RX8 (3, 13, 320, 64, 42) := ⟨by decide, _, rfl, ⟨rfl, mX8_takeDigits, rfl, xtc3 94 rfl rfl, xtc3 96 rfl rfl, xtb 0 (by decide +kernel) rfl, (RX8, TX8, 6), rfl, rfl⟩⟩
theorem lk_725 : xLq RX8 (3, 13, 317, 66, 45) := ⟨by decide, _, rfl, ⟨rfl, mX8_isSignByte, rfl, xtc3 98 rfl rfl, xtc3 99 rfl rfl⟩⟩
theorem lk_726 : xLq RX8 (3, 25, 0, 0, 1) := ⟨by decide, _, rfl, ⟨rfl, xtc1 214 rfl rfl⟩⟩
theorem lk_727 : xLq RX8 (3, 61, 8, 0, 7) := ⟨by decide, _, rfl, ⟨rfl, (RX8, TX8, 6), .array .byte, rfl, by decide, xtc1 215 rfl rfl, rfl, (fun _ => rfl), by decide +kernel, Or.inr ⟨_, rfl⟩⟩⟩
theorem lk_728 : xLq RX8 (3, 1, 8, 2, 32) := ⟨by decide, _, rfl, ⟨rfl, (RX8, TX8, 6), rfl, by decide, xtc1 219 rfl rfl⟩⟩
theorem lk_729 : xLq RX8 (3, 1, 8, 3, 29) := ⟨by decide, _, rfl, ⟨rfl, (RX8, TX8, 6), rfl, by decide, xtc1 222 rfl rfl⟩⟩
theorem lk_730 : xLq RX8 (3, 73, 0, 0, 51) := ⟨by decide, _, rfl, ⟨rfl, xtc3 114 rfl rfl⟩⟩
theorem lk_731 : xLq RX8 (3, 74, 0, 0, 56) := ⟨by decide, _, rfl, ⟨rfl, xtc3 124 rfl rfl⟩⟩
theorem lk_732 : xLq RX8 (3, 63, 0, 0, 13) := ⟨by decide, _, rfl, ⟨rfl, xtc3 81 rfl rfl⟩⟩
theorem lk_733 : xLq RX8 (3, 14, 8, 1, 19) := ⟨by decide, _, rfl, ⟨rfl, (RX8, TX8, 6), .int, rfl, by decide, xtc1 216 rfl rfl, rfl, (fun h => by cases h), by decide +kernel, rfl⟩⟩
theorem lk_734 : xLq RX8 (3, 13, 312, 64, 26) := ⟨by decide, _, rfl, ⟨rfl, mX8_advance, rfl, xtc3 84 rfl rfl, xtc3 85 rfl rfl, xtc3 86 rfl rfl, (RX8, TX8, 6), rfl, rfl⟩⟩
theorem lk_735 : xLq RX8 (3, 14, 8, 5, 48) := ⟨by decide, _, rfl, ⟨rfl, (RX8, TX8, 6), .int, rfl, by decide, xtc1 226 rfl rfl, rfl, (fun h => by cases h), by decide +kernel, rfl⟩⟩
theorem lk_736 : xLq RX8 (3, 1, 8, 5, 48) := ⟨by decide, _, rfl, ⟨rfl, (RX8, TX8, 6), rfl, by decide, xtc1 226 rfl rfl⟩⟩
theorem lk_737 : xLq RX9 (3, 1, 9, 1, 57) := ⟨by decide, _, rfl, ⟨rfl, (RX9, TX9, 14), rfl, by decide, xtc1 134 rfl rfl⟩⟩
theorem lk_738 : xLq RX9 (3, 1, 9, 0, 11) := ⟨by decide, _, rfl, ⟨rfl, (RX9, TX9, 14), rfl, by decide, xtc1 130 rfl rfl⟩⟩
theorem lk_739 : xLq RX9 (3, 14, 9, 1, 57) := ⟨by decide, _, rfl, ⟨rfl, (RX9, TX9, 14), .int, rfl, by decide, xtc1 134 rfl rfl, rfl, (fun h => by cases h), by decide +kernel, rfl⟩⟩
theorem lk_740 : xLq RX9 (3, 58, 0, 0, 70) := ⟨by decide, _, rfl, ⟨rfl, xtc6 200 rfl rfl⟩⟩
theorem lk_741 : xLq RX9 (3, 1, 9, 2, 60) := ⟨by decide, _, rfl, ⟨rfl, (RX9, TX9, 14), rfl, by decide, xtc1 137 rfl rfl⟩⟩
theorem lk_742 : xLq RX9 (3, 14, 9, 2, 60) := ⟨by decide, _, rfl, ⟨rfl, (RX9, TX9, 14), .int, rfl, by decide, xtc1 137 rfl rfl, rfl, (fun h => by cases h), by decide +kernel, rfl⟩⟩
theorem lk_743 : xLq RX9 (3, 1, 9, 3, 15) := ⟨by decide, _, rfl, ⟨rfl, (RX9, TX9, 14), rfl, by decide, xtc1 139 rfl rfl⟩⟩
theorem lk_744 : xLq RX9 (3, 14, 9, 3, 15) := ⟨by decide, _, rfl, ⟨rfl, (RX9, TX9, 14), .int, rfl, by decide, xtc1 139 rfl rfl, rfl, (fun h => by cases h), by decide +kernel, rfl⟩⟩
theorem lk_745 : xLq RX9 (3, 1, 9, 4, 22) := ⟨by decide, _, rfl, ⟨rfl, (RX9, TX9, 14), rfl, by decide, xtc1 141 rfl rfl⟩⟩
theorem lk_746 : xLq RX9 (3, 13, 241, 8, 76) := ⟨by decide, _, rfl, ⟨rfl, mX1_copy, rfl, xtc6 201 rfl rfl, xtc3 238 rfl rfl, xtc3 239 rfl rfl, (RX1, TX1, 10), rfl, rfl⟩⟩
theorem lk_747 : xLq RX9 (3, 1, 9, 5, 31) := ⟨by decide, _, rfl, ⟨rfl, (RX9, TX9, 14), rfl, by decide, xtc1 146 rfl rfl⟩⟩
theorem lk_748 : xLq RX9 (3, 13, 284, 40, 80) := ⟨by decide, _, rfl, ⟨rfl, mX5_copy, rfl, xtc6 202 rfl rfl, xtc4 2 rfl rfl, xtc4 3 rfl rfl, (RX5, TX5, 4), rfl, rfl⟩⟩
theorem lk_749 : xLq RX9 (3, 1, 9, 6, 83) := ⟨by decide, _, rfl, ⟨rfl, (RX9, TX9, 14), rfl, by decide, xtc1 150 rfl rfl⟩⟩
theorem lk_750 : xLq RX9 (3, 14, 9, 6, 83) := ⟨by decide, _, rfl, ⟨rfl, (RX9, TX9, 14), .int, rfl, by decide, xtc1 150 rfl rfl, rfl, (fun h => by cases h), by decide +kernel, rfl⟩⟩
theorem lk_751 : xLq RX9 (3, 1, 9, 7, 35) := ⟨by decide, _, rfl, ⟨rfl, (RX9, TX9, 14), rfl, by decide, xtc1 152 rfl rfl⟩⟩
theorem lk_752 : xLq RX9 (3, 14, 9, 7, 35) := ⟨by decide, _, rfl, ⟨rfl, (RX9, TX9, 14), .int, rfl, by decide, xtc1 152 rfl rfl, rfl, (fun h => by cases h), by decide +kernel, rfl⟩⟩
theorem lk_753 : xLq RX9 (3, 1, 9, 8, 38) := ⟨by decide, _, rfl, ⟨rfl, (RX9, TX9, 14), rfl, by decide, xtc1 154 rfl rfl⟩⟩
theorem lk_754 : xLq RX9 (3, 1, 9, 9, 86) := ⟨by decide, _, rfl, ⟨rfl, (RX9, TX9, 14), rfl, by decide, xtc1 158 rfl rfl⟩⟩
theorem lk_755 : xLq RX9 (3, 14, 9, 9, 86) := ⟨by decide, _, rfl, ⟨rfl, (RX9, TX9, 14), .int, rfl, by decide, xtc1 158 rfl rfl, rfl, (fun h => by cases h), by decide +kernel, rfl⟩⟩
theorem lk_756 : xLq RX9 (3, 1, 9, 10, 41) := ⟨by decide, _, rfl, ⟨rfl, (RX9, TX9, 14), rfl, by decide, xtc1 161 rfl rfl⟩⟩
theorem lk_757 : xLq RX9 (3, 1, 9, 11, 46) := ⟨by decide, _, rfl, ⟨rfl, (RX9, TX9, 14), rfl, by decide, xtc1 163 rfl rfl⟩⟩
theorem lk_758 : xLq RX9 (3, 1, 9, 12, 51) := ⟨by decide, _, rfl, ⟨rfl, (RX9, TX9, 14), rfl, by decide, xtc1 165 rfl rfl⟩⟩
theorem lk_759 : xLq RX9 (3, 1, 9, 13, 54) := ⟨by decide, _, rfl, ⟨rfl, (RX9, TX9, 14), rfl, by decide, xtc1 168 rfl rfl⟩⟩
theorem lk_760 : xLq RX9 (3, 1, 5, 3, 63) := ⟨by decide, _, rfl, ⟨rfl, (RX5, TX5, 4), rfl, by decide, xtc1 56 rfl rfl⟩⟩
theorem lk_761 : xLq RX9 (3, 13, 285, 40, 66) := ⟨by decide, _, rfl, ⟨rfl, mX5_get, rfl, xtc4 204 rfl rfl, xtc3 202 rfl rfl, xtc3 203 rfl rfl, (RX5, TX5, 4), rfl, rfl⟩⟩
theorem lk_762 : xLq RX9 (3, 25, 0, 0, 3) := ⟨by decide, _, rfl, ⟨rfl, xtc1 35 rfl rfl⟩⟩
theorem lk_763 : xLq RX9 (3, 61, 9, 0, 11) := ⟨by decide, _, rfl, ⟨rfl, (RX9, TX9, 14), .array .byte, rfl, by decide, xtc1 130 rfl rfl, rfl, (fun _ => rfl), by decide +kernel, Or.inr ⟨_, rfl⟩⟩⟩
theorem lk_764 : xLq RX9 (3, 24, 1, 0, 19) := ⟨by decide, _, rfl, ⟨rfl, (RX1, TX1, 10), rfl, xtc1 36 rfl rfl, xtc1 37 rfl rfl, xtc1 3 rfl rfl⟩⟩
theorem lk_765 : xLq RX9 (3, 13, 242, 13, 21) := ⟨by decide, _, rfl, ⟨rfl, mX1_init, rfl, "BentScreens", List.mem_of_getElem? (i := 163) (by decide +kernel), rfl, rfl, rfl, xtc1 39 rfl rfl⟩⟩
theorem lk_766 : xLq RX9 (3, 61, 9, 4, 22) := ⟨by decide, _, rfl, ⟨rfl, (RX9, TX9, 14), .object "BentScreens$Film", rfl, by decide, xtc1 141 rfl rfl, rfl, (fun _ => rfl), by decide +kernel, Or.inl ⟨_, rfl⟩⟩⟩
theorem lk_767 : xLq RX9 (3, 24, 5, 0, 26) := ⟨by decide, _, rfl, ⟨rfl, (RX5, TX5, 4), rfl, xtc1 128 rfl rfl, xtc1 43 rfl rfl, xtc1 4 rfl rfl⟩⟩
theorem lk_768 : xLq RX9 (3, 13, 288, 44, 28) := ⟨by decide, _, rfl, ⟨rfl, mX5_init, rfl, xtc1 129 rfl rfl, rfl, rfl, rfl, xtc1 45 rfl rfl⟩⟩
theorem lk_769 : xLq RX9 (3, 61, 9, 5, 31) := ⟨by decide, _, rfl, ⟨rfl, (RX9, TX9, 14), .object "BentScreens$Rows", rfl, by decide, xtc1 146 rfl rfl, rfl, (fun _ => rfl), by decide +kernel, Or.inl ⟨_, rfl⟩⟩⟩
theorem lk_770 : xLq RX9 (3, 61, 9, 8, 38) := ⟨by decide, _, rfl, ⟨rfl, (RX9, TX9, 14), .object "BentScreens$Rows", rfl, by decide, xtc1 154 rfl rfl, rfl, (fun _ => rfl), by decide +kernel, Or.inl ⟨_, rfl⟩⟩⟩
theorem lk_771 : xLq RX9 (3, 61, 9, 10, 41) := ⟨by decide, _, rfl, ⟨rfl, (RX9, TX9, 14), .object "BentScreens$Rows", rfl, by decide, xtc1 161 rfl rfl, rfl, (fun _ => rfl), by decide +kernel, Or.inl ⟨_, rfl⟩⟩⟩
theorem lk_772 : xLq RX9 (3, 61, 9, 11, 46) := ⟨by decide, _, rfl, ⟨rfl, (RX9, TX9, 14), .object "BentScreens$Rows", rfl, by decide, xtc1 163 rfl rfl, rfl, (fun _ => rfl), by decide +kernel, Or.inl ⟨_, rfl⟩⟩⟩
theorem lk_773 : xLq RX9 (3, 61, 9, 12, 51) := ⟨by decide, _, rfl, ⟨rfl, (RX9, TX9, 14), .object "BentScreens$Rows", rfl, by decide, xtc1 165 rfl rfl, rfl, (fun _ => rfl), by decide +kernel, Or.inl ⟨_, rfl⟩⟩⟩
theorem lk_774 : xLq RX9 (3, 61, 9, 13, 54) := ⟨by decide, _, rfl, ⟨rfl, (RX9, TX9, 14), .object "BentScreens$Rows", rfl, by decide, xtc1 168 rfl rfl, rfl, (fun _ => rfl), by decide +kernel, Or.inl ⟨_, rfl⟩⟩⟩
end
