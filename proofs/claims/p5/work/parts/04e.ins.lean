/-! instructions and their links: what the tables are checked against -/
noncomputable def xob {α β : Type} (o : Option α) (f : α → Option β) : Option β := Option.rec none f o
theorem xob_some {α β : Type} {o : Option α} {f : α → Option β} {r : β} (h : xob o f = some r) : ∃ a, o = some a ∧ f a = some r := by
  cases o with
  | none => cases h
  | some a => exact ⟨a, rfl, h⟩
def xif {β : Type} (c : Bool) (a : Option β) : Option β := cond c a none
theorem xif_some {β : Type} {c : Bool} {a : Option β} {r : β} (h : xif c a = some r) : c = true ∧ a = some r := by
  cases c with
  | false => cases h
  | true => exact ⟨rfl, h⟩
theorem xbeq {a b : Nat} (h : Nat.beq a b = true) : a = b := Nat.eq_of_beq_eq_true h
theorem xble {a b : Nat} (h : Nat.ble a b = true) : a ≤ b := Nat.le_of_ble_eq_true h
theorem xblt {a b : Nat} (h : Nat.blt a b = true) : a < b := Nat.le_of_ble_eq_true h
theorem xnble {a b : Nat} (h : Nat.ble a b = false) : b < a := by
  rcases Nat.lt_or_ge b a with q | q
  · exact q
  · rw [Nat.ble_eq_true_of_le q] at h; cases h
theorem xnblt {a b : Nat} (h : Nat.blt a b = false) : b ≤ a := by
  have := xnble (a := a + 1) (b := b) h
  omega
theorem xnbeq {a b : Nat} (h : Nat.beq a b = false) : a ≠ b := fun e => by rw [e, Nat.beq_refl] at h; cases h
/-- the words that every method may be told -/
def lw_gt : List Cond := lw_tbl.filter goodWord
/-- the static rows -/
def xst : List (String × String × List Nat) := [("BentScreens$Sheet", "SHORTER", [0, 0, 10, 19, 27, 34, 40, 45, 49, 52, 54]), ("BentScreens$FilmText", "NUMBERS", [3, 2, 2, 3, 2, 2, 2]), ("BentScreens$FilmText", "LEAST", [1, 1, 1, 0, 1, 0, 1, 1, 0, 1, 1, 1, 0, 0, 0, 1, 1, 0, 1, 1, 0]), ("BentScreens$FilmText", "GREATEST", [99, 99, 99, 99, 999, 0, 9999, 9999, 0, 10, 10, 999, 9, 9, 0, 10, 10, 0, 6, 6, 0])]
/-- a signed number of its pattern -/
def xsg (u : Nat) : Int := cond (Nat.blt u 2147483648) (u : Int) ((u : Int) - 4294967296)
def xf4 (n : Nat) : Fin 4 := ⟨n % 4, Nat.mod_lt _ (by decide)⟩
abbrev xTi := (xI → Instr) × (String → xI → Prop)
/-! what each instruction is, and what its links must say -/
def xcnd (y : Nat) : ClassFile.Cond := match y with
  | 0 => .eq
  | 1 => .ne
  | 2 => .lt
  | 3 => .ge
  | 4 => .gt
  | _ => .le
def xoff (e : xI) : Int := (e.2.2.2.1 : Int) - (e.1 : Int)
def xatp (y : Nat) : ClassFile.ArrayType := match y with
  | 0 => .int
  | 1 => .byte
  | 2 => .boolean
  | _ => .long
def xretI (y : Nat) : Instr := match y with
  | 0 => .return_
  | 1 => .ireturn
  | 2 => .lreturn
  | _ => .areturn
def xcalI (e : xI) : Instr := cond (Nat.ble (e.2.2.2.2.1 % 8) 1) (.invokevirtual e.2.2.2.2.2) (cond (Nat.ble (e.2.2.2.2.1 % 8) 3) (.invokestatic e.2.2.2.2.2) (.invokespecial e.2.2.2.2.2))
def xP0 (_ : String) (_ : xI) : Prop := True
def xPl (_ : String) (e : xI) : Prop := (e.2.1 = 1 ∧ e.2.2.2.1 < 4) ∨ e.2.1 = 2
def xPn (n : Nat) (_ : String) (e : xI) : Prop := e.2.1 = n
def xPc (n : Nat) (_ : String) (e : xI) : Prop := e.2.1 = n ∧ e.2.2.2.1 < 4294967296
def xPf (own : String) (e : xI) : Prop := e.2.1 = 3 ∧ ∃ q, vwCl[e.2.2.2.1]? = some q ∧ e.2.2.2.2.1 < q.2.2 ∧ Cond.fieldLink own e.2.2.2.2.2 (q.2.1 e.2.2.2.2.1).1 (q.2.1 e.2.2.2.2.1).2.1 (q.2.1 e.2.2.2.2.1).2.2.1 ∈ lw_gt
def xPp (fin : Bool) (k : FieldType → Prop) (own : String) (e : xI) : Prop := e.2.1 = 3 ∧ ∃ q ty, vwCl[e.2.2.2.1]? = some q ∧ e.2.2.2.2.1 < q.2.2 ∧ Cond.fieldLink own e.2.2.2.2.2 (q.2.1 e.2.2.2.2.1).1 (q.2.1 e.2.2.2.2.1).2.1 (q.2.1 e.2.2.2.2.1).2.2.1 ∈ lw_gt ∧ (q.2.1 e.2.2.2.2.1).2.2.2 = fin ∧ (fin = true → (q.2.1 e.2.2.2.2.1).1 = own) ∧ parseFieldDescriptor (q.2.1 e.2.2.2.2.1).2.2.1 = some ty ∧ k ty
def xtyI (ty : FieldType) : Prop := ty = .int
def xtyZ (ty : FieldType) : Prop := ty = .boolean
def xtyJ (ty : FieldType) : Prop := ty = .long
def xtyR (ty : FieldType) : Prop := (∃ n, ty = .object n) ∨ ∃ t, ty = .array t
def xPg (own : String) (e : xI) : Prop := e.2.1 = 3 ∧ ∃ q, xget xst e.2.2.2.1 = some q ∧ Cond.fieldLink own e.2.2.2.2.2 q.1 q.2.1 "[I" ∈ lw_gt
def xPnew (own : String) (e : xI) : Prop := e.2.1 = 3 ∧ ∃ q, vwCl[e.2.2.2.1]? = some q ∧ Cond.classLink own e.2.2.2.2.2 q.1 ∈ lw_gt ∧ Cond.instantiable q.1 q.2.2 ∈ lw_gt ∧ Cond.initialized q.1 ∈ lw_gt
def xPan (own : String) (e : xI) : Prop := e.2.1 = 3 ∧ Cond.classLink own e.2.2.2.2.2 "BentScreens$Told" ∈ lw_gt
def xPld (n : Nat) (own : String) (e : xI) : Prop := e.2.1 = n ∧ e.2.2.2.1 < 4294967296 ∧ Cond.constant own e.2.2.2.2.2 (nI e.2.2.2.1) ∈ lw_gt
def xPl2 (own : String) (e : xI) : Prop := e.2.1 = 3 ∧ Cond.constantLong own e.2.2.2.2.2 (lN e.2.2.2.1) ∈ lw_gt
def xPob (own : String) (e : xI) : Prop := e.2.1 = 3 ∧ Cond.methodLink own e.2.2.2.2.2 Lib.objectInit ∈ lw_gt
def xPcp (own : String) (e : xI) : Prop := e.2.1 = 3 ∧ Cond.methodLink own e.2.2.2.2.2 arraycopyName ∈ lw_gt
def xPst (own : String) (e : xI) : Prop := e.2.1 = 2 ∧ ∃ tx, xget xstrs e.2.2.2.1 = some tx ∧ Cond.stringRef own e.2.2.2.2.2 tx ∈ lw_tbl
def xPmm (y : MethodName) (own : String) (e : xI) : Prop := e.2.1 = 3 ∧ Cond.methodLink own e.2.2.2.2.2 y ∈ lw_gt
def xPca (own : String) (e : xI) : Prop := e.2.1 = 3 ∧ ∃ M' : xM, mget e.2.2.2.1 = some M' ∧ match e.2.2.2.2.1 % 8 with
  | 0 => Cond.methodLink own e.2.2.2.2.2 M'.1 ∈ lw_gt ∧ Cond.instanceMethod M'.1 ∈ lw_gt ∧ Cond.selects M'.1.cls M'.1 M'.1 ∈ lw_gt ∧ ∃ q, vwCl[e.2.2.2.2.1 / 8]? = some q ∧ q.1 = M'.1.cls
  | 1 => False
  | 2 => Cond.methodLink own e.2.2.2.2.2 M'.1 ∈ lw_gt ∧ Cond.static M'.1 ∈ lw_gt
  | 3 => ∃ host, Cond.methodLinkNest own e.2.2.2.2.2 M'.1 host ∈ lw_tbl ∧ Cond.static M'.1 ∈ lw_gt
  | 4 => Cond.methodLink own e.2.2.2.2.2 M'.1 ∈ lw_gt ∧ M'.1.name = "<init>" ∧ M'.2.2.2.1 = none ∧ M'.2.2.2.2.2.1 = 0 ∧ Cond.instanceMethod M'.1 ∈ lw_gt
  | 5 => ∃ host, Cond.methodLinkNest own e.2.2.2.2.2 M'.1 host ∈ lw_tbl ∧ M'.1.name = "<init>" ∧ M'.2.2.2.1 = none ∧ M'.2.2.2.2.2.1 = 0 ∧ Cond.instanceMethod M'.1 ∈ lw_gt
  | _ => False
/-- a switch: the instruction, and the numbers of xsws beside it -/
def xPts (_ : String) (e : xI) : Prop := ∃ (dflt lo hi : Int) (offs : Array Int) (ks : List (Nat × Nat)), xswi[e.2.2.2.2.2]? = some (.tableswitch dflt lo hi offs) ∧ xget xsws e.2.2.2.2.2 = some ks ∧ (e.1 : Int) + dflt = (e.2.2.2.1 : Int) ∧ 0 ≤ lo ∧ hi < 2147483648 ∧ hi = lo + (ks.length : Int) - 1 ∧ offs.size = ks.length ∧ ∀ j, j < ks.length → (((ks.getD j (0, 0)).1 : Int) = lo + (j : Int) ∧ (e.1 : Int) + offs.getD j 0 = ((ks.getD j (0, 0)).2 : Int))
def xPls (_ : String) (e : xI) : Prop := ∃ (dflt : Int) (ps : Array (Int × Int)) (ks : List (Nat × Nat)), xswi[e.2.2.2.2.2]? = some (.lookupswitch dflt ps) ∧ xget xsws e.2.2.2.2.2 = some ks ∧ (ps.toList.zip (ps.toList.drop 1)).all (fun (a, next) => a.1 < next.1) = true ∧ (e.1 : Int) + dflt = (e.2.2.2.1 : Int) ∧ ps.toList = ks.map (fun q => (xsg q.1, (q.2 : Int) - (e.1 : Int))) ∧ (∀ q ∈ ks, q.1 < 4294967296) ∧ (ks.map (fun q => xsg q.1)).Nodup
def xopi : List xTi := [
  (fun e => cond (Nat.beq e.2.1 1) (.aload_n (xf4 e.2.2.2.1)) (.aload e.2.2.2.1), xPl),
  (fun e => .getfield e.2.2.2.2.2, xPf),
  (fun e => cond (Nat.beq e.2.1 1) (.iload_n (xf4 e.2.2.2.1)) (.iload e.2.2.2.1), xPl),
  (fun e => .iconst (xsg e.2.2.2.1), xPc 1),
  (fun e => .bipush (xsg e.2.2.2.1), fun o e => xPc 2 o e ∧ (e.2.2.2.1 < 128 ∨ 4294967168 ≤ e.2.2.2.1)),
  (fun e => .sipush (xsg e.2.2.2.1), fun o e => xPc 3 o e ∧ (e.2.2.2.1 < 32768 ∨ 4294934528 ≤ e.2.2.2.1)),
  (fun e => .if_icmp (xcnd e.2.2.2.2.1) (xoff e), fun o e => xPn 3 o e ∧ e.2.2.2.2.1 < 6),
  (fun e => .ifCond (xcnd e.2.2.2.2.1) (xoff e), fun o e => xPn 3 o e ∧ e.2.2.2.2.1 < 6),
  (fun e => .goto (xoff e), xPn 3),
  (fun e => .iinc e.2.2.2.1 (xsg e.2.2.2.2.1), fun o e => xPn 3 o e ∧ e.2.2.2.2.1 < 4294967296),
  (fun _ => .iaload, xPn 1),
  (fun _ => .iadd, xPn 1),
  (fun e => xretI e.2.2.2.2.1, fun o e => xPn 1 o e ∧ e.2.2.2.2.1 < 4),
  (fun e => xcalI e, xPca),
  (fun e => .putfield e.2.2.2.2.2, xPp false xtyI),
  (fun e => cond (Nat.beq e.2.1 1) (.istore_n (xf4 e.2.2.2.1)) (.istore e.2.2.2.1), xPl),
  (fun _ => .imul, xPn 1),
  (fun _ => .iastore, xPn 1),
  (fun _ => .isub, xPn 1),
  (fun _ => .dup, xPn 1),
  (fun _ => .idiv, xPn 1),
  (fun _ => .irem, xPn 1),
  (fun e => .putfield e.2.2.2.2.2, xPp true xtyI),
  (fun e => .newarray (xatp e.2.2.2.2.1), xPn 2),
  (fun e => .new e.2.2.2.2.2, xPnew),
  (fun e => .invokespecial e.2.2.2.2.2, xPob),
  (fun _ => .ishl, xPn 1),
  (fun e => cond (Nat.beq e.2.1 1) (.astore_n (xf4 e.2.2.2.1)) (.astore e.2.2.2.1), xPl),
  (fun _ => .bastore, xPn 1),
  (fun _ => .ishr, xPn 1),
  (fun _ => .iand, xPn 1),
  (fun _ => .arraylength, xPn 1),
  (fun _ => .baload, xPn 1),
  (fun e => (xswi[e.2.2.2.2.2]?).getD .nop, xPts),
  (fun e => (xswi[e.2.2.2.2.2]?).getD .nop, xPls),
  (fun e => .ldc e.2.2.2.2.2, xPld 2),
  (fun e => .ldc_w e.2.2.2.2.2, xPld 3),
  (fun e => .getstatic e.2.2.2.2.2, xPg),
  (fun _ => .ior, xPn 1),
  (fun _ => .dup2, xPn 1),
  (fun _ => .pop, xPn 1),
  (fun _ => .i2b, xPn 1),
  (fun _ => .iushr, xPn 1),
  (fun e => .ifnull (xoff e), xPn 3),
  (fun e => .ifnonnull (xoff e), xPn 3),
  (fun _ => .aconst_null, xPn 1),
  (fun e => .anewarray e.2.2.2.2.2, xPan),
  (fun _ => .aaload, xPn 1),
  (fun _ => .aastore, xPn 1),
  (fun _ => .i2l, xPn 1),
  (fun _ => .l2i, xPn 1),
  (fun e => .lconst (⟨e.2.2.2.1 % 2, Nat.mod_lt _ (by decide)⟩ : Fin 2), fun o e => xPn 1 o e ∧ e.2.2.2.1 < 2),
  (fun e => .ldc2_w e.2.2.2.2.2, xPl2),
  (fun e => cond (Nat.beq e.2.1 1) (.lload_n (xf4 e.2.2.2.1)) (.lload e.2.2.2.1), xPl),
  (fun e => cond (Nat.beq e.2.1 1) (.lstore_n (xf4 e.2.2.2.1)) (.lstore e.2.2.2.1), xPl),
  (fun _ => .lmul, xPn 1),
  (fun _ => .ladd, xPn 1),
  (fun _ => .lcmp, xPn 1),
  (fun e => .invokestatic e.2.2.2.2.2, xPcp),
  (fun e => .putfield e.2.2.2.2.2, xPp false xtyZ),
  (fun e => .putfield e.2.2.2.2.2, xPp false xtyR),
  (fun e => .putfield e.2.2.2.2.2, xPp true xtyR),
  (fun e => .invokestatic e.2.2.2.2.2, xPmm Lib.Math.max.name),
  (fun e => .invokestatic e.2.2.2.2.2, xPmm Lib.Math.min.name),
  (fun _ => .laload, xPn 1),
  (fun _ => .lastore, xPn 1),
  (fun _ => .lsub, xPn 1),
  (fun _ => .ldiv, xPn 1),
  (fun _ => .lneg, xPn 1),
  (fun _ => .ineg, xPn 1),
  (fun _ => .ixor, xPn 1),
  (fun e => .putfield e.2.2.2.2.2, xPp false xtyJ),
  (fun e => .ldc e.2.2.2.2.2, xPst),
  (fun e => .invokevirtual e.2.2.2.2.2, xPmm ⟨"java/lang/String", "length", "()I"⟩),
  (fun e => .invokevirtual e.2.2.2.2.2, xPmm ⟨"java/lang/String", "charAt", "(I)C"⟩),
  (fun e => .invokestatic e.2.2.2.2.2, xPmm Lib.MathLoose.abs_long.x),
  (fun e => .invokestatic e.2.2.2.2.2, xPmm Lib.MathLoose.max_long.x),
  (fun e => .invokestatic e.2.2.2.2.2, xPmm Lib.MathLoose.min_long.x)]
/-- an instruction is what the bytes say, and its links hold -/
def xeok (own : String) (cc : ByteArray) (e : xI) : Prop := ∃ t : xTi, xget xopi e.2.2.1 = some t ∧ decode cc e.1 = .ok (t.1 e, e.2.1) ∧ t.2 own e
def xnx (e : xI) (tl : List xI) : Prop := match tl with
  | [] => True
  | e' :: _ => e'.1 = e.1 + e.2.1
def xcok (own : String) (cc : ByteArray) : List xI → Prop
  | [] => True
  | e :: tl => xeok own cc e ∧ xnx e tl ∧ xcok own cc tl
def xbok (own : String) (cc : ByteArray) (bl : Nat × List xI) : Prop := (match bl.2 with
  | [] => False
  | e :: _ => e.1 = bl.1) ∧ xcok own cc bl.2
def xrk (rk : Nat) (ret : Option FieldType) : Prop := match rk with
  | 0 => ret = none
  | 1 => ret = some .int
  | 2 => ret = some .long
  | 3 => ∃ t, ret = some t ∧ xtyR t
  | 4 => ret = some .boolean
  | _ => False
def xMok (M : xM) : Prop := (plainName M.1.cls = true ∧ Cond.code M.1 M.2.1 M.2.2.1 M.2.2.2.1 ∈ lw_gt ∧ Cond.initialized M.1.cls ∈ lw_gt ∧ (M.1.cls ≠ "java/lang/invoke/MethodHandle" ∧ M.1.cls ≠ "java/lang/invoke/VarHandle") ∧ (parseMethodDescriptor M.1.desc).map (fun d => d.parameters.length) = some M.2.2.2.2.1 ∧ M.2.2.1 ≤ 65 ∧ xrk M.2.2.2.2.2.1 M.2.2.2.1) ∧ ∀ bl ∈ M.2.2.2.2.2.2.2.2, xbok M.1.cls M.2.1 bl
def xMb (M : xM) : Prop := ∀ bl ∈ M.2.2.2.2.2.2.2.2, xbok M.1.cls M.2.1 bl
def xpos (M : xM) (σ : xS) : Prop := (match σ.2.1 with
  | [] => True
  | e :: _ => e.1 = σ.1) ∧ xcok M.1.cls M.2.1 σ.2.1
theorem xtb {w : Cond} (i : Nat) (h : lw_tbl[i]? = some w) (hg : goodWord w = true) : w ∈ lw_gt := List.mem_filter.mpr ⟨List.mem_of_getElem? h, hg⟩
