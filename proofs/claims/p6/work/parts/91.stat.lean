/-! the static rows at the law's start; what a good run gives; boxes -/
theorem xarr_at {args : Array Value} {s : State} {A : Nat → Prop} {C n : String} {L : List Nat} (hN : L.length < 2 ^ 31) (harr : (Cond.arrayOf (.static C n "[I") .int).before args s = true) (hlen : (Cond.eq (.length (.static C n "[I")) (.int (Int32.ofNat L.length))).before args s = true) (hel : ∀ j : Nat, j < L.length → (Cond.eq (.elem (.static C n "[I") (.int (Int32.ofNat j))) (.int (nI (L.getD j 0)))).before args s = true) (hl : (Cond.laysStatic C n "[I").before args s = true) (hini : (Cond.initialized C).before args s = true) (hA : ∀ a : Nat, a < s.heap.size → ¬ A a) : ∃ t : Nat, va_Z C n "[I" (.ref t) A s s.heap ∧ va_T .int t L.length (fun j => .int (nI (L.getD j 0))) A s s.heap := by
  obtain ⟨t, h1, h2⟩ := va_Tof (A := A) (f := fun j => .int (nI (L.getD j 0))) hN harr (va_eqt hlen) (fun j hj => va_eqt (hel j hj)) hA
  exact ⟨t, va_Zref hl hini h1 hA, h2⟩
def xstw (q : String × String × List Nat) : List Cond := [Cond.arrayOf (.static q.1 q.2.1 "[I") .int, Cond.eq (.length (.static q.1 q.2.1 "[I")) (.int (Int32.ofNat q.2.2.length))] ++ (List.range q.2.2.length).map (fun j => Cond.eq (.elem (.static q.1 q.2.1 "[I") (.int (Int32.ofNat j))) (.int (nI (q.2.2.getD j 0))))
theorem xstw_in : ∀ q ∈ xst, ∀ w ∈ xstw q, w ∈ flatC (Jvm.Cond.and given_1 narrow_1) := by decide +kernel
theorem xstw_t : ∀ q ∈ xst, Cond.laysStatic q.1 q.2.1 "[I" ∈ lw_tbl ∧ Cond.initialized q.1 ∈ lw_tbl ∧ q.2.2.length < 2 ^ 31 := by decide +kernel
/-- the texts: class, place, text, bytes -/
def xsq : List (String × Nat × String × List Nat) := [("BentScreens$FilmText", 151, "slide", [115, 108, 105, 100, 101]), ("BentScreens$FilmText", 156, "hold", [104, 111, 108, 100]), ("BentScreens$FilmText", 133, "layer", [108, 97, 121, 101, 114]), ("BentScreens$FilmText", 139, "life", [108, 105, 102, 101]), ("BentScreens$FilmText", 141, "folds", [102, 111, 108, 100, 115]), ("BentScreens$FilmText", 143, "panel", [112, 97, 110, 101, 108]), ("BentScreens$FilmText", 145, "flaw", [102, 108, 97, 119]), ("BentScreens$FilmText", 147, "sheet", [115, 104, 101, 101, 116]), ("BentScreens$FilmText", 149, "net", [110, 101, 116]), ("BentScreens$RulesText", 138, "slides", [115, 108, 105, 100, 101, 115]), ("BentScreens$RulesText", 140, "whole", [119, 104, 111, 108, 101]), ("BentScreens$RulesText", 142, "layers", [108, 97, 121, 101, 114, 115]), ("BentScreens$RulesText", 144, "least", [108, 101, 97, 115, 116]), ("BentScreens$RulesText", 146, "rows", [114, 111, 119, 115]), ("BentScreens$RulesText", 148, "fed", [102, 101, 100]), ("BentScreens$RulesText", 150, "darks", [100, 97, 114, 107, 115]), ("BentScreens$RulesText", 152, "worth", [119, 111, 114, 116, 104]), ("BentScreens$RulesText", 154, "cracks", [99, 114, 97, 99, 107, 115]), ("BentScreens$RulesText", 156, "kept", [107, 101, 112, 116]), ("BentScreens$RulesText", 158, "day", [100, 97, 121]), ("BentScreens$RulesText", 95, "if", [105, 102]), ("BentScreens$RulesText", 133, "not", [110, 111, 116]), ("BentScreens$RulesText", 131, "and", [97, 110, 100]), ("BentScreens$RulesText", 122, "bar", [98, 97, 114]), ("BentScreens$RulesText", 124, "price", [112, 114, 105, 99, 101]), ("BentScreens$RulesText", 126, "less", [108, 101, 115, 115])]
def xsf (q : String × Nat × String × List Nat) : Term := .field (.string q.1 q.2.1) "java/lang/String" "value" "[B"
def xsw (q : String × Nat × String × List Nat) : List Cond := [Cond.exactly (.string q.1 q.2.1) "java/lang/String", Cond.eq (.field (.string q.1 q.2.1) "java/lang/String" "coder" "B") (.int 0), Cond.arrayOf (xsf q) .byte, Cond.eq (.length (xsf q)) (.int (Int32.ofNat q.2.2.2.length))] ++ (List.range q.2.2.2.length).map (fun j => Cond.eq (.elem (xsf q) (.int (Int32.ofNat j))) (.int (nI (q.2.2.2.getD j 0))))
theorem xswk_0 : ((flatC (Jvm.Cond.and given_1 narrow_1)).drop 140).take 9 = xsw ("BentScreens$FilmText", 151, "slide", [115, 108, 105, 100, 101]) := by decide +kernel
theorem xswk_1 : ((flatC (Jvm.Cond.and given_1 narrow_1)).drop 149).take 8 = xsw ("BentScreens$FilmText", 156, "hold", [104, 111, 108, 100]) := by decide +kernel
theorem xswk_2 : ((flatC (Jvm.Cond.and given_1 narrow_1)).drop 81).take 9 = xsw ("BentScreens$FilmText", 133, "layer", [108, 97, 121, 101, 114]) := by decide +kernel
theorem xswk_3 : ((flatC (Jvm.Cond.and given_1 narrow_1)).drop 90).take 8 = xsw ("BentScreens$FilmText", 139, "life", [108, 105, 102, 101]) := by decide +kernel
theorem xswk_4 : ((flatC (Jvm.Cond.and given_1 narrow_1)).drop 98).take 9 = xsw ("BentScreens$FilmText", 141, "folds", [102, 111, 108, 100, 115]) := by decide +kernel
theorem xswk_5 : ((flatC (Jvm.Cond.and given_1 narrow_1)).drop 107).take 9 = xsw ("BentScreens$FilmText", 143, "panel", [112, 97, 110, 101, 108]) := by decide +kernel
theorem xswk_6 : ((flatC (Jvm.Cond.and given_1 narrow_1)).drop 116).take 8 = xsw ("BentScreens$FilmText", 145, "flaw", [102, 108, 97, 119]) := by decide +kernel
theorem xswk_7 : ((flatC (Jvm.Cond.and given_1 narrow_1)).drop 124).take 9 = xsw ("BentScreens$FilmText", 147, "sheet", [115, 104, 101, 101, 116]) := by decide +kernel
theorem xswk_8 : ((flatC (Jvm.Cond.and given_1 narrow_1)).drop 133).take 7 = xsw ("BentScreens$FilmText", 149, "net", [110, 101, 116]) := by decide +kernel
theorem xswk_9 : ((flatC (Jvm.Cond.and given_1 narrow_1)).drop 170).take 10 = xsw ("BentScreens$RulesText", 138, "slides", [115, 108, 105, 100, 101, 115]) := by decide +kernel
theorem xswk_10 : ((flatC (Jvm.Cond.and given_1 narrow_1)).drop 180).take 9 = xsw ("BentScreens$RulesText", 140, "whole", [119, 104, 111, 108, 101]) := by decide +kernel
theorem xswk_11 : ((flatC (Jvm.Cond.and given_1 narrow_1)).drop 189).take 10 = xsw ("BentScreens$RulesText", 142, "layers", [108, 97, 121, 101, 114, 115]) := by decide +kernel
theorem xswk_12 : ((flatC (Jvm.Cond.and given_1 narrow_1)).drop 199).take 9 = xsw ("BentScreens$RulesText", 144, "least", [108, 101, 97, 115, 116]) := by decide +kernel
theorem xswk_13 : ((flatC (Jvm.Cond.and given_1 narrow_1)).drop 208).take 8 = xsw ("BentScreens$RulesText", 146, "rows", [114, 111, 119, 115]) := by decide +kernel
theorem xswk_14 : ((flatC (Jvm.Cond.and given_1 narrow_1)).drop 216).take 7 = xsw ("BentScreens$RulesText", 148, "fed", [102, 101, 100]) := by decide +kernel
theorem xswk_15 : ((flatC (Jvm.Cond.and given_1 narrow_1)).drop 223).take 9 = xsw ("BentScreens$RulesText", 150, "darks", [100, 97, 114, 107, 115]) := by decide +kernel
theorem xswk_16 : ((flatC (Jvm.Cond.and given_1 narrow_1)).drop 232).take 9 = xsw ("BentScreens$RulesText", 152, "worth", [119, 111, 114, 116, 104]) := by decide +kernel
theorem xswk_17 : ((flatC (Jvm.Cond.and given_1 narrow_1)).drop 241).take 10 = xsw ("BentScreens$RulesText", 154, "cracks", [99, 114, 97, 99, 107, 115]) := by decide +kernel
theorem xswk_18 : ((flatC (Jvm.Cond.and given_1 narrow_1)).drop 251).take 8 = xsw ("BentScreens$RulesText", 156, "kept", [107, 101, 112, 116]) := by decide +kernel
theorem xswk_19 : ((flatC (Jvm.Cond.and given_1 narrow_1)).drop 259).take 7 = xsw ("BentScreens$RulesText", 158, "day", [100, 97, 121]) := by decide +kernel
theorem xswk_20 : ((flatC (Jvm.Cond.and given_1 narrow_1)).drop 157).take 6 = xsw ("BentScreens$RulesText", 95, "if", [105, 102]) := by decide +kernel
theorem xswk_21 : ((flatC (Jvm.Cond.and given_1 narrow_1)).drop 163).take 7 = xsw ("BentScreens$RulesText", 133, "not", [110, 111, 116]) := by decide +kernel
theorem xswk_22 : ((flatC (Jvm.Cond.and given_1 narrow_1)).drop 266).take 7 = xsw ("BentScreens$RulesText", 131, "and", [97, 110, 100]) := by decide +kernel
theorem xswk_23 : ((flatC (Jvm.Cond.and given_1 narrow_1)).drop 273).take 7 = xsw ("BentScreens$RulesText", 122, "bar", [98, 97, 114]) := by decide +kernel
theorem xswk_24 : ((flatC (Jvm.Cond.and given_1 narrow_1)).drop 280).take 9 = xsw ("BentScreens$RulesText", 124, "price", [112, 114, 105, 99, 101]) := by decide +kernel
theorem xswk_25 : ((flatC (Jvm.Cond.and given_1 narrow_1)).drop 289).take 8 = xsw ("BentScreens$RulesText", 126, "less", [108, 101, 115, 115]) := by decide +kernel
theorem xdt {l m : List Cond} {a n : Nat} {w : Cond} (h : (l.drop a).take n = m) (hw : w ∈ m) : w ∈ l := List.mem_of_mem_drop (List.mem_of_mem_take (h ▸ hw))
theorem xsw_in : ∀ q ∈ xsq, ∀ w ∈ xsw q, w ∈ flatC (Jvm.Cond.and given_1 narrow_1) := by
  unfold xsq
  simp only [List.forall_mem_cons]
  exact ⟨fun _ h => xdt xswk_0 h, fun _ h => xdt xswk_1 h, fun _ h => xdt xswk_2 h, fun _ h => xdt xswk_3 h, fun _ h => xdt xswk_4 h, fun _ h => xdt xswk_5 h, fun _ h => xdt xswk_6 h, fun _ h => xdt xswk_7 h, fun _ h => xdt xswk_8 h, fun _ h => xdt xswk_9 h, fun _ h => xdt xswk_10 h, fun _ h => xdt xswk_11 h, fun _ h => xdt xswk_12 h, fun _ h => xdt xswk_13 h, fun _ h => xdt xswk_14 h, fun _ h => xdt xswk_15 h, fun _ h => xdt xswk_16 h, fun _ h => xdt xswk_17 h, fun _ h => xdt xswk_18 h, fun _ h => xdt xswk_19 h, fun _ h => xdt xswk_20 h, fun _ h => xdt xswk_21 h, fun _ h => xdt xswk_22 h, fun _ h => xdt xswk_23 h, fun _ h => xdt xswk_24 h, fun _ h => xdt xswk_25 h, fun _ h => absurd h List.not_mem_nil⟩
theorem xsw_t : ∀ q ∈ xsq, q.2.2.2.length < 2 ^ 31 := by decide +kernel
def xsck (w : Cond) : Bool := match w with
  | .stringRef own ix tx => xsq.all (fun q => !(q.2.2.1 == tx) || (q.1 == own && q.2.1 == ix))
  | _ => true
theorem xsck_all : lw_tbl.all xsck = true := by decide +kernel
theorem xsbt_eq : xsbt = xsq.map (fun q => q.2.2.2) := rfl
theorem xstrs_eq : xstrs = xsq.map (fun q => q.2.2.1) := rfl
theorem xsp_at {args : Array Value} {s : State} {A : Nat → Prop} {tm : Term} {Q : List Nat} (hN : Q.length < 2 ^ 31) (hex : (Cond.exactly tm "java/lang/String").before args s = true) (hco : (Cond.eq (.field tm "java/lang/String" "coder" "B") (.int 0)).before args s = true) (har : (Cond.arrayOf (.field tm "java/lang/String" "value" "[B") .byte).before args s = true) (hle : (Cond.eq (.length (.field tm "java/lang/String" "value" "[B")) (.int (Int32.ofNat Q.length))).before args s = true) (hel : ∀ j : Nat, j < Q.length → (Cond.eq (.elem (.field tm "java/lang/String" "value" "[B") (.int (Int32.ofNat j))) (.int (nI (Q.getD j 0)))).before args s = true) (hA : ∀ a : Nat, a < s.heap.size → ¬ A a) : ∃ q : Nat × Nat, tm.eval args s none [] s = some (.ref q.1) ∧ xSp q.1 q.2 Q A s s.heap := by
  obtain ⟨a, c, cA, kA, q1, q2, q3, q4, q5, q6, -⟩ := Cond.exactly_spec (args := args) (first := s) (o := none) (s := s) (idx := []) (t := tm) (cls := "java/lang/String") hex
  obtain ⟨t, ht, hT⟩ := va_Tof (f := fun j => .int (nI (Q.getD j 0))) (A := A) hN har (va_eqt hle) (fun j hj => va_eqt (hel j hj)) hA
  exact ⟨(a, t), q1, ⟨cA, q3, q5, by rw [q6]; exact q2, hA a (Array.getElem?_eq_some_iff.mp q3).1⟩, vk_OFof q1 (va_eqt hco) hA, vk_OFof q1 ht hA, hT⟩
theorem xstat_at {args : Array Value} {s : State} {A : Nat → Prop} (hgv : (Jvm.Cond.and given_1 narrow_1).before args s = true) (hts : ∀ w ∈ lw_tbl, w.before args s = true) (hA : ∀ a : Nat, a < s.heap.size → ¬ A a) (b : Nat) : ∃ st : Nat → Nat, st 99 = b ∧ ∀ sc, xStat (sc, b, st) A s s.heap := by
  have hs := flat_of_before _ hgv
  have key : ∀ i : Nat, ∃ t : Nat, ∀ q, xget xst i = some q → va_Z q.1 q.2.1 "[I" (.ref t) A s s.heap ∧ va_T .int t q.2.2.length (fun j => .int (nI (q.2.2.getD j 0))) A s s.heap := by
    intro i
    cases h : xget xst i with
    | none => exact ⟨0, fun q hq => by cases hq⟩
    | some q =>
      have hm : q ∈ xst := by rw [xget_eq] at h; exact List.mem_of_getElem? h
      have hw := xstw_in q hm
      obtain ⟨t1, t2, t3⟩ := xstw_t q hm
      obtain ⟨t, h1, h2⟩ := xarr_at (A := A) t3 (hs _ (hw _ (List.mem_append_left _ List.mem_cons_self))) (hs _ (hw _ (List.mem_append_left _ (List.mem_cons_of_mem _ List.mem_cons_self)))) (fun j hj => hs _ (hw _ (List.mem_append_right _ (List.mem_map.mpr ⟨j, List.mem_range.mpr hj, rfl⟩)))) (hts _ t1) (hts _ t2) hA
      exact ⟨t, fun q' hq => by cases hq; exact ⟨h1, h2⟩⟩
  have kst : ∀ i : Nat, ∃ r : Nat × Nat, ∀ q, xget xsq i = some q → (Term.string q.1 q.2.1).eval args s none [] s = some (.ref r.1) ∧ xSp r.1 r.2 q.2.2.2 A s s.heap := by
    intro i
    cases h : xget xsq i with
    | none => exact ⟨(0, 0), fun q hq => by cases hq⟩
    | some q =>
      have hm : q ∈ xsq := by rw [xget_eq] at h; exact List.mem_of_getElem? h
      have hw := xsw_in q hm
      have t3 := xsw_t q hm
      obtain ⟨r, h1, h2⟩ := xsp_at (A := A) (tm := .string q.1 q.2.1) (Q := q.2.2.2) t3 (hs _ (hw _ (List.mem_append_left _ List.mem_cons_self))) (hs _ (hw _ (List.mem_append_left _ (List.mem_cons_of_mem _ List.mem_cons_self)))) (hs _ (hw _ (List.mem_append_left _ (List.mem_cons_of_mem _ (List.mem_cons_of_mem _ List.mem_cons_self))))) (hs _ (hw _ (List.mem_append_left _ (List.mem_cons_of_mem _ (List.mem_cons_of_mem _ (List.mem_cons_of_mem _ List.mem_cons_self)))))) (fun j hj => hs _ (hw _ (List.mem_append_right _ (List.mem_map.mpr ⟨j, List.mem_range.mpr hj, rfl⟩)))) hA
      exact ⟨r, fun q' hq => by cases hq; exact ⟨h1, h2⟩⟩
  obtain ⟨ad, had⟩ := Classical.axiomOfChoice key
  obtain ⟨sd, hsd⟩ := Classical.axiomOfChoice kst
  refine ⟨fun i => if i = 99 then b else if 200 ≤ i then (sd (i - 200)).2 else if 100 ≤ i then (sd (i - 100)).1 else ad i, if_pos rfl, fun sc => ⟨fun i q hq => ?_, fun i q hq => ?_, fun own ix tx i h1 h2 => ?_, ?_, ?_⟩⟩
  · have hi : i < 4 := by
      rw [xget_eq] at hq
      have := (List.getElem?_eq_some_iff.mp hq).1
      exact this
    show va_Z q.1 q.2.1 "[I" (.ref (if i = 99 then b else if 200 ≤ i then (sd (i - 200)).2 else if 100 ≤ i then (sd (i - 100)).1 else ad i)) A s s.heap ∧ va_T .int (if i = 99 then b else if 200 ≤ i then (sd (i - 200)).2 else if 100 ≤ i then (sd (i - 100)).1 else ad i) _ _ A s s.heap
    rw [if_neg (by omega), if_neg (by omega), if_neg (by omega)]
    exact had i q hq
  · have hi : i < 26 := by
      rw [xget_eq] at hq
      have := (List.getElem?_eq_some_iff.mp hq).1
      exact this
    have e1 : (if 100 + i = 99 then b else if 200 ≤ 100 + i then (sd (100 + i - 200)).2 else if 100 ≤ 100 + i then (sd (100 + i - 100)).1 else ad (100 + i)) = (sd i).1 := by
      rw [if_neg (by omega), if_neg (by omega), if_pos (by omega), Nat.add_sub_cancel_left]
    have e2 : (if 200 + i = 99 then b else if 200 ≤ 200 + i then (sd (200 + i - 200)).2 else if 100 ≤ 200 + i then (sd (200 + i - 100)).1 else ad (200 + i)) = (sd i).2 := by
      rw [if_neg (by omega), if_pos (by omega), Nat.add_sub_cancel_left]
    show xSp (if 100 + i = 99 then b else if 200 ≤ 100 + i then (sd (100 + i - 200)).2 else if 100 ≤ 100 + i then (sd (100 + i - 100)).1 else ad (100 + i)) (if 200 + i = 99 then b else if 200 ≤ 200 + i then (sd (200 + i - 200)).2 else if 100 ≤ 200 + i then (sd (200 + i - 100)).1 else ad (200 + i)) q A s s.heap
    rw [e1, e2]
    rw [xsbt_eq, xget_eq, List.getElem?_map] at hq
    cases h : xsq[i]? with
    | none => rw [h] at hq; cases hq
    | some r =>
      rw [h] at hq
      cases hq
      exact (hsd i r (by rw [xget_eq]; exact h)).2
  · have hi : i < 26 := by
      rw [xget_eq] at h2
      have := (List.getElem?_eq_some_iff.mp h2).1
      exact this
    have e1 : (if 100 + i = 99 then b else if 200 ≤ 100 + i then (sd (100 + i - 200)).2 else if 100 ≤ 100 + i then (sd (100 + i - 100)).1 else ad (100 + i)) = (sd i).1 := by
      rw [if_neg (by omega), if_neg (by omega), if_pos (by omega), Nat.add_sub_cancel_left]
    show vk_R own ix tx (if 100 + i = 99 then b else if 200 ≤ 100 + i then (sd (100 + i - 200)).2 else if 100 ≤ 100 + i then (sd (100 + i - 100)).1 else ad (100 + i)) s
    rw [e1]
    rw [xstrs_eq, xget_eq, List.getElem?_map] at h2
    cases h : xsq[i]? with
    | none => rw [h] at h2; cases h2
    | some r =>
      rw [h] at h2
      have h2 : some r.2.2.1 = some tx := h2
      have e2 : r.2.2.1 = tx := Option.some.inj h2
      have hm : r ∈ xsq := List.mem_of_getElem? h
      have hk := List.all_eq_true.mp xsck_all _ h1
      have hk : xsq.all (fun q => !(q.2.2.1 == tx) || (q.1 == own && q.2.1 == ix)) = true := hk
      have hk := List.all_eq_true.mp hk r hm
      rw [e2, beq_self_eq_true] at hk
      have hk : (r.1 == own && r.2.1 == ix) = true := hk
      obtain ⟨h3, h4⟩ := Bool.and_eq_true_iff.mp hk
      have h3 := eq_of_beq h3
      have h4 := eq_of_beq h4
      subst h3
      subst h4
      exact vk_R.of (hts _ h1) (hsd i r (by rw [xget_eq]; exact h)).1
  · exact va_Zof (hts _ (by decide +kernel)) (hts _ (by decide +kernel)) (va_eqt (hs _ (by decide +kernel))) hA
  · exact va_Zqof (hts _ (by decide +kernel)) (hts _ (by decide +kernel)) (hs _ (by decide +kernel)) hA
theorem xinst_all : ∀ q ∈ vwCl, Cond.instantiable q.1 q.2.2 ∈ lw_tbl := by decide +kernel
theorem xknown {args : Array Value} {s : State} (hts : ∀ w ∈ lw_tbl, w.before args s = true) : ∃ D : va_G, va_K D vwCl [] s := by
  have key : ∀ k : Nat, ∃ (cC : ClassId) (iS : Nat → Nat), ∀ q : vw_C, vwCl[k]? = some q → u_Kn s q.1 q.2.1 q.2.2 cC iS := by
    intro k
    cases h : vwCl[k]? with
    | none => exact ⟨0, fun _ => 0, fun q hq => by cases hq⟩
    | some q =>
      obtain ⟨cC, iS, h1⟩ := u_known (C := q.1) (T := q.2.1) (N := q.2.2) (n := q.2.2) hts (fun w hw => (List.mem_filter.mp (xcls_in h w hw)).1) (hts _ (xinst_all q (List.mem_of_getElem? h)))
      exact ⟨cC, iS, fun q' hq => by cases hq; exact h1⟩
  refine ⟨(fun k => Classical.choose (key k), fun k => Classical.choose (Classical.choose_spec (key k))), fun c q hq => Classical.choose_spec (Classical.choose_spec (key c)) q hq, fun k q h => by simp at h⟩
theorem xhts {args : Array Value} {s : State} (hts : ∀ w ∈ lw_tbl, w.before args s = true) : (∀ w ∈ lw_gt, w.before args s = true) ∧ xNw s := ⟨fun w h => hts w (List.mem_filter.mp h).1, fun own ix y host h => va_Nw.of rfl (hts _ h), va_AO.of (hts _ (by decide +kernel))⟩
