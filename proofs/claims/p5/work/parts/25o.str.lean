/-! texts: the JDK's own String.length and String.charAt over the class's constants -/
theorem xs_c7 : ∀ b, b < 128 → ((nI b &&& 255).toUInt32 % 65536).toInt32 = nI b ∧ narrow .char (.int (nI b)) = .int (nI b) := by decide +kernel
theorem xs_sh (x : Int32) : x >>> ((0 : Int32) &&& 31) = x := by
  have e : ((0 : Int32) &&& 31) = 0 := by decide
  rw [e]
  exact Int32.shiftRight_zero
abbrev xSb (sz : Nat) : Nat → Prop := fun z => sz ≤ z
def xSk (a b sz : Nat) (q : List Nat) (U : State) : Prop := U.heap.size = sz ∧ xSp a b q (xSb sz) U U.heap ∧ xSt (xSb sz) U U.heap
def xSv (b sz : Nat) (q : List Nat) (U : State) : Prop := U.heap.size = sz ∧ va_T .byte b q.length (fun j => .int (nI (q.getD j 0))) (xSb sz) U U.heap ∧ xSt (xSb sz) U U.heap
def xSw (sz : Nat) (U : State) : Prop := U.heap.size = sz ∧ xSt (xSb sz) U U.heap
theorem xSp.moved {a b : Nat} {q : List Nat} {A : Nat → Prop} {u U : State} {H : Heap} (hv : u.vm.Alike U.vm) (h : xSp a b q A u H) : xSp a b q A U H := ⟨va_O.moved hv h.1, va_OF.moved hv h.2.1, va_OF.moved hv h.2.2.1, va_T.moved hv h.2.2.2⟩
theorem xSp.kept {a b : Nat} {q : List Nat} {A : Nat → Prop} {U : State} {H H1 : Heap} (h : xSp a b q A U H) (hq : ∀ a : Nat, a < H.size → ¬ A a → H1[a]? = H[a]?) : xSp a b q A U H1 := ⟨h.1.kept hq, h.2.1.kept hq, h.2.2.1.kept hq, h.2.2.2.kept hq⟩
theorem xSp.narrow {a b : Nat} {q : List Nat} {A B : Nat → Prop} {U : State} {H : Heap} (h : xSp a b q A U H) (hAB : ∀ q, B q → A q) : xSp a b q B U H := ⟨h.1.narrow hAB, h.2.1.narrow hAB, h.2.2.1.narrow hAB, h.2.2.2.narrow hAB⟩
theorem xSt.moved {A : Nat → Prop} {u U : State} {H : Heap} (hv : u.vm.Alike U.vm) (h : xSt A u H) : xSt A U H := ⟨va_Z.moved hv h.1, va_Zq.moved hv h.2⟩
theorem xSt.kept {A : Nat → Prop} {U : State} {H H1 : Heap} (h : xSt A U H) (hq : ∀ a : Nat, a < H.size → ¬ A a → H1[a]? = H[a]?) : xSt A U H1 := ⟨h.1.kept hq, h.2.kept hq⟩
theorem xSt.narrow {A B : Nat → Prop} {U : State} {H : Heap} (h : xSt A U H) (hAB : ∀ q, B q → A q) : xSt B U H := ⟨h.1.narrow hAB, h.2.narrow hAB⟩
abbrev xrz (d : Nat) : Room := { frames := d, cells := 0, slots := 0, locals := 84 * d }
section XST
variable {l : Launch} {a b sz d k n : Nat} {q : List Nat}
theorem xSk_bl {av : List Value} : FrameBlind (va_Pc av (xSk a b sz q)) := by
  intro x U gk mk h
  have hal : U.vm.Alike (U.calling gk mk x).vm := Vm.Alike.refl U.vm
  exact ⟨h.1, h.2.1, xSp.moved hal h.2.2.1, xSt.moved hal h.2.2.2⟩
theorem xSv_bl {av : List Value} : FrameBlind (va_Pc av (xSv b sz q)) := by
  intro x U gk mk h
  have hal : U.vm.Alike (U.calling gk mk x).vm := Vm.Alike.refl U.vm
  exact ⟨h.1, h.2.1, va_T.moved hal h.2.2.1, xSt.moved hal h.2.2.2⟩
theorem xSw_bl {av : List Value} : FrameBlind (va_Pc av (xSw sz)) := by
  intro x U gk mk h
  have hal : U.vm.Alike (U.calling gk mk x).vm := Vm.Alike.refl U.vm
  exact ⟨h.1, h.2.1, xSt.moved hal h.2.2⟩
theorem dsJ0_coder_7d493_0 : decode cJ0_coder_7d493 0 = .ok (.getstatic 38, 3) := by decide +kernel
theorem dsJ0_coder_7d493_3 : decode cJ0_coder_7d493 3 = .ok (.ifCond .eq 10, 3) := by decide +kernel
theorem dsJ0_coder_7d493_6 : decode cJ0_coder_7d493 6 = .ok (.aload_n 0, 1) := by decide +kernel
theorem dsJ0_coder_7d493_7 : decode cJ0_coder_7d493 7 = .ok (.getfield 15, 3) := by decide +kernel
theorem dsJ0_coder_7d493_10 : decode cJ0_coder_7d493 10 = .ok (.goto 4, 3) := by decide +kernel
theorem dsJ0_coder_7d493_14 : decode cJ0_coder_7d493 14 = .ok (.ireturn, 1) := by decide +kernel
theorem mt_coder : Met l yJ0_coder_7d493 (Cond.code yJ0_coder_7d493 cJ0_coder_7d493 1 (some .byte) :: lw_gt) (xrz d) (va_Pc [.ref a] (xSk a b sz q)) (va_Qi (fun r (_ : Unit) => r = 0) (fun _ _ => True) (xSb sz)) 0 0 (xSb sz) := by
  refine Met.ofW (cc := cJ0_coder_7d493) (maxL := 1) (ret := (some .byte)) (by decide +kernel) rfl ?_
  intro p e s m args below meth c s₁ B hml hv
  obtain ⟨rfl, hsz, hp, hz⟩ := hv
  have hts0 := atoms_spec (ws := Cond.code yJ0_coder_7d493 cJ0_coder_7d493 1 (some .byte) :: lw_gt) B.pre
  have hts : ∀ w ∈ lw_gt, w.before ([.ref a] : List Value).toArray s = true := fun w hw => hts0 w (List.mem_cons_of_mem _ hw)
  have hown : s.vm.findClass "java/lang/String" = some m.cls := findClass_of_methodNamed B.named
  have hr := B.returns
  have hx := B.exec
  have hb := B.bytes
  have F : CallFix p m c cJ0_coder_7d493 1 s ([.ref a] : List Value).toArray lw_gt "java/lang/String" := ⟨hx, hb, hml, hown, hts⟩
  have hS : va_S (xSb sz) s.heap s.heap [] := va_S.rf
  have hl := lv_entry [.ref a] (n := 1) (Nat.le_of_ble_eq_true rfl)
  rw [lg_entry_eq]
  generalize (lg_sl [.ref a] ++ List.replicate (1 - (lg_sl [.ref a]).length) Slot.unset).toArray = ls at hl ⊢
  have hl : lv_has ls 1 [(0, .ref a)] := hl
  refine va_gets hx hb hz.1 hS hown (hts _ (xtb 727 (by decide +kernel) rfl)) (fun _ z => z) dsJ0_coder_7d493_0 ?_
  refine lv_if_eq (tgt := 13) hx hb dsJ0_coder_7d493_3 rfl (fun h => absurd h (by decide)) (fun _ => ?_)
  refine lv_aload_n hx hb dsJ0_coder_7d493_6 rfl (lv_at hl 0 rfl) ?_
  refine vk_getf hx hb hp.2.1 hS hown (hts _ (xtb 2214 (by decide +kernel) rfl)) (fun _ h => h) dsJ0_coder_7d493_7 ?_
  refine lv_goto (tgt := 14) hx hb dsJ0_coder_7d493_10 rfl ?_
  exact W.zret hx hb hr (by decide) (fun t ht hW => ⟨⟨0, (), rfl, rfl, trivial⟩, hS.F ht⟩) hS.2.2 dsJ0_coder_7d493_14
theorem dsJ0_isLatin1_aae02_0 : decode cJ0_isLatin1_aae02 0 = .ok (.getstatic 38, 3) := by decide +kernel
theorem dsJ0_isLatin1_aae02_3 : decode cJ0_isLatin1_aae02 3 = .ok (.ifCond .eq 14, 3) := by decide +kernel
theorem dsJ0_isLatin1_aae02_6 : decode cJ0_isLatin1_aae02 6 = .ok (.aload_n 0, 1) := by decide +kernel
theorem dsJ0_isLatin1_aae02_7 : decode cJ0_isLatin1_aae02 7 = .ok (.getfield 15, 3) := by decide +kernel
theorem dsJ0_isLatin1_aae02_10 : decode cJ0_isLatin1_aae02 10 = .ok (.ifCond .ne 7, 3) := by decide +kernel
theorem dsJ0_isLatin1_aae02_13 : decode cJ0_isLatin1_aae02 13 = .ok (.iconst 1, 1) := by decide +kernel
theorem dsJ0_isLatin1_aae02_14 : decode cJ0_isLatin1_aae02 14 = .ok (.goto 4, 3) := by decide +kernel
theorem dsJ0_isLatin1_aae02_18 : decode cJ0_isLatin1_aae02 18 = .ok (.ireturn, 1) := by decide +kernel
theorem mt_latin : Met l yJ0_isLatin1_aae02 (Cond.code yJ0_isLatin1_aae02 cJ0_isLatin1_aae02 1 (some .boolean) :: lw_gt) (xrz d) (va_Pc [.ref a] (xSk a b sz q)) (va_Qi (fun r (_ : Unit) => r = 1) (fun _ _ => True) (xSb sz)) 0 0 (xSb sz) := by
  refine Met.ofW (cc := cJ0_isLatin1_aae02) (maxL := 1) (ret := (some .boolean)) (by decide +kernel) rfl ?_
  intro p e s m args below meth c s₁ B hml hv
  obtain ⟨rfl, hsz, hp, hz⟩ := hv
  have hts0 := atoms_spec (ws := Cond.code yJ0_isLatin1_aae02 cJ0_isLatin1_aae02 1 (some .boolean) :: lw_gt) B.pre
  have hts : ∀ w ∈ lw_gt, w.before ([.ref a] : List Value).toArray s = true := fun w hw => hts0 w (List.mem_cons_of_mem _ hw)
  have hown : s.vm.findClass "java/lang/String" = some m.cls := findClass_of_methodNamed B.named
  have hr := B.returns
  have hx := B.exec
  have hb := B.bytes
  have F : CallFix p m c cJ0_isLatin1_aae02 1 s ([.ref a] : List Value).toArray lw_gt "java/lang/String" := ⟨hx, hb, hml, hown, hts⟩
  have hS : va_S (xSb sz) s.heap s.heap [] := va_S.rf
  have hl := lv_entry [.ref a] (n := 1) (Nat.le_of_ble_eq_true rfl)
  rw [lg_entry_eq]
  generalize (lg_sl [.ref a] ++ List.replicate (1 - (lg_sl [.ref a]).length) Slot.unset).toArray = ls at hl ⊢
  have hl : lv_has ls 1 [(0, .ref a)] := hl
  refine va_gets hx hb hz.1 hS hown (hts _ (xtb 727 (by decide +kernel) rfl)) (fun _ z => z) dsJ0_isLatin1_aae02_0 ?_
  refine lv_if_eq (tgt := 17) hx hb dsJ0_isLatin1_aae02_3 rfl (fun h => absurd h (by decide)) (fun _ => ?_)
  refine lv_aload_n hx hb dsJ0_isLatin1_aae02_6 rfl (lv_at hl 0 rfl) ?_
  refine vk_getf hx hb hp.2.1 hS hown (hts _ (xtb 2214 (by decide +kernel) rfl)) (fun _ h => h) dsJ0_isLatin1_aae02_7 ?_
  refine lv_if_ne (tgt := 17) hx hb dsJ0_isLatin1_aae02_10 rfl (fun h => absurd rfl h) (fun _ => ?_)
  refine lv_iconst (v := 1) hx hb dsJ0_isLatin1_aae02_13 rfl ?_
  refine lv_goto (tgt := 18) hx hb dsJ0_isLatin1_aae02_14 rfl ?_
  exact W.zret hx hb hr (by decide) (fun t ht hW => ⟨⟨1, (), rfl, rfl, trivial⟩, hS.F ht⟩) hS.2.2 dsJ0_isLatin1_aae02_18
theorem dsJ0_length_8abf5_0 : decode cJ0_length_8abf5 0 = .ok (.aload_n 0, 1) := by decide +kernel
theorem dsJ0_length_8abf5_1 : decode cJ0_length_8abf5 1 = .ok (.getfield 9, 3) := by decide +kernel
theorem dsJ0_length_8abf5_4 : decode cJ0_length_8abf5 4 = .ok (.arraylength, 1) := by decide +kernel
theorem dsJ0_length_8abf5_5 : decode cJ0_length_8abf5 5 = .ok (.aload_n 0, 1) := by decide +kernel
theorem dsJ0_length_8abf5_6 : decode cJ0_length_8abf5 6 = .ok (.invokevirtual 335, 3) := by decide +kernel
theorem dsJ0_length_8abf5_9 : decode cJ0_length_8abf5 9 = .ok (.ishr, 1) := by decide +kernel
theorem dsJ0_length_8abf5_10 : decode cJ0_length_8abf5 10 = .ok (.ireturn, 1) := by decide +kernel
theorem mt_len : Met l yJ0_length_8abf5 (Cond.code yJ0_length_8abf5 cJ0_length_8abf5 1 (some .int) :: lw_gt) (xrz (d + 1)) (va_Pc [.ref a] (xSk a b sz q)) (va_Qi (fun r (_ : Unit) => r = nI q.length) (fun _ _ => True) (xSb sz)) 0 0 (xSb sz) := by
  refine Met.ofW (cc := cJ0_length_8abf5) (maxL := 1) (ret := (some .int)) (by decide +kernel) rfl ?_
  intro p e s m args below meth c s₁ B hml hv
  obtain ⟨rfl, hsz, hp, hz⟩ := hv
  have hts0 := atoms_spec (ws := Cond.code yJ0_length_8abf5 cJ0_length_8abf5 1 (some .int) :: lw_gt) B.pre
  have hts : ∀ w ∈ lw_gt, w.before ([.ref a] : List Value).toArray s = true := fun w hw => hts0 w (List.mem_cons_of_mem _ hw)
  have hown : s.vm.findClass "java/lang/String" = some m.cls := findClass_of_methodNamed B.named
  have hr := B.returns
  have hx := B.exec
  have hb := B.bytes
  have F : CallFix p m c cJ0_length_8abf5 1 s ([.ref a] : List Value).toArray lw_gt "java/lang/String" := ⟨hx, hb, hml, hown, hts⟩
  have hS : va_S (xSb sz) s.heap s.heap [] := va_S.rf
  have hl := lv_entry [.ref a] (n := 1) (Nat.le_of_ble_eq_true rfl)
  rw [lg_entry_eq]
  generalize (lg_sl [.ref a] ++ List.replicate (1 - (lg_sl [.ref a]).length) Slot.unset).toArray = ls at hl ⊢
  have hl : lv_has ls 1 [(0, .ref a)] := hl
  refine lv_aload_n hx hb dsJ0_length_8abf5_0 rfl (lv_at hl 0 rfl) ?_
  refine vk_getf hx hb hp.2.2.1 hS hown (hts _ (xtb 2213 (by decide +kernel) rfl)) (fun _ h => h) dsJ0_length_8abf5_1 ?_
  refine va_tlen hx hb hp.2.2.2 hS rfl dsJ0_length_8abf5_4 ?_
  refine lv_aload_n hx hb dsJ0_length_8abf5_5 rfl (lv_at hl 0 rfl) ?_
  refine va_calli (va_runV (C := "java/lang/String") (As := []) F (mt_coder (l := l) (a := a) (b := b) (sz := sz) (q := q) (d := d)) ⟨(callB_of _ hts (lw_goodIn (xtb 726 (by decide +kernel) rfl)) rfl rfl rfl (hts _ (xtb 140 (by decide +kernel) rfl)) (hts _ (xtb 723 (by decide +kernel) rfl)) ⟨by decide +kernel, by decide +kernel, (by show Option.map _ _ = some 0; decide +kernel)⟩ ⟨Nat.le_refl _, (by show 8 + (1 + 11) + 84 * d ≤ 84 * (d + 1); omega)⟩), (hts _ (xtb 724 (by decide +kernel) rfl)), (hts _ (xtb 725 (by decide +kernel) rfl))⟩ ⟨xSk_bl, ?_, fun U hU hW => ⟨rfl, by rw [hU]; exact hsz, (by rw [hU]; exact xSp.moved hW.alike hp), (by rw [hU]; exact xSt.moved hW.alike hz)⟩⟩ rfl rfl hl.1 rfl (lv_room (by simp [Value.category])) dsJ0_length_8abf5_6 ⟨Nat.le_refl _, Nat.le_refl _⟩) hS (fun _ _ z => z) (fun _ z => z) (fun r u t H1 locs1 ht hal hpost _ hz1 hk1 hS1 => ?_)
  · obtain ⟨cell, h1, h2, h3, -⟩ := hp.1
    exact ⟨cell, h1, h2, h3⟩
  subst hpost
  refine lv_ishr hx hb dsJ0_length_8abf5_9 ?_
  rw [xs_sh]
  exact W.iret hx hb hr (fun t ht hW => ⟨⟨_, (), rfl, rfl, trivial⟩, hS1.F ht⟩) hS1.2.2 dsJ0_length_8abf5_10
theorem dsJ3_checkIndex_8e157_0 : decode cJ3_checkIndex_8e157 0 = .ok (.iload_n 0, 1) := by decide +kernel
theorem dsJ3_checkIndex_8e157_1 : decode cJ3_checkIndex_8e157 1 = .ok (.ifCond .lt 8, 3) := by decide +kernel
theorem dsJ3_checkIndex_8e157_4 : decode cJ3_checkIndex_8e157 4 = .ok (.iload_n 0, 1) := by decide +kernel
theorem dsJ3_checkIndex_8e157_5 : decode cJ3_checkIndex_8e157 5 = .ok (.iload_n 1, 1) := by decide +kernel
theorem dsJ3_checkIndex_8e157_6 : decode cJ3_checkIndex_8e157 6 = .ok (.if_icmp .lt 10, 3) := by decide +kernel
theorem dsJ3_checkIndex_8e157_16 : decode cJ3_checkIndex_8e157 16 = .ok (.iload_n 0, 1) := by decide +kernel
theorem dsJ3_checkIndex_8e157_17 : decode cJ3_checkIndex_8e157 17 = .ok (.ireturn, 1) := by decide +kernel
theorem mt_chk3n (hk : k < n) (hn : n < 2147483648) : Met l yJ3_checkIndex_8e157 (Cond.code yJ3_checkIndex_8e157 cJ3_checkIndex_8e157 3 (some .int) :: lw_gt) (xrz d) (va_Pc [.int (nI k), .int (nI n), .null] (fun U => U.heap.size = sz)) (va_Qi (fun r (_ : Unit) => True) (fun _ _ => True) (xSb sz)) 0 0 (xSb sz) := by
  refine Met.ofW (cc := cJ3_checkIndex_8e157) (maxL := 3) (ret := (some .int)) (by decide +kernel) rfl ?_
  intro p e s m args below meth c s₁ B hml hv
  obtain ⟨rfl, hsz⟩ := hv
  have hts0 := atoms_spec (ws := Cond.code yJ3_checkIndex_8e157 cJ3_checkIndex_8e157 3 (some .int) :: lw_gt) B.pre
  have hts : ∀ w ∈ lw_gt, w.before ([.int (nI k), .int (nI n), .null] : List Value).toArray s = true := fun w hw => hts0 w (List.mem_cons_of_mem _ hw)
  have hown : s.vm.findClass "jdk/internal/util/Preconditions" = some m.cls := findClass_of_methodNamed B.named
  have hr := B.returns
  have hx := B.exec
  have hb := B.bytes
  have F : CallFix p m c cJ3_checkIndex_8e157 3 s ([.int (nI k), .int (nI n), .null] : List Value).toArray lw_gt "jdk/internal/util/Preconditions" := ⟨hx, hb, hml, hown, hts⟩
  have hS : va_S (xSb sz) s.heap s.heap [] := va_S.rf
  have hl := lv_entry [.int (nI k), .int (nI n), .null] (n := 3) (Nat.le_of_ble_eq_true rfl)
  rw [lg_entry_eq]
  generalize (lg_sl [.int (nI k), .int (nI n), .null] ++ List.replicate (3 - (lg_sl [.int (nI k), .int (nI n), .null]).length) Slot.unset).toArray = ls at hl ⊢
  have hl : lv_has ls 3 [(0, .int (nI k)), (1, .int (nI n)), (2, .null)] := hl
  subst hsz
  refine lv_iload_n hx hb dsJ3_checkIndex_8e157_0 rfl (lv_at hl 0 rfl) ?_
  refine lv_if_lt (tgt := 9) hx hb dsJ3_checkIndex_8e157_1 rfl (fun h => absurd h (nI_pos (by omega))) (fun _ => ?_)
  refine lv_iload_n hx hb dsJ3_checkIndex_8e157_4 rfl (lv_at hl 0 rfl) ?_
  refine lv_iload_n hx hb dsJ3_checkIndex_8e157_5 rfl (lv_at hl 1 rfl) ?_
  refine lv_icmp_lt (tgt := 16) hx hb dsJ3_checkIndex_8e157_6 rfl (fun _ => ?_) (fun h => absurd (nI_lt hk (by omega)) h)
  refine lv_iload_n hx hb dsJ3_checkIndex_8e157_16 rfl (lv_at hl 0 rfl) ?_
  exact W.iret hx hb hr (fun t ht hW => ⟨⟨_, (), rfl, trivial, trivial⟩, hS.F ht⟩) hS.2.2 dsJ3_checkIndex_8e157_17
theorem mt_chk3r (hk : k < n) (hn : n < 2147483648) : Met l yJ3_checkIndex_8e157 (Cond.code yJ3_checkIndex_8e157 cJ3_checkIndex_8e157 3 (some .int) :: lw_gt) (xrz d) (va_Pc [.int (nI k), .int (nI n), (.ref b)] (fun U => U.heap.size = sz)) (va_Qi (fun r (_ : Unit) => True) (fun _ _ => True) (xSb sz)) 0 0 (xSb sz) := by
  refine Met.ofW (cc := cJ3_checkIndex_8e157) (maxL := 3) (ret := (some .int)) (by decide +kernel) rfl ?_
  intro p e s m args below meth c s₁ B hml hv
  obtain ⟨rfl, hsz⟩ := hv
  have hts0 := atoms_spec (ws := Cond.code yJ3_checkIndex_8e157 cJ3_checkIndex_8e157 3 (some .int) :: lw_gt) B.pre
  have hts : ∀ w ∈ lw_gt, w.before ([.int (nI k), .int (nI n), (.ref b)] : List Value).toArray s = true := fun w hw => hts0 w (List.mem_cons_of_mem _ hw)
  have hown : s.vm.findClass "jdk/internal/util/Preconditions" = some m.cls := findClass_of_methodNamed B.named
  have hr := B.returns
  have hx := B.exec
  have hb := B.bytes
  have F : CallFix p m c cJ3_checkIndex_8e157 3 s ([.int (nI k), .int (nI n), (.ref b)] : List Value).toArray lw_gt "jdk/internal/util/Preconditions" := ⟨hx, hb, hml, hown, hts⟩
  have hS : va_S (xSb sz) s.heap s.heap [] := va_S.rf
  have hl := lv_entry [.int (nI k), .int (nI n), (.ref b)] (n := 3) (Nat.le_of_ble_eq_true rfl)
  rw [lg_entry_eq]
  generalize (lg_sl [.int (nI k), .int (nI n), (.ref b)] ++ List.replicate (3 - (lg_sl [.int (nI k), .int (nI n), (.ref b)]).length) Slot.unset).toArray = ls at hl ⊢
  have hl : lv_has ls 3 [(0, .int (nI k)), (1, .int (nI n)), (2, (.ref b))] := hl
  subst hsz
  refine lv_iload_n hx hb dsJ3_checkIndex_8e157_0 rfl (lv_at hl 0 rfl) ?_
  refine lv_if_lt (tgt := 9) hx hb dsJ3_checkIndex_8e157_1 rfl (fun h => absurd h (nI_pos (by omega))) (fun _ => ?_)
  refine lv_iload_n hx hb dsJ3_checkIndex_8e157_4 rfl (lv_at hl 0 rfl) ?_
  refine lv_iload_n hx hb dsJ3_checkIndex_8e157_5 rfl (lv_at hl 1 rfl) ?_
  refine lv_icmp_lt (tgt := 16) hx hb dsJ3_checkIndex_8e157_6 rfl (fun _ => ?_) (fun h => absurd (nI_lt hk (by omega)) h)
  refine lv_iload_n hx hb dsJ3_checkIndex_8e157_16 rfl (lv_at hl 0 rfl) ?_
  exact W.iret hx hb hr (fun t ht hW => ⟨⟨_, (), rfl, trivial, trivial⟩, hS.F ht⟩) hS.2.2 dsJ3_checkIndex_8e157_17
theorem dsJ0_checkIndex_df160_0 : decode cJ0_checkIndex_df160 0 = .ok (.iload_n 0, 1) := by decide +kernel
theorem dsJ0_checkIndex_df160_1 : decode cJ0_checkIndex_df160 1 = .ok (.iload_n 1, 1) := by decide +kernel
theorem dsJ0_checkIndex_df160_2 : decode cJ0_checkIndex_df160 2 = .ok (.getstatic 1053, 3) := by decide +kernel
theorem dsJ0_checkIndex_df160_5 : decode cJ0_checkIndex_df160 5 = .ok (.invokestatic 1059, 3) := by decide +kernel
theorem dsJ0_checkIndex_df160_8 : decode cJ0_checkIndex_df160 8 = .ok (.pop, 1) := by decide +kernel
theorem dsJ0_checkIndex_df160_9 : decode cJ0_checkIndex_df160 9 = .ok (.return_, 1) := by decide +kernel
theorem mt_chk (hk : k < n) (hn : n < 2147483648) : Met l yJ0_checkIndex_df160 (Cond.code yJ0_checkIndex_df160 cJ0_checkIndex_df160 2 none :: lw_gt) (xrz (d + 1)) (va_Pc [.int (nI k), .int (nI n)] (xSw sz)) (va_Qv (fun (_ : Unit) => True) (fun _ _ => True) (xSb sz)) 0 0 (xSb sz) := by
  refine Met.ofW (cc := cJ0_checkIndex_df160) (maxL := 2) (ret := none) (by decide +kernel) rfl ?_
  intro p e s m args below meth c s₁ B hml hv
  obtain ⟨rfl, hsz, hz⟩ := hv
  have hts0 := atoms_spec (ws := Cond.code yJ0_checkIndex_df160 cJ0_checkIndex_df160 2 none :: lw_gt) B.pre
  have hts : ∀ w ∈ lw_gt, w.before ([.int (nI k), .int (nI n)] : List Value).toArray s = true := fun w hw => hts0 w (List.mem_cons_of_mem _ hw)
  have hown : s.vm.findClass "java/lang/String" = some m.cls := findClass_of_methodNamed B.named
  have hr := B.returns
  have hx := B.exec
  have hb := B.bytes
  have F : CallFix p m c cJ0_checkIndex_df160 2 s ([.int (nI k), .int (nI n)] : List Value).toArray lw_gt "java/lang/String" := ⟨hx, hb, hml, hown, hts⟩
  have hS : va_S (xSb sz) s.heap s.heap [] := va_S.rf
  have hl := lv_entry [.int (nI k), .int (nI n)] (n := 2) (Nat.le_of_ble_eq_true rfl)
  rw [lg_entry_eq]
  generalize (lg_sl [.int (nI k), .int (nI n)] ++ List.replicate (2 - (lg_sl [.int (nI k), .int (nI n)]).length) Slot.unset).toArray = ls at hl ⊢
  have hl : lv_has ls 2 [(0, .int (nI k)), (1, .int (nI n))] := hl
  refine lv_iload_n hx hb dsJ0_checkIndex_df160_0 rfl (lv_at hl 0 rfl) ?_
  refine lv_iload_n hx hb dsJ0_checkIndex_df160_1 rfl (lv_at hl 1 rfl) ?_
  rcases hz.2 with hz2 | ⟨t0, hz2⟩
  · refine va_gets hx hb hz2 hS hown (hts _ (xtb 743 (by decide +kernel) rfl)) (fun _ z => z) dsJ0_checkIndex_df160_2 ?_
    refine va_calli (va_runS (As := [.int (nI k), .int (nI n), .null]) F (mt_chk3n (l := l) (sz := sz) (d := d) hk hn) ⟨(callB_of _ hts (lw_goodIn (xtb 747 (by decide +kernel) rfl)) rfl rfl rfl (hts _ (xtb 142 (by decide +kernel) rfl)) (hts _ (xtb 745 (by decide +kernel) rfl)) ⟨by decide +kernel, by decide +kernel, (by show Option.map _ _ = some 3; decide +kernel)⟩ ⟨Nat.le_refl _, (by show 8 + (3 + 11) + 84 * d ≤ 84 * (d + 1); omega)⟩), (hts _ (xtb 746 (by decide +kernel) rfl))⟩ ⟨fun x U gk mk h => h, fun U hU hW => ⟨rfl, by show U.heap.size = sz; rw [hU]; exact hsz⟩⟩ rfl rfl hl.1 rfl (lv_room (Nat.zero_le _)) dsJ0_checkIndex_df160_5 ⟨Nat.le_refl _, Nat.le_refl _⟩) hS (fun _ _ z => z) (fun _ z => z) (fun r u t H1 locs1 ht hal hpost _ hz1 hk1 hS1 => ?_)
    refine lv_pop hx hb dsJ0_checkIndex_df160_8 rfl ?_
    exact W.vret hx hb hr (fun t ht hW => ⟨⟨(), rfl, trivial, trivial⟩, hS1.F ht⟩) hS1.2.2 dsJ0_checkIndex_df160_9
  · refine va_gets hx hb hz2 hS hown (hts _ (xtb 743 (by decide +kernel) rfl)) (fun _ z => z) dsJ0_checkIndex_df160_2 ?_
    refine va_calli (va_runS (As := [.int (nI k), .int (nI n), .ref t0]) F (mt_chk3r (l := l) (sz := sz) (d := d) hk hn) ⟨(callB_of _ hts (lw_goodIn (xtb 747 (by decide +kernel) rfl)) rfl rfl rfl (hts _ (xtb 142 (by decide +kernel) rfl)) (hts _ (xtb 745 (by decide +kernel) rfl)) ⟨by decide +kernel, by decide +kernel, (by show Option.map _ _ = some 3; decide +kernel)⟩ ⟨Nat.le_refl _, (by show 8 + (3 + 11) + 84 * d ≤ 84 * (d + 1); omega)⟩), (hts _ (xtb 746 (by decide +kernel) rfl))⟩ ⟨fun x U gk mk h => h, fun U hU hW => ⟨rfl, by show U.heap.size = sz; rw [hU]; exact hsz⟩⟩ rfl rfl hl.1 rfl (lv_room (Nat.zero_le _)) dsJ0_checkIndex_df160_5 ⟨Nat.le_refl _, Nat.le_refl _⟩) hS (fun _ _ z => z) (fun _ z => z) (fun r u t H1 locs1 ht hal hpost _ hz1 hk1 hS1 => ?_)
    refine lv_pop hx hb dsJ0_checkIndex_df160_8 rfl ?_
    exact W.vret hx hb hr (fun t ht hW => ⟨⟨(), rfl, trivial, trivial⟩, hS1.F ht⟩) hS1.2.2 dsJ0_checkIndex_df160_9
theorem dsJ1_charAt_3b067_0 : decode cJ1_charAt_3b067 0 = .ok (.iload_n 1, 1) := by decide +kernel
theorem dsJ1_charAt_3b067_1 : decode cJ1_charAt_3b067 1 = .ok (.aload_n 0, 1) := by decide +kernel
theorem dsJ1_charAt_3b067_2 : decode cJ1_charAt_3b067 2 = .ok (.arraylength, 1) := by decide +kernel
theorem dsJ1_charAt_3b067_3 : decode cJ1_charAt_3b067 3 = .ok (.invokestatic 9, 3) := by decide +kernel
theorem dsJ1_charAt_3b067_6 : decode cJ1_charAt_3b067 6 = .ok (.aload_n 0, 1) := by decide +kernel
theorem dsJ1_charAt_3b067_7 : decode cJ1_charAt_3b067 7 = .ok (.iload_n 1, 1) := by decide +kernel
theorem dsJ1_charAt_3b067_8 : decode cJ1_charAt_3b067 8 = .ok (.baload, 1) := by decide +kernel
theorem dsJ1_charAt_3b067_9 : decode cJ1_charAt_3b067 9 = .ok (.sipush 255, 3) := by decide +kernel
theorem dsJ1_charAt_3b067_12 : decode cJ1_charAt_3b067 12 = .ok (.iand, 1) := by decide +kernel
theorem dsJ1_charAt_3b067_13 : decode cJ1_charAt_3b067 13 = .ok (.i2c, 1) := by decide +kernel
theorem dsJ1_charAt_3b067_14 : decode cJ1_charAt_3b067 14 = .ok (.ireturn, 1) := by decide +kernel
theorem mt_chL (hk : k < q.length) (hn : q.length < 2147483648) (hq : q.getD k 0 < 128) : Met l yJ1_charAt_3b067 (Cond.code yJ1_charAt_3b067 cJ1_charAt_3b067 2 (some .char) :: lw_gt) (xrz (d + 2)) (va_Pc [.ref b, .int (nI k)] (xSv b sz q)) (va_Qi (fun r (_ : Unit) => r = nI (q.getD k 0)) (fun _ _ => True) (xSb sz)) 0 0 (xSb sz) := by
  refine Met.ofW (cc := cJ1_charAt_3b067) (maxL := 2) (ret := (some .char)) (by decide +kernel) rfl ?_
  intro p e s m args below meth c s₁ B hml hv
  obtain ⟨rfl, hsz, hT, hz⟩ := hv
  have hts0 := atoms_spec (ws := Cond.code yJ1_charAt_3b067 cJ1_charAt_3b067 2 (some .char) :: lw_gt) B.pre
  have hts : ∀ w ∈ lw_gt, w.before ([.ref b, .int (nI k)] : List Value).toArray s = true := fun w hw => hts0 w (List.mem_cons_of_mem _ hw)
  have hown : s.vm.findClass "java/lang/StringLatin1" = some m.cls := findClass_of_methodNamed B.named
  have hr := B.returns
  have hx := B.exec
  have hb := B.bytes
  have F : CallFix p m c cJ1_charAt_3b067 2 s ([.ref b, .int (nI k)] : List Value).toArray lw_gt "java/lang/StringLatin1" := ⟨hx, hb, hml, hown, hts⟩
  have hS : va_S (xSb sz) s.heap s.heap [] := va_S.rf
  have hl := lv_entry [.ref b, .int (nI k)] (n := 2) (Nat.le_of_ble_eq_true rfl)
  rw [lg_entry_eq]
  generalize (lg_sl [.ref b, .int (nI k)] ++ List.replicate (2 - (lg_sl [.ref b, .int (nI k)]).length) Slot.unset).toArray = ls at hl ⊢
  have hl : lv_has ls 2 [(0, .ref b), (1, .int (nI k))] := hl
  refine lv_iload_n hx hb dsJ1_charAt_3b067_0 rfl (lv_at hl 1 rfl) ?_
  refine lv_aload_n hx hb dsJ1_charAt_3b067_1 rfl (lv_at hl 0 rfl) ?_
  refine va_tlen hx hb hT hS rfl dsJ1_charAt_3b067_2 ?_
  refine va_callv (va_runS (As := [.int (nI k), .int (nI q.length)]) F (mt_chk (l := l) (sz := sz) (d := d) hk hn) ⟨(callB_of _ hts (lw_goodIn (xtb 742 (by decide +kernel) rfl)) rfl rfl rfl (hts _ (xtb 140 (by decide +kernel) rfl)) (hts _ (xtb 740 (by decide +kernel) rfl)) ⟨by decide +kernel, by decide +kernel, (by show Option.map _ _ = some 2; decide +kernel)⟩ ⟨Nat.le_refl _, (by show 8 + (2 + 11) + 84 * (d + 1) ≤ 84 * ((d + 1) + 1); omega)⟩), (hts _ (xtb 741 (by decide +kernel) rfl))⟩ ⟨xSw_bl, fun U hU hW => ⟨rfl, by rw [hU]; exact hsz, (by rw [hU]; exact xSt.moved hW.alike hz)⟩⟩ rfl rfl hl.1 rfl (lv_room (Nat.zero_le _)) dsJ1_charAt_3b067_3 ⟨Nat.le_refl _, Nat.le_refl _⟩) hS (fun _ _ z => z) (fun _ z => z) (fun u t H1 locs1 ht hal hpost _ hz1 hk1 hS1 => ?_)
  refine lv_aload_n hx hb dsJ1_charAt_3b067_6 rfl (lv_at hl 0 rfl) ?_
  refine lv_iload_n hx hb dsJ1_charAt_3b067_7 rfl (lv_at hl 1 rfl) ?_
  refine va_tb (v := .int (nI (q.getD k 0))) hx hb hT hS1 (vp_in_nI hk (by omega)) (by rw [nI_clamp (by omega)]) dsJ1_charAt_3b067_8 ?_
  refine lv_sipush (v := 255) hx hb dsJ1_charAt_3b067_9 rfl ?_
  refine lv_iand hx hb dsJ1_charAt_3b067_12 ?_
  refine lv_i2c (v := nI (q.getD k 0)) hx hb dsJ1_charAt_3b067_13 (xs_c7 _ hq).1 ?_
  exact W.zret hx hb hr (xs_c7 _ hq).2 (fun t ht hW => ⟨⟨_, (), rfl, rfl, trivial⟩, hS1.F ht⟩) hS1.2.2 dsJ1_charAt_3b067_14
theorem dsJ0_charAt_5068e_0 : decode cJ0_charAt_5068e 0 = .ok (.aload_n 0, 1) := by decide +kernel
theorem dsJ0_charAt_5068e_1 : decode cJ0_charAt_5068e 1 = .ok (.invokevirtual 492, 3) := by decide +kernel
theorem dsJ0_charAt_5068e_4 : decode cJ0_charAt_5068e 4 = .ok (.ifCond .eq 12, 3) := by decide +kernel
theorem dsJ0_charAt_5068e_7 : decode cJ0_charAt_5068e 7 = .ok (.aload_n 0, 1) := by decide +kernel
theorem dsJ0_charAt_5068e_8 : decode cJ0_charAt_5068e 8 = .ok (.getfield 9, 3) := by decide +kernel
theorem dsJ0_charAt_5068e_11 : decode cJ0_charAt_5068e 11 = .ok (.iload_n 1, 1) := by decide +kernel
theorem dsJ0_charAt_5068e_12 : decode cJ0_charAt_5068e 12 = .ok (.invokestatic 495, 3) := by decide +kernel
theorem dsJ0_charAt_5068e_15 : decode cJ0_charAt_5068e 15 = .ok (.ireturn, 1) := by decide +kernel
theorem mt_chr (hk : k < q.length) (hn : q.length < 2147483648) (hq : q.getD k 0 < 128) : Met l yJ0_charAt_5068e (Cond.code yJ0_charAt_5068e cJ0_charAt_5068e 2 (some .char) :: lw_gt) (xrz (d + 3)) (va_Pc [.ref a, .int (nI k)] (xSk a b sz q)) (va_Qi (fun r (_ : Unit) => r = nI (q.getD k 0)) (fun _ _ => True) (xSb sz)) 0 0 (xSb sz) := by
  refine Met.ofW (cc := cJ0_charAt_5068e) (maxL := 2) (ret := (some .char)) (by decide +kernel) rfl ?_
  intro p e s m args below meth c s₁ B hml hv
  obtain ⟨rfl, hsz, hp, hz⟩ := hv
  have hts0 := atoms_spec (ws := Cond.code yJ0_charAt_5068e cJ0_charAt_5068e 2 (some .char) :: lw_gt) B.pre
  have hts : ∀ w ∈ lw_gt, w.before ([.ref a, .int (nI k)] : List Value).toArray s = true := fun w hw => hts0 w (List.mem_cons_of_mem _ hw)
  have hown : s.vm.findClass "java/lang/String" = some m.cls := findClass_of_methodNamed B.named
  have hr := B.returns
  have hx := B.exec
  have hb := B.bytes
  have F : CallFix p m c cJ0_charAt_5068e 2 s ([.ref a, .int (nI k)] : List Value).toArray lw_gt "java/lang/String" := ⟨hx, hb, hml, hown, hts⟩
  have hS : va_S (xSb sz) s.heap s.heap [] := va_S.rf
  have hl := lv_entry [.ref a, .int (nI k)] (n := 2) (Nat.le_of_ble_eq_true rfl)
  rw [lg_entry_eq]
  generalize (lg_sl [.ref a, .int (nI k)] ++ List.replicate (2 - (lg_sl [.ref a, .int (nI k)]).length) Slot.unset).toArray = ls at hl ⊢
  have hl : lv_has ls 2 [(0, .ref a), (1, .int (nI k))] := hl
  refine lv_aload_n hx hb dsJ0_charAt_5068e_0 rfl (lv_at hl 0 rfl) ?_
  refine va_calli (va_runV (C := "java/lang/String") (As := []) F (mt_latin (l := l) (a := a) (b := b) (sz := sz) (q := q) (d := d + 2)) ⟨(callB_of _ hts (lw_goodIn (xtb 736 (by decide +kernel) rfl)) rfl rfl rfl (hts _ (xtb 140 (by decide +kernel) rfl)) (hts _ (xtb 733 (by decide +kernel) rfl)) ⟨by decide +kernel, by decide +kernel, (by show Option.map _ _ = some 0; decide +kernel)⟩ ⟨Nat.le_refl _, (by show 8 + (1 + 11) + 84 * (d + 2) ≤ 84 * ((d + 2) + 1); omega)⟩), (hts _ (xtb 734 (by decide +kernel) rfl)), (hts _ (xtb 735 (by decide +kernel) rfl))⟩ ⟨xSk_bl, ?_, fun U hU hW => ⟨rfl, by rw [hU]; exact hsz, (by rw [hU]; exact xSp.moved hW.alike hp), (by rw [hU]; exact xSt.moved hW.alike hz)⟩⟩ rfl rfl hl.1 rfl (lv_room (Nat.zero_le _)) dsJ0_charAt_5068e_1 ⟨Nat.le_refl _, Nat.le_refl _⟩) hS (fun _ _ z => z) (fun _ z => z) (fun r u t H1 locs1 ht hal hpost _ hz1 hk1 hS1 => ?_)
  · obtain ⟨cell, h1, h2, h3, -⟩ := hp.1
    exact ⟨cell, h1, h2, h3⟩
  subst hpost
  refine lv_if_eq (tgt := 16) hx hb dsJ0_charAt_5068e_4 rfl (fun h => absurd h (by decide)) (fun _ => ?_)
  refine lv_aload_n hx hb dsJ0_charAt_5068e_7 rfl (lv_at hl 0 rfl) ?_
  refine vk_getf hx hb hp.2.2.1 hS1 hown (hts _ (xtb 2213 (by decide +kernel) rfl)) (fun _ h => h) dsJ0_charAt_5068e_8 ?_
  refine lv_iload_n hx hb dsJ0_charAt_5068e_11 rfl (lv_at hl 1 rfl) ?_
  refine va_calli (va_runS (As := [.ref b, .int (nI k)]) F (mt_chL (l := l) (b := b) (sz := H1.size) (q := q) (d := d) hk hn hq) ⟨(callB_of _ hts (lw_goodIn (xtb 739 (by decide +kernel) rfl)) rfl rfl rfl (hts _ (xtb 141 (by decide +kernel) rfl)) (hts _ (xtb 737 (by decide +kernel) rfl)) ⟨by decide +kernel, by decide +kernel, (by show Option.map _ _ = some 2; decide +kernel)⟩ ⟨Nat.le_refl _, (by show 8 + (2 + 11) + 84 * (d + 2) ≤ 84 * ((d + 2) + 1); omega)⟩), (hts _ (xtb 738 (by decide +kernel) rfl))⟩ ⟨xSv_bl, fun U hU hW => ⟨rfl, by rw [hU], (by rw [hU]; exact va_T.moved hW.alike ((hp.2.2.2.kept hS1.2.1).narrow (fun _ z => Nat.le_trans (by rw [← hsz]; exact hS1.1) z))), (by rw [hU]; exact xSt.moved hW.alike ((hz.kept hS1.2.1).narrow (fun _ z => Nat.le_trans (by rw [← hsz]; exact hS1.1) z)))⟩⟩ rfl rfl hl.1 rfl (lv_room (Nat.zero_le _)) dsJ0_charAt_5068e_12 ⟨Nat.le_refl _, Nat.le_refl _⟩) hS1 (fun _ _ z => Nat.le_trans (by rw [← hsz]; exact hS1.1) z) (fun _ z => Nat.le_trans (by rw [← hsz]; exact hS1.1) z) (fun r u t H2 locs2 ht hal hpost _ hz1 hk1 hS2 => ?_)
  subst hpost
  exact W.zret hx hb hr (xs_c7 _ hq).2 (fun t ht hW => ⟨⟨_, (), rfl, rfl, trivial⟩, hS2.F ht⟩) hS2.2.2 dsJ0_charAt_5068e_15
end XST
section XSU
variable {d p0 pc ln x y ix n i : Nat} {M : xM} {tl : List xI} {lo : xLo} {st : List xV} {hp : xH} {va : xV} {qb : List Nat}
theorem xg_ldcS : xLd d M (p0, (pc, ln, 72, x, y, ix) :: tl, lo, st, hp) [(pc + ln, tl, lo, (8, 100 + x) :: st, hp)] := by
  intro hM hpos p l e R s m args below meth c D A g cw0 tys0 io0 Q C hQ cw tys io H locs ls lv sv hE hK hP hD hS hlv hlo hsv hh
  obtain ⟨q1, q2, q3, q4⟩ := hpos
  have q1 : pc = p0 := q1
  subst q1
  obtain ⟨t', z3, hdec, c0⟩ := q2
  have z4 : xget xopi 72 = some (fun e => .ldc e.2.2.2.2.2, xPst) := rfl
  have z3 : xget xopi 72 = some t' := z3
  rw [z4] at z3
  cases z3
  obtain ⟨a1, tx, c1, c2⟩ := c0
  have a1 : ln = 2 := a1
  subst a1
  have hdec : decode M.2.1 pc = .ok (.ldc ix, 2) := hdec
  obtain ⟨hx, hb, hml, hown, hts, hA, hR, -, hst, -⟩ := id C
  refine va_ldcS hx hb hown (hst.2.2.1 _ _ _ _ c2 c1) hdec ?_
  refine hQ _ List.mem_cons_self ⟨?_, q4⟩ cw tys io H locs ls lv (.ref _ :: sv) hE hK hP hD hS hlv hlo ⟨rfl, hsv⟩ hh
  cases tl with
  | nil => trivial
  | cons a b => exact q3
theorem xg_slen (hcn : hp.2.2.2.1 ≤ M.2.2.2.2.2.2.1) (hsl : hp.2.2.2.2.1 ≤ M.2.2.2.2.2.2.2.1) (hst0 : st.length ≤ 4) (hi : xget xsbt i = some qb) (hl : qb.length < 2147483648) : xLd (d + 2) M (p0, (pc, ln, 73, x, y, ix) :: tl, lo, (8, 100 + i) :: st, hp) [(pc + ln, tl, lo, (0, qb.length) :: st, hp)] := by
  intro hM hpos p l e R s m args below meth c D A g cw0 tys0 io0 Q C hQ cw tys io H locs ls lv sv hE hK hP hD hS hlv hlo hsv hh
  obtain ⟨q1, q2, q3, q4⟩ := hpos
  have q1 : pc = p0 := q1
  subst q1
  obtain ⟨t', z3, hdec, c0⟩ := q2
  have z4 : xget xopi 73 = some (fun e => .invokevirtual e.2.2.2.2.2, xPmm ⟨"java/lang/String", "length", "()I"⟩) := rfl
  have z3 : xget xopi 73 = some t' := z3
  rw [z4] at z3
  cases z3
  obtain ⟨a1, c1⟩ := c0
  have a1 : ln = 3 := a1
  subst a1
  have hdec : decode M.2.1 pc = .ok (.invokevirtual ix, 3) := hdec
  have c1 : Cond.methodLink M.1.cls ix yJ0_length_8abf5 ∈ lw_gt := c1
  obtain ⟨wb, sv2, rfl, r2, hs2⟩ := xrel_cons hsv
  have e2 : wb = .ref (g.2.2 (100 + i)) := r2
  subst e2
  have hlen := xrel_len hs2
  have hcs := xcats sv2
  obtain ⟨hx, hb, hml, hown, hts, hA, hR, -, hst, -⟩ := id C
  have F : CallFix p m c M.2.1 M.2.2.1 s args lw_gt M.1.cls := ⟨hx, hb, hml, hown, hts⟩
  have hp0 := hst.2.1 i qb hi
  have hz0 := hst.2.2.2
  have hF : ∀ z, xSb H.size z → A z := fun z h => hA z (Nat.le_trans hS.1 h)
  refine va_calli (va_runV (C := "java/lang/String") (As := []) F (mt_len (l := l) (a := g.2.2 (100 + i)) (b := g.2.2 (200 + i)) (sz := H.size) (q := qb) (d := d)) ⟨callB_of _ hts (lw_goodIn (xtb 722 (by decide +kernel) rfl)) rfl rfl rfl (hts _ (xtb 140 (by decide +kernel) rfl)) (hts _ c1) ⟨by decide +kernel, by decide +kernel, (by show Option.map _ _ = some 0; decide +kernel)⟩ ⟨hR.1, (by show 8 + (1 + 11) + 84 * (d + 1) ≤ _; omega)⟩, (hts _ (xtb 720 (by decide +kernel) rfl)), (hts _ (xtb 721 (by decide +kernel) rfl))⟩ ⟨xSk_bl, ?_, fun U hU hW => ⟨rfl, by rw [hU], (by rw [hU]; exact xSp.moved hW.alike ((hp0.kept hS.2.1).narrow hF)), (by rw [hU]; exact xSt.moved hW.alike ((hz0.kept hS.2.1).narrow hF))⟩⟩ rfl rfl hlv.1 rfl (lv_room (by omega)) hdec ⟨Nat.le_trans hcn hR.2.2.1, Nat.le_trans hsl hR.2.2.2⟩) hS (fun _ _ z => hF _ z) (fun _ z => hF _ z) (fun r u t H1 locs1 ht hal hpost _ hz1 hk1 hS1 => ?_)
  · obtain ⟨cell, h1, h2, h3, -⟩ := hp0.1.kept hS.2.1
    exact ⟨cell, h1, h2, h3⟩
  subst hpost
  have hP1 : va_P D vwCl cw.flatten H1 := fun j z hj => (hP j z hj).kept (hk1 _ (hP j z hj).lt (fun h => absurd (hP j z hj).lt (by have : H.size ≤ z.1 := h; omega)))
  refine hQ _ List.mem_cons_self ⟨?_, q4⟩ cw tys io H1 locs1 ls lv (.int _ :: sv2) hE hK hP1 hD hS1 hlv hlo ⟨⟨by omega, rfl⟩, hs2⟩ hh
  cases tl with
  | nil => trivial
  | cons a b => exact q3
theorem xg_char (hcn : hp.2.2.2.1 ≤ M.2.2.2.2.2.2.1) (hsl : hp.2.2.2.2.1 ≤ M.2.2.2.2.2.2.2.1) (hst0 : st.length ≤ 4) (hi : xget xsbt i = some qb) (hl : qb.length < 2147483648) (hn : xnm hp.2.1 va = (0, n)) (hk : n < qb.length) (hq : qb.getD n 0 < 128) : xLd (d + 4) M (p0, (pc, ln, 74, x, y, ix) :: tl, lo, va :: (8, 100 + i) :: st, hp) [(pc + ln, tl, lo, (0, qb.getD n 0) :: st, hp)] := by
  intro hM hpos p l e R s m args below meth c D A g cw0 tys0 io0 Q C hQ cw tys io H locs ls lv sv hE hK hP hD hS hlv hlo hsv hh
  obtain ⟨q1, q2, q3, q4⟩ := hpos
  have q1 : pc = p0 := q1
  subst q1
  obtain ⟨t', z3, hdec, c0⟩ := q2
  have z4 : xget xopi 74 = some (fun e => .invokevirtual e.2.2.2.2.2, xPmm ⟨"java/lang/String", "charAt", "(I)C"⟩) := rfl
  have z3 : xget xopi 74 = some t' := z3
  rw [z4] at z3
  cases z3
  obtain ⟨a1, c1⟩ := c0
  have a1 : ln = 3 := a1
  subst a1
  have hdec : decode M.2.1 pc = .ok (.invokevirtual ix, 3) := hdec
  have c1 : Cond.methodLink M.1.cls ix yJ0_charAt_5068e ∈ lw_gt := c1
  obtain ⟨wa, sv1, rfl, r1, hs1⟩ := xrel_cons hsv
  have e1 := xnm_ok hh.2.1 r1
  rw [hn] at e1
  obtain ⟨-, e1⟩ := e1
  subst e1
  obtain ⟨wb, sv2, rfl, r2, hs2⟩ := xrel_cons hs1
  have e2 : wb = .ref (g.2.2 (100 + i)) := r2
  subst e2
  have hlen := xrel_len hs2
  have hcs := xcats sv2
  obtain ⟨hx, hb, hml, hown, hts, hA, hR, -, hst, -⟩ := id C
  have F : CallFix p m c M.2.1 M.2.2.1 s args lw_gt M.1.cls := ⟨hx, hb, hml, hown, hts⟩
  have hp0 := hst.2.1 i qb hi
  have hz0 := hst.2.2.2
  have hF : ∀ z, xSb H.size z → A z := fun z h => hA z (Nat.le_trans hS.1 h)
  refine va_calli (va_runV (C := "java/lang/String") (As := [.int (nI n)]) F (mt_chr (l := l) (a := g.2.2 (100 + i)) (b := g.2.2 (200 + i)) (sz := H.size) (q := qb) (d := d) hk hl hq) ⟨callB_of _ hts (lw_goodIn (xtb 732 (by decide +kernel) rfl)) rfl rfl rfl (hts _ (xtb 140 (by decide +kernel) rfl)) (hts _ c1) ⟨by decide +kernel, by decide +kernel, (by show Option.map _ _ = some 1; decide +kernel)⟩ ⟨hR.1, (by show 8 + (2 + 11) + 84 * (d + 3) ≤ _; omega)⟩, (hts _ (xtb 730 (by decide +kernel) rfl)), (hts _ (xtb 731 (by decide +kernel) rfl))⟩ ⟨xSk_bl, ?_, fun U hU hW => ⟨rfl, by rw [hU], (by rw [hU]; exact xSp.moved hW.alike ((hp0.kept hS.2.1).narrow hF)), (by rw [hU]; exact xSt.moved hW.alike ((hz0.kept hS.2.1).narrow hF))⟩⟩ rfl rfl hlv.1 rfl (lv_room (by omega)) hdec ⟨Nat.le_trans hcn hR.2.2.1, Nat.le_trans hsl hR.2.2.2⟩) hS (fun _ _ z => hF _ z) (fun _ z => hF _ z) (fun r u t H1 locs1 ht hal hpost _ hz1 hk1 hS1 => ?_)
  · obtain ⟨cell, h1, h2, h3, -⟩ := hp0.1.kept hS.2.1
    exact ⟨cell, h1, h2, h3⟩
  subst hpost
  have hP1 : va_P D vwCl cw.flatten H1 := fun j z hj => (hP j z hj).kept (hk1 _ (hP j z hj).lt (fun h => absurd (hP j z hj).lt (by have : H.size ≤ z.1 := h; omega)))
  refine hQ _ List.mem_cons_self ⟨?_, q4⟩ cw tys io H1 locs1 ls lv (.int _ :: sv2) hE hK hP1 hD hS1 hlv hlo ⟨⟨by omega, rfl⟩, hs2⟩ hh
  cases tl with
  | nil => trivial
  | cons a b => exact q3
end XSU
theorem xsbt_ok {i : Nat} {q : List Nat} (h : xget xsbt i = some q) : q.length ≤ 6 ∧ ∀ j, q.getD j 0 < 128 := by
  have key : ∀ q ∈ xsbt, q.length ≤ 6 ∧ ∀ b ∈ q, b < 128 := by decide +kernel
  rw [xget_eq] at h
  obtain ⟨h1, h2⟩ := key q (List.mem_of_getElem? h)
  refine ⟨h1, fun j => ?_⟩
  rw [List.getD_eq_getElem?_getD]
  cases hj : q[j]? with
  | none => exact (by decide : (0 : Nat) < 128)
  | some b => exact h2 b (List.mem_of_getElem? hj)
