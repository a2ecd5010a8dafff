/-! calls are sound; so is the run -/
theorem xpre_blind {D : va_G} {g : xG} {cw : xWc} {tys : xTy} {io : List Nat} {av : List Value} {sz : Nat} : FrameBlind (xPre D g cw tys io av sz) := by
  intro a U gk mk q
  obtain ⟨q1, q2, q3, q4, q5, q6, q7, q8⟩ := q
  have hal : U.vm.Alike (U.calling gk mk a).vm := Vm.Alike.refl U.vm
  refine ⟨q1, q2, q3, va_K.moved hal q4, q5, ⟨fun i q h => ⟨(q6.1 i q h).1.moved hal, (q6.1 i q h).2.moved hal⟩, fun i q h => ⟨va_O.moved hal (q6.2.1 i q h).1, va_OF.moved hal (q6.2.1 i q h).2.1, va_OF.moved hal (q6.2.1 i q h).2.2.1, va_T.moved hal (q6.2.1 i q h).2.2.2⟩, fun own ix tx i h1 h2 => vk_R.same rfl (q6.2.2.1 own ix tx i h1 h2), va_Z.moved hal q6.2.2.2.1, va_Zq.moved hal q6.2.2.2.2⟩, fun hg => ?_, fun own ix y host h => va_Nw.same rfl rfl (q8.1 own ix y host h), q8.2.moved hal⟩
  obtain ⟨xs, x1, x2, x3, x4⟩ := q7 hg
  exact ⟨xs, x1.moved hal, x2, x3, x4⟩
theorem xpre_at {p : Program} {R : Room} {s : State} {m : MethodId} {args : Array Value} {meth : Method} {c : Code} {D : va_G} {A : Nat → Prop} {g : xG} {cw0 : xWc} {tys0 : xTy} {io0 : List Nat} {d : Nat} {M : xM} (C : xCx p R s m args meth c A g io0 d M) {cw : xWc} {tys : xTy} {io : List Nat} {H : Heap} {locs : List Loc} (hE : xExt cw0 tys0 io0 cw tys io) (hK : va_K D vwCl tys s) (hP : va_P D vwCl cw.flatten H) (hD : va_D A cw.flatten) (hS : va_S A s.heap H locs) (av : List Value) : (∀ q, va_A cw.flatten H.size q → A q) ∧ ∀ U : State, U.heap = H → s.WarmedH U.vm → xPre D g cw tys io av H.size av.toArray U := by
  obtain ⟨-, -, -, -, -, hA, -, -, hst, hsc, hnw⟩ := C
  have hF : ∀ q, va_A cw.flatten H.size q → A q := by
    intro q h
    rcases h with ⟨k, e', h⟩ | h
    · exact hD.2 k _ h
    · exact hA q (Nat.le_trans hS.1 h)
  refine ⟨hF, fun U hU hW => ⟨rfl, by rw [hU], by rw [hU]; exact hP, va_K.moved hW.alike hK, hD.weaken (fun _ _ _ _ => trivial), ⟨fun i q h => ?_, fun i q h => ?_, fun own ix tx i h1 h2 => vk_R.warm hW (hst.2.2.1 own ix tx i h1 h2), ?_, ?_⟩, fun hg => ?_, fun own ix y host h => va_Nw.warmM hW (hnw.1 own ix y host h), hnw.2.moved hW.alike⟩⟩
  · rw [hU]
    exact ⟨(((hst.1 i q h).1.kept hS.2.1).narrow hF).moved hW.alike, (((hst.1 i q h).2.kept hS.2.1).narrow hF).moved hW.alike⟩
  · rw [hU]
    obtain ⟨s1, s2, s3, s4⟩ := hst.2.1 i q h
    exact ⟨va_O.moved hW.alike ((s1.kept hS.2.1).narrow hF), va_OF.moved hW.alike ((s2.kept hS.2.1).narrow hF), va_OF.moved hW.alike ((s3.kept hS.2.1).narrow hF), va_T.moved hW.alike ((s4.kept hS.2.1).narrow hF)⟩
  · rw [hU]
    exact va_Z.moved hW.alike ((hst.2.2.2.1.kept hS.2.1).narrow hF)
  · rw [hU]
    exact va_Zq.moved hW.alike ((hst.2.2.2.2.kept hS.2.1).narrow hF)
  · obtain ⟨xs, x1, x2, x3, x4⟩ := hsc hg
    refine ⟨xs, ?_, ?_, fun z => x3 (hF _ z), fun j hj => ?_⟩
    · rw [hU]
      exact (x1.kept (hS.2.1 _ x2 x3)).moved hW.alike
    · rw [hU]
      exact Nat.lt_of_lt_of_le x2 hS.1
    · obtain ⟨u, u1, u2⟩ := x4 j hj
      exact ⟨u, hE.2.2 _ _ u1, u2⟩
abbrev xws (M' : xM) : List Cond := Cond.code M'.1 M'.2.1 M'.2.2.1 M'.2.2.2.1 :: lw_gt
abbrev xrm (M' : xM) (d' : Nat) : Room := { frames := d', cells := M'.2.2.2.2.2.2.1, slots := M'.2.2.2.2.2.2.2.1, locals := 84 * d' }
theorem xcall2_ok {ih : xK} (hI : xIHok ih) {d' : Nat} {M M' : xM} {i : xI} {tl : List xI} {lo : xLo} {vs rest : List xV} {hp : xH} {fs : List xS} (h : xcall2 ih (d' + 1) M i tl lo hp M' d' vs rest = some fs) (hM : xMb M) (hM' : xMok M') (a1 : i.2.1 = 3) (hn : xnx i tl) (hc : xcok M.1.cls M.2.1 tl) {p : Program} {l : Launch} {e : Env} {R : Room} {s : State} {m : MethodId} {args : Array Value} {below : List Frame} {meth : Method} {c : Code} {D : va_G} {A : Nat → Prop} {g : xG} {cw0 : xWc} {tys0 : xTy} {io0 : List Nat} {Q : State → Prop} (C : xCx p R s m args meth c A g io0 (d' + 1) M) (hQ : ∀ φ ∈ fs, xpos M φ → xOk p l e R s m args below meth c D A M.2.2.1 g cw0 tys0 io0 Q φ)
    {cw : xWc} {tys : xTy} {io : List Nat} {H : Heap} {locs : List Loc} {ls : Array Slot} {lv : List (Nat × Value)} {av svr st0 : List Value} (hE : xExt cw0 tys0 io0 cw tys io) (hK : va_K D vwCl tys s) (hP : va_P D vwCl cw.flatten H) (hD : va_D A cw.flatten) (hS : va_S A s.heap H locs) (hlv : lv_has ls M.2.2.1 lv) (hlo : xrel (fun (x : Nat × xV) (y : Nat × Value) => x.1 = y.1 ∧ xRv g cw io x.2 y.2) lo lv) (hvs : xrel (xRv g cw io) vs av) (hrest : xrel (xRv g cw io) rest svr) (hh : xRh g hp cw tys io)
    (hrun : ∀ (Qc : Array Value → State → Outcome → State → Prop), Met l M'.1 (xws M') (xrm M' d') (xPre D g cw tys io av H.size) Qc M'.2.2.2.2.2.2.1 M'.2.2.2.2.2.2.2.1 (va_A cw.flatten H.size) → hp.2.2.2.1 + M'.2.2.2.2.2.2.1 ≤ R.cells ∧ hp.2.2.2.2.1 + M'.2.2.2.2.2.2.2.1 ≤ R.slots → (svr.map fun v => v.category).sum ≤ 8 → va_Run p l e R s m args below meth c H locs hp.2.2.2.1 hp.2.2.2.2.1 M'.2.2.2.2.2.2.1 M'.2.2.2.2.2.2.2.1 (F0 m i.1 ls st0) svr (Qc av.toArray) (va_A cw.flatten H.size)) : W p l e R s m args below meth c H locs hp.2.2.2.1 hp.2.2.2.2.1 Q (F0 m i.1 ls st0) := by
  obtain ⟨h1, h2⟩ := xif_some h
  obtain ⟨h3, h4⟩ := Bool.and_eq_true_iff.mp h1
  obtain ⟨h5, h6⟩ := Bool.and_eq_true_iff.mp h3
  obtain ⟨h7, h8⟩ := Bool.and_eq_true_iff.mp h4
  obtain ⟨fc, h9, h10⟩ := xob_some h2
  have h5 := xble h5
  have h6 := xble h6
  have h7 := xble h7
  have h8 := xble h8
  have hall := xall_some h10
  have hR := C.2.2.2.2.2.2.1
  have hfs : ∀ φ ∈ fc, (∃ r, xret M'.2.2.2.2.2.1 φ = some r) ∧ φ.2.2.2.2.2.2.2.1 ≤ M'.2.2.2.2.2.2.1 ∧ φ.2.2.2.2.2.2.2.2.1 ≤ M'.2.2.2.2.2.2.2.1 := by
    intro φ hφ
    obtain ⟨τ, r1, k1, -, -⟩ := hall φ hφ
    obtain ⟨r, k2, k3, k4, -⟩ := xback_some k1
    exact ⟨⟨r, k2⟩, k3, k4⟩
  have hh0 : xRh g (hp.1, hp.2.1, hp.2.2.1, 0, 0, hp.2.2.2.2.2) cw tys io := hh
  have hmet := xmet (l := l) (D := D) hI H.size h9 hM' hvs h6 hh0 hfs
  have hlen := xrel_len hrest
  have hcs := xcsum hrest
  have hr := hrun _ hmet ⟨by omega, by omega⟩ (by omega)
  obtain ⟨hF, -⟩ := xpre_at C hE hK hP hD hS av
  -- behind the call
  have hgo : ∀ (u : xU) (t : State) (H1 : Heap) (locs1 : List Loc) (rv : List Value) (r : List xV), t.heap = H1 → s.vm.Alike t.vm → xret M'.2.2.2.2.2.1 u.2.2.2 = some r → xrel (xRv g u.1 u.2.2.1) r rv → xBk D g (va_A cw.flatten H.size) cw tys io fc u t → va_S A s.heap H1 locs1 → W p l e R s m args below meth c H1 locs1 (hp.2.2.2.1 + M'.2.2.2.2.2.2.1) (hp.2.2.2.2.1 + M'.2.2.2.2.2.2.2.1) Q (F0 m (i.1 + 3) ls (rv ++ svr)) := by
    intro u t H1 locs1 rv r ht hvm hret hrv hB hS1
    obtain ⟨cw', tys', io', φ⟩ := u
    obtain ⟨hφ, hE', hP', hK', hD', hh'⟩ := hB
    obtain ⟨τ, r1, k1, k2, k3⟩ := hall φ hφ
    obtain ⟨r', k4, -, -, rfl⟩ := xback_some k1
    have hret : xret M'.2.2.2.2.2.1 φ = some r := hret
    rw [hret] at k4
    cases k4
    have K := xgo hI k2 hM hn hc C (fun φ hφ => hQ φ (k3 φ hφ))
    have hP' : va_P D vwCl cw'.flatten H1 := by rw [← ht]; exact hP'
    have k := K cw' tys' io' H1 locs1 ls lv (rv ++ svr) (hE.tr hE') (va_K.moved hvm.symm hK') hP' (hD'.weaken (fun _ q _ z => hF _ z)) hS1 hlv (xrel_imp (fun _ _ q => ⟨q.1, q.2.ext hE'⟩) hlo) (xrel_app (xrel_imp (fun _ _ q => q.ext hE') hrest) hrv) hh'
    simp only [a1] at k
    exact k
  have hrk := hM'.1.2.2.2.2.2.2
  generalize M'.2.2.2.2.2.1 = rk at *
  unfold xrk at hrk
  split at hrk
  · exact va_callv (a := av.toArray) hr hS (fun q _ z => hF q z) hF (fun u t H1 locs1 ht hvm hw hB _ _ hS1 => hgo u t H1 locs1 [] [] ht hvm hw trivial hB hS1)
  · exact va_calli (a := av.toArray) hr hS (fun q _ z => hF q z) hF (fun r u t H1 locs1 ht hvm hw hB _ _ hS1 => by
      obtain ⟨v, w1, w2⟩ := hw
      exact hgo u t H1 locs1 [.int r] [v] ht hvm w1 ⟨w2, trivial⟩ hB hS1)
  · exact va_calll (a := av.toArray) hr hS (fun q _ z => hF q z) hF (fun r u t H1 locs1 ht hvm hw hB _ _ hS1 => by
      obtain ⟨v, w1, w2⟩ := hw
      exact hgo u t H1 locs1 [.long r] [v] ht hvm w1 ⟨w2, trivial⟩ hB hS1)
  · exact va_callq (a := av.toArray) hr hS (fun q _ z => hF q z) hF (fun r u t H1 locs1 ht hvm hw hB _ _ hS1 => by
      obtain ⟨v, w1, w2⟩ := hw
      exact hgo u t H1 locs1 [va_rf r] [v] ht hvm w1 ⟨w2, trivial⟩ hB hS1)
  · exact va_calli (a := av.toArray) hr hS (fun q _ z => hF q z) hF (fun r u t H1 locs1 ht hvm hw hB _ _ hS1 => by
      obtain ⟨v, w1, w2⟩ := hw
      exact hgo u t H1 locs1 [.int r] [v] ht hvm w1 ⟨w2, trivial⟩ hB hS1)
  · exact hrk.elim
/-- all the methods of the table hold -/
def xMall : Prop := ∀ (k : Nat) (M : xM), mget k = some M → xMok M
theorem xcb {M M' : xM} {d' : Nat} {p : Program} {R : Room} {s : State} {m : MethodId} {args : Array Value} {meth : Method} {c : Code} {A : Nat → Prop} {g : xG} {io0 : List Nat} {ix : Nat} (hM' : xMok M') (C : xCx p R s m args meth c A g io0 (d' + 1) M) (hl : Cond.methodLink M.1.cls ix M'.1 ∈ lw_gt) : CallB R s args M.1.cls ix M'.1 M'.2.1 M'.2.2.1 M'.2.2.2.1 (xws M') (xrm M' d') M'.2.2.2.2.2.2.1 M'.2.2.2.2.2.2.2.1 M'.2.2.2.2.1 := by
  obtain ⟨-, -, -, -, hts, -, hR, -⟩ := C
  obtain ⟨⟨m1, m2, m3, m4, m5, m6, m7⟩, -⟩ := hM'
  refine callB_of _ hts (lw_goodIn m2) rfl rfl rfl (hts _ m3) (hts _ hl) ⟨m4.1, m4.2, m5⟩ ⟨by show d' + 1 ≤ _; omega, ?_⟩
  show 8 + (M'.2.2.1 + 11) + 84 * d' ≤ _
  omega
theorem xcn {M M' : xM} {d' : Nat} {p : Program} {R : Room} {s : State} {m : MethodId} {args : Array Value} {meth : Method} {c : Code} {A : Nat → Prop} {g : xG} {io0 : List Nat} {ix : Nat} {host : String} (hM' : xMok M') (C : xCx p R s m args meth c A g io0 (d' + 1) M) (hl : Cond.methodLinkNest M.1.cls ix M'.1 host ∈ lw_tbl) : va_CN R s args M.1.cls ix M'.1 host M'.2.1 M'.2.2.1 M'.2.2.2.1 (xws M') (xrm M' d') M'.2.2.2.2.2.2.1 M'.2.2.2.2.2.2.2.1 M'.2.2.2.2.1 := by
  obtain ⟨-, -, -, -, hts, -, hR, -, -, -, hnw⟩ := C
  obtain ⟨⟨m1, m2, m3, m4, m5, m6, m7⟩, -⟩ := hM'
  refine va_cnB _ hts (lw_goodIn m2) rfl rfl rfl (hnw.1 _ _ _ _ hl) (hts _ m3) ⟨m4.1, m4.2, m5⟩ ⟨by show d' + 1 ≤ _; omega, ?_⟩
  show 8 + (M'.2.2.1 + 11) + 84 * d' ≤ _
  omega
theorem xs_call (hall : xMall) : xHok (fun e => xcalI e, xPca, xh_call) := by
  intro ih hI d M i tl lo st hp fs h hM he hd hl hn hc p l e R s m args below meth c D A g cw0 tys0 io0 Q C hQ
  obtain ⟨M', h1, h2⟩ := xob_some h
  have hM' := hall _ _ h1
  cases d with
  | zero => cases h2
  | succ d' =>
    have h2 : xcall1 ih (d' + 1) M i tl lo st hp M' d' = some fs := h2
    obtain ⟨h3, h4⟩ := xif_some h2
    have h3 := xbeq h3
    obtain ⟨a1, M2, c1, c2⟩ := hl
    rw [h1] at c1
    cases c1
    have hd : decode M.2.1 i.1 = .ok (xcalI i, i.2.1) := hd
    rw [a1] at hd
    intro cw tys io H locs ls lv sv hE hK hP hD hS hlv hlo hst hh
    have ht := xrel_take hst M'.2.2.2.2.1
    have hdr := xrel_drop hst M'.2.2.2.2.1
    have hsv : sv.take M'.2.2.2.2.1 ++ sv.drop M'.2.2.2.2.1 = sv := List.take_append_drop _ _
    have hrv := xrel_rev ht
    have hl0 : (sv.take M'.2.2.2.2.1).reverse.length = M'.2.2.2.2.1 := by
      rw [List.length_reverse, ← xrel_len ht]
      exact h3
    obtain ⟨-, hpre⟩ := xpre_at C hE hK hP hD hS []
    have F : CallFix p m c M.2.1 M.2.2.1 s args lw_gt M.1.cls := ⟨C.1, C.2.1, C.2.2.1, C.2.2.2.1, C.2.2.2.2.1⟩
    have hts := C.2.2.2.2.1
    have hk := c2
    rcases (show i.2.2.2.2.1 % 8 = 0 ∨ i.2.2.2.2.1 % 8 = 1 ∨ i.2.2.2.2.1 % 8 = 2 ∨ i.2.2.2.2.1 % 8 = 3 ∨ i.2.2.2.2.1 % 8 = 4 ∨ i.2.2.2.2.1 % 8 = 5 ∨ i.2.2.2.2.1 % 8 = 6 ∨ i.2.2.2.2.1 % 8 = 7 by omega) with z | z | z | z | z | z | z | z
    · rw [z] at h4 hk
      have hd : decode M.2.1 i.1 = .ok (.invokevirtual i.2.2.2.2.2, 3) := by
        have : xcalI i = .invokevirtual i.2.2.2.2.2 := by unfold xcalI; rw [z]; rfl
        rw [← this]; exact hd
      have h4 : xcallV ih (d' + 1) M i tl lo hp M' d' (st.take M'.2.2.2.2.1).reverse (st.drop M'.2.2.2.2.1) = some fs := h4
      obtain ⟨r, s1, e1, h5⟩ := xhd_some h4
      obtain ⟨h6, h7⟩ := xif_some h5
      obtain ⟨q, h8, h9⟩ := xob_some h7
      obtain ⟨o, rfl, h10⟩ := xobj_some h9
      obtain ⟨h11, h12⟩ := xif_some h10
      obtain ⟨hk1, hk2, hk3, qc, hk4, hk5⟩ : Cond.methodLink M.1.cls i.2.2.2.2.2 M'.1 ∈ lw_gt ∧ Cond.instanceMethod M'.1 ∈ lw_gt ∧ Cond.selects M'.1.cls M'.1 M'.1 ∈ lw_gt ∧ ∃ q, vwCl[i.2.2.2.2.1 / 8]? = some q ∧ q.1 = M'.1.cls := hk
      rw [e1] at hdr
      obtain ⟨wr, svr, e2, r1, r2⟩ := xrel_cons hdr
      obtain ⟨tr, nr⟩ := r
      have z2 : tr = 2 := xbeq h6
      subst z2
      obtain ⟨a, e', g1, rfl⟩ := xRv2 r1
      obtain ⟨q', g2, g3⟩ := hh.1.get h8
      rw [g1] at g2
      cases g2
      obtain ⟨ci, fl⟩ := o
      have z3 : ci = i.2.2.2.2.1 / 8 := xbeq h11
      cases e' with
      | inl y => exact g3.elim
      | inr o' =>
        obtain ⟨ci', fl'⟩ := o'
        have g4 : ci = ci' := g3.1
        subst g4
        obtain ⟨qf, g8, -⟩ := wfl_get g1
        rw [← z3] at hk4
        refine xcall2_ok hI h12 hM hM' a1 hn hc C hQ hE hK hP hD hS hlv hlo (av := .ref a :: (sv.take M'.2.2.2.2.1).reverse) ⟨r1, hrv⟩ r2 hh (fun Qc hmet hf hcat => ?_)
        refine va_runV (As := (sv.take M'.2.2.2.2.1).reverse) F hmet ⟨xcb hM' C hk1, hts _ hk2, hts _ hk3⟩ ⟨xpre_blind, by rw [← hk5]; exact va_recv hK hP hk4 g8, (xpre_at C hE hK hP hD hS _).2⟩ rfl hl0 hlv.1 ?_ (lv_room hcat) hd hf
        show sv = _
        rw [List.reverse_reverse, ← e2]
        exact hsv.symm
    · rw [z] at hk
      exact hk.elim
    · rw [z] at h4 hk
      have hd : decode M.2.1 i.1 = .ok (.invokestatic i.2.2.2.2.2, 3) := by
        have : xcalI i = .invokestatic i.2.2.2.2.2 := by unfold xcalI; rw [z]; rfl
        rw [← this]; exact hd
      have h4 : xcall2 ih (d' + 1) M i tl lo hp M' d' (st.take M'.2.2.2.2.1).reverse (st.drop M'.2.2.2.2.1) = some fs := h4
      obtain ⟨hk1, hk2⟩ : Cond.methodLink M.1.cls i.2.2.2.2.2 M'.1 ∈ lw_gt ∧ Cond.static M'.1 ∈ lw_gt := hk
      refine xcall2_ok hI h4 hM hM' a1 hn hc C hQ hE hK hP hD hS hlv hlo (av := (sv.take M'.2.2.2.2.1).reverse) hrv hdr hh (fun Qc hmet hf hcat => ?_)
      refine va_runS (As := (sv.take M'.2.2.2.2.1).reverse) F hmet ⟨xcb hM' C hk1, hts _ hk2⟩ ⟨xpre_blind, (xpre_at C hE hK hP hD hS _).2⟩ rfl hl0 hlv.1 ?_ (lv_room hcat) hd hf
      show sv = _
      rw [List.reverse_reverse]
      exact hsv.symm
    · rw [z] at h4 hk
      have hd : decode M.2.1 i.1 = .ok (.invokestatic i.2.2.2.2.2, 3) := by
        have : xcalI i = .invokestatic i.2.2.2.2.2 := by unfold xcalI; rw [z]; rfl
        rw [← this]; exact hd
      have h4 : xcall2 ih (d' + 1) M i tl lo hp M' d' (st.take M'.2.2.2.2.1).reverse (st.drop M'.2.2.2.2.1) = some fs := h4
      obtain ⟨host, hk1, hk2⟩ : ∃ host, Cond.methodLinkNest M.1.cls i.2.2.2.2.2 M'.1 host ∈ lw_tbl ∧ Cond.static M'.1 ∈ lw_gt := hk
      refine xcall2_ok hI h4 hM hM' a1 hn hc C hQ hE hK hP hD hS hlv hlo (av := (sv.take M'.2.2.2.2.1).reverse) hrv hdr hh (fun Qc hmet hf hcat => ?_)
      refine va_runSN (As := (sv.take M'.2.2.2.2.1).reverse) F hmet ⟨xcn hM' C hk1, hts _ hk2, trivial⟩ ⟨xpre_blind, (xpre_at C hE hK hP hD hS _).2⟩ rfl hl0 hlv.1 ?_ (lv_room hcat) hd hf
      show sv = _
      rw [List.reverse_reverse]
      exact hsv.symm
    · rw [z] at h4 hk
      have hd : decode M.2.1 i.1 = .ok (.invokespecial i.2.2.2.2.2, 3) := by
        have : xcalI i = .invokespecial i.2.2.2.2.2 := by unfold xcalI; rw [z]; rfl
        rw [← this]; exact hd
      have h4 : xcallI ih (d' + 1) M i tl lo hp M' d' (st.take M'.2.2.2.2.1).reverse (st.drop M'.2.2.2.2.1) = some fs := h4
      obtain ⟨r, s1, e1, h5⟩ := xhd_some h4
      obtain ⟨h6, h7⟩ := xif_some h5
      obtain ⟨hk1, hk2, hk3, hk4, hk5⟩ : Cond.methodLink M.1.cls i.2.2.2.2.2 M'.1 ∈ lw_gt ∧ M'.1.name = "<init>" ∧ M'.2.2.2.1 = none ∧ M'.2.2.2.2.2.1 = 0 ∧ Cond.instanceMethod M'.1 ∈ lw_gt := hk
      rw [e1] at hdr
      obtain ⟨wr, svr, e2, r1, r2⟩ := xrel_cons hdr
      obtain ⟨tr, nr⟩ := r
      have z2 : tr = 2 := xbeq h6
      subst z2
      obtain ⟨a, e', g1, rfl⟩ := xRv2 r1
      refine xcall2_ok hI h7 hM hM' a1 hn hc C hQ hE hK hP hD hS hlv hlo (av := .ref a :: (sv.take M'.2.2.2.2.1).reverse) ⟨r1, hrv⟩ r2 hh (fun Qc hmet hf hcat => ?_)
      have hcb := xcb hM' C hk1
      rw [hk3] at hcb
      refine va_runI (As := (sv.take M'.2.2.2.2.1).reverse) F hmet ⟨by unfold xws; rw [hk3]; unfold xws at hcb; rw [hk3] at hcb; exact hcb, hk2, hts _ hk5⟩ ⟨xpre_blind, (xpre_at C hE hK hP hD hS _).2⟩ rfl hl0 hlv.1 ?_ (lv_room hcat) hd hf
      show sv = _
      rw [List.reverse_reverse, ← e2]
      exact hsv.symm
    · rw [z] at h4 hk
      have hd : decode M.2.1 i.1 = .ok (.invokespecial i.2.2.2.2.2, 3) := by
        have : xcalI i = .invokespecial i.2.2.2.2.2 := by unfold xcalI; rw [z]; rfl
        rw [← this]; exact hd
      have h4 : xcallI ih (d' + 1) M i tl lo hp M' d' (st.take M'.2.2.2.2.1).reverse (st.drop M'.2.2.2.2.1) = some fs := h4
      obtain ⟨r, s1, e1, h5⟩ := xhd_some h4
      obtain ⟨h6, h7⟩ := xif_some h5
      obtain ⟨host, hk1, hk2, hk3, hk4, hk5⟩ : ∃ host, Cond.methodLinkNest M.1.cls i.2.2.2.2.2 M'.1 host ∈ lw_tbl ∧ M'.1.name = "<init>" ∧ M'.2.2.2.1 = none ∧ M'.2.2.2.2.2.1 = 0 ∧ Cond.instanceMethod M'.1 ∈ lw_gt := hk
      rw [e1] at hdr
      obtain ⟨wr, svr, e2, r1, r2⟩ := xrel_cons hdr
      obtain ⟨tr, nr⟩ := r
      have z2 : tr = 2 := xbeq h6
      subst z2
      obtain ⟨a, e', g1, rfl⟩ := xRv2 r1
      refine xcall2_ok hI h7 hM hM' a1 hn hc C hQ hE hK hP hD hS hlv hlo (av := .ref a :: (sv.take M'.2.2.2.2.1).reverse) ⟨r1, hrv⟩ r2 hh (fun Qc hmet hf hcat => ?_)
      have hcb := xcn hM' C hk1
      rw [hk3] at hcb
      refine va_runIN (As := (sv.take M'.2.2.2.2.1).reverse) F hmet ⟨by unfold xws; rw [hk3]; unfold xws at hcb; rw [hk3] at hcb; exact hcb, hk2, hts _ hk5⟩ ⟨xpre_blind, (xpre_at C hE hK hP hD hS _).2⟩ rfl hl0 hlv.1 ?_ (lv_room hcat) hd hf
      show sv = _
      rw [List.reverse_reverse, ← e2]
      exact hsv.symm
    · rw [z] at hk
      exact hk.elim
    · rw [z] at hk
      exact hk.elim
theorem xs_none {a : xI → Instr} {b : String → xI → Prop} : xHok (a, b, xh_none) := by
  intro ih hI d M i tl lo st hp fs h
  cases h
theorem xops_ok (hall : xMall) : ∀ q ∈ xopi.zip xoph, xHok (q.1.1, q.1.2, q.2) := by
  unfold xopi xoph
  simp only [List.zip_cons_cons, List.zip_nil_left, List.zip_nil_right, List.forall_mem_cons]
  exact ⟨xs_aload, xs_getfield, xs_iload, xs_iconst, xs_bipush, xs_sipush, xs_icmp, xs_if, xs_goto, xs_iinc, xs_iaload, xs_iadd, xs_ret, xs_call hall, xs_putI, xs_istore, xs_imul, xs_iastore, xs_isub, xs_dup, xs_idiv, xs_irem, xs_putFI, xs_newarray, xs_new, xs_objinit, xs_ishl, xs_astore, xs_bastore, xs_ishr, xs_iand, xs_alen, xs_baload, xs_tswitch, xs_lswitch, xs_ldc, xs_ldcw, xs_gets, xs_ior, xs_dup2, xs_pop, xs_i2b, xs_iushr, xs_ifnull, xs_ifnonnull, xs_null, xs_anewarray, xs_aaload, xs_aastore, xs_i2l, xs_l2i, xs_lconst, xs_ldc2, xs_lload, xs_lstore, xs_lmul, xs_ladd, xs_lcmp, xs_copy, xs_putZ, xs_putR, xs_putFR, xs_max, xs_min, xs_none, xs_none, xs_none, xs_none, xs_none, xs_none, xs_none, xs_none, xs_none, xs_none, xs_none, xs_none, xs_none, xs_none, fun _ h => absurd h List.not_mem_nil⟩
/-- one step: a block is sought, or an instruction is run -/
noncomputable def xst1 (ih : xK) (d : Nat) (M : xM) (lo : xLo) (st : List xV) (hp : xH) (i : xI) (tl : List xI) : Option (List xS) := xob (xget xoph i.2.2.1) fun f => f ih d M i tl lo st hp
noncomputable def xseek (ih : xK) (d : Nat) (M : xM) (σ : xS) (o : Option (List xI)) : Option (List xS) := Option.rec (some [σ]) (fun b => ih d M (σ.1, b, σ.2.2)) o
noncomputable def xstep (ih : xK) (d : Nat) (M : xM) (σ : xS) : Option (List xS) := List.rec (xseek ih d M σ (xfind M.2.2.2.2.2.2.2.2 σ.1)) (fun i tl _ => xst1 ih d M σ.2.2.1 σ.2.2.2.1 σ.2.2.2.2 i tl) σ.2.1
noncomputable def xrun (n : Nat) : xK := Nat.rec (fun _ _ _ => none) (fun _ ih => xstep ih) n
theorem xstep_ok (hall : xMall) {ih : xK} (hI : xIHok ih) : xIHok (xstep ih) := by
  intro d M σ fs h hM hpos p l e R s m args below meth c D A g cw0 tys0 io0 Q C hQ
  obtain ⟨pc, cs, lo, st, hp⟩ := σ
  cases cs with
  | nil =>
    have h : xseek ih d M (pc, [], lo, st, hp) (xfind M.2.2.2.2.2.2.2.2 pc) = some fs := h
    cases hf : xfind M.2.2.2.2.2.2.2.2 pc with
    | none =>
      rw [hf] at h
      have h : some [(pc, [], lo, st, hp)] = some fs := h
      cases h
      exact hQ _ List.mem_cons_self hpos
    | some b =>
      rw [hf] at h
      have h : ih d M (pc, b, lo, st, hp) = some fs := h
      have hb := hM _ (xfind_mem hf)
      have K := hI d M (pc, b, lo, st, hp) fs h hM (by
        cases b with
        | nil => exact hb.1.elim
        | cons x y => exact hb) p l e R s m args below meth c D A g cw0 tys0 io0 Q C hQ
      exact K
  | cons i tl =>
    have h : xob (xget xoph i.2.2.1) (fun f => f ih d M i tl lo st hp) = some fs := h
    obtain ⟨f, h1, h2⟩ := xob_some h
    obtain ⟨q1, q2, q3, q4⟩ := hpos
    have q1 : i.1 = pc := q1
    subst q1
    have q2' := q2
    obtain ⟨t', h3, h4, h5⟩ := q2
    rw [xget_eq] at h1 h3
    have hz : (xopi.zip xoph)[i.2.2.1]? = some (t', f) := by
      rw [List.getElem?_zip_eq_some]
      exact ⟨h3, h1⟩
    exact xops_ok hall _ (List.mem_of_getElem? hz) ih hI d M i tl lo st hp fs h2 hM q2' h4 h5 q3 q4 p l e R s m args below meth c D A g cw0 tys0 io0 Q C hQ
theorem xrun_ok (hall : xMall) : ∀ n, xIHok (xrun n)
  | 0 => fun d M σ fs h => by cases h
  | n + 1 => xstep_ok hall (xrun_ok hall n)
