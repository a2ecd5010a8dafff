/-! branches and switches -/
theorem xs_icmp : xHok (fun e => .if_icmp (xcnd e.2.2.2.2.1) (xoff e), fun o e => xPn 3 o e ∧ e.2.2.2.2.1 < 6, xh_icmp) := by
  intro ih hI d M i tl lo st hp fs h hM he hd hl hn hc p l e R s m args below meth c D A g cw0 tys0 io0 Q C hQ
  obtain ⟨b, s1, rfl, h1⟩ := xhd_some h
  obtain ⟨a, s2, rfl, h2⟩ := xhd_some h1
  obtain ⟨h0, h2⟩ := xif_some h2
  have a1 : i.2.1 = 3 := hl.1
  have hy := hl.2
  have hd : decode M.2.1 i.1 = .ok (.if_icmp (xcnd i.2.2.2.2.1) (xoff i), i.2.1) := hd
  rw [a1] at hd
  intro cw tys io H locs ls lv sv hE hK hP hD hS hlv hlo hst hh
  obtain ⟨wb, sv1, rfl, r1, hs1⟩ := xrel_cons hst
  obtain ⟨wa, sv2, rfl, r2, hs2⟩ := xrel_cons hs1
  have q1 := xnm_ok hh.2.1 r1
  have q2 := xnm_ok hh.2.1 r2
  have h2 : xans (xask hp.2.1 hp.2.2.1 i.2.2.2.2.1 (xnm hp.2.1 a) (xnm hp.2.1 b)) hp (fun t => cond (Nat.beq (i.2.2.2.2.1 % 2) 0) (cond t (ih d M (i.2.2.2.1, [], lo, s2, hp)) (ih d M (i.1 + i.2.1, tl, lo, s2, hp))) (cond t (ih d M (i.1 + i.2.1, tl, lo, s2, hp)) (ih d M (i.2.2.2.1, [], lo, s2, hp)))) (fun hp' => ih d M (i.1, i :: tl, lo, b :: a :: s2, hp')) = some fs := h2
  obtain ⟨x, rfl⟩ := xisi_ok (Bool.and_eq_true_iff.mp h0).1 r2
  obtain ⟨z, rfl⟩ := xisi_ok (Bool.and_eq_true_iff.mp h0).2 r1
  refine xans_ok h2 (xask_ok hy hh.2.1 hh.2.2.1 q2 q1) hh (fun t f1 hk hsub ht hf => ?_) (fun hp' f1 ha hsub hh' hcs => ?_)
  · refine xrow_icmp hy C.1 C.2.1 hd (xoff_ok i) ht hf ?_
    have jmp : ∀ f1, (∀ φ ∈ f1, φ ∈ fs) → ih d M (i.2.2.2.1, [], lo, s2, hp) = some f1 → W p l e R s m args below meth c H locs hp.2.2.2.1 hp.2.2.2.2.1 Q (F0 m i.2.2.2.1 ls sv2) := fun f1 hsub hk => xgoj hI hk hM C (fun φ hφ => hQ φ (hsub φ hφ)) cw tys io H locs ls lv sv2 hE hK hP hD hS hlv hlo hs2 hh
    have fal : ∀ f1, (∀ φ ∈ f1, φ ∈ fs) → ih d M (i.1 + i.2.1, tl, lo, s2, hp) = some f1 → W p l e R s m args below meth c H locs hp.2.2.2.1 hp.2.2.2.2.1 Q (F0 m (i.1 + 3) ls sv2) := fun f1 hsub hk => by
      have k := xgo hI hk hM hn hc C (fun φ hφ => hQ φ (hsub φ hφ)) cw tys io H locs ls lv sv2 hE hK hP hD hS hlv hlo hs2 hh
      simp only [a1] at k
      exact k
    unfold xnext
    cases hp2 : Nat.beq (i.2.2.2.2.1 % 2) 0 with
    | true =>
      rw [hp2] at hk
      cases t with
      | true => exact jmp f1 hsub hk
      | false => exact fal f1 hsub hk
    | false =>
      rw [hp2] at hk
      cases t with
      | true => exact fal f1 hsub hk
      | false => exact jmp f1 hsub hk
  · have k := xgoi hI ha hM he hn hc C (fun φ hφ => hQ φ (hsub φ hφ)) cw tys io H locs ls lv _ hE hK hP hD hS hlv hlo hst hh'
    simp only [hcs] at k
    exact k
theorem xs_if : xHok (fun e => .ifCond (xcnd e.2.2.2.2.1) (xoff e), fun o e => xPn 3 o e ∧ e.2.2.2.2.1 < 6, xh_if) := by
  intro ih hI d M i tl lo st hp fs h hM he hd hl hn hc p l e R s m args below meth c D A g cw0 tys0 io0 Q C hQ
  obtain ⟨a, s2, rfl, h2⟩ := xhd_some h
  obtain ⟨h0, h2⟩ := xif_some h2
  have a1 : i.2.1 = 3 := hl.1
  have hy := hl.2
  have hd : decode M.2.1 i.1 = .ok (.ifCond (xcnd i.2.2.2.2.1) (xoff i), i.2.1) := hd
  rw [a1] at hd
  intro cw tys io H locs ls lv sv hE hK hP hD hS hlv hlo hst hh
  obtain ⟨wa, sv2, rfl, r2, hs2⟩ := xrel_cons hst
  have q2 := xnm_ok hh.2.1 r2
  have h2 : xans (xask hp.2.1 hp.2.2.1 i.2.2.2.2.1 (xnm hp.2.1 a) (0, 0)) hp (fun t => cond (Nat.beq (i.2.2.2.2.1 % 2) 0) (cond t (ih d M (i.2.2.2.1, [], lo, s2, hp)) (ih d M (i.1 + i.2.1, tl, lo, s2, hp))) (cond t (ih d M (i.1 + i.2.1, tl, lo, s2, hp)) (ih d M (i.2.2.2.1, [], lo, s2, hp)))) (fun hp' => ih d M (i.1, i :: tl, lo, a :: s2, hp')) = some fs := h2
  have q1 : xRv g cw io (0, 0) (.int 0) := ⟨by decide, rfl⟩
  obtain ⟨x, rfl⟩ := xisi_ok h0 r2
  refine xans_ok h2 (xask_ok hy hh.2.1 hh.2.2.1 q2 q1) hh (fun t f1 hk hsub ht hf => ?_) (fun hp' f1 ha hsub hh' hcs => ?_)
  · refine xrow_if hy C.1 C.2.1 hd (xoff_ok i) ht hf ?_
    have jmp : ∀ f1, (∀ φ ∈ f1, φ ∈ fs) → ih d M (i.2.2.2.1, [], lo, s2, hp) = some f1 → W p l e R s m args below meth c H locs hp.2.2.2.1 hp.2.2.2.2.1 Q (F0 m i.2.2.2.1 ls sv2) := fun f1 hsub hk => xgoj hI hk hM C (fun φ hφ => hQ φ (hsub φ hφ)) cw tys io H locs ls lv sv2 hE hK hP hD hS hlv hlo hs2 hh
    have fal : ∀ f1, (∀ φ ∈ f1, φ ∈ fs) → ih d M (i.1 + i.2.1, tl, lo, s2, hp) = some f1 → W p l e R s m args below meth c H locs hp.2.2.2.1 hp.2.2.2.2.1 Q (F0 m (i.1 + 3) ls sv2) := fun f1 hsub hk => by
      have k := xgo hI hk hM hn hc C (fun φ hφ => hQ φ (hsub φ hφ)) cw tys io H locs ls lv sv2 hE hK hP hD hS hlv hlo hs2 hh
      simp only [a1] at k
      exact k
    unfold xnext
    cases hp2 : Nat.beq (i.2.2.2.2.1 % 2) 0 with
    | true =>
      rw [hp2] at hk
      cases t with
      | true => exact jmp f1 hsub hk
      | false => exact fal f1 hsub hk
    | false =>
      rw [hp2] at hk
      cases t with
      | true => exact fal f1 hsub hk
      | false => exact jmp f1 hsub hk
  · have k := xgoi hI ha hM he hn hc C (fun φ hφ => hQ φ (hsub φ hφ)) cw tys io H locs ls lv _ hE hK hP hD hS hlv hlo hst hh'
    simp only [hcs] at k
    exact k
/-- a switch, key by key -/
theorem xswg_ok {p : Program} {l : Launch} {e : Env} {R : Room} {s : State} {m : MethodId} {args : Array Value} {below : List Frame} {meth : Method} {c : Code} {D : va_G} {A : Nat → Prop} {g : xG} {cw0 : xWc} {tys0 : xTy} {io0 : List Nat} {Q : State → Prop} {ih : xK} {d : Nat} {M : xM} {i : xI} {tl : List xI} {lo : xLo} {st s1 : List xV} {hp : xH} {v : xV} {x : Int32} (hI : xIHok ih) (hM : xMb M) (he : xeok M.1.cls M.2.1 i) (hn : xnx i tl) (hc : xcok M.1.cls M.2.1 tl) (C : xCx p R s m args meth c A g io0 d M)
    {cw : xWc} {tys : xTy} {io : List Nat} {H : Heap} {locs : List Loc} {ls : Array Slot} {lv : List (Nat × Value)} {sv : List Value} (hE : xExt cw0 tys0 io0 cw tys io) (hK : va_K D vwCl tys s) (hP : va_P D vwCl cw.flatten H) (hD : va_D A cw.flatten) (hS : va_S A s.heap H locs) (hlv : lv_has ls M.2.2.1 lv) (hlo : xrel (fun (x : Nat × xV) (y : Nat × Value) => x.1 = y.1 ∧ xRv g cw io x.2 y.2) lo lv) (hst : xrel (xRv g cw io) st (.int x :: sv)) (hs1 : xrel (xRv g cw io) s1 sv) (hh : xRh g hp cw tys io) (hv : xRv g cw io v (.int x)) : ∀ (ks : List (Nat × Nat)) (fs : List xS), xswg ih d M i tl lo st s1 hp v ks = some fs → (∀ φ ∈ fs, xpos M φ → xOk p l e R s m args below meth c D A M.2.2.1 g cw0 tys0 io0 Q φ) → (∀ q ∈ ks, q.1 < 4294967296) →
      (∀ q ∈ ks, x = nI q.1 → W p l e R s m args below meth c H locs hp.2.2.2.1 hp.2.2.2.2.1 Q (F0 m q.2 ls sv) → W p l e R s m args below meth c H locs hp.2.2.2.1 hp.2.2.2.2.1 Q (F0 m i.1 ls (.int x :: sv))) → ((∀ q ∈ ks, x ≠ nI q.1) → W p l e R s m args below meth c H locs hp.2.2.2.1 hp.2.2.2.2.1 Q (F0 m i.2.2.2.1 ls sv) → W p l e R s m args below meth c H locs hp.2.2.2.1 hp.2.2.2.2.1 Q (F0 m i.1 ls (.int x :: sv))) → W p l e R s m args below meth c H locs hp.2.2.2.1 hp.2.2.2.2.1 Q (F0 m i.1 ls (.int x :: sv))
  | [], fs, h, hQ, _, _, hout => hout (fun _ h => absurd h List.not_mem_nil) (xgoj hI h hM C hQ cw tys io H locs ls lv sv hE hK hP hD hS hlv hlo hs1 hh)
  | q :: ks, fs, h, hQ, hlt, hin, hout => by
    have h2 : xans (xeq hp.2.1 v (0, q.1)) hp (fun t => cond t (ih d M (q.2, [], lo, s1, hp)) (xswg ih d M i tl lo st s1 hp v ks)) (fun hp' => ih d M (i.1, i :: tl, lo, st, hp')) = some fs := h
    refine xans_ok h2 (xeq_ok (g := g) (cw := cw) (y := nI q.1) hh.2.1 hv ⟨hlt q List.mem_cons_self, rfl⟩) hh (fun t f1 hk hsub ht hf => ?_) (fun hp' f1 ha hsub hh' hcs => ?_)
    · cases t with
      | true => exact hin q List.mem_cons_self (ht rfl) (xgoj hI hk hM C (fun φ hφ => hQ φ (hsub φ hφ)) cw tys io H locs ls lv sv hE hK hP hD hS hlv hlo hs1 hh)
      | false => exact xswg_ok hI hM he hn hc C hE hK hP hD hS hlv hlo hst hs1 hh hv ks f1 hk (fun φ hφ => hQ φ (hsub φ hφ)) (fun r hr => hlt r (List.mem_cons_of_mem _ hr)) (fun r hr => hin r (List.mem_cons_of_mem _ hr)) (fun hno k => hout (fun r hr => (List.mem_cons.mp hr).elim (fun z => by rw [z]; exact hf rfl) (fun z => hno r z)) k)
    · have k := xgoi hI ha hM he hn hc C (fun φ hφ => hQ φ (hsub φ hφ)) cw tys io H locs ls lv _ hE hK hP hD hS hlv hlo hst hh'
      simp only [hcs] at k
      exact k
