/-! the law's calls, one by one -/
def xCy (_ : List (List xE)) : Prop := True
def xImC (ua : List (Nat × xV)) (w : List (List xE)) : Prop := ∀ k, k < 3 → (xat 4 ua k = (3, 0) ∧ rwk w 84 k = 0) ∨ ∃ q, q < 3 ∧ xat 4 ua k = (2, 114 + 25 * q) ∧ rwk w 84 k ≠ 0 ∧ al w (114 + 25 * q) (k + 1)
def xCo (w : List (List xE)) : Prop := al w 1 0 ∧ (∃ ua, wget w 26 = some (.inr (4, 3, 12, ua)) ∧ xImC ua w ∧ ∀ k k', k < 3 → k' < 3 → xat 4 ua k = xat 4 ua k' → xat 4 ua k ≠ (3, 0) → k = k') ∧ xCy w
theorem xCo.st {w w' : List (List xE)} (h : xCo w) (hk : ∀ k, (k = 26 ∨ k = 84 ∨ 114 ≤ k) → wget w' k = wget w k) (hr : ∀ j, 1340 ≤ j → j < 5360 → rwv w' 83 j = rwv w 83 j) (h0 : al w' 1 0) (hx : xCy w') : xCo w' := by
  obtain ⟨-, ⟨ua, q1, q2, q3⟩, -⟩ := h
  refine ⟨h0, ⟨ua, (hk 26 (by omega)).trans q1, fun k hk3 => ?_, q3⟩, hx⟩
  rcases q2 k hk3 with ⟨z1, z2⟩ | ⟨q, z1, z2, z3, z4⟩
  · exact Or.inl ⟨z1, by rw [rwk_eq (hk 84 (by omega))]; exact z2⟩
  · exact Or.inr ⟨q, z1, z2, by rw [rwk_eq (hk 84 (by omega))]; exact z3, z4.kp (fun o ho => hk _ (by omega)) (fun j a b => hr j (by omega) (by omega))⟩
theorem xFr.kp {S : List Nat} {w w' : List (List xE)} (hf : xFr S w w') (hs : ∀ k ∈ S, k < 114 ∧ k ≠ 26 ∧ k ≠ 84) : ∀ k, (k = 26 ∨ k = 84 ∨ 114 ≤ k) → wget w' k = wget w k := fun k h => hf.1 k (fun z => by have := hs k z; omega)
theorem xCo.fr {S : List Nat} {w w' : List (List xE)} (h : xCo w) (hf : xFr S w w') (hs : ∀ k ∈ S, 26 < k ∧ k < 114 ∧ k ≠ 83 ∧ k ≠ 84) (hx : xCy w') : xCo w' := by
  have r : ∀ j, rwv w' 83 j = rwv w 83 j := fun j => rwv_fr hf (fun z => absurd rfl (hs 83 z).2.2.1)
  exact h.st (fun k hk => hf.1 k (fun z => by have := hs k z; omega)) (fun j _ _ => r j) (h.1.kp (fun o ho => hf.1 _ (fun z => by have := hs _ z; omega)) (fun j _ _ => r j)) hx
theorem xCo.img {w w1 w2 : List (List xE)} {m n n2 kk : Nat} (hC : xCo w) (hL : xLI m w) (hF : (((kk ≤ 2 ∧ n = 1) ∨ (¬ kk ≤ 2 ∧ n = 0)) ∧ (∀ k, k < 114 → k ≠ 26 → wget w1 k = wget w k) ∧ ∃ ua ub, wget w 26 = some (.inr (4, 3, 12, ua)) ∧ wget w1 26 = some (.inr (4, 3, 12, ub)) ∧ (∀ j, j < 3 → (xat 4 ub j = (3, 0) ↔ (xat 4 ua j = (3, 0) ∧ j ≠ kk))) ∧ (kk ≤ 2 → ∃ q, xat 4 ub kk = (2, 114 + 25 * q) ∧ ((xat 4 ua kk = (3, 0) ∧ q = m) ∨ xat 4 ua kk = (2, 114 + 25 * q)) ∧ tdE w1 (114 + 25 * q) w 1 ∧ (∀ k, k < 114 + 25 * m → (k < 114 + 25 * q ∨ 139 + 25 * q ≤ k) → k ≠ 26 → wget w1 k = wget w k) ∧ ∀ j, j < 3 → j ≠ kk → xat 4 ub j = xat 4 ua j) ∧ (¬ kk ≤ 2 → w1 = w))) (hR : xFr [83, 84] w1 w2) (hG : ((kk ≤ 2 ∧ n2 = 1) ∨ (¬ kk ≤ 2 ∧ n2 = 0)) ∧ (∀ j, j < 3 → rwk w2 84 j = if j = kk then 1 else rwk w1 84 j) ∧ (∀ i, i < 1340 → kk ≤ 2 → rwv w2 83 (1340 * (kk + 1) + i) = rwv w1 83 i) ∧ (∀ j, j < 5360 → (j < 1340 * (kk + 1) ∨ 1340 * (kk + 2) ≤ j) → rwv w2 83 j = rwv w1 83 j)) (hx : xCy w2) : xCo w2 := by
  obtain ⟨h0, ⟨ua, q1, q2, q3⟩, -⟩ := hC
  obtain ⟨-, hk1, uc, ub, z1, z2, z3, z4, z5⟩ := hF
  rw [q1] at z1
  cases z1
  obtain ⟨-, hr84, hcp, hke⟩ := hG
  obtain ⟨-, -, -, -, ud, y1, y2, y3⟩ := hL
  rw [q1] at y1
  cases y1
  have r1 : ∀ j, rwv w1 83 j = rwv w 83 j := fun j => rwv_eq (hk1 83 (by decide) (by decide))
  have k1 : ∀ j, rwk w1 84 j = rwk w 84 j := fun j => rwk_eq (hk1 84 (by decide) (by decide))
  have e1 : ∀ c, c < 26 → wget w2 c = wget w c := fun c hc => (hR.1 c (fun z => by
    have : c = 83 ∨ c = 84 := by simpa using z
    omega)).trans (hk1 c (by omega) (by omega))
  have e2 : ∀ c, 114 ≤ c → wget w2 c = wget w1 c := fun c hc => hR.1 c (fun z => by
    have : c = 83 ∨ c = 84 := by simpa using z
    omega)
  have c0 : al w2 1 0 := h0.kp (fun o ho => e1 (1 + o) (by omega)) (fun j a b => (hke j (by omega) (Or.inl (by omega))).trans (r1 j))
  by_cases hk2 : kk ≤ 2
  · obtain ⟨q, t1, t2, t3, t7, t8⟩ := z4 hk2
    have hne : ∀ k, k < 3 → k ≠ kk → xat 4 ua k ≠ (2, 114 + 25 * q) := by
      intro k hk hkk e
      rcases t2 with ⟨t9, t10⟩ | t9
      · rcases y2 k hk with z | ⟨i, z6, z7⟩
        · exact n23 (e.symm.trans z)
        · have := congrArg Prod.snd (e.symm.trans z7)
          have : 114 + 25 * q = 114 + 25 * i := this
          omega
      · exact hkk (q3 k kk hk (by omega) (e.trans t9.symm) (by rw [e]; exact n23))
    have hq3 : q < 3 := by
      rcases t2 with ⟨t9, t10⟩ | t9
      · have := nn26_two (by omega) t9
        omega
      · rcases q2 kk (by omega) with ⟨z6, -⟩ | ⟨q', z6, z7, -⟩
        · exact absurd (t9.symm.trans z6) n23
        · have := congrArg Prod.snd (t9.symm.trans z7)
          have : 114 + 25 * q = 114 + 25 * q' := this
          omega
    refine ⟨c0, ⟨ub, hR.get (by decide) z2, fun k hk => ?_, fun k k' hk hk' he hn => ?_⟩, hx⟩
    · by_cases e : k = kk
      · subst e
        refine Or.inr ⟨q, hq3, t1, ?_, h0.cp (t3.tr0 (fun o ho => e2 _ (by omega)) (fun _ _ => rfl)) (fun j hj => ?_)⟩
        · rw [hr84 k hk, if_pos rfl]
          decide
        · rw [hcp j hj hk2, r1, Nat.mul_zero, Nat.zero_add]
      · rw [t8 k hk e]
        rcases q2 k hk with ⟨z6, z7⟩ | ⟨q', z6, z7, z8, z9⟩
        · exact Or.inl ⟨z6, by rw [hr84 k hk, if_neg e, k1]; exact z7⟩
        · have hqq : q' ≠ q := fun z => hne k hk e (by rw [← z]; exact z7)
          have hqm : q' < m := by
            rcases y2 k hk with z | ⟨i, z11, z12⟩
            · exact absurd (z7.symm.trans z) n23
            · have := congrArg Prod.snd (z7.symm.trans z12)
              have : 114 + 25 * q' = 114 + 25 * i := this
              omega
          have e3 : ∀ o, o < 25 → wget w2 (114 + 25 * q' + o) = wget w (114 + 25 * q' + o) := fun o ho => (e2 _ (by omega)).trans (t7 _ (by omega) (by omega) (by omega))
          exact Or.inr ⟨q', z6, z7, by rw [hr84 k hk, if_neg e, k1]; exact z8, z9.kp e3 (fun j a b => (hke j (by omega) (by omega)).trans (r1 j))⟩
    · by_cases e : k = kk
      · by_cases e' : k' = kk
        · omega
        · rw [t8 k' hk' e', e, t1] at he
          exact absurd he.symm (hne k' hk' e')
      · by_cases e' : k' = kk
        · rw [t8 k hk e, e', t1] at he
          exact absurd he (hne k hk e)
        · rw [t8 k hk e, t8 k' hk' e'] at he
          rw [t8 k hk e] at hn
          exact q3 k k' hk hk' he hn
  · have z6 := z5 hk2
    subst z6
    refine ⟨c0, ⟨ua, hR.get (by decide) q1, fun k hk => ?_, q3⟩, hx⟩
    have e : k ≠ kk := by omega
    rcases q2 k hk with ⟨z6, z7⟩ | ⟨q', z6, z7, z8, z9⟩
    · exact Or.inl ⟨z6, by rw [hr84 k hk, if_neg e]; exact z7⟩
    · exact Or.inr ⟨q', z6, z7, by rw [hr84 k hk, if_neg e]; exact z8, z9.kp (fun o ho => e2 _ (by omega)) (fun j a b => hke j (by omega) (by omega))⟩
theorem xCo.agn {w w1 w2 : List (List xE)} {S : List Nat} {mm n n2 kk : Nat} {us0 : List (Nat × xV)} (hC : xCo w) (h26 : wget w 26 = some (.inr (4, 3, 12, us0))) (hF : (n = 1 ∧ kk ≤ 2 ∧ ∃ q, q < mm ∧ xat 4 us0 kk = (2, 114 + 25 * q) ∧ tdE w1 1 w (114 + 25 * q) ∧ fgE w1 ∧ fld w1 76 9 = 0 ∧ fld w1 76 10 = 0 ∧ fld w1 76 11 = 0) ∨ (n = 0 ∧ ¬ (kk ≤ 2 ∧ xat 4 us0 kk ≠ (3, 0)) ∧ w1 = w)) (hR : xFr S w w1) (hS : ∀ k ∈ S, (k < 114 ∧ k ≠ 26 ∧ k ≠ 84) ∧ k ≠ 83) (hG : ((n2 = 1 ∧ kk ≤ 2 ∧ rwk w1 84 kk ≠ 0) ∨ (n2 = 0 ∧ ¬ (kk ≤ 2 ∧ rwk w1 84 kk ≠ 0))) ∧ (n2 = 1 → ∀ i, i < 1340 → rwv w2 83 i = rwv w1 83 (1340 * (kk + 1) + i)) ∧ (∀ j, 1340 ≤ j → j < 5360 → rwv w2 83 j = rwv w1 83 j) ∧ (n2 = 0 → w2 = w1)) (hR2 : xFr [83] w1 w2) (hx : n = 1 → xCy w2) : n = n2 ∧ xCo w2 := by
  obtain ⟨h0, ⟨ua, q1, q2, q3⟩, -⟩ := id hC
  rw [h26] at q1
  cases q1
  have r1 : ∀ j, rwv w1 83 j = rwv w 83 j := fun j => rwv_fr hR (fun z => absurd rfl (hS 83 z).2)
  have k1 : rwk w1 84 kk = rwk w 84 kk := rwk_eq (hR.1 84 (fun z => absurd rfl (hS 84 z).1.2.2))
  have kp2 : ∀ k, (k = 26 ∨ k = 84 ∨ 114 ≤ k) → wget w2 k = wget w k := fun k h => (hR2.kp (by decide) k h).trans (hR.kp (fun k hk => (hS k hk).1) k h)
  have e2 : ∀ c, c < 83 → wget w2 c = wget w1 c := fun c hc => hR2.1 c (fun z => by
    have := List.mem_singleton.mp z
    omega)
  obtain ⟨g1, g2, g3, g4⟩ := hG
  rcases hF with ⟨a1, a2, q, a3, a4, a5, -⟩ | ⟨a1, a2, a3⟩
  · rcases q2 kk (by omega) with ⟨z6, -⟩ | ⟨q', z6, z7, z8, z9⟩
    · exact absurd (a4.symm.trans z6) n23
    · have hqq := congrArg Prod.snd (a4.symm.trans z7)
      have hqq : 114 + 25 * q = 114 + 25 * q' := hqq
      have hqq : q = q' := by omega
      subst hqq
      have hn2 : n2 = 1 := by
        rcases g1 with ⟨c1, -⟩ | ⟨-, c2⟩
        · exact c1
        · exact absurd ⟨a2, by rw [k1]; exact z8⟩ c2
      have g2 := g2 hn2
      refine ⟨by omega, hC.st kp2 (fun j x y => (g3 j x y).trans (r1 j)) (z9.cp (a5.tr0 (fun o ho => e2 _ (by omega)) (fun _ _ => rfl)) (fun j hj => ?_)) (hx a1)⟩
      rw [Nat.mul_zero, Nat.zero_add, g2 j hj, r1]
  · subst a3
    have hn2 : n2 = 0 := by
      rcases g1 with ⟨c1, c2, c3⟩ | ⟨c1, -⟩
      · exfalso
        rcases q2 kk (by omega) with ⟨z6, z7⟩ | ⟨q', z6, z7, -⟩
        · exact c3 z7
        · exact a2 ⟨c2, by rw [z7]; exact n23⟩
      · exact c1
    have := g4 hn2
    subst this
    exact ⟨by omega, hC⟩
section XLC
variable {L d p0 p1 p2 p3 p4 pc ln op x y ix i k m u cn sl : Nat} {us : Nat → Nat} {M : xM} {σ : xS} {P : xS → Prop} {tl : List xI} {lo : xLo} {st vs rest : List xV} {hp : xH} {w : List (List xE)} {rr : Nat × Nat}
theorem xg_eX (h : P σ) : xToX L us d M σ P := ⟨σ, xLd.rf.toX, h⟩
theorem lwA (hk : i + k < L) (hL : L < 2147483648) : xLdX L us d M (p0, (pc, 1, 0, 0, 0, 0) :: (p1, 1, 2, 3, 0, 0) :: (p2, ln, 3, k, 0, 0) :: (p3, 1, 11, 0, 0, 0) :: (p4, 1, 10, 0, 0, 0) :: tl, [(3, (0, i)), (2, (2, 82)), (1, (2, 0)), (0, (8, 99))], st, hp) [(p4 + 1, tl, [(3, (0, i)), (2, (2, 82)), (1, (2, 0)), (0, (8, 99))], (0, us (i + k)) :: st, hp)] := by
  refine xthenX (xg_aload (va := (8, 99)) rfl rfl).toX ?_
  refine xthenX (xg_iload (va := (0, i)) rfl rfl).toX ?_
  refine xthenX xg_const.toX ?_
  refine xthenX (xg_iadd (u := i) (v := k) (z := i + k) xnm0 xnm0 (Nat.mod_eq_of_lt (by omega))).toX ?_
  exact xg_sldX xnm0 hk hL
theorem lwA4 (hk : i + k < L) (hL : L < 2147483648) : xLdX L us d M (p0, (pc, 1, 0, 0, 0, 0) :: (p1, 1, 2, 3, 0, 0) :: (p2, ln, 4, k, 0, 0) :: (p3, 1, 11, 0, 0, 0) :: (p4, 1, 10, 0, 0, 0) :: tl, [(3, (0, i)), (2, (2, 82)), (1, (2, 0)), (0, (8, 99))], st, hp) [(p4 + 1, tl, [(3, (0, i)), (2, (2, 82)), (1, (2, 0)), (0, (8, 99))], (0, us (i + k)) :: st, hp)] := by
  refine xthenX (xg_aload (va := (8, 99)) rfl rfl).toX ?_
  refine xthenX (xg_iload (va := (0, i)) rfl rfl).toX ?_
  refine xthenX xg_bip.toX ?_
  refine xthenX (xg_iadd (u := i) (v := k) (z := i + k) xnm0 xnm0 (Nat.mod_eq_of_lt (by omega))).toX ?_
  exact xg_sldX xnm0 hk hL
theorem xMnv.o82 (h : xMnv w) : ∃ fl, wget w 82 = some (.inl (12, fl)) := by
  obtain ⟨a2, a3, a4, a5, a6, a7, a8, a9, a10, a14, a22, a23, a24, a33, a41, a42, h1, -⟩ := (xqc82 h : cp82 (wget w 82))
  exact ⟨_, h1⟩
/-- a call on the class's object -/
theorem lwCx {S : List Nat} {F : Nat → List (List xE) → Prop} (M' : xM) (hk : mget x = some M') (hL : xLI m w) (hP : xPi d M' ((2, 0) :: vs) w [] [] rr (fun n w' => F n w' ∧ xInv w' ∧ xFr S w w')) (hS : ∀ k ∈ S, k < 82 ∧ k ≠ 26) (hn : Nat.beq (st.take M'.2.2.2.2.1).length M'.2.2.2.2.1 = true) (hv : (st.take M'.2.2.2.2.1).reverse = vs) (hr : st.drop M'.2.2.2.2.1 = (2, 0) :: rest) (hwd : Nat.ble (xwds ((2, 0) :: vs)) M'.2.2.1 = true) (hwr : Nat.ble (xwds rest) 8 = true) (hc0 : M'.2.2.2.2.2.2.1 = 0) (hs0 : M'.2.2.2.2.2.2.2.1 = 0) (h1 : cn ≤ 600000) (h2 : sl ≤ 7302250) (K : ∀ n w', F n w' → xFr S w w' → xLI m w' → xToX L us (d + 1) mLa (pc + 3, tl, lo, (0, n) :: rest, (w', [], [], cn, sl, rr)) P) : xToX L us (d + 1) mLa (p0, (pc, 3, 13, x, 88, ix) :: tl, lo, st, (w, [], [], cn, sl, rr)) P := by
  obtain ⟨n, w', ⟨q0, q1, q2⟩, q3⟩ := hP
  have ho := (hL.1 0 (by decide) : cp0 (wget w 0))
  have hb : ((Nat.ble (cn + M'.2.2.2.2.2.2.1) mLa.2.2.2.2.2.2.1 && Nat.ble (xwds ((2, 0) :: vs)) M'.2.2.1) && (Nat.ble (sl + M'.2.2.2.2.2.2.2.1) mLa.2.2.2.2.2.2.2.1 && Nat.ble (xwds rest) 8)) = true := by
    rw [hwd, hwr, hc0, hs0, Nat.ble_eq_true_of_le (show cn + 0 ≤ mLa.2.2.2.2.2.2.1 from h1), Nat.ble_eq_true_of_le (show sl + 0 ≤ mLa.2.2.2.2.2.2.2.1 from h2)]
    rfl
  have k := xg_callV (M := mLa) (p0 := p0) (pc := pc) (ln := 3) (y := 88) (ix := ix) (tl := tl) (lo := lo) (rest := rest) (cn := cn) (sl := sl) hk q3 rfl ho hn hv hr hb
  rw [hc0, hs0] at k
  exact xg_tX k.toX (K n w' q0 q2 (hL.cls q1 q2 hS))
/-- a call on the model's -/
theorem lwCm {S : List Nat} {F : Nat → List (List xE) → Prop} (M' : xM) (hk : mget x = some M') (hL : xLI m w) (hP : xPi d M' ((2, 82) :: vs) w [] [] rr (fun n w' => F n w' ∧ xMnv w' ∧ xFr S w w')) (hS : ∀ k ∈ S, 82 ≤ k ∧ k < 114) (hn : Nat.beq (st.take M'.2.2.2.2.1).length M'.2.2.2.2.1 = true) (hv : (st.take M'.2.2.2.2.1).reverse = vs) (hr : st.drop M'.2.2.2.2.1 = (2, 82) :: rest) (hwd : Nat.ble (xwds ((2, 82) :: vs)) M'.2.2.1 = true) (hwr : Nat.ble (xwds rest) 8 = true) (hc0 : M'.2.2.2.2.2.2.1 = 0) (hs0 : M'.2.2.2.2.2.2.2.1 = 0) (h1 : cn ≤ 600000) (h2 : sl ≤ 7302250) (K : ∀ n w', F n w' → xFr S w w' → xLI m w' → xToX L us (d + 1) mLa (pc + 3, tl, lo, (0, n) :: rest, (w', [], [], cn, sl, rr)) P) : xToX L us (d + 1) mLa (p0, (pc, 3, 13, x, 96, ix) :: tl, lo, st, (w, [], [], cn, sl, rr)) P := by
  obtain ⟨n, w', ⟨q0, q1, q2⟩, q3⟩ := hP
  obtain ⟨fl, ho⟩ := hL.2.1.o82
  have hb : ((Nat.ble (cn + M'.2.2.2.2.2.2.1) mLa.2.2.2.2.2.2.1 && Nat.ble (xwds ((2, 82) :: vs)) M'.2.2.1) && (Nat.ble (sl + M'.2.2.2.2.2.2.2.1) mLa.2.2.2.2.2.2.2.1 && Nat.ble (xwds rest) 8)) = true := by
    rw [hwd, hwr, hc0, hs0, Nat.ble_eq_true_of_le (show cn + 0 ≤ mLa.2.2.2.2.2.2.1 from h1), Nat.ble_eq_true_of_le (show sl + 0 ≤ mLa.2.2.2.2.2.2.2.1 from h2)]
    rfl
  have k := xg_callV (M := mLa) (p0 := p0) (pc := pc) (ln := 3) (y := 96) (ix := ix) (tl := tl) (lo := lo) (rest := rest) (cn := cn) (sl := sl) hk q3 rfl ho hn hv hr hb
  rw [hc0, hs0] at k
  exact xg_tX k.toX (K n w' q0 q2 (hL.mdl q1 q2 hS))
/-- image of the class's object -/
theorem lwCi (hk : mget x = some mX11_image) (hL : xLI m w) (hu : u ≤ 4294967295) (h1 : cn + 25 ≤ 600000) (h2 : sl + 4088 ≤ 7302250) (K : ∀ n m' w', (((u ≤ 2 ∧ n = 1) ∨ (¬ u ≤ 2 ∧ n = 0)) ∧ (∀ k, k < 114 → k ≠ 26 → wget w' k = wget w k) ∧ ∃ ua ub, wget w 26 = some (.inr (4, 3, 12, ua)) ∧ wget w' 26 = some (.inr (4, 3, 12, ub)) ∧ (∀ j, j < 3 → (xat 4 ub j = (3, 0) ↔ (xat 4 ua j = (3, 0) ∧ j ≠ u))) ∧ (u ≤ 2 → ∃ q, xat 4 ub u = (2, 114 + 25 * q) ∧ ((xat 4 ua u = (3, 0) ∧ q = m) ∨ xat 4 ua u = (2, 114 + 25 * q)) ∧ tdE w' (114 + 25 * q) w 1 ∧ (∀ k, k < 114 + 25 * m → (k < 114 + 25 * q ∨ 139 + 25 * q ≤ k) → k ≠ 26 → wget w' k = wget w k) ∧ ∀ j, j < 3 → j ≠ u → xat 4 ub j = xat 4 ua j) ∧ (¬ u ≤ 2 → w' = w)) → xLI m' w' → xToX L us (d + 5) mLa (pc + 3, tl, lo, [(0, n)], (w', [], [], cn + 25, sl + 4088, 81 + 12 * m', 114 + 25 * m')) P) : xToX L us (d + 5) mLa (p0, (pc, 3, 13, x, 88, ix) :: tl, lo, [(0, u), (2, 0)], (w, [], [], cn, sl, 81 + 12 * m, 114 + 25 * m)) P := by
  have ho := (hL.1 0 (by decide) : cp0 (wget w 0))
  have hb : ((Nat.ble (cn + mX11_image.2.2.2.2.2.2.1) mLa.2.2.2.2.2.2.1 && Nat.ble (xwds ((2, 0) :: [(0, u)])) mX11_image.2.2.1) && (Nat.ble (sl + mX11_image.2.2.2.2.2.2.2.1) mLa.2.2.2.2.2.2.2.1 && Nat.ble (xwds []) 8)) = true := by
    rw [Nat.ble_eq_true_of_le (show cn + mX11_image.2.2.2.2.2.2.1 ≤ mLa.2.2.2.2.2.2.1 from h1), Nat.ble_eq_true_of_le (show sl + mX11_image.2.2.2.2.2.2.2.1 ≤ mLa.2.2.2.2.2.2.2.1 from h2)]
    rfl
  have k : xTo (d + 5) mLa (p0, (pc, 3, 13, x, 88, ix) :: tl, lo, [(0, u), (2, 0)], (w, [], [], cn, sl, 81 + 12 * m, 114 + 25 * m)) (fun τ => ∃ n m' w', (((u ≤ 2 ∧ n = 1) ∨ (¬ u ≤ 2 ∧ n = 0)) ∧ (∀ k, k < 114 → k ≠ 26 → wget w' k = wget w k) ∧ ∃ ua ub, wget w 26 = some (.inr (4, 3, 12, ua)) ∧ wget w' 26 = some (.inr (4, 3, 12, ub)) ∧ (∀ j, j < 3 → (xat 4 ub j = (3, 0) ↔ (xat 4 ua j = (3, 0) ∧ j ≠ u))) ∧ (u ≤ 2 → ∃ q, xat 4 ub u = (2, 114 + 25 * q) ∧ ((xat 4 ua u = (3, 0) ∧ q = m) ∨ xat 4 ua u = (2, 114 + 25 * q)) ∧ tdE w' (114 + 25 * q) w 1 ∧ (∀ k, k < 114 + 25 * m → (k < 114 + 25 * q ∨ 139 + 25 * q ≤ k) → k ≠ 26 → wget w' k = wget w k) ∧ ∀ j, j < 3 → j ≠ u → xat 4 ub j = xat 4 ua j) ∧ (¬ u ≤ 2 → w' = w)) ∧ xLI m' w' ∧ τ = (pc + 3, tl, lo, [(0, n)], (w', [], [], cn + 25, sl + 4088, 81 + 12 * m', 114 + 25 * m'))) := by
    refine xg_cVk mX11_image (vs := [(0, u)]) (rest := []) (cn1 := cn + 25) (sl1 := sl + 4088) hk (scImage hL hu) rfl ho rfl rfl rfl hb rfl rfl (fun n w' rr' hq => ?_)
    obtain ⟨hf, m', rfl, hL'⟩ := hq
    exact xg_e ⟨n, m', w', hf, hL', rfl⟩
  refine k.toX.bind (fun τ hτ => ?_)
  obtain ⟨n, m', w', hf, hL', rfl⟩ := hτ
  exact K n m' w' hf hL'
/-- behind a call: the loop goes on -/
def lwP (i cn sl : Nat) (φ : xS) : Prop := ∃ m w' cn' sl', xLI m w' ∧ xCo w' ∧ cn' ≤ cn + 25 ∧ sl' ≤ sl + 4088 ∧ φ = (1705, [], [(3, (0, i)), (2, (2, 82)), (1, (2, 0)), (0, (8, 99))], [], (w', [], [], cn', sl', 81 + 12 * m, 114 + 25 * m))
theorem lwc_0 (hi : i + 7 ≤ L) (hLL : L ≤ 3584) (hus : ∀ j, us j ≤ 4294967295) (hL : xLI m w) (hC : xCo w) (h1 : cn + 25 ≤ 600000) (h2 : sl + 4088 ≤ 7302250) : xToX L us 1000 mLa (252, [], [(3, (0, i)), (2, (2, 82)), (1, (2, 0)), (0, (8, 99))], [], (w, [], [], cn, sl, 81 + 12 * m, 114 + 25 * m)) (lwP i cn sl) := by
  refine xg_tX (xg_blk (b := [(252, 1, 0, 1, 0, 0), (253, 1, 0, 0, 0, 0), (254, 1, 2, 3, 0, 0), (255, 1, 3, 1, 0, 0), (256, 1, 11, 0, 0, 0), (257, 1, 10, 0, 0, 0), (258, 1, 0, 0, 0, 0), (259, 1, 2, 3, 0, 0), (260, 1, 3, 2, 0, 0), (261, 1, 11, 0, 0, 0), (262, 1, 10, 0, 0, 0), (263, 1, 0, 0, 0, 0), (264, 1, 2, 3, 0, 0), (265, 1, 3, 3, 0, 0), (266, 1, 11, 0, 0, 0), (267, 1, 10, 0, 0, 0), (268, 1, 0, 0, 0, 0), (269, 1, 2, 3, 0, 0), (270, 1, 3, 4, 0, 0), (271, 1, 11, 0, 0, 0), (272, 1, 10, 0, 0, 0), (273, 1, 0, 0, 0, 0), (274, 1, 2, 3, 0, 0), (275, 1, 3, 5, 0, 0), (276, 1, 11, 0, 0, 0), (277, 1, 10, 0, 0, 0), (278, 3, 13, 59, 88, 13), (281, 1, 40, 0, 0, 0), (282, 1, 0, 2, 0, 0), (283, 1, 0, 0, 0, 0), (284, 1, 2, 3, 0, 0), (285, 1, 3, 1, 0, 0), (286, 1, 11, 0, 0, 0), (287, 1, 10, 0, 0, 0), (288, 1, 0, 0, 0, 0), (289, 1, 2, 3, 0, 0), (290, 1, 3, 2, 0, 0), (291, 1, 11, 0, 0, 0), (292, 1, 10, 0, 0, 0), (293, 1, 0, 0, 0, 0), (294, 1, 2, 3, 0, 0), (295, 1, 3, 3, 0, 0), (296, 1, 11, 0, 0, 0), (297, 1, 10, 0, 0, 0), (298, 1, 0, 0, 0, 0), (299, 1, 2, 3, 0, 0), (300, 1, 3, 4, 0, 0), (301, 1, 11, 0, 0, 0), (302, 1, 10, 0, 0, 0), (303, 1, 0, 0, 0, 0), (304, 1, 2, 3, 0, 0), (305, 1, 3, 5, 0, 0), (306, 1, 11, 0, 0, 0), (307, 1, 10, 0, 0, 0), (308, 3, 13, 144, 96, 17), (311, 1, 40, 0, 0, 0), (312, 3, 8, 1705, 0, 0)]) rfl).toX ?_
  refine xg_tX (xg_aload (va := (2, 0)) rfl rfl).toX ?_
  refine xg_tX (lwA (k := 1) (by omega) (by omega)) ?_
  refine xg_tX (lwA (k := 2) (by omega) (by omega)) ?_
  refine xg_tX (lwA (k := 3) (by omega) (by omega)) ?_
  refine xg_tX (lwA (k := 4) (by omega) (by omega)) ?_
  refine xg_tX (lwA (k := 5) (by omega) (by omega)) ?_
  refine lwCx mX11_feed (vs := [(0, us (i + 1)), (0, us (i + 2)), (0, us (i + 3)), (0, us (i + 4)), (0, us (i + 5))]) (rest := []) rfl hL (scFeedB hL.1 (hus _) (hus _) (hus _) (hus _) (hus _)) (by decide) rfl rfl rfl rfl rfl rfl rfl (by omega) (by omega) (fun n1 w1 hF1 hR1 hL1 => ?_)
  refine xg_tX (xg_pop rfl).toX ?_
  refine xg_tX (xg_aload (va := (2, 82)) rfl rfl).toX ?_
  refine xg_tX (lwA (k := 1) (by omega) (by omega)) ?_
  refine xg_tX (lwA (k := 2) (by omega) (by omega)) ?_
  refine xg_tX (lwA (k := 3) (by omega) (by omega)) ?_
  refine xg_tX (lwA (k := 4) (by omega) (by omega)) ?_
  refine xg_tX (lwA (k := 5) (by omega) (by omega)) ?_
  refine lwCm mX12_feed (vs := [(0, us (i + 1)), (0, us (i + 2)), (0, us (i + 3)), (0, us (i + 4)), (0, us (i + 5))]) (rest := []) rfl hL1 (mFeedB hL1.2.1 (hus _) (hus _) (hus _) (hus _) (hus _)) (by decide) rfl rfl rfl rfl rfl rfl rfl (by omega) (by omega) (fun n2 w2 hF2 hR2 hL2 => ?_)
  obtain ⟨hT, hD, hFi, hP, hH, hE⟩ := id hC.1
  have r1 : ∀ j, rwv w1 83 j = rwv w 83 j := fun j => rwv_fr hR1 (by decide)
  have c1 : ∀ j, fld w2 1 j = fld w1 1 j := fun j => fld_fr hR2 (by decide)
  have t1 : fld w 1 1 = rwv w 83 15 := hT.1
  have b500 : fld w 1 1 ≤ 500 := hT.2.1
  have b15 := r1 15
  have c11 := c1 1
  obtain ⟨hnn2, hB2, m15⟩ := bq.fd hT.2 t1 hF1.1 hR1 (by decide) hF2 hR2
  obtain ⟨-, p2, p3, p6, p7, p9⟩ := id hF1
  have mJ : ∀ j, (j ≠ 15 ∧ (j < 400 ∨ 900 ≤ j)) → j < 5360 → rwv w2 83 j = rwv w1 83 j := fun j h1 h2 => hF2.2 j h2 ⟨h1.1, by omega⟩
  have hC2 : xCo w2 := hC.st (fun k h => (hR2.kp (by decide) k h).trans (hR1.kp (by decide) k h)) (fun j x y => (mJ j (by omega) (by omega)).trans (r1 j)) ⟨⟨m15, hB2⟩, (hD.kp ((c1 6).trans p6) ((c1 7).trans p7) ((c1 9).trans p9) (fun j p q => (mJ j (by omega) (by omega)).trans (r1 j))), (hFi.kp (keepL hR1 hR2 (by decide)) (fun j p => (mJ j (by omega) (by omega)).trans (r1 j))), (hP.kp ((hR2.1 16 (by decide)).trans (hR1.1 16 (by decide))) ((hR2.1 17 (by decide)).trans (hR1.1 17 (by decide))) ((mJ 10 (by omega) (by omega)).trans (r1 10)) (fun j p q => (mJ j (by omega) (by omega)).trans (r1 j))), (hH.kp ((hR2.1 18 (by decide)).trans (hR1.1 18 (by decide))) ((hR2.1 19 (by decide)).trans (hR1.1 19 (by decide))) ((mJ 900 (by omega) (by omega)).trans (r1 900)) (fun j p q => (mJ j (by omega) (by omega)).trans (r1 j))), (hE.kp ((hR2.1 20 (by decide)).trans (hR1.1 20 (by decide))) ((hR2.1 21 (by decide)).trans (hR1.1 21 (by decide))) ((mJ 901 (by omega) (by omega)).trans (r1 901)) (fun j p q => (mJ j (by omega) (by omega)).trans (r1 j)))⟩ (trivial)
  refine xg_tX (xg_pop rfl).toX ?_
  refine xg_tX (xg_goto).toX ?_
  exact xg_eX ⟨m, _, cn, sl, hL2, hC2, by omega, by omega, rfl⟩
theorem lwc_1 (hi : i + 7 ≤ L) (hLL : L ≤ 3584) (hus : ∀ j, us j ≤ 4294967295) (hL : xLI m w) (hC : xCo w) (h1 : cn + 25 ≤ 600000) (h2 : sl + 4088 ≤ 7302250) : xToX L us 1000 mLa (315, [], [(3, (0, i)), (2, (2, 82)), (1, (2, 0)), (0, (8, 99))], [], (w, [], [], cn, sl, 81 + 12 * m, 114 + 25 * m)) (lwP i cn sl) := by
  refine xg_tX (xg_blk (b := [(315, 1, 0, 1, 0, 0), (316, 1, 0, 0, 0, 0), (317, 1, 2, 3, 0, 0), (318, 1, 3, 1, 0, 0), (319, 1, 11, 0, 0, 0), (320, 1, 10, 0, 0, 0), (321, 3, 13, 56, 88, 18), (324, 1, 40, 0, 0, 0), (325, 1, 0, 2, 0, 0), (326, 1, 0, 0, 0, 0), (327, 1, 2, 3, 0, 0), (328, 1, 3, 1, 0, 0), (329, 1, 11, 0, 0, 0), (330, 1, 10, 0, 0, 0), (331, 3, 13, 139, 96, 22), (334, 1, 40, 0, 0, 0), (335, 3, 8, 1705, 0, 0)]) rfl).toX ?_
  refine xg_tX (xg_aload (va := (2, 0)) rfl rfl).toX ?_
  refine xg_tX (lwA (k := 1) (by omega) (by omega)) ?_
  refine lwCx mX11_end (vs := [(0, us (i + 1))]) (rest := []) rfl hL (scEndX hL.1 (hus _)) (by decide) rfl rfl rfl rfl rfl rfl rfl (by omega) (by omega) (fun n1 w1 hF1 hR1 hL1 => ?_)
  refine xg_tX (xg_pop rfl).toX ?_
  refine xg_tX (xg_aload (va := (2, 82)) rfl rfl).toX ?_
  refine xg_tX (lwA (k := 1) (by omega) (by omega)) ?_
  refine lwCm mX12_end (vs := [(0, us (i + 1))]) (rest := []) rfl hL1 (mEndX hL1.2.1 (hus _)) (by decide) rfl rfl rfl rfl rfl rfl rfl (by omega) (by omega) (fun n2 w2 hF2 hR2 hL2 => ?_)
  obtain ⟨hT, hD, hFi, hP, hH, hE⟩ := id hC.1
  have r1 : ∀ j, rwv w1 83 j = rwv w 83 j := fun j => rwv_fr hR1 (by decide)
  have c1 : ∀ j, fld w2 1 j = fld w1 1 j := fun j => fld_fr hR2 (by decide)
  have t1 : fld w 1 1 = rwv w 83 15 := hT.1
  have b500 : fld w 1 1 ≤ 500 := hT.2.1
  have b15 := r1 15
  have c11 := c1 1
  obtain ⟨p1, p2, p3, p6, p7, p9⟩ := id hF1
  obtain ⟨m1, mJ⟩ := id hF2
  have hT2 : aqT w2 1 0 := hT.st (by omega) (by omega) (fun j hj => rwk_eq ((hR2.1 2 (by decide)).trans (hR1.1 2 (by decide)))) (fun j hj => (mJ (400 + j) (by omega) (by omega)).trans (r1 _))
  have hC2 : xCo w2 := hC.st (fun k h => (hR2.kp (by decide) k h).trans (hR1.kp (by decide) k h)) (fun j x y => (mJ j (by omega) (by omega)).trans (r1 j)) ⟨hT2, (hD.kp ((c1 6).trans p6) ((c1 7).trans p7) ((c1 9).trans p9) (fun j p q => (mJ j (by omega) (by omega)).trans (r1 j))), (hFi.kp (keepL hR1 hR2 (by decide)) (fun j p => (mJ j (by omega) (by omega)).trans (r1 j))), (hP.kp ((hR2.1 16 (by decide)).trans (hR1.1 16 (by decide))) ((hR2.1 17 (by decide)).trans (hR1.1 17 (by decide))) ((mJ 10 (by omega) (by omega)).trans (r1 10)) (fun j p q => (mJ j (by omega) (by omega)).trans (r1 j))), (hH.kp ((hR2.1 18 (by decide)).trans (hR1.1 18 (by decide))) ((hR2.1 19 (by decide)).trans (hR1.1 19 (by decide))) ((mJ 900 (by omega) (by omega)).trans (r1 900)) (fun j p q => (mJ j (by omega) (by omega)).trans (r1 j))), (hE.kp ((hR2.1 20 (by decide)).trans (hR1.1 20 (by decide))) ((hR2.1 21 (by decide)).trans (hR1.1 21 (by decide))) ((mJ 901 (by omega) (by omega)).trans (r1 901)) (fun j p q => (mJ j (by omega) (by omega)).trans (r1 j)))⟩ (trivial)
  refine xg_tX (xg_pop rfl).toX ?_
  refine xg_tX (xg_goto).toX ?_
  exact xg_eX ⟨m, _, cn, sl, hL2, hC2, by omega, by omega, rfl⟩
theorem lwc_2 (hi : i + 7 ≤ L) (hLL : L ≤ 3584) (hus : ∀ j, us j ≤ 4294967295) (hL : xLI m w) (hC : xCo w) (h1 : cn + 25 ≤ 600000) (h2 : sl + 4088 ≤ 7302250) : xToX L us 1000 mLa (338, [], [(3, (0, i)), (2, (2, 82)), (1, (2, 0)), (0, (8, 99))], [], (w, [], [], cn, sl, 81 + 12 * m, 114 + 25 * m)) (lwP i cn sl) := by
  refine xg_tX (xg_blk (b := [(338, 1, 0, 1, 0, 0), (339, 3, 13, 60, 88, 23), (342, 1, 40, 0, 0, 0), (343, 1, 0, 2, 0, 0), (344, 3, 13, 145, 96, 27), (347, 1, 40, 0, 0, 0), (348, 3, 8, 1705, 0, 0)]) rfl).toX ?_
  refine xg_tX (xg_aload (va := (2, 0)) rfl rfl).toX ?_
  refine lwCx mX11_film (vs := []) (rest := []) rfl hL (bsFilmF hL.1 (B := fun j => rwk w 2 j % 256) (nn := fld w 1 1) ⟨hC.1.1.2.1, fun _ _ => rfl⟩ rfl) (by decide) rfl rfl rfl rfl rfl rfl rfl (by omega) (by omega) (fun n1 w1 hF1 hR1 hL1 => ?_)
  refine xg_tX (xg_pop rfl).toX ?_
  refine xg_tX (xg_aload (va := (2, 82)) rfl rfl).toX ?_
  refine lwCm mX12_film (vs := []) (rest := []) rfl hL1 (mFilmF hL1.2.1 (B := fun j => rwk w 2 j % 256) (nn := fld w 1 1) (hC.1.1.2.txt hR1 (by decide)).2 ((rwv_fr hR1 (by decide)).trans hC.1.1.1.symm)) (by decide) rfl rfl rfl rfl rfl rfl rfl (by omega) (by omega) (fun n2 w2 hF2 hR2 hL2 => ?_)
  obtain ⟨hT, hD, hFi, hP, hH, hE⟩ := id hC.1
  have r1 : ∀ j, rwv w1 83 j = rwv w 83 j := fun j => rwv_fr hR1 (by decide)
  have c1 : ∀ j, fld w2 1 j = fld w1 1 j := fun j => fld_fr hR2 (by decide)
  obtain ⟨-, p1, p6, p7, p9, pN, pY⟩ := id hF1
  obtain ⟨-, m15, gN, gY, mJ⟩ := id hF2
  have hnn2 : n1 = n2 := (FRes.eq hF1.1 hF2.1).1
  have k2 : ∀ c, c < 82 → wget w2 c = wget w1 c := fun c a => hR2.1 c (fun z => by
    have q : c = 82 ∨ c = 83 ∨ c = 85 ∨ c = 86 ∨ c = 87 := by simpa using z
    omega)
  have hFP : aqF w2 1 0 ∧ aqP w2 1 0 := by
    by_cases hz : n1 = 4294967295
    · have kb := (gN (hnn2.symm.trans hz)).2
      refine ⟨hFi.kp (fun c hc => ?_) (fun j p => (kb j (by omega) (by omega) (by omega) (by omega)).trans (r1 j)), hP.kp ((k2 16 (by decide)).trans (pN hz 16 (by decide) (by decide))) ((k2 17 (by decide)).trans (pN hz 17 (by decide) (by decide))) ((kb 10 (by decide) (by decide) (by decide) (by decide)).trans (r1 10)) (fun j p q => (kb j (by omega) (by omega) (by omega) (by omega)).trans (r1 j))⟩
      have q := (show ∀ c ∈ [3, 4, 5, 6, 7, 8, 9, 10, 11, 12, 13], 3 ≤ c ∧ c < 26 by decide) c hc
      exact (k2 c (by omega)).trans (pN hz c q.1 q.2)
    · obtain ⟨q1, -, q3, -⟩ := pY hz
      obtain ⟨g1, -, g3⟩ := gY (fun z => hz (hnn2.trans z))
      exact ⟨aqF.film (FLM.kp q1 (fun c hc => k2 c (by omega))) (hnn2 ▸ g1), aqP.e0 ((fld_fr hR2 (by decide)).trans q3) g3⟩
  have hC2 : xCo w2 := hC.st (fun k h => (hR2.kp (by decide) k h).trans (hR1.kp (by decide) k h)) (fun j x y => (mJ j (by omega) (by omega)).trans (r1 j)) ⟨(hT.e0 ((c1 1).trans p1) m15), (hD.kp ((c1 6).trans p6) ((c1 7).trans p7) ((c1 9).trans p9) (fun j p q => (mJ j (by omega) (by omega)).trans (r1 j))), hFP.1, hFP.2, (hH.kp ((hR2.1 18 (by decide)).trans (hR1.1 18 (by decide))) ((hR2.1 19 (by decide)).trans (hR1.1 19 (by decide))) ((mJ 900 (by omega) (by omega)).trans (r1 900)) (fun j p q => (mJ j (by omega) (by omega)).trans (r1 j))), (hE.kp ((hR2.1 20 (by decide)).trans (hR1.1 20 (by decide))) ((hR2.1 21 (by decide)).trans (hR1.1 21 (by decide))) ((mJ 901 (by omega) (by omega)).trans (r1 901)) (fun j p q => (mJ j (by omega) (by omega)).trans (r1 j)))⟩ (trivial)
  refine xg_tX (xg_pop rfl).toX ?_
  refine xg_tX (xg_goto).toX ?_
  exact xg_eX ⟨m, _, cn, sl, hL2, hC2, by omega, by omega, rfl⟩
theorem lwc_3 (hi : i + 7 ≤ L) (hLL : L ≤ 3584) (hus : ∀ j, us j ≤ 4294967295) (hL : xLI m w) (hC : xCo w) (h1 : cn + 25 ≤ 600000) (h2 : sl + 4088 ≤ 7302250) : xToX L us 1000 mLa (351, [], [(3, (0, i)), (2, (2, 82)), (1, (2, 0)), (0, (8, 99))], [], (w, [], [], cn, sl, 81 + 12 * m, 114 + 25 * m)) (lwP i cn sl) := by
  refine xg_tX (xg_blk (b := [(351, 1, 0, 1, 0, 0), (352, 1, 0, 0, 0, 0), (353, 1, 2, 3, 0, 0), (354, 1, 3, 1, 0, 0), (355, 1, 11, 0, 0, 0), (356, 1, 10, 0, 0, 0), (357, 3, 13, 57, 88, 28), (360, 1, 40, 0, 0, 0), (361, 1, 0, 2, 0, 0), (362, 1, 0, 0, 0, 0), (363, 1, 2, 3, 0, 0), (364, 1, 3, 1, 0, 0), (365, 1, 11, 0, 0, 0), (366, 1, 10, 0, 0, 0), (367, 3, 13, 141, 96, 31), (370, 1, 40, 0, 0, 0), (371, 3, 8, 1705, 0, 0)]) rfl).toX ?_
  refine xg_tX (xg_aload (va := (2, 0)) rfl rfl).toX ?_
  refine xg_tX (lwA (k := 1) (by omega) (by omega)) ?_
  refine lwCx mX11_fault (vs := [(0, us (i + 1))]) (rest := []) rfl hL (scFault hL.1 (hus _)) (by decide) rfl rfl rfl rfl rfl rfl rfl (by omega) (by omega) (fun n1 w1 hF1 hR1 hL1 => ?_)
  have hC1 := hC.fr hR1 (by decide) (trivial)
  refine xg_tX (xg_pop rfl).toX ?_
  refine xg_tX (xg_aload (va := (2, 82)) rfl rfl).toX ?_
  refine xg_tX (lwA (k := 1) (by omega) (by omega)) ?_
  refine lwCm mX12_fault (vs := [(0, us (i + 1))]) (rest := []) rfl hL1 (mFault hL1.2.1 (hus _)) (by decide) rfl rfl rfl rfl rfl rfl rfl (by omega) (by omega) (fun n2 w2 hF2 hR2 hL2 => ?_)
  have hC2 := hC1.fr hR2 (by decide) (trivial)
  refine xg_tX (xg_pop rfl).toX ?_
  refine xg_tX (xg_goto).toX ?_
  exact xg_eX ⟨m, _, cn, sl, hL2, hC2, by omega, by omega, rfl⟩
theorem lwc_4 (hi : i + 7 ≤ L) (hLL : L ≤ 3584) (hus : ∀ j, us j ≤ 4294967295) (hL : xLI m w) (hC : xCo w) (h1 : cn + 25 ≤ 600000) (h2 : sl + 4088 ≤ 7302250) : xToX L us 1000 mLa (374, [], [(3, (0, i)), (2, (2, 82)), (1, (2, 0)), (0, (8, 99))], [], (w, [], [], cn, sl, 81 + 12 * m, 114 + 25 * m)) (lwP i cn sl) := by
  refine xg_tX (xg_blk (b := [(374, 1, 0, 1, 0, 0), (375, 1, 0, 0, 0, 0), (376, 1, 2, 3, 0, 0), (377, 1, 3, 1, 0, 0), (378, 1, 11, 0, 0, 0), (379, 1, 10, 0, 0, 0), (380, 1, 0, 0, 0, 0), (381, 1, 2, 3, 0, 0), (382, 1, 3, 2, 0, 0), (383, 1, 11, 0, 0, 0), (384, 1, 10, 0, 0, 0), (385, 3, 13, 76, 88, 32), (388, 1, 0, 2, 0, 0), (389, 1, 0, 0, 0, 0), (390, 1, 2, 3, 0, 0), (391, 1, 3, 1, 0, 0), (392, 1, 11, 0, 0, 0), (393, 1, 10, 0, 0, 0), (394, 1, 0, 0, 0, 0), (395, 1, 2, 3, 0, 0), (396, 1, 3, 2, 0, 0), (397, 1, 11, 0, 0, 0), (398, 1, 10, 0, 0, 0), (399, 3, 13, 180, 96, 36), (402, 3, 6, 1705, 0, 0), (405, 1, 3, 0, 0, 0), (406, 1, 12, 0, 1, 0)]) rfl).toX ?_
  refine xg_tX (xg_aload (va := (2, 0)) rfl rfl).toX ?_
  refine xg_tX (lwA (k := 1) (by omega) (by omega)) ?_
  refine xg_tX (lwA (k := 2) (by omega) (by omega)) ?_
  refine lwCx mX11_layer (vs := [(0, us (i + 1)), (0, us (i + 2))]) (rest := []) rfl hL (scLayerX hL.1 (hus _) (hus _) (al.ht hC.1 hL.2.1)) (by decide) rfl rfl rfl rfl rfl rfl rfl (by omega) (by omega) (fun n1 w1 hF1 hR1 hL1 => ?_)
  have hC1 := hC.fr hR1 (by decide) (trivial)
  refine xg_tX (xg_aload (va := (2, 82)) rfl rfl).toX ?_
  refine xg_tX (lwA (k := 1) (by omega) (by omega)) ?_
  refine xg_tX (lwA (k := 2) (by omega) (by omega)) ?_
  refine lwCm mX12_layer (vs := [(0, us (i + 1)), (0, us (i + 2))]) (rest := [(0, n1)]) rfl hL1 (mLayerX hL1.2.1 (hus _) (hus _)) (by decide) rfl rfl rfl rfl rfl rfl rfl (by omega) (by omega) (fun n2 w2 hF2 hR2 hL2 => ?_)
  have hC2 := hC1.fr hR2 (by decide) (trivial)
  rw [rwf_eq (hR1.1 83 (by decide))] at hF2
  have z := al.beq hC.1
  have s0 := hC.1.s0
  have hnn : n1 = n2 := by
    rcases hF1 with ⟨a1, a2, a3⟩ | ⟨a1, a2, a3⟩ | ⟨a1, a2, a3⟩ | ⟨a1, a2⟩
    · rcases hF2 with ⟨b1, b2, b3⟩ | ⟨b1, b2, b3⟩ | ⟨b1, b2, b3⟩ | ⟨b1, b2⟩
      · rw [a3, b3]
        exact z.1 _ (by omega)
      · omega
      · omega
      · omega
    · rcases hF2 with ⟨b1, b2, b3⟩ | ⟨b1, b2, b3⟩ | ⟨b1, b2, b3⟩ | ⟨b1, b2⟩
      · omega
      · rw [a3, b3, bhg_cg z (by omega)]
      · omega
      · omega
    · rcases hF2 with ⟨b1, b2, b3⟩ | ⟨b1, b2, b3⟩ | ⟨b1, b2, b3⟩ | ⟨b1, b2⟩
      · omega
      · omega
      · rw [a3, b3, bfs_cg z a1]
      · omega
    · rcases hF2 with ⟨b1, b2, b3⟩ | ⟨b1, b2, b3⟩ | ⟨b1, b2, b3⟩ | ⟨b1, b2⟩
      · omega
      · omega
      · omega
      · omega
  subst hnn
  refine xg_tX (xg_icT (u := n1) (v := n1) rfl xnm0 xnm0 (xj_eqT rfl)).toX ?_
  exact xg_eX ⟨m, _, cn, sl, hL2, hC2, by omega, by omega, rfl⟩
theorem lwc_5 (hi : i + 7 ≤ L) (hLL : L ≤ 3584) (hus : ∀ j, us j ≤ 4294967295) (hL : xLI m w) (hC : xCo w) (h1 : cn + 25 ≤ 600000) (h2 : sl + 4088 ≤ 7302250) : xToX L us 1000 mLa (407, [], [(3, (0, i)), (2, (2, 82)), (1, (2, 0)), (0, (8, 99))], [], (w, [], [], cn, sl, 81 + 12 * m, 114 + 25 * m)) (lwP i cn sl) := by
  refine xg_tX (xg_blk (b := [(407, 1, 0, 1, 0, 0), (408, 1, 0, 0, 0, 0), (409, 1, 2, 3, 0, 0), (410, 1, 3, 1, 0, 0), (411, 1, 11, 0, 0, 0), (412, 1, 10, 0, 0, 0), (413, 3, 13, 83, 88, 37), (416, 1, 40, 0, 0, 0), (417, 1, 0, 2, 0, 0), (418, 1, 0, 0, 0, 0), (419, 1, 2, 3, 0, 0), (420, 1, 3, 1, 0, 0), (421, 1, 11, 0, 0, 0), (422, 1, 10, 0, 0, 0), (423, 3, 13, 196, 96, 40), (426, 1, 40, 0, 0, 0), (427, 3, 8, 1705, 0, 0)]) rfl).toX ?_
  refine xg_tX (xg_aload (va := (2, 0)) rfl rfl).toX ?_
  refine xg_tX (lwA (k := 1) (by omega) (by omega)) ?_
  refine lwCx mX11_neutral (vs := [(0, us (i + 1))]) (rest := []) rfl hL (scNeutral hL.1 (hus _)) (by decide) rfl rfl rfl rfl rfl rfl rfl (by omega) (by omega) (fun n1 w1 hF1 hR1 hL1 => ?_)
  have hC1 := hC.fr hR1 (by decide) (trivial)
  refine xg_tX (xg_pop rfl).toX ?_
  refine xg_tX (xg_aload (va := (2, 82)) rfl rfl).toX ?_
  refine xg_tX (lwA (k := 1) (by omega) (by omega)) ?_
  refine lwCm mX12_neutral (vs := [(0, us (i + 1))]) (rest := []) rfl hL1 (mNeutral hL1.2.1 (hus _)) (by decide) rfl rfl rfl rfl rfl rfl rfl (by omega) (by omega) (fun n2 w2 hF2 hR2 hL2 => ?_)
  have hC2 := hC1.fr hR2 (by decide) (trivial)
  refine xg_tX (xg_pop rfl).toX ?_
  refine xg_tX (xg_goto).toX ?_
  exact xg_eX ⟨m, _, cn, sl, hL2, hC2, by omega, by omega, rfl⟩
theorem lwc_6 (hi : i + 7 ≤ L) (hLL : L ≤ 3584) (hus : ∀ j, us j ≤ 4294967295) (hL : xLI m w) (hC : xCo w) (h1 : cn + 25 ≤ 600000) (h2 : sl + 4088 ≤ 7302250) : xToX L us 1000 mLa (430, [], [(3, (0, i)), (2, (2, 82)), (1, (2, 0)), (0, (8, 99))], [], (w, [], [], cn, sl, 81 + 12 * m, 114 + 25 * m)) (lwP i cn sl) := by
  refine xg_tX (xg_blk (b := [(430, 1, 0, 1, 0, 0), (431, 1, 0, 0, 0, 0), (432, 1, 2, 3, 0, 0), (433, 1, 3, 1, 0, 0), (434, 1, 11, 0, 0, 0), (435, 1, 10, 0, 0, 0), (436, 1, 0, 0, 0, 0), (437, 1, 2, 3, 0, 0), (438, 1, 3, 2, 0, 0), (439, 1, 11, 0, 0, 0), (440, 1, 10, 0, 0, 0), (441, 3, 13, 97, 88, 41), (444, 1, 40, 0, 0, 0), (445, 1, 0, 2, 0, 0), (446, 1, 0, 0, 0, 0), (447, 1, 2, 3, 0, 0), (448, 1, 3, 1, 0, 0), (449, 1, 11, 0, 0, 0), (450, 1, 10, 0, 0, 0), (451, 1, 0, 0, 0, 0), (452, 1, 2, 3, 0, 0), (453, 1, 3, 2, 0, 0), (454, 1, 11, 0, 0, 0), (455, 1, 10, 0, 0, 0), (456, 3, 13, 225, 96, 44), (459, 1, 40, 0, 0, 0), (460, 3, 8, 1705, 0, 0)]) rfl).toX ?_
  refine xg_tX (xg_aload (va := (2, 0)) rfl rfl).toX ?_
  refine xg_tX (lwA (k := 1) (by omega) (by omega)) ?_
  refine xg_tX (lwA (k := 2) (by omega) (by omega)) ?_
  refine lwCx mX11_stretch (vs := [(0, us (i + 1)), (0, us (i + 2))]) (rest := []) rfl hL (scStretch hL.1 (hus _) (hus _)) (by decide) rfl rfl rfl rfl rfl rfl rfl (by omega) (by omega) (fun n1 w1 hF1 hR1 hL1 => ?_)
  have hC1 := hC.fr hR1 (by decide) (trivial)
  refine xg_tX (xg_pop rfl).toX ?_
  refine xg_tX (xg_aload (va := (2, 82)) rfl rfl).toX ?_
  refine xg_tX (lwA (k := 1) (by omega) (by omega)) ?_
  refine xg_tX (lwA (k := 2) (by omega) (by omega)) ?_
  refine lwCm mX12_stretch (vs := [(0, us (i + 1)), (0, us (i + 2))]) (rest := []) rfl hL1 (mStretch hL1.2.1 (hus _) (hus _)) (by decide) rfl rfl rfl rfl rfl rfl rfl (by omega) (by omega) (fun n2 w2 hF2 hR2 hL2 => ?_)
  have hC2 := hC1.fr hR2 (by decide) (trivial)
  refine xg_tX (xg_pop rfl).toX ?_
  refine xg_tX (xg_goto).toX ?_
  exact xg_eX ⟨m, _, cn, sl, hL2, hC2, by omega, by omega, rfl⟩
theorem lwc_7 (hi : i + 7 ≤ L) (hLL : L ≤ 3584) (hus : ∀ j, us j ≤ 4294967295) (hL : xLI m w) (hC : xCo w) (h1 : cn + 25 ≤ 600000) (h2 : sl + 4088 ≤ 7302250) : xToX L us 1000 mLa (463, [], [(3, (0, i)), (2, (2, 82)), (1, (2, 0)), (0, (8, 99))], [], (w, [], [], cn, sl, 81 + 12 * m, 114 + 25 * m)) (lwP i cn sl) := by
  refine xg_tX (xg_blk (b := [(463, 1, 0, 1, 0, 0), (464, 1, 0, 0, 0, 0), (465, 1, 2, 3, 0, 0), (466, 1, 3, 1, 0, 0), (467, 1, 11, 0, 0, 0), (468, 1, 10, 0, 0, 0), (469, 1, 0, 0, 0, 0), (470, 1, 2, 3, 0, 0), (471, 1, 3, 2, 0, 0), (472, 1, 11, 0, 0, 0), (473, 1, 10, 0, 0, 0), (474, 3, 13, 39, 88, 45), (477, 1, 40, 0, 0, 0), (478, 1, 0, 2, 0, 0), (479, 1, 0, 0, 0, 0), (480, 1, 2, 3, 0, 0), (481, 1, 3, 1, 0, 0), (482, 1, 11, 0, 0, 0), (483, 1, 10, 0, 0, 0), (484, 1, 0, 0, 0, 0), (485, 1, 2, 3, 0, 0), (486, 1, 3, 2, 0, 0), (487, 1, 11, 0, 0, 0), (488, 1, 10, 0, 0, 0), (489, 3, 13, 120, 96, 49), (492, 1, 40, 0, 0, 0), (493, 3, 8, 1705, 0, 0)]) rfl).toX ?_
  refine xg_tX (xg_aload (va := (2, 0)) rfl rfl).toX ?_
  refine xg_tX (lwA (k := 1) (by omega) (by omega)) ?_
  refine xg_tX (lwA (k := 2) (by omega) (by omega)) ?_
  refine lwCx mX11_bears (vs := [(0, us (i + 1)), (0, us (i + 2))]) (rest := []) rfl hL (scBears hL.1 (hus _) (hus _)) (by decide) rfl rfl rfl rfl rfl rfl rfl (by omega) (by omega) (fun n1 w1 hF1 hR1 hL1 => ?_)
  have hC1 := hC.fr hR1 (by decide) (trivial)
  refine xg_tX (xg_pop rfl).toX ?_
  refine xg_tX (xg_aload (va := (2, 82)) rfl rfl).toX ?_
  refine xg_tX (lwA (k := 1) (by omega) (by omega)) ?_
  refine xg_tX (lwA (k := 2) (by omega) (by omega)) ?_
  refine lwCm mX12_bears (vs := [(0, us (i + 1)), (0, us (i + 2))]) (rest := []) rfl hL1 (mBears hL1.2.1 (hus _) (hus _)) (by decide) rfl rfl rfl rfl rfl rfl rfl (by omega) (by omega) (fun n2 w2 hF2 hR2 hL2 => ?_)
  have hC2 := hC1.fr hR2 (by decide) (trivial)
  refine xg_tX (xg_pop rfl).toX ?_
  refine xg_tX (xg_goto).toX ?_
  exact xg_eX ⟨m, _, cn, sl, hL2, hC2, by omega, by omega, rfl⟩
theorem lwc_8 (hi : i + 7 ≤ L) (hLL : L ≤ 3584) (hus : ∀ j, us j ≤ 4294967295) (hL : xLI m w) (hC : xCo w) (h1 : cn + 25 ≤ 600000) (h2 : sl + 4088 ≤ 7302250) : xToX L us 1000 mLa (496, [], [(3, (0, i)), (2, (2, 82)), (1, (2, 0)), (0, (8, 99))], [], (w, [], [], cn, sl, 81 + 12 * m, 114 + 25 * m)) (lwP i cn sl) := by
  refine xg_tX (xg_blk (b := [(496, 1, 0, 1, 0, 0), (497, 3, 13, 78, 88, 50), (500, 1, 40, 0, 0, 0), (501, 1, 0, 2, 0, 0), (502, 3, 13, 184, 96, 53), (505, 1, 40, 0, 0, 0), (506, 3, 8, 1705, 0, 0)]) rfl).toX ?_
  refine xg_tX (xg_aload (va := (2, 0)) rfl rfl).toX ?_
  refine lwCx mX11_least (vs := []) (rest := []) rfl hL (scLeast hL.1) (by decide) rfl rfl rfl rfl rfl rfl rfl (by omega) (by omega) (fun n1 w1 hF1 hR1 hL1 => ?_)
  have hC1 := hC.fr hR1 (by decide) (trivial)
  refine xg_tX (xg_pop rfl).toX ?_
  refine xg_tX (xg_aload (va := (2, 82)) rfl rfl).toX ?_
  refine lwCm mX12_least (vs := []) (rest := []) rfl hL1 (mLeast hL1.2.1) (by decide) rfl rfl rfl rfl rfl rfl rfl (by omega) (by omega) (fun n2 w2 hF2 hR2 hL2 => ?_)
  have hC2 := hC1.fr hR2 (by decide) (trivial)
  refine xg_tX (xg_pop rfl).toX ?_
  refine xg_tX (xg_goto).toX ?_
  exact xg_eX ⟨m, _, cn, sl, hL2, hC2, by omega, by omega, rfl⟩
theorem lwc_9 (hi : i + 7 ≤ L) (hLL : L ≤ 3584) (hus : ∀ j, us j ≤ 4294967295) (hL : xLI m w) (hC : xCo w) (h1 : cn + 25 ≤ 600000) (h2 : sl + 4088 ≤ 7302250) : xToX L us 1000 mLa (509, [], [(3, (0, i)), (2, (2, 82)), (1, (2, 0)), (0, (8, 99))], [], (w, [], [], cn, sl, 81 + 12 * m, 114 + 25 * m)) (lwP i cn sl) := by
  refine xg_tX (xg_blk (b := [(509, 1, 0, 1, 0, 0), (510, 1, 0, 0, 0, 0), (511, 1, 2, 3, 0, 0), (512, 1, 3, 1, 0, 0), (513, 1, 11, 0, 0, 0), (514, 1, 10, 0, 0, 0), (515, 3, 13, 105, 88, 54), (518, 1, 40, 0, 0, 0), (519, 1, 0, 2, 0, 0), (520, 1, 0, 0, 0, 0), (521, 1, 2, 3, 0, 0), (522, 1, 3, 1, 0, 0), (523, 1, 11, 0, 0, 0), (524, 1, 10, 0, 0, 0), (525, 3, 13, 239, 96, 57), (528, 1, 40, 0, 0, 0), (529, 3, 8, 1705, 0, 0)]) rfl).toX ?_
  refine xg_tX (xg_aload (va := (2, 0)) rfl rfl).toX ?_
  refine xg_tX (lwA (k := 1) (by omega) (by omega)) ?_
  refine lwCx mX11_worst (vs := [(0, us (i + 1))]) (rest := []) rfl hL (scWorst hL.1 (hus _)) (by decide) rfl rfl rfl rfl rfl rfl rfl (by omega) (by omega) (fun n1 w1 hF1 hR1 hL1 => ?_)
  have hC1 := hC.fr hR1 (by decide) (trivial)
  refine xg_tX (xg_pop rfl).toX ?_
  refine xg_tX (xg_aload (va := (2, 82)) rfl rfl).toX ?_
  refine xg_tX (lwA (k := 1) (by omega) (by omega)) ?_
  refine lwCm mX12_worst (vs := [(0, us (i + 1))]) (rest := []) rfl hL1 (mWorst hL1.2.1 (hus _)) (by decide) rfl rfl rfl rfl rfl rfl rfl (by omega) (by omega) (fun n2 w2 hF2 hR2 hL2 => ?_)
  have hC2 := hC1.fr hR2 (by decide) (trivial)
  refine xg_tX (xg_pop rfl).toX ?_
  refine xg_tX (xg_goto).toX ?_
  exact xg_eX ⟨m, _, cn, sl, hL2, hC2, by omega, by omega, rfl⟩
theorem lwc_10 (hi : i + 7 ≤ L) (hLL : L ≤ 3584) (hus : ∀ j, us j ≤ 4294967295) (hL : xLI m w) (hC : xCo w) (h1 : cn + 25 ≤ 600000) (h2 : sl + 4088 ≤ 7302250) : xToX L us 1000 mLa (532, [], [(3, (0, i)), (2, (2, 82)), (1, (2, 0)), (0, (8, 99))], [], (w, [], [], cn, sl, 81 + 12 * m, 114 + 25 * m)) (lwP i cn sl) := by
  refine xg_tX (xg_blk (b := [(532, 1, 0, 1, 0, 0), (533, 1, 0, 0, 0, 0), (534, 1, 2, 3, 0, 0), (535, 1, 3, 1, 0, 0), (536, 1, 11, 0, 0, 0), (537, 1, 10, 0, 0, 0), (538, 3, 13, 85, 88, 58), (541, 1, 40, 0, 0, 0), (542, 1, 0, 2, 0, 0), (543, 1, 0, 0, 0, 0), (544, 1, 2, 3, 0, 0), (545, 1, 3, 1, 0, 0), (546, 1, 11, 0, 0, 0), (547, 1, 10, 0, 0, 0), (548, 3, 13, 201, 96, 61), (551, 1, 40, 0, 0, 0), (552, 3, 8, 1705, 0, 0)]) rfl).toX ?_
  refine xg_tX (xg_aload (va := (2, 0)) rfl rfl).toX ?_
  refine xg_tX (lwA (k := 1) (by omega) (by omega)) ?_
  refine lwCx mX11_order (vs := [(0, us (i + 1))]) (rest := []) rfl hL (scOrder hL.1 (hus _)) (by decide) rfl rfl rfl rfl rfl rfl rfl (by omega) (by omega) (fun n1 w1 hF1 hR1 hL1 => ?_)
  have hC1 := hC.fr hR1 (by decide) (trivial)
  refine xg_tX (xg_pop rfl).toX ?_
  refine xg_tX (xg_aload (va := (2, 82)) rfl rfl).toX ?_
  refine xg_tX (lwA (k := 1) (by omega) (by omega)) ?_
  refine lwCm mX12_order (vs := [(0, us (i + 1))]) (rest := []) rfl hL1 (mOrder hL1.2.1 (hus _)) (by decide) rfl rfl rfl rfl rfl rfl rfl (by omega) (by omega) (fun n2 w2 hF2 hR2 hL2 => ?_)
  have hC2 := hC1.fr hR2 (by decide) (trivial)
  refine xg_tX (xg_pop rfl).toX ?_
  refine xg_tX (xg_goto).toX ?_
  exact xg_eX ⟨m, _, cn, sl, hL2, hC2, by omega, by omega, rfl⟩
theorem lwc_11 (hi : i + 7 ≤ L) (hLL : L ≤ 3584) (hus : ∀ j, us j ≤ 4294967295) (hL : xLI m w) (hC : xCo w) (h1 : cn + 25 ≤ 600000) (h2 : sl + 4088 ≤ 7302250) : xToX L us 1000 mLa (555, [], [(3, (0, i)), (2, (2, 82)), (1, (2, 0)), (0, (8, 99))], [], (w, [], [], cn, sl, 81 + 12 * m, 114 + 25 * m)) (lwP i cn sl) := by
  refine xg_tX (xg_blk (b := [(555, 1, 0, 1, 0, 0), (556, 1, 0, 0, 0, 0), (557, 1, 2, 3, 0, 0), (558, 1, 3, 1, 0, 0), (559, 1, 11, 0, 0, 0), (560, 1, 10, 0, 0, 0), (561, 1, 0, 0, 0, 0), (562, 1, 2, 3, 0, 0), (563, 1, 3, 2, 0, 0), (564, 1, 11, 0, 0, 0), (565, 1, 10, 0, 0, 0), (566, 3, 13, 100, 88, 62), (569, 1, 40, 0, 0, 0), (570, 1, 0, 2, 0, 0), (571, 1, 0, 0, 0, 0), (572, 1, 2, 3, 0, 0), (573, 1, 3, 1, 0, 0), (574, 1, 11, 0, 0, 0), (575, 1, 10, 0, 0, 0), (576, 1, 0, 0, 0, 0), (577, 1, 2, 3, 0, 0), (578, 1, 3, 2, 0, 0), (579, 1, 11, 0, 0, 0), (580, 1, 10, 0, 0, 0), (581, 3, 13, 230, 96, 65), (584, 1, 40, 0, 0, 0), (585, 3, 8, 1705, 0, 0)]) rfl).toX ?_
  refine xg_tX (xg_aload (va := (2, 0)) rfl rfl).toX ?_
  refine xg_tX (lwA (k := 1) (by omega) (by omega)) ?_
  refine xg_tX (lwA (k := 2) (by omega) (by omega)) ?_
  refine lwCx mX11_tired (vs := [(0, us (i + 1)), (0, us (i + 2))]) (rest := []) rfl hL (scTired hL.1 (hus _) (hus _)) (by decide) rfl rfl rfl rfl rfl rfl rfl (by omega) (by omega) (fun n1 w1 hF1 hR1 hL1 => ?_)
  have hC1 := hC.fr hR1 (by decide) (trivial)
  refine xg_tX (xg_pop rfl).toX ?_
  refine xg_tX (xg_aload (va := (2, 82)) rfl rfl).toX ?_
  refine xg_tX (lwA (k := 1) (by omega) (by omega)) ?_
  refine xg_tX (lwA (k := 2) (by omega) (by omega)) ?_
  refine lwCm mX12_tired (vs := [(0, us (i + 1)), (0, us (i + 2))]) (rest := []) rfl hL1 (mTired hL1.2.1 (hus _) (hus _)) (by decide) rfl rfl rfl rfl rfl rfl rfl (by omega) (by omega) (fun n2 w2 hF2 hR2 hL2 => ?_)
  have hC2 := hC1.fr hR2 (by decide) (trivial)
  refine xg_tX (xg_pop rfl).toX ?_
  refine xg_tX (xg_goto).toX ?_
  exact xg_eX ⟨m, _, cn, sl, hL2, hC2, by omega, by omega, rfl⟩
theorem lwc_12 (hi : i + 7 ≤ L) (hLL : L ≤ 3584) (hus : ∀ j, us j ≤ 4294967295) (hL : xLI m w) (hC : xCo w) (h1 : cn + 25 ≤ 600000) (h2 : sl + 4088 ≤ 7302250) : xToX L us 1000 mLa (588, [], [(3, (0, i)), (2, (2, 82)), (1, (2, 0)), (0, (8, 99))], [], (w, [], [], cn, sl, 81 + 12 * m, 114 + 25 * m)) (lwP i cn sl) := by
  refine xg_tX (xg_blk (b := [(588, 1, 0, 1, 0, 0), (589, 1, 0, 0, 0, 0), (590, 1, 2, 3, 0, 0), (591, 1, 3, 1, 0, 0), (592, 1, 11, 0, 0, 0), (593, 1, 10, 0, 0, 0), (594, 3, 13, 48, 88, 66), (597, 1, 40, 0, 0, 0), (598, 1, 0, 2, 0, 0), (599, 1, 0, 0, 0, 0), (600, 1, 2, 3, 0, 0), (601, 1, 3, 1, 0, 0), (602, 1, 11, 0, 0, 0), (603, 1, 10, 0, 0, 0), (604, 3, 13, 129, 96, 69), (607, 1, 40, 0, 0, 0), (608, 3, 8, 1705, 0, 0)]) rfl).toX ?_
  refine xg_tX (xg_aload (va := (2, 0)) rfl rfl).toX ?_
  refine xg_tX (lwA (k := 1) (by omega) (by omega)) ?_
  refine lwCx mX11_cracks (vs := [(0, us (i + 1))]) (rest := []) rfl hL (scCracks hL.1 (hus _)) (by decide) rfl rfl rfl rfl rfl rfl rfl (by omega) (by omega) (fun n1 w1 hF1 hR1 hL1 => ?_)
  have hC1 := hC.fr hR1 (by decide) (trivial)
  refine xg_tX (xg_pop rfl).toX ?_
  refine xg_tX (xg_aload (va := (2, 82)) rfl rfl).toX ?_
  refine xg_tX (lwA (k := 1) (by omega) (by omega)) ?_
  refine lwCm mX12_cracks (vs := [(0, us (i + 1))]) (rest := []) rfl hL1 (mCracks hL1.2.1 (hus _)) (by decide) rfl rfl rfl rfl rfl rfl rfl (by omega) (by omega) (fun n2 w2 hF2 hR2 hL2 => ?_)
  have hC2 := hC1.fr hR2 (by decide) (trivial)
  refine xg_tX (xg_pop rfl).toX ?_
  refine xg_tX (xg_goto).toX ?_
  exact xg_eX ⟨m, _, cn, sl, hL2, hC2, by omega, by omega, rfl⟩
theorem lwc_13 (hi : i + 7 ≤ L) (hLL : L ≤ 3584) (hus : ∀ j, us j ≤ 4294967295) (hL : xLI m w) (hC : xCo w) (h1 : cn + 25 ≤ 600000) (h2 : sl + 4088 ≤ 7302250) : xToX L us 1000 mLa (611, [], [(3, (0, i)), (2, (2, 82)), (1, (2, 0)), (0, (8, 99))], [], (w, [], [], cn, sl, 81 + 12 * m, 114 + 25 * m)) (lwP i cn sl) := by
  refine xg_tX (xg_blk (b := [(611, 1, 0, 1, 0, 0), (612, 1, 0, 0, 0, 0), (613, 1, 2, 3, 0, 0), (614, 1, 3, 1, 0, 0), (615, 1, 11, 0, 0, 0), (616, 1, 10, 0, 0, 0), (617, 3, 13, 54, 88, 70), (620, 1, 40, 0, 0, 0), (621, 1, 0, 2, 0, 0), (622, 1, 0, 0, 0, 0), (623, 1, 2, 3, 0, 0), (624, 1, 3, 1, 0, 0), (625, 1, 11, 0, 0, 0), (626, 1, 10, 0, 0, 0), (627, 3, 13, 138, 96, 74), (630, 1, 40, 0, 0, 0), (631, 3, 8, 1705, 0, 0)]) rfl).toX ?_
  refine xg_tX (xg_aload (va := (2, 0)) rfl rfl).toX ?_
  refine xg_tX (lwA (k := 1) (by omega) (by omega)) ?_
  refine lwCx mX11_day (vs := [(0, us (i + 1))]) (rest := []) rfl hL (scDayX hL.1 (hus _)) (by decide) rfl rfl rfl rfl rfl rfl rfl (by omega) (by omega) (fun n1 w1 hF1 hR1 hL1 => ?_)
  refine xg_tX (xg_pop rfl).toX ?_
  refine xg_tX (xg_aload (va := (2, 82)) rfl rfl).toX ?_
  refine xg_tX (lwA (k := 1) (by omega) (by omega)) ?_
  refine lwCm mX12_day (vs := [(0, us (i + 1))]) (rest := []) rfl hL1 (mDayX hL1.2.1 (hus _)) (by decide) rfl rfl rfl rfl rfl rfl rfl (by omega) (by omega) (fun n2 w2 hF2 hR2 hL2 => ?_)
  obtain ⟨hT, hD, hFi, hP, hH, hE⟩ := id hC.1
  have r1 : ∀ j, rwv w1 83 j = rwv w 83 j := fun j => rwv_fr hR1 (by decide)
  have c1 : ∀ j, fld w2 1 j = fld w1 1 j := fun j => fld_fr hR2 (by decide)
  have d1 : fld w 1 6 = rwv w 83 11 := hD.1
  have d2 : fld w 1 7 = rwv w 83 12 := hD.2.1
  have d3 : fld w 1 9 = rwv w 83 13 := hD.2.2.1
  have d4 : fld w 1 6 ≤ 999 := hD.2.2.2
  have b11 := r1 11
  have b12 := r1 12
  have b13 := r1 13
  have c16 := c1 6
  have c17 := c1 7
  have c19 := c1 9
  obtain ⟨p0, p1, p2, p3, p7, p9⟩ := id hF1
  obtain ⟨m1, mJ⟩ := id hF2
  have m12 := mJ 12 (by omega) (by omega)
  have m13 := mJ 13 (by omega) (by omega)
  have x1 : xbs (rwv w1 83 11) = xbs (fld w 1 6) := congrArg xbs (b11.trans d1.symm)
  have x2 : xbs (fld w 1 6) = (fld w 1 6 + 2147483648) % 4294967296 := rfl
  have x3 : xbs (us (i + 1)) = (us (i + 1) + 2147483648) % 4294967296 := rfl
  have x4 : xbs 999 = 2147484647 := by decide
  have x5 : xbs 4294967295 = 2147483647 := by decide
  have x6 : xbs 0 = 2147483648 := by decide
  have x7 := hus ((i + 1))
  have hnn2 : n1 = n2 := by omega
  have hD2 : aqD w2 1 0 := ⟨(show fld w2 1 6 = rwv w2 83 11 by omega), (show fld w2 1 7 = rwv w2 83 12 by omega), (show fld w2 1 9 = rwv w2 83 13 by omega), (show fld w2 1 6 ≤ 999 by omega)⟩
  have hC2 : xCo w2 := hC.st (fun k h => (hR2.kp (by decide) k h).trans (hR1.kp (by decide) k h)) (fun j x y => (mJ j (by omega) (by omega)).trans (r1 j)) ⟨(hT.kp ((c1 1).trans p1) ((hR2.1 2 (by decide)).trans (hR1.1 2 (by decide))) ((mJ 15 (by omega) (by omega)).trans (r1 15)) (fun j p q => (mJ j (by omega) (by omega)).trans (r1 j))), hD2, (hFi.kp (keepL hR1 hR2 (by decide)) (fun j p => (mJ j (by omega) (by omega)).trans (r1 j))), (hP.kp ((hR2.1 16 (by decide)).trans (hR1.1 16 (by decide))) ((hR2.1 17 (by decide)).trans (hR1.1 17 (by decide))) ((mJ 10 (by omega) (by omega)).trans (r1 10)) (fun j p q => (mJ j (by omega) (by omega)).trans (r1 j))), (hH.kp ((hR2.1 18 (by decide)).trans (hR1.1 18 (by decide))) ((hR2.1 19 (by decide)).trans (hR1.1 19 (by decide))) ((mJ 900 (by omega) (by omega)).trans (r1 900)) (fun j p q => (mJ j (by omega) (by omega)).trans (r1 j))), (hE.kp ((hR2.1 20 (by decide)).trans (hR1.1 20 (by decide))) ((hR2.1 21 (by decide)).trans (hR1.1 21 (by decide))) ((mJ 901 (by omega) (by omega)).trans (r1 901)) (fun j p q => (mJ j (by omega) (by omega)).trans (r1 j)))⟩ (trivial)
  refine xg_tX (xg_pop rfl).toX ?_
  refine xg_tX (xg_goto).toX ?_
  exact xg_eX ⟨m, _, cn, sl, hL2, hC2, by omega, by omega, rfl⟩
theorem lwc_14 (hi : i + 7 ≤ L) (hLL : L ≤ 3584) (hus : ∀ j, us j ≤ 4294967295) (hL : xLI m w) (hC : xCo w) (h1 : cn + 25 ≤ 600000) (h2 : sl + 4088 ≤ 7302250) : xToX L us 1000 mLa (634, [], [(3, (0, i)), (2, (2, 82)), (1, (2, 0)), (0, (8, 99))], [], (w, [], [], cn, sl, 81 + 12 * m, 114 + 25 * m)) (lwP i cn sl) := by
  refine xg_tX (xg_blk (b := [(634, 1, 0, 1, 0, 0), (635, 1, 0, 0, 0, 0), (636, 1, 2, 3, 0, 0), (637, 1, 3, 1, 0, 0), (638, 1, 11, 0, 0, 0), (639, 1, 10, 0, 0, 0), (640, 3, 13, 103, 88, 75), (643, 1, 40, 0, 0, 0), (644, 1, 0, 2, 0, 0), (645, 1, 0, 0, 0, 0), (646, 1, 2, 3, 0, 0), (647, 1, 3, 1, 0, 0), (648, 1, 11, 0, 0, 0), (649, 1, 10, 0, 0, 0), (650, 3, 13, 235, 96, 78), (653, 1, 40, 0, 0, 0), (654, 3, 8, 1705, 0, 0)]) rfl).toX ?_
  refine xg_tX (xg_aload (va := (2, 0)) rfl rfl).toX ?_
  refine xg_tX (lwA (k := 1) (by omega) (by omega)) ?_
  refine lwCx mX11_view (vs := [(0, us (i + 1))]) (rest := []) rfl hL (scViewX hL.1 (hus _)) (by decide) rfl rfl rfl rfl rfl rfl rfl (by omega) (by omega) (fun n1 w1 hF1 hR1 hL1 => ?_)
  refine xg_tX (xg_pop rfl).toX ?_
  refine xg_tX (xg_aload (va := (2, 82)) rfl rfl).toX ?_
  refine xg_tX (lwA (k := 1) (by omega) (by omega)) ?_
  refine lwCm mX12_view (vs := [(0, us (i + 1))]) (rest := []) rfl hL1 (mViewX hL1.2.1 (hus _)) (by decide) rfl rfl rfl rfl rfl rfl rfl (by omega) (by omega) (fun n2 w2 hF2 hR2 hL2 => ?_)
  obtain ⟨hT, hD, hFi, hP, hH, hE⟩ := id hC.1
  have r1 : ∀ j, rwv w1 83 j = rwv w 83 j := fun j => rwv_fr hR1 (by decide)
  have c1 : ∀ j, fld w2 1 j = fld w1 1 j := fun j => fld_fr hR2 (by decide)
  have d1 : fld w 1 6 = rwv w 83 11 := hD.1
  have d2 : fld w 1 7 = rwv w 83 12 := hD.2.1
  have d3 : fld w 1 9 = rwv w 83 13 := hD.2.2.1
  have d4 : fld w 1 6 ≤ 999 := hD.2.2.2
  have b11 := r1 11
  have b12 := r1 12
  have b13 := r1 13
  have c16 := c1 6
  have c17 := c1 7
  have c19 := c1 9
  obtain ⟨p0, p1, p2, p3, p6, p9⟩ := id hF1
  obtain ⟨m1, mJ⟩ := id hF2
  have m11 := mJ 11 (by omega) (by omega)
  have m13 := mJ 13 (by omega) (by omega)
  have x1 : xbs (rwv w1 83 11) = xbs (fld w 1 6) := congrArg xbs (b11.trans d1.symm)
  have x2 : xbs (fld w 1 6) = (fld w 1 6 + 2147483648) % 4294967296 := rfl
  have x3 : xbs (us (i + 1)) = (us (i + 1) + 2147483648) % 4294967296 := rfl
  have x4 : xbs 999 = 2147484647 := by decide
  have x5 : xbs 4294967295 = 2147483647 := by decide
  have x6 : xbs 0 = 2147483648 := by decide
  have x7 := hus ((i + 1))
  have hnn2 : n1 = n2 := by omega
  have hD2 : aqD w2 1 0 := ⟨(show fld w2 1 6 = rwv w2 83 11 by omega), (show fld w2 1 7 = rwv w2 83 12 by omega), (show fld w2 1 9 = rwv w2 83 13 by omega), (show fld w2 1 6 ≤ 999 by omega)⟩
  have hC2 : xCo w2 := hC.st (fun k h => (hR2.kp (by decide) k h).trans (hR1.kp (by decide) k h)) (fun j x y => (mJ j (by omega) (by omega)).trans (r1 j)) ⟨(hT.kp ((c1 1).trans p1) ((hR2.1 2 (by decide)).trans (hR1.1 2 (by decide))) ((mJ 15 (by omega) (by omega)).trans (r1 15)) (fun j p q => (mJ j (by omega) (by omega)).trans (r1 j))), hD2, (hFi.kp (keepL hR1 hR2 (by decide)) (fun j p => (mJ j (by omega) (by omega)).trans (r1 j))), (hP.kp ((hR2.1 16 (by decide)).trans (hR1.1 16 (by decide))) ((hR2.1 17 (by decide)).trans (hR1.1 17 (by decide))) ((mJ 10 (by omega) (by omega)).trans (r1 10)) (fun j p q => (mJ j (by omega) (by omega)).trans (r1 j))), (hH.kp ((hR2.1 18 (by decide)).trans (hR1.1 18 (by decide))) ((hR2.1 19 (by decide)).trans (hR1.1 19 (by decide))) ((mJ 900 (by omega) (by omega)).trans (r1 900)) (fun j p q => (mJ j (by omega) (by omega)).trans (r1 j))), (hE.kp ((hR2.1 20 (by decide)).trans (hR1.1 20 (by decide))) ((hR2.1 21 (by decide)).trans (hR1.1 21 (by decide))) ((mJ 901 (by omega) (by omega)).trans (r1 901)) (fun j p q => (mJ j (by omega) (by omega)).trans (r1 j)))⟩ (trivial)
  refine xg_tX (xg_pop rfl).toX ?_
  refine xg_tX (xg_goto).toX ?_
  exact xg_eX ⟨m, _, cn, sl, hL2, hC2, by omega, by omega, rfl⟩
theorem lwc_15 (hi : i + 7 ≤ L) (hLL : L ≤ 3584) (hus : ∀ j, us j ≤ 4294967295) (hL : xLI m w) (hC : xCo w) (h1 : cn + 25 ≤ 600000) (h2 : sl + 4088 ≤ 7302250) : xToX L us 1000 mLa (657, [], [(3, (0, i)), (2, (2, 82)), (1, (2, 0)), (0, (8, 99))], [], (w, [], [], cn, sl, 81 + 12 * m, 114 + 25 * m)) (lwP i cn sl) := by
  refine xg_tX (xg_blk (b := [(657, 1, 0, 1, 0, 0), (658, 1, 0, 0, 0, 0), (659, 1, 2, 3, 0, 0), (660, 1, 3, 1, 0, 0), (661, 1, 11, 0, 0, 0), (662, 1, 10, 0, 0, 0), (663, 3, 7, 670, 0, 0), (666, 1, 3, 1, 0, 0), (667, 3, 8, 671, 0, 0)]) rfl).toX ?_
  refine xg_tX (xg_aload (va := (2, 0)) rfl rfl).toX ?_
  refine xg_tX (lwA (k := 1) (by omega) (by omega)) ?_
  by_cases hz : us (i + 1) = 0
  · skip
    refine xg_tX (xg_ifT (u := us (i + 1)) rfl xnm0 (xj_eqT hz)).toX ?_
    refine xg_tX (xg_blk (b := [(670, 1, 3, 0, 0, 0)]) rfl).toX ?_
    refine xg_tX (xg_const).toX ?_
    refine xg_tX (xg_blk (b := [(671, 1, 0, 0, 0, 0), (672, 1, 2, 3, 0, 0), (673, 1, 3, 2, 0, 0), (674, 1, 11, 0, 0, 0), (675, 1, 10, 0, 0, 0), (676, 1, 0, 0, 0, 0), (677, 1, 2, 3, 0, 0), (678, 1, 3, 3, 0, 0), (679, 1, 11, 0, 0, 0), (680, 1, 10, 0, 0, 0), (681, 3, 13, 47, 88, 79), (684, 1, 40, 0, 0, 0), (685, 1, 0, 2, 0, 0), (686, 1, 0, 0, 0, 0), (687, 1, 2, 3, 0, 0), (688, 1, 3, 1, 0, 0), (689, 1, 11, 0, 0, 0), (690, 1, 10, 0, 0, 0), (691, 3, 7, 698, 0, 0), (694, 1, 3, 1, 0, 0), (695, 3, 8, 699, 0, 0)]) rfl).toX ?_
    refine xg_tX (lwA (k := 2) (by omega) (by omega)) ?_
    refine xg_tX (lwA (k := 3) (by omega) (by omega)) ?_
    refine lwCx mX11_crack (vs := [(0, 0), (0, us (i + 2)), (0, us (i + 3))]) (rest := []) rfl hL (scCrack hL.1 (by decide) (hus _) (hus _)) (by decide) rfl rfl rfl rfl rfl rfl rfl (by omega) (by omega) (fun n1 w1 hF1 hR1 hL1 => ?_)
    refine xg_tX (xg_pop rfl).toX ?_
    refine xg_tX (xg_aload (va := (2, 82)) rfl rfl).toX ?_
    refine xg_tX (lwA (k := 1) (by omega) (by omega)) ?_
    refine xg_tX (xg_ifT (u := us (i + 1)) rfl xnm0 (xj_eqT hz)).toX ?_
    refine xg_tX (xg_blk (b := [(698, 1, 3, 0, 0, 0)]) rfl).toX ?_
    refine xg_tX (xg_const).toX ?_
    refine xg_tX (xg_blk (b := [(699, 1, 0, 0, 0, 0), (700, 1, 2, 3, 0, 0), (701, 1, 3, 2, 0, 0), (702, 1, 11, 0, 0, 0), (703, 1, 10, 0, 0, 0), (704, 1, 0, 0, 0, 0), (705, 1, 2, 3, 0, 0), (706, 1, 3, 3, 0, 0), (707, 1, 11, 0, 0, 0), (708, 1, 10, 0, 0, 0), (709, 3, 13, 128, 96, 83), (712, 1, 40, 0, 0, 0), (713, 3, 8, 1705, 0, 0)]) rfl).toX ?_
    refine xg_tX (lwA (k := 2) (by omega) (by omega)) ?_
    refine xg_tX (lwA (k := 3) (by omega) (by omega)) ?_
    refine lwCm mX12_crack (vs := [(0, 0), (0, us (i + 2)), (0, us (i + 3))]) (rest := []) rfl hL1 (mCrackK hL1.2.1 (by decide) (hus _) (hus _)) (by decide) rfl rfl rfl rfl rfl rfl rfl (by omega) (by omega) (fun n2 w2 hF2 hR2 hL2 => ?_)
    obtain ⟨hT, hD, hFi, hP, hH, hE⟩ := id hC.1
    have r1 : ∀ j, rwv w1 83 j = rwv w 83 j := fun j => rwv_fr hR1 (by decide)
    have c1 : ∀ j, fld w2 1 j = fld w1 1 j := fun j => fld_fr hR2 (by decide)
    obtain ⟨m1, mJ⟩ := id hF2
    have hC2 : xCo w2 := hC.st (fun k h => (hR2.kp (by decide) k h).trans (hR1.kp (by decide) k h)) (fun j x y => (mJ j (by omega) (by omega)).trans (r1 j)) ⟨(hT.kp ((c1 1).trans (fld_fr hR1 (by decide))) ((hR2.1 2 (by decide)).trans (hR1.1 2 (by decide))) ((mJ 15 (by omega) (by omega)).trans (r1 15)) (fun j p q => (mJ j (by omega) (by omega)).trans (r1 j))), (hD.kp ((c1 6).trans (fld_fr hR1 (by decide))) ((c1 7).trans (fld_fr hR1 (by decide))) ((c1 9).trans (fld_fr hR1 (by decide))) (fun j p q => (mJ j (by omega) (by omega)).trans (r1 j))), (hFi.kp (keepL hR1 hR2 (by decide)) (fun j p => (mJ j (by omega) (by omega)).trans (r1 j))), (hP.kp ((hR2.1 16 (by decide)).trans (hR1.1 16 (by decide))) ((hR2.1 17 (by decide)).trans (hR1.1 17 (by decide))) ((mJ 10 (by omega) (by omega)).trans (r1 10)) (fun j p q => (mJ j (by omega) (by omega)).trans (r1 j))), (hH.kp ((hR2.1 18 (by decide)).trans (hR1.1 18 (by decide))) ((hR2.1 19 (by decide)).trans (hR1.1 19 (by decide))) ((mJ 900 (by omega) (by omega)).trans (r1 900)) (fun j p q => (mJ j (by omega) (by omega)).trans (r1 j))), (hE.kp ((hR2.1 20 (by decide)).trans (hR1.1 20 (by decide))) ((hR2.1 21 (by decide)).trans (hR1.1 21 (by decide))) ((mJ 901 (by omega) (by omega)).trans (r1 901)) (fun j p q => (mJ j (by omega) (by omega)).trans (r1 j)))⟩ (trivial)
    refine xg_tX (xg_pop rfl).toX ?_
    refine xg_tX (xg_goto).toX ?_
    exact xg_eX ⟨m, _, cn, sl, hL2, hC2, by omega, by omega, rfl⟩
  · skip
    refine xg_tX (xg_ifF (u := us (i + 1)) rfl xnm0 (xj_eqF hz)).toX ?_
    refine xg_tX (xg_const).toX ?_
    refine xg_tX (xg_goto).toX ?_
    refine xg_tX (xg_blk (b := [(671, 1, 0, 0, 0, 0), (672, 1, 2, 3, 0, 0), (673, 1, 3, 2, 0, 0), (674, 1, 11, 0, 0, 0), (675, 1, 10, 0, 0, 0), (676, 1, 0, 0, 0, 0), (677, 1, 2, 3, 0, 0), (678, 1, 3, 3, 0, 0), (679, 1, 11, 0, 0, 0), (680, 1, 10, 0, 0, 0), (681, 3, 13, 47, 88, 79), (684, 1, 40, 0, 0, 0), (685, 1, 0, 2, 0, 0), (686, 1, 0, 0, 0, 0), (687, 1, 2, 3, 0, 0), (688, 1, 3, 1, 0, 0), (689, 1, 11, 0, 0, 0), (690, 1, 10, 0, 0, 0), (691, 3, 7, 698, 0, 0), (694, 1, 3, 1, 0, 0), (695, 3, 8, 699, 0, 0)]) rfl).toX ?_
    refine xg_tX (lwA (k := 2) (by omega) (by omega)) ?_
    refine xg_tX (lwA (k := 3) (by omega) (by omega)) ?_
    refine lwCx mX11_crack (vs := [(0, 1), (0, us (i + 2)), (0, us (i + 3))]) (rest := []) rfl hL (scCrack hL.1 (by decide) (hus _) (hus _)) (by decide) rfl rfl rfl rfl rfl rfl rfl (by omega) (by omega) (fun n1 w1 hF1 hR1 hL1 => ?_)
    refine xg_tX (xg_pop rfl).toX ?_
    refine xg_tX (xg_aload (va := (2, 82)) rfl rfl).toX ?_
    refine xg_tX (lwA (k := 1) (by omega) (by omega)) ?_
    refine xg_tX (xg_ifF (u := us (i + 1)) rfl xnm0 (xj_eqF hz)).toX ?_
    refine xg_tX (xg_const).toX ?_
    refine xg_tX (xg_goto).toX ?_
    refine xg_tX (xg_blk (b := [(699, 1, 0, 0, 0, 0), (700, 1, 2, 3, 0, 0), (701, 1, 3, 2, 0, 0), (702, 1, 11, 0, 0, 0), (703, 1, 10, 0, 0, 0), (704, 1, 0, 0, 0, 0), (705, 1, 2, 3, 0, 0), (706, 1, 3, 3, 0, 0), (707, 1, 11, 0, 0, 0), (708, 1, 10, 0, 0, 0), (709, 3, 13, 128, 96, 83), (712, 1, 40, 0, 0, 0), (713, 3, 8, 1705, 0, 0)]) rfl).toX ?_
    refine xg_tX (lwA (k := 2) (by omega) (by omega)) ?_
    refine xg_tX (lwA (k := 3) (by omega) (by omega)) ?_
    refine lwCm mX12_crack (vs := [(0, 1), (0, us (i + 2)), (0, us (i + 3))]) (rest := []) rfl hL1 (mCrackK hL1.2.1 (by decide) (hus _) (hus _)) (by decide) rfl rfl rfl rfl rfl rfl rfl (by omega) (by omega) (fun n2 w2 hF2 hR2 hL2 => ?_)
    obtain ⟨hT, hD, hFi, hP, hH, hE⟩ := id hC.1
    have r1 : ∀ j, rwv w1 83 j = rwv w 83 j := fun j => rwv_fr hR1 (by decide)
    have c1 : ∀ j, fld w2 1 j = fld w1 1 j := fun j => fld_fr hR2 (by decide)
    obtain ⟨m1, mJ⟩ := id hF2
    have hC2 : xCo w2 := hC.st (fun k h => (hR2.kp (by decide) k h).trans (hR1.kp (by decide) k h)) (fun j x y => (mJ j (by omega) (by omega)).trans (r1 j)) ⟨(hT.kp ((c1 1).trans (fld_fr hR1 (by decide))) ((hR2.1 2 (by decide)).trans (hR1.1 2 (by decide))) ((mJ 15 (by omega) (by omega)).trans (r1 15)) (fun j p q => (mJ j (by omega) (by omega)).trans (r1 j))), (hD.kp ((c1 6).trans (fld_fr hR1 (by decide))) ((c1 7).trans (fld_fr hR1 (by decide))) ((c1 9).trans (fld_fr hR1 (by decide))) (fun j p q => (mJ j (by omega) (by omega)).trans (r1 j))), (hFi.kp (keepL hR1 hR2 (by decide)) (fun j p => (mJ j (by omega) (by omega)).trans (r1 j))), (hP.kp ((hR2.1 16 (by decide)).trans (hR1.1 16 (by decide))) ((hR2.1 17 (by decide)).trans (hR1.1 17 (by decide))) ((mJ 10 (by omega) (by omega)).trans (r1 10)) (fun j p q => (mJ j (by omega) (by omega)).trans (r1 j))), (hH.kp ((hR2.1 18 (by decide)).trans (hR1.1 18 (by decide))) ((hR2.1 19 (by decide)).trans (hR1.1 19 (by decide))) ((mJ 900 (by omega) (by omega)).trans (r1 900)) (fun j p q => (mJ j (by omega) (by omega)).trans (r1 j))), (hE.kp ((hR2.1 20 (by decide)).trans (hR1.1 20 (by decide))) ((hR2.1 21 (by decide)).trans (hR1.1 21 (by decide))) ((mJ 901 (by omega) (by omega)).trans (r1 901)) (fun j p q => (mJ j (by omega) (by omega)).trans (r1 j)))⟩ (trivial)
    refine xg_tX (xg_pop rfl).toX ?_
    refine xg_tX (xg_goto).toX ?_
    exact xg_eX ⟨m, _, cn, sl, hL2, hC2, by omega, by omega, rfl⟩
theorem lwc_16 (hi : i + 7 ≤ L) (hLL : L ≤ 3584) (hus : ∀ j, us j ≤ 4294967295) (hL : xLI m w) (hC : xCo w) (h1 : cn + 25 ≤ 600000) (h2 : sl + 4088 ≤ 7302250) : xToX L us 1000 mLa (716, [], [(3, (0, i)), (2, (2, 82)), (1, (2, 0)), (0, (8, 99))], [], (w, [], [], cn, sl, 81 + 12 * m, 114 + 25 * m)) (lwP i cn sl) := by
  refine xg_tX (xg_blk (b := [(716, 1, 0, 1, 0, 0), (717, 1, 0, 0, 0, 0), (718, 1, 2, 3, 0, 0), (719, 1, 3, 1, 0, 0), (720, 1, 11, 0, 0, 0), (721, 1, 10, 0, 0, 0), (722, 3, 7, 729, 0, 0), (725, 1, 3, 1, 0, 0), (726, 3, 8, 730, 0, 0)]) rfl).toX ?_
  refine xg_tX (xg_aload (va := (2, 0)) rfl rfl).toX ?_
  refine xg_tX (lwA (k := 1) (by omega) (by omega)) ?_
  by_cases hz : us (i + 1) = 0
  · skip
    refine xg_tX (xg_ifT (u := us (i + 1)) rfl xnm0 (xj_eqT hz)).toX ?_
    refine xg_tX (xg_blk (b := [(729, 1, 3, 0, 0, 0)]) rfl).toX ?_
    refine xg_tX (xg_const).toX ?_
    refine xg_tX (xg_blk (b := [(730, 1, 0, 0, 0, 0), (731, 1, 2, 3, 0, 0), (732, 1, 3, 2, 0, 0), (733, 1, 11, 0, 0, 0), (734, 1, 10, 0, 0, 0), (735, 1, 0, 0, 0, 0), (736, 1, 2, 3, 0, 0), (737, 1, 3, 3, 0, 0), (738, 1, 11, 0, 0, 0), (739, 1, 10, 0, 0, 0), (740, 3, 13, 77, 88, 84), (743, 1, 40, 0, 0, 0), (744, 1, 0, 2, 0, 0), (745, 1, 0, 0, 0, 0), (746, 1, 2, 3, 0, 0), (747, 1, 3, 1, 0, 0), (748, 1, 11, 0, 0, 0), (749, 1, 10, 0, 0, 0), (750, 3, 7, 757, 0, 0), (753, 1, 3, 1, 0, 0), (754, 3, 8, 758, 0, 0)]) rfl).toX ?_
    refine xg_tX (lwA (k := 2) (by omega) (by omega)) ?_
    refine xg_tX (lwA (k := 3) (by omega) (by omega)) ?_
    refine lwCx mX11_leads (vs := [(0, 0), (0, us (i + 2)), (0, us (i + 3))]) (rest := []) rfl hL (scLeads hL.1 (by decide) (hus _) (hus _)) (by decide) rfl rfl rfl rfl rfl rfl rfl (by omega) (by omega) (fun n1 w1 hF1 hR1 hL1 => ?_)
    have hC1 := hC.fr hR1 (by decide) (trivial)
    refine xg_tX (xg_pop rfl).toX ?_
    refine xg_tX (xg_aload (va := (2, 82)) rfl rfl).toX ?_
    refine xg_tX (lwA (k := 1) (by omega) (by omega)) ?_
    refine xg_tX (xg_ifT (u := us (i + 1)) rfl xnm0 (xj_eqT hz)).toX ?_
    refine xg_tX (xg_blk (b := [(757, 1, 3, 0, 0, 0)]) rfl).toX ?_
    refine xg_tX (xg_const).toX ?_
    refine xg_tX (xg_blk (b := [(758, 1, 0, 0, 0, 0), (759, 1, 2, 3, 0, 0), (760, 1, 3, 2, 0, 0), (761, 1, 11, 0, 0, 0), (762, 1, 10, 0, 0, 0), (763, 1, 0, 0, 0, 0), (764, 1, 2, 3, 0, 0), (765, 1, 3, 3, 0, 0), (766, 1, 11, 0, 0, 0), (767, 1, 10, 0, 0, 0), (768, 3, 13, 183, 96, 87), (771, 1, 40, 0, 0, 0), (772, 3, 8, 1705, 0, 0)]) rfl).toX ?_
    refine xg_tX (lwA (k := 2) (by omega) (by omega)) ?_
    refine xg_tX (lwA (k := 3) (by omega) (by omega)) ?_
    refine lwCm mX12_leads (vs := [(0, 0), (0, us (i + 2)), (0, us (i + 3))]) (rest := []) rfl hL1 (mLeads hL1.2.1 (by decide) (hus _) (hus _)) (by decide) rfl rfl rfl rfl rfl rfl rfl (by omega) (by omega) (fun n2 w2 hF2 hR2 hL2 => ?_)
    have hC2 := hC1.fr hR2 (by decide) (trivial)
    refine xg_tX (xg_pop rfl).toX ?_
    refine xg_tX (xg_goto).toX ?_
    exact xg_eX ⟨m, _, cn, sl, hL2, hC2, by omega, by omega, rfl⟩
  · skip
    refine xg_tX (xg_ifF (u := us (i + 1)) rfl xnm0 (xj_eqF hz)).toX ?_
    refine xg_tX (xg_const).toX ?_
    refine xg_tX (xg_goto).toX ?_
    refine xg_tX (xg_blk (b := [(730, 1, 0, 0, 0, 0), (731, 1, 2, 3, 0, 0), (732, 1, 3, 2, 0, 0), (733, 1, 11, 0, 0, 0), (734, 1, 10, 0, 0, 0), (735, 1, 0, 0, 0, 0), (736, 1, 2, 3, 0, 0), (737, 1, 3, 3, 0, 0), (738, 1, 11, 0, 0, 0), (739, 1, 10, 0, 0, 0), (740, 3, 13, 77, 88, 84), (743, 1, 40, 0, 0, 0), (744, 1, 0, 2, 0, 0), (745, 1, 0, 0, 0, 0), (746, 1, 2, 3, 0, 0), (747, 1, 3, 1, 0, 0), (748, 1, 11, 0, 0, 0), (749, 1, 10, 0, 0, 0), (750, 3, 7, 757, 0, 0), (753, 1, 3, 1, 0, 0), (754, 3, 8, 758, 0, 0)]) rfl).toX ?_
    refine xg_tX (lwA (k := 2) (by omega) (by omega)) ?_
    refine xg_tX (lwA (k := 3) (by omega) (by omega)) ?_
    refine lwCx mX11_leads (vs := [(0, 1), (0, us (i + 2)), (0, us (i + 3))]) (rest := []) rfl hL (scLeads hL.1 (by decide) (hus _) (hus _)) (by decide) rfl rfl rfl rfl rfl rfl rfl (by omega) (by omega) (fun n1 w1 hF1 hR1 hL1 => ?_)
    have hC1 := hC.fr hR1 (by decide) (trivial)
    refine xg_tX (xg_pop rfl).toX ?_
    refine xg_tX (xg_aload (va := (2, 82)) rfl rfl).toX ?_
    refine xg_tX (lwA (k := 1) (by omega) (by omega)) ?_
    refine xg_tX (xg_ifF (u := us (i + 1)) rfl xnm0 (xj_eqF hz)).toX ?_
    refine xg_tX (xg_const).toX ?_
    refine xg_tX (xg_goto).toX ?_
    refine xg_tX (xg_blk (b := [(758, 1, 0, 0, 0, 0), (759, 1, 2, 3, 0, 0), (760, 1, 3, 2, 0, 0), (761, 1, 11, 0, 0, 0), (762, 1, 10, 0, 0, 0), (763, 1, 0, 0, 0, 0), (764, 1, 2, 3, 0, 0), (765, 1, 3, 3, 0, 0), (766, 1, 11, 0, 0, 0), (767, 1, 10, 0, 0, 0), (768, 3, 13, 183, 96, 87), (771, 1, 40, 0, 0, 0), (772, 3, 8, 1705, 0, 0)]) rfl).toX ?_
    refine xg_tX (lwA (k := 2) (by omega) (by omega)) ?_
    refine xg_tX (lwA (k := 3) (by omega) (by omega)) ?_
    refine lwCm mX12_leads (vs := [(0, 1), (0, us (i + 2)), (0, us (i + 3))]) (rest := []) rfl hL1 (mLeads hL1.2.1 (by decide) (hus _) (hus _)) (by decide) rfl rfl rfl rfl rfl rfl rfl (by omega) (by omega) (fun n2 w2 hF2 hR2 hL2 => ?_)
    have hC2 := hC1.fr hR2 (by decide) (trivial)
    refine xg_tX (xg_pop rfl).toX ?_
    refine xg_tX (xg_goto).toX ?_
    exact xg_eX ⟨m, _, cn, sl, hL2, hC2, by omega, by omega, rfl⟩
theorem lwc_17 (hi : i + 7 ≤ L) (hLL : L ≤ 3584) (hus : ∀ j, us j ≤ 4294967295) (hL : xLI m w) (hC : xCo w) (h1 : cn + 25 ≤ 600000) (h2 : sl + 4088 ≤ 7302250) : xToX L us 1000 mLa (775, [], [(3, (0, i)), (2, (2, 82)), (1, (2, 0)), (0, (8, 99))], [], (w, [], [], cn, sl, 81 + 12 * m, 114 + 25 * m)) (lwP i cn sl) := by
  refine xg_tX (xg_blk (b := [(775, 1, 0, 1, 0, 0), (776, 3, 13, 82, 88, 88), (779, 1, 40, 0, 0, 0), (780, 1, 0, 2, 0, 0), (781, 3, 13, 193, 96, 91), (784, 1, 40, 0, 0, 0), (785, 3, 8, 1705, 0, 0)]) rfl).toX ?_
  refine xg_tX (xg_aload (va := (2, 0)) rfl rfl).toX ?_
  refine lwCx mX11_most (vs := []) (rest := []) rfl hL (scMost hL.1) (by decide) rfl rfl rfl rfl rfl rfl rfl (by omega) (by omega) (fun n1 w1 hF1 hR1 hL1 => ?_)
  have hC1 := hC.fr hR1 (by decide) (trivial)
  refine xg_tX (xg_pop rfl).toX ?_
  refine xg_tX (xg_aload (va := (2, 82)) rfl rfl).toX ?_
  refine lwCm mX12_most (vs := []) (rest := []) rfl hL1 (mMost hL1.2.1) (by decide) rfl rfl rfl rfl rfl rfl rfl (by omega) (by omega) (fun n2 w2 hF2 hR2 hL2 => ?_)
  have hC2 := hC1.fr hR2 (by decide) (trivial)
  refine xg_tX (xg_pop rfl).toX ?_
  refine xg_tX (xg_goto).toX ?_
  exact xg_eX ⟨m, _, cn, sl, hL2, hC2, by omega, by omega, rfl⟩
theorem lwc_18 (hi : i + 7 ≤ L) (hLL : L ≤ 3584) (hus : ∀ j, us j ≤ 4294967295) (hL : xLI m w) (hC : xCo w) (h1 : cn + 25 ≤ 600000) (h2 : sl + 4088 ≤ 7302250) : xToX L us 1000 mLa (788, [], [(3, (0, i)), (2, (2, 82)), (1, (2, 0)), (0, (8, 99))], [], (w, [], [], cn, sl, 81 + 12 * m, 114 + 25 * m)) (lwP i cn sl) := by
  refine xg_tX (xg_blk (b := [(788, 1, 0, 1, 0, 0), (789, 1, 0, 0, 0, 0), (790, 1, 2, 3, 0, 0), (791, 1, 3, 1, 0, 0), (792, 1, 11, 0, 0, 0), (793, 1, 10, 0, 0, 0), (794, 3, 13, 58, 88, 92), (797, 1, 40, 0, 0, 0), (798, 1, 0, 2, 0, 0), (799, 1, 0, 0, 0, 0), (800, 1, 2, 3, 0, 0), (801, 1, 3, 1, 0, 0), (802, 1, 11, 0, 0, 0), (803, 1, 10, 0, 0, 0), (804, 3, 13, 142, 96, 95), (807, 1, 40, 0, 0, 0), (808, 3, 8, 1705, 0, 0)]) rfl).toX ?_
  refine xg_tX (xg_aload (va := (2, 0)) rfl rfl).toX ?_
  refine xg_tX (lwA (k := 1) (by omega) (by omega)) ?_
  refine lwCx mX11_fed (vs := [(0, us (i + 1))]) (rest := []) rfl hL (scFed hL.1 (hus _)) (by decide) rfl rfl rfl rfl rfl rfl rfl (by omega) (by omega) (fun n1 w1 hF1 hR1 hL1 => ?_)
  have hC1 := hC.fr hR1 (by decide) (trivial)
  refine xg_tX (xg_pop rfl).toX ?_
  refine xg_tX (xg_aload (va := (2, 82)) rfl rfl).toX ?_
  refine xg_tX (lwA (k := 1) (by omega) (by omega)) ?_
  refine lwCm mX12_fed (vs := [(0, us (i + 1))]) (rest := []) rfl hL1 (mFed hL1.2.1 (hus _)) (by decide) rfl rfl rfl rfl rfl rfl rfl (by omega) (by omega) (fun n2 w2 hF2 hR2 hL2 => ?_)
  have hC2 := hC1.fr hR2 (by decide) (trivial)
  refine xg_tX (xg_pop rfl).toX ?_
  refine xg_tX (xg_goto).toX ?_
  exact xg_eX ⟨m, _, cn, sl, hL2, hC2, by omega, by omega, rfl⟩
theorem lwc_19 (hi : i + 7 ≤ L) (hLL : L ≤ 3584) (hus : ∀ j, us j ≤ 4294967295) (hL : xLI m w) (hC : xCo w) (h1 : cn + 25 ≤ 600000) (h2 : sl + 4088 ≤ 7302250) : xToX L us 1000 mLa (811, [], [(3, (0, i)), (2, (2, 82)), (1, (2, 0)), (0, (8, 99))], [], (w, [], [], cn, sl, 81 + 12 * m, 114 + 25 * m)) (lwP i cn sl) := by
  refine xg_tX (xg_blk (b := [(811, 1, 0, 1, 0, 0), (812, 1, 0, 0, 0, 0), (813, 1, 2, 3, 0, 0), (814, 1, 3, 1, 0, 0), (815, 1, 11, 0, 0, 0), (816, 1, 10, 0, 0, 0), (817, 3, 13, 50, 88, 96), (820, 1, 40, 0, 0, 0), (821, 1, 0, 2, 0, 0), (822, 1, 0, 0, 0, 0), (823, 1, 2, 3, 0, 0), (824, 1, 3, 1, 0, 0), (825, 1, 11, 0, 0, 0), (826, 1, 10, 0, 0, 0), (827, 3, 13, 131, 96, 99), (830, 1, 40, 0, 0, 0), (831, 3, 8, 1705, 0, 0)]) rfl).toX ?_
  refine xg_tX (xg_aload (va := (2, 0)) rfl rfl).toX ?_
  refine xg_tX (lwA (k := 1) (by omega) (by omega)) ?_
  refine lwCx mX11_cut (vs := [(0, us (i + 1))]) (rest := []) rfl hL (scCut hL.1 (hus _)) (by decide) rfl rfl rfl rfl rfl rfl rfl (by omega) (by omega) (fun n1 w1 hF1 hR1 hL1 => ?_)
  have hC1 := hC.fr hR1 (by decide) (trivial)
  refine xg_tX (xg_pop rfl).toX ?_
  refine xg_tX (xg_aload (va := (2, 82)) rfl rfl).toX ?_
  refine xg_tX (lwA (k := 1) (by omega) (by omega)) ?_
  refine lwCm mX12_cut (vs := [(0, us (i + 1))]) (rest := []) rfl hL1 (mCut hL1.2.1 (hus _)) (by decide) rfl rfl rfl rfl rfl rfl rfl (by omega) (by omega) (fun n2 w2 hF2 hR2 hL2 => ?_)
  have hC2 := hC1.fr hR2 (by decide) (trivial)
  refine xg_tX (xg_pop rfl).toX ?_
  refine xg_tX (xg_goto).toX ?_
  exact xg_eX ⟨m, _, cn, sl, hL2, hC2, by omega, by omega, rfl⟩
theorem lwc_20 (hi : i + 7 ≤ L) (hLL : L ≤ 3584) (hus : ∀ j, us j ≤ 4294967295) (hL : xLI m w) (hC : xCo w) (h1 : cn + 25 ≤ 600000) (h2 : sl + 4088 ≤ 7302250) : xToX L us 1000 mLa (834, [], [(3, (0, i)), (2, (2, 82)), (1, (2, 0)), (0, (8, 99))], [], (w, [], [], cn, sl, 81 + 12 * m, 114 + 25 * m)) (lwP i cn sl) := by
  refine xg_tX (xg_blk (b := [(834, 1, 0, 1, 0, 0), (835, 1, 0, 0, 0, 0), (836, 1, 2, 3, 0, 0), (837, 1, 3, 1, 0, 0), (838, 1, 11, 0, 0, 0), (839, 1, 10, 0, 0, 0), (840, 1, 0, 0, 0, 0), (841, 1, 2, 3, 0, 0), (842, 1, 3, 2, 0, 0), (843, 1, 11, 0, 0, 0), (844, 1, 10, 0, 0, 0), (845, 1, 0, 0, 0, 0), (846, 1, 2, 3, 0, 0), (847, 1, 3, 3, 0, 0), (848, 1, 11, 0, 0, 0), (849, 1, 10, 0, 0, 0), (850, 3, 13, 66, 88, 100), (853, 1, 40, 0, 0, 0), (854, 1, 0, 2, 0, 0), (855, 1, 0, 0, 0, 0), (856, 1, 2, 3, 0, 0), (857, 1, 3, 1, 0, 0), (858, 1, 11, 0, 0, 0), (859, 1, 10, 0, 0, 0), (860, 1, 0, 0, 0, 0), (861, 1, 2, 3, 0, 0), (862, 1, 3, 2, 0, 0), (863, 1, 11, 0, 0, 0), (864, 1, 10, 0, 0, 0), (865, 1, 0, 0, 0, 0), (866, 1, 2, 3, 0, 0), (867, 1, 3, 3, 0, 0), (868, 1, 11, 0, 0, 0), (869, 1, 10, 0, 0, 0), (870, 3, 13, 154, 96, 104), (873, 1, 40, 0, 0, 0), (874, 3, 8, 1705, 0, 0)]) rfl).toX ?_
  refine xg_tX (xg_aload (va := (2, 0)) rfl rfl).toX ?_
  refine xg_tX (lwA (k := 1) (by omega) (by omega)) ?_
  refine xg_tX (lwA (k := 2) (by omega) (by omega)) ?_
  refine xg_tX (lwA (k := 3) (by omega) (by omega)) ?_
  refine lwCx mX11_inCut (vs := [(0, us (i + 1)), (0, us (i + 2)), (0, us (i + 3))]) (rest := []) rfl hL (scInCut hL.1 (hus _) (hus _) (hus _)) (by decide) rfl rfl rfl rfl rfl rfl rfl (by omega) (by omega) (fun n1 w1 hF1 hR1 hL1 => ?_)
  have hC1 := hC.fr hR1 (by decide) (trivial)
  refine xg_tX (xg_pop rfl).toX ?_
  refine xg_tX (xg_aload (va := (2, 82)) rfl rfl).toX ?_
  refine xg_tX (lwA (k := 1) (by omega) (by omega)) ?_
  refine xg_tX (lwA (k := 2) (by omega) (by omega)) ?_
  refine xg_tX (lwA (k := 3) (by omega) (by omega)) ?_
  refine lwCm mX12_inCut (vs := [(0, us (i + 1)), (0, us (i + 2)), (0, us (i + 3))]) (rest := []) rfl hL1 (mInCut hL1.2.1 (hus _) (hus _) (hus _)) (by decide) rfl rfl rfl rfl rfl rfl rfl (by omega) (by omega) (fun n2 w2 hF2 hR2 hL2 => ?_)
  have hC2 := hC1.fr hR2 (by decide) (trivial)
  refine xg_tX (xg_pop rfl).toX ?_
  refine xg_tX (xg_goto).toX ?_
  exact xg_eX ⟨m, _, cn, sl, hL2, hC2, by omega, by omega, rfl⟩
theorem lwc_21 (hi : i + 7 ≤ L) (hLL : L ≤ 3584) (hus : ∀ j, us j ≤ 4294967295) (hL : xLI m w) (hC : xCo w) (h1 : cn + 25 ≤ 600000) (h2 : sl + 4088 ≤ 7302250) : xToX L us 1000 mLa (877, [], [(3, (0, i)), (2, (2, 82)), (1, (2, 0)), (0, (8, 99))], [], (w, [], [], cn, sl, 81 + 12 * m, 114 + 25 * m)) (lwP i cn sl) := by
  refine xg_tX (xg_blk (b := [(877, 1, 0, 1, 0, 0), (878, 1, 0, 0, 0, 0), (879, 1, 2, 3, 0, 0), (880, 1, 3, 1, 0, 0), (881, 1, 11, 0, 0, 0), (882, 1, 10, 0, 0, 0), (883, 1, 0, 0, 0, 0), (884, 1, 2, 3, 0, 0), (885, 1, 3, 2, 0, 0), (886, 1, 11, 0, 0, 0), (887, 1, 10, 0, 0, 0), (888, 1, 0, 0, 0, 0), (889, 1, 2, 3, 0, 0), (890, 1, 3, 3, 0, 0), (891, 1, 11, 0, 0, 0), (892, 1, 10, 0, 0, 0), (893, 1, 0, 0, 0, 0), (894, 1, 2, 3, 0, 0), (895, 1, 3, 4, 0, 0), (896, 1, 11, 0, 0, 0), (897, 1, 10, 0, 0, 0), (898, 1, 0, 0, 0, 0), (899, 1, 2, 3, 0, 0), (900, 1, 3, 5, 0, 0), (901, 1, 11, 0, 0, 0), (902, 1, 10, 0, 0, 0), (903, 1, 0, 0, 0, 0), (904, 1, 2, 3, 0, 0), (905, 2, 4, 6, 0, 0), (907, 1, 11, 0, 0, 0), (908, 1, 10, 0, 0, 0), (909, 3, 13, 88, 88, 105), (912, 1, 40, 0, 0, 0), (913, 1, 0, 2, 0, 0), (914, 1, 0, 0, 0, 0), (915, 1, 2, 3, 0, 0), (916, 1, 3, 1, 0, 0), (917, 1, 11, 0, 0, 0), (918, 1, 10, 0, 0, 0), (919, 1, 0, 0, 0, 0), (920, 1, 2, 3, 0, 0), (921, 1, 3, 2, 0, 0), (922, 1, 11, 0, 0, 0), (923, 1, 10, 0, 0, 0), (924, 1, 0, 0, 0, 0), (925, 1, 2, 3, 0, 0), (926, 1, 3, 3, 0, 0), (927, 1, 11, 0, 0, 0), (928, 1, 10, 0, 0, 0), (929, 1, 0, 0, 0, 0), (930, 1, 2, 3, 0, 0), (931, 1, 3, 4, 0, 0), (932, 1, 11, 0, 0, 0), (933, 1, 10, 0, 0, 0), (934, 1, 0, 0, 0, 0), (935, 1, 2, 3, 0, 0), (936, 1, 3, 5, 0, 0), (937, 1, 11, 0, 0, 0), (938, 1, 10, 0, 0, 0), (939, 1, 0, 0, 0, 0), (940, 1, 2, 3, 0, 0), (941, 2, 4, 6, 0, 0), (943, 1, 11, 0, 0, 0), (944, 1, 10, 0, 0, 0), (945, 3, 13, 205, 96, 109), (948, 1, 40, 0, 0, 0), (949, 3, 8, 1705, 0, 0)]) rfl).toX ?_
  refine xg_tX (xg_aload (va := (2, 0)) rfl rfl).toX ?_
  refine xg_tX (lwA (k := 1) (by omega) (by omega)) ?_
  refine xg_tX (lwA (k := 2) (by omega) (by omega)) ?_
  refine xg_tX (lwA (k := 3) (by omega) (by omega)) ?_
  refine xg_tX (lwA (k := 4) (by omega) (by omega)) ?_
  refine xg_tX (lwA (k := 5) (by omega) (by omega)) ?_
  refine xg_tX (lwA4 (k := 6) (by omega) (by omega)) ?_
  refine lwCx mX11_picture (vs := [(0, us (i + 1)), (0, us (i + 2)), (0, us (i + 3)), (0, us (i + 4)), (0, us (i + 5)), (0, us (i + 6))]) (rest := []) rfl hL (scPictureX hL.1 (hus _) (hus _) (hus _) (hus _) (hus _) (hus _)) (by decide) rfl rfl rfl rfl rfl rfl rfl (by omega) (by omega) (fun n1 w1 hF1 hR1 hL1 => ?_)
  refine xg_tX (xg_pop rfl).toX ?_
  refine xg_tX (xg_aload (va := (2, 82)) rfl rfl).toX ?_
  refine xg_tX (lwA (k := 1) (by omega) (by omega)) ?_
  refine xg_tX (lwA (k := 2) (by omega) (by omega)) ?_
  refine xg_tX (lwA (k := 3) (by omega) (by omega)) ?_
  refine xg_tX (lwA (k := 4) (by omega) (by omega)) ?_
  refine xg_tX (lwA (k := 5) (by omega) (by omega)) ?_
  refine xg_tX (lwA4 (k := 6) (by omega) (by omega)) ?_
  refine lwCm mX12_picture (vs := [(0, us (i + 1)), (0, us (i + 2)), (0, us (i + 3)), (0, us (i + 4)), (0, us (i + 5)), (0, us (i + 6))]) (rest := []) rfl hL1 (mPictureX hL1.2.1 (hus _) (hus _) (hus _) (hus _) (hus _) (hus _)) (by decide) rfl rfl rfl rfl rfl rfl rfl (by omega) (by omega) (fun n2 w2 hF2 hR2 hL2 => ?_)
  obtain ⟨hT, hD, hFi, hP, hH, hE⟩ := id hC.1
  have r1 : ∀ j, rwv w1 83 j = rwv w 83 j := fun j => rwv_fr hR1 (by decide)
  have c1 : ∀ j, fld w2 1 j = fld w1 1 j := fun j => fld_fr hR2 (by decide)
  obtain ⟨hnn2, hP2⟩ := hP.pic ⟨hFi.1.2.2.1, hFi.1.2.2.2.1⟩ hF1 hR1 (by decide) hF2 hR2
  obtain ⟨-, -, mJ⟩ := id hF2
  have l1 : fld w 16 3 = rwv w 83 10 := hP.1
  have l2 : fld w 16 3 ≤ 12 := hP.2.1
  have l3 := r1 10
  have hC2 : xCo w2 := hC.st (fun k h => (hR2.kp (by decide) k h).trans (hR1.kp (by decide) k h)) (fun j x y => (mJ j (by omega) (by omega)).trans (r1 j)) ⟨(hT.kp ((c1 1).trans (fld_fr hR1 (by decide))) ((hR2.1 2 (by decide)).trans (hR1.1 2 (by decide))) ((mJ 15 (by omega) (by omega)).trans (r1 15)) (fun j p q => (mJ j (by omega) (by omega)).trans (r1 j))), (hD.kp ((c1 6).trans (fld_fr hR1 (by decide))) ((c1 7).trans (fld_fr hR1 (by decide))) ((c1 9).trans (fld_fr hR1 (by decide))) (fun j p q => (mJ j (by omega) (by omega)).trans (r1 j))), (hFi.kp (keepL hR1 hR2 (by decide)) (fun j p => (mJ j (by omega) (by omega)).trans (r1 j))), hP2, (hH.kp ((hR2.1 18 (by decide)).trans (hR1.1 18 (by decide))) ((hR2.1 19 (by decide)).trans (hR1.1 19 (by decide))) ((mJ 900 (by omega) (by omega)).trans (r1 900)) (fun j p q => (mJ j (by omega) (by omega)).trans (r1 j))), (hE.kp ((hR2.1 20 (by decide)).trans (hR1.1 20 (by decide))) ((hR2.1 21 (by decide)).trans (hR1.1 21 (by decide))) ((mJ 901 (by omega) (by omega)).trans (r1 901)) (fun j p q => (mJ j (by omega) (by omega)).trans (r1 j)))⟩ (trivial)
  refine xg_tX (xg_pop rfl).toX ?_
  refine xg_tX (xg_goto).toX ?_
  exact xg_eX ⟨m, _, cn, sl, hL2, hC2, by omega, by omega, rfl⟩
theorem lwc_22 (hi : i + 7 ≤ L) (hLL : L ≤ 3584) (hus : ∀ j, us j ≤ 4294967295) (hL : xLI m w) (hC : xCo w) (h1 : cn + 25 ≤ 600000) (h2 : sl + 4088 ≤ 7302250) : xToX L us 1000 mLa (952, [], [(3, (0, i)), (2, (2, 82)), (1, (2, 0)), (0, (8, 99))], [], (w, [], [], cn, sl, 81 + 12 * m, 114 + 25 * m)) (lwP i cn sl) := by
  refine xg_tX (xg_blk (b := [(952, 1, 0, 1, 0, 0), (953, 1, 0, 0, 0, 0), (954, 1, 2, 3, 0, 0), (955, 1, 3, 1, 0, 0), (956, 1, 11, 0, 0, 0), (957, 1, 10, 0, 0, 0), (958, 1, 0, 0, 0, 0), (959, 1, 2, 3, 0, 0), (960, 1, 3, 2, 0, 0), (961, 1, 11, 0, 0, 0), (962, 1, 10, 0, 0, 0), (963, 3, 13, 79, 88, 110), (966, 1, 40, 0, 0, 0), (967, 1, 0, 2, 0, 0), (968, 1, 0, 0, 0, 0), (969, 1, 2, 3, 0, 0), (970, 1, 3, 1, 0, 0), (971, 1, 11, 0, 0, 0), (972, 1, 10, 0, 0, 0), (973, 1, 0, 0, 0, 0), (974, 1, 2, 3, 0, 0), (975, 1, 3, 2, 0, 0), (976, 1, 11, 0, 0, 0), (977, 1, 10, 0, 0, 0), (978, 3, 13, 186, 96, 113), (981, 1, 40, 0, 0, 0), (982, 3, 8, 1705, 0, 0)]) rfl).toX ?_
  refine xg_tX (xg_aload (va := (2, 0)) rfl rfl).toX ?_
  refine xg_tX (lwA (k := 1) (by omega) (by omega)) ?_
  refine xg_tX (lwA (k := 2) (by omega) (by omega)) ?_
  refine lwCx mX11_left (vs := [(0, us (i + 1)), (0, us (i + 2))]) (rest := []) rfl hL (scLeft hL.1 (hus _) (hus _)) (by decide) rfl rfl rfl rfl rfl rfl rfl (by omega) (by omega) (fun n1 w1 hF1 hR1 hL1 => ?_)
  have hC1 := hC.fr hR1 (by decide) (trivial)
  refine xg_tX (xg_pop rfl).toX ?_
  refine xg_tX (xg_aload (va := (2, 82)) rfl rfl).toX ?_
  refine xg_tX (lwA (k := 1) (by omega) (by omega)) ?_
  refine xg_tX (lwA (k := 2) (by omega) (by omega)) ?_
  refine lwCm mX12_left (vs := [(0, us (i + 1)), (0, us (i + 2))]) (rest := []) rfl hL1 (mLeft hL1.2.1 (hus _) (hus _)) (by decide) rfl rfl rfl rfl rfl rfl rfl (by omega) (by omega) (fun n2 w2 hF2 hR2 hL2 => ?_)
  have hC2 := hC1.fr hR2 (by decide) (trivial)
  refine xg_tX (xg_pop rfl).toX ?_
  refine xg_tX (xg_goto).toX ?_
  exact xg_eX ⟨m, _, cn, sl, hL2, hC2, by omega, by omega, rfl⟩
theorem lwc_23 (hi : i + 7 ≤ L) (hLL : L ≤ 3584) (hus : ∀ j, us j ≤ 4294967295) (hL : xLI m w) (hC : xCo w) (h1 : cn + 25 ≤ 600000) (h2 : sl + 4088 ≤ 7302250) : xToX L us 1000 mLa (985, [], [(3, (0, i)), (2, (2, 82)), (1, (2, 0)), (0, (8, 99))], [], (w, [], [], cn, sl, 81 + 12 * m, 114 + 25 * m)) (lwP i cn sl) := by
  refine xg_tX (xg_blk (b := [(985, 1, 0, 1, 0, 0), (986, 3, 13, 101, 88, 114), (989, 1, 40, 0, 0, 0), (990, 1, 0, 2, 0, 0), (991, 3, 13, 232, 96, 117), (994, 1, 40, 0, 0, 0), (995, 3, 8, 1705, 0, 0)]) rfl).toX ?_
  refine xg_tX (xg_aload (va := (2, 0)) rfl rfl).toX ?_
  refine lwCx mX11_unlike (vs := []) (rest := []) rfl hL (scUnlike hL.1) (by decide) rfl rfl rfl rfl rfl rfl rfl (by omega) (by omega) (fun n1 w1 hF1 hR1 hL1 => ?_)
  have hC1 := hC.fr hR1 (by decide) (trivial)
  refine xg_tX (xg_pop rfl).toX ?_
  refine xg_tX (xg_aload (va := (2, 82)) rfl rfl).toX ?_
  refine lwCm mX12_unlike (vs := []) (rest := []) rfl hL1 (mUnlike hL1.2.1) (by decide) rfl rfl rfl rfl rfl rfl rfl (by omega) (by omega) (fun n2 w2 hF2 hR2 hL2 => ?_)
  have hC2 := hC1.fr hR2 (by decide) (trivial)
  refine xg_tX (xg_pop rfl).toX ?_
  refine xg_tX (xg_goto).toX ?_
  exact xg_eX ⟨m, _, cn, sl, hL2, hC2, by omega, by omega, rfl⟩
theorem lwc_24 (hi : i + 7 ≤ L) (hLL : L ≤ 3584) (hus : ∀ j, us j ≤ 4294967295) (hL : xLI m w) (hC : xCo w) (h1 : cn + 25 ≤ 600000) (h2 : sl + 4088 ≤ 7302250) : xToX L us 1000 mLa (998, [], [(3, (0, i)), (2, (2, 82)), (1, (2, 0)), (0, (8, 99))], [], (w, [], [], cn, sl, 81 + 12 * m, 114 + 25 * m)) (lwP i cn sl) := by
  refine xg_tX (xg_blk (b := [(998, 1, 0, 1, 0, 0), (999, 1, 0, 0, 0, 0), (1000, 1, 2, 3, 0, 0), (1001, 1, 3, 1, 0, 0), (1002, 1, 11, 0, 0, 0), (1003, 1, 10, 0, 0, 0), (1004, 3, 13, 104, 88, 118), (1007, 1, 40, 0, 0, 0), (1008, 1, 0, 2, 0, 0), (1009, 1, 0, 0, 0, 0), (1010, 1, 2, 3, 0, 0), (1011, 1, 3, 1, 0, 0), (1012, 1, 11, 0, 0, 0), (1013, 1, 10, 0, 0, 0), (1014, 3, 13, 236, 96, 121), (1017, 1, 40, 0, 0, 0), (1018, 3, 8, 1705, 0, 0)]) rfl).toX ?_
  refine xg_tX (xg_aload (va := (2, 0)) rfl rfl).toX ?_
  refine xg_tX (lwA (k := 1) (by omega) (by omega)) ?_
  refine lwCx mX11_wet (vs := [(0, us (i + 1))]) (rest := []) rfl hL (scWetK hL.1 (hus _)) (by decide) rfl rfl rfl rfl rfl rfl rfl (by omega) (by omega) (fun n1 w1 hF1 hR1 hL1 => ?_)
  refine xg_tX (xg_pop rfl).toX ?_
  refine xg_tX (xg_aload (va := (2, 82)) rfl rfl).toX ?_
  refine xg_tX (lwA (k := 1) (by omega) (by omega)) ?_
  refine lwCm mX12_wet (vs := [(0, us (i + 1))]) (rest := []) rfl hL1 (mWetK hL1.2.1 (hus _)) (by decide) rfl rfl rfl rfl rfl rfl rfl (by omega) (by omega) (fun n2 w2 hF2 hR2 hL2 => ?_)
  obtain ⟨hT, hD, hFi, hP, hH, hE⟩ := id hC.1
  have r1 : ∀ j, rwv w1 83 j = rwv w 83 j := fun j => rwv_fr hR1 (by decide)
  have c1 : ∀ j, fld w2 1 j = fld w1 1 j := fun j => fld_fr hR2 (by decide)
  have d1 : fld w 1 6 = rwv w 83 11 := hD.1
  have d2 : fld w 1 7 = rwv w 83 12 := hD.2.1
  have d3 : fld w 1 9 = rwv w 83 13 := hD.2.2.1
  have d4 : fld w 1 6 ≤ 999 := hD.2.2.2
  have b11 := r1 11
  have b12 := r1 12
  have b13 := r1 13
  have c16 := c1 6
  have c17 := c1 7
  have c19 := c1 9
  obtain ⟨p0, p1, p2, p3, p6, p7⟩ := id hF1
  obtain ⟨m1, mJ⟩ := id hF2
  have m11 := mJ 11 (by omega) (by omega)
  have m12 := mJ 12 (by omega) (by omega)
  have hnn2 : n1 = n2 := by omega
  have hD2 : aqD w2 1 0 := ⟨(show fld w2 1 6 = rwv w2 83 11 by omega), (show fld w2 1 7 = rwv w2 83 12 by omega), (show fld w2 1 9 = rwv w2 83 13 by omega), (show fld w2 1 6 ≤ 999 by omega)⟩
  have hC2 : xCo w2 := hC.st (fun k h => (hR2.kp (by decide) k h).trans (hR1.kp (by decide) k h)) (fun j x y => (mJ j (by omega) (by omega)).trans (r1 j)) ⟨(hT.kp ((c1 1).trans p1) ((hR2.1 2 (by decide)).trans (hR1.1 2 (by decide))) ((mJ 15 (by omega) (by omega)).trans (r1 15)) (fun j p q => (mJ j (by omega) (by omega)).trans (r1 j))), hD2, (hFi.kp (keepL hR1 hR2 (by decide)) (fun j p => (mJ j (by omega) (by omega)).trans (r1 j))), (hP.kp ((hR2.1 16 (by decide)).trans (hR1.1 16 (by decide))) ((hR2.1 17 (by decide)).trans (hR1.1 17 (by decide))) ((mJ 10 (by omega) (by omega)).trans (r1 10)) (fun j p q => (mJ j (by omega) (by omega)).trans (r1 j))), (hH.kp ((hR2.1 18 (by decide)).trans (hR1.1 18 (by decide))) ((hR2.1 19 (by decide)).trans (hR1.1 19 (by decide))) ((mJ 900 (by omega) (by omega)).trans (r1 900)) (fun j p q => (mJ j (by omega) (by omega)).trans (r1 j))), (hE.kp ((hR2.1 20 (by decide)).trans (hR1.1 20 (by decide))) ((hR2.1 21 (by decide)).trans (hR1.1 21 (by decide))) ((mJ 901 (by omega) (by omega)).trans (r1 901)) (fun j p q => (mJ j (by omega) (by omega)).trans (r1 j)))⟩ (trivial)
  refine xg_tX (xg_pop rfl).toX ?_
  refine xg_tX (xg_goto).toX ?_
  exact xg_eX ⟨m, _, cn, sl, hL2, hC2, by omega, by omega, rfl⟩
theorem lwc_25 (hi : i + 7 ≤ L) (hLL : L ≤ 3584) (hus : ∀ j, us j ≤ 4294967295) (hL : xLI m w) (hC : xCo w) (h1 : cn + 25 ≤ 600000) (h2 : sl + 4088 ≤ 7302250) : xToX L us 1000 mLa (1021, [], [(3, (0, i)), (2, (2, 82)), (1, (2, 0)), (0, (8, 99))], [], (w, [], [], cn, sl, 81 + 12 * m, 114 + 25 * m)) (lwP i cn sl) := by
  refine xg_tX (xg_blk (b := [(1021, 1, 0, 1, 0, 0), (1022, 1, 0, 0, 0, 0), (1023, 1, 2, 3, 0, 0), (1024, 1, 3, 1, 0, 0), (1025, 1, 11, 0, 0, 0), (1026, 1, 10, 0, 0, 0), (1027, 1, 0, 0, 0, 0), (1028, 1, 2, 3, 0, 0), (1029, 1, 3, 2, 0, 0), (1030, 1, 11, 0, 0, 0), (1031, 1, 10, 0, 0, 0), (1032, 3, 13, 51, 88, 122), (1035, 1, 40, 0, 0, 0), (1036, 1, 0, 2, 0, 0), (1037, 1, 0, 0, 0, 0), (1038, 1, 2, 3, 0, 0), (1039, 1, 3, 1, 0, 0), (1040, 1, 11, 0, 0, 0), (1041, 1, 10, 0, 0, 0), (1042, 1, 0, 0, 0, 0), (1043, 1, 2, 3, 0, 0), (1044, 1, 3, 2, 0, 0), (1045, 1, 11, 0, 0, 0), (1046, 1, 10, 0, 0, 0), (1047, 3, 13, 133, 96, 125), (1050, 1, 40, 0, 0, 0), (1051, 3, 8, 1705, 0, 0)]) rfl).toX ?_
  refine xg_tX (xg_aload (va := (2, 0)) rfl rfl).toX ?_
  refine xg_tX (lwA (k := 1) (by omega) (by omega)) ?_
  refine xg_tX (lwA (k := 2) (by omega) (by omega)) ?_
  refine lwCx mX11_damp (vs := [(0, us (i + 1)), (0, us (i + 2))]) (rest := []) rfl hL (scDamp hL.1 (hus _) (hus _)) (by decide) rfl rfl rfl rfl rfl rfl rfl (by omega) (by omega) (fun n1 w1 hF1 hR1 hL1 => ?_)
  have hC1 := hC.fr hR1 (by decide) (trivial)
  refine xg_tX (xg_pop rfl).toX ?_
  refine xg_tX (xg_aload (va := (2, 82)) rfl rfl).toX ?_
  refine xg_tX (lwA (k := 1) (by omega) (by omega)) ?_
  refine xg_tX (lwA (k := 2) (by omega) (by omega)) ?_
  refine lwCm mX12_damp (vs := [(0, us (i + 1)), (0, us (i + 2))]) (rest := []) rfl hL1 (mDamp hL1.2.1 (hus _) (hus _)) (by decide) rfl rfl rfl rfl rfl rfl rfl (by omega) (by omega) (fun n2 w2 hF2 hR2 hL2 => ?_)
  have hC2 := hC1.fr hR2 (by decide) (trivial)
  refine xg_tX (xg_pop rfl).toX ?_
  refine xg_tX (xg_goto).toX ?_
  exact xg_eX ⟨m, _, cn, sl, hL2, hC2, by omega, by omega, rfl⟩
theorem lwc_26 (hi : i + 7 ≤ L) (hLL : L ≤ 3584) (hus : ∀ j, us j ≤ 4294967295) (hL : xLI m w) (hC : xCo w) (h1 : cn + 25 ≤ 600000) (h2 : sl + 4088 ≤ 7302250) : xToX L us 1000 mLa (1054, [], [(3, (0, i)), (2, (2, 82)), (1, (2, 0)), (0, (8, 99))], [], (w, [], [], cn, sl, 81 + 12 * m, 114 + 25 * m)) (lwP i cn sl) := by
  refine xg_tX (xg_blk (b := [(1054, 1, 0, 1, 0, 0), (1055, 1, 0, 0, 0, 0), (1056, 1, 2, 3, 0, 0), (1057, 1, 3, 1, 0, 0), (1058, 1, 11, 0, 0, 0), (1059, 1, 10, 0, 0, 0), (1060, 1, 0, 0, 0, 0), (1061, 1, 2, 3, 0, 0), (1062, 1, 3, 2, 0, 0), (1063, 1, 11, 0, 0, 0), (1064, 1, 10, 0, 0, 0), (1065, 3, 13, 52, 88, 126), (1068, 1, 40, 0, 0, 0), (1069, 1, 0, 2, 0, 0), (1070, 1, 0, 0, 0, 0), (1071, 1, 2, 3, 0, 0), (1072, 1, 3, 1, 0, 0), (1073, 1, 11, 0, 0, 0), (1074, 1, 10, 0, 0, 0), (1075, 1, 0, 0, 0, 0), (1076, 1, 2, 3, 0, 0), (1077, 1, 3, 2, 0, 0), (1078, 1, 11, 0, 0, 0), (1079, 1, 10, 0, 0, 0), (1080, 3, 13, 135, 96, 129), (1083, 1, 40, 0, 0, 0), (1084, 3, 8, 1705, 0, 0)]) rfl).toX ?_
  refine xg_tX (xg_aload (va := (2, 0)) rfl rfl).toX ?_
  refine xg_tX (lwA (k := 1) (by omega) (by omega)) ?_
  refine xg_tX (lwA (k := 2) (by omega) (by omega)) ?_
  refine lwCx mX11_dark (vs := [(0, us (i + 1)), (0, us (i + 2))]) (rest := []) rfl hL (scDark hL.1 (hus _) (hus _)) (by decide) rfl rfl rfl rfl rfl rfl rfl (by omega) (by omega) (fun n1 w1 hF1 hR1 hL1 => ?_)
  have hC1 := hC.fr hR1 (by decide) (trivial)
  refine xg_tX (xg_pop rfl).toX ?_
  refine xg_tX (xg_aload (va := (2, 82)) rfl rfl).toX ?_
  refine xg_tX (lwA (k := 1) (by omega) (by omega)) ?_
  refine xg_tX (lwA (k := 2) (by omega) (by omega)) ?_
  refine lwCm mX12_dark (vs := [(0, us (i + 1)), (0, us (i + 2))]) (rest := []) rfl hL1 (mDark hL1.2.1 (hus _) (hus _)) (by decide) rfl rfl rfl rfl rfl rfl rfl (by omega) (by omega) (fun n2 w2 hF2 hR2 hL2 => ?_)
  have hC2 := hC1.fr hR2 (by decide) (trivial)
  refine xg_tX (xg_pop rfl).toX ?_
  refine xg_tX (xg_goto).toX ?_
  exact xg_eX ⟨m, _, cn, sl, hL2, hC2, by omega, by omega, rfl⟩
theorem lwc_27 (hi : i + 7 ≤ L) (hLL : L ≤ 3584) (hus : ∀ j, us j ≤ 4294967295) (hL : xLI m w) (hC : xCo w) (h1 : cn + 25 ≤ 600000) (h2 : sl + 4088 ≤ 7302250) : xToX L us 1000 mLa (1087, [], [(3, (0, i)), (2, (2, 82)), (1, (2, 0)), (0, (8, 99))], [], (w, [], [], cn, sl, 81 + 12 * m, 114 + 25 * m)) (lwP i cn sl) := by
  refine xg_tX (xg_blk (b := [(1087, 1, 0, 1, 0, 0), (1088, 3, 13, 53, 88, 130), (1091, 1, 40, 0, 0, 0), (1092, 1, 0, 2, 0, 0), (1093, 3, 13, 137, 96, 133), (1096, 1, 40, 0, 0, 0), (1097, 3, 8, 1705, 0, 0)]) rfl).toX ?_
  refine xg_tX (xg_aload (va := (2, 0)) rfl rfl).toX ?_
  refine lwCx mX11_darks (vs := []) (rest := []) rfl hL (scDarks hL.1) (by decide) rfl rfl rfl rfl rfl rfl rfl (by omega) (by omega) (fun n1 w1 hF1 hR1 hL1 => ?_)
  have hC1 := hC.fr hR1 (by decide) (trivial)
  refine xg_tX (xg_pop rfl).toX ?_
  refine xg_tX (xg_aload (va := (2, 82)) rfl rfl).toX ?_
  refine lwCm mX12_darks (vs := []) (rest := []) rfl hL1 (mDarks hL1.2.1) (by decide) rfl rfl rfl rfl rfl rfl rfl (by omega) (by omega) (fun n2 w2 hF2 hR2 hL2 => ?_)
  have hC2 := hC1.fr hR2 (by decide) (trivial)
  refine xg_tX (xg_pop rfl).toX ?_
  refine xg_tX (xg_goto).toX ?_
  exact xg_eX ⟨m, _, cn, sl, hL2, hC2, by omega, by omega, rfl⟩
theorem lwc_28 (hi : i + 7 ≤ L) (hLL : L ≤ 3584) (hus : ∀ j, us j ≤ 4294967295) (hL : xLI m w) (hC : xCo w) (h1 : cn + 25 ≤ 600000) (h2 : sl + 4088 ≤ 7302250) : xToX L us 1000 mLa (1100, [], [(3, (0, i)), (2, (2, 82)), (1, (2, 0)), (0, (8, 99))], [], (w, [], [], cn, sl, 81 + 12 * m, 114 + 25 * m)) (lwP i cn sl) := by
  refine xg_tX (xg_blk (b := [(1100, 1, 0, 1, 0, 0), (1101, 1, 0, 0, 0, 0), (1102, 1, 2, 3, 0, 0), (1103, 1, 3, 1, 0, 0), (1104, 1, 11, 0, 0, 0), (1105, 1, 10, 0, 0, 0), (1106, 1, 0, 0, 0, 0), (1107, 1, 2, 3, 0, 0), (1108, 1, 3, 2, 0, 0), (1109, 1, 11, 0, 0, 0), (1110, 1, 10, 0, 0, 0), (1111, 1, 0, 0, 0, 0), (1112, 1, 2, 3, 0, 0), (1113, 1, 3, 3, 0, 0), (1114, 1, 11, 0, 0, 0), (1115, 1, 10, 0, 0, 0), (1116, 1, 0, 0, 0, 0), (1117, 1, 2, 3, 0, 0), (1118, 1, 3, 4, 0, 0), (1119, 1, 11, 0, 0, 0), (1120, 1, 10, 0, 0, 0), (1121, 3, 13, 102, 88, 134), (1124, 1, 40, 0, 0, 0), (1125, 1, 0, 2, 0, 0), (1126, 1, 0, 0, 0, 0), (1127, 1, 2, 3, 0, 0), (1128, 1, 3, 1, 0, 0), (1129, 1, 11, 0, 0, 0), (1130, 1, 10, 0, 0, 0), (1131, 1, 0, 0, 0, 0), (1132, 1, 2, 3, 0, 0), (1133, 1, 3, 2, 0, 0), (1134, 1, 11, 0, 0, 0), (1135, 1, 10, 0, 0, 0), (1136, 1, 0, 0, 0, 0), (1137, 1, 2, 3, 0, 0), (1138, 1, 3, 3, 0, 0), (1139, 1, 11, 0, 0, 0), (1140, 1, 10, 0, 0, 0), (1141, 1, 0, 0, 0, 0), (1142, 1, 2, 3, 0, 0), (1143, 1, 3, 4, 0, 0), (1144, 1, 11, 0, 0, 0), (1145, 1, 10, 0, 0, 0), (1146, 3, 13, 233, 96, 138), (1149, 1, 40, 0, 0, 0), (1150, 3, 8, 1705, 0, 0)]) rfl).toX ?_
  refine xg_tX (xg_aload (va := (2, 0)) rfl rfl).toX ?_
  refine xg_tX (lwA (k := 1) (by omega) (by omega)) ?_
  refine xg_tX (lwA (k := 2) (by omega) (by omega)) ?_
  refine xg_tX (lwA (k := 3) (by omega) (by omega)) ?_
  refine xg_tX (lwA (k := 4) (by omega) (by omega)) ?_
  refine lwCx mX11_value (vs := [(0, us (i + 1)), (0, us (i + 2)), (0, us (i + 3)), (0, us (i + 4))]) (rest := []) rfl hL (scValue hL.1 (hus _) (hus _) (hus _) (hus _)) (by decide) rfl rfl rfl rfl rfl rfl rfl (by omega) (by omega) (fun n1 w1 hF1 hR1 hL1 => ?_)
  have hC1 := hC.fr hR1 (by decide) (trivial)
  refine xg_tX (xg_pop rfl).toX ?_
  refine xg_tX (xg_aload (va := (2, 82)) rfl rfl).toX ?_
  refine xg_tX (lwA (k := 1) (by omega) (by omega)) ?_
  refine xg_tX (lwA (k := 2) (by omega) (by omega)) ?_
  refine xg_tX (lwA (k := 3) (by omega) (by omega)) ?_
  refine xg_tX (lwA (k := 4) (by omega) (by omega)) ?_
  refine lwCm mX12_value (vs := [(0, us (i + 1)), (0, us (i + 2)), (0, us (i + 3)), (0, us (i + 4))]) (rest := []) rfl hL1 (mValue hL1.2.1 (hus _) (hus _) (hus _) (hus _)) (by decide) rfl rfl rfl rfl rfl rfl rfl (by omega) (by omega) (fun n2 w2 hF2 hR2 hL2 => ?_)
  have hC2 := hC1.fr hR2 (by decide) (trivial)
  refine xg_tX (xg_pop rfl).toX ?_
  refine xg_tX (xg_goto).toX ?_
  exact xg_eX ⟨m, _, cn, sl, hL2, hC2, by omega, by omega, rfl⟩
theorem lwc_29 (hi : i + 7 ≤ L) (hLL : L ≤ 3584) (hus : ∀ j, us j ≤ 4294967295) (hL : xLI m w) (hC : xCo w) (h1 : cn + 25 ≤ 600000) (h2 : sl + 4088 ≤ 7302250) : xToX L us 1000 mLa (1153, [], [(3, (0, i)), (2, (2, 82)), (1, (2, 0)), (0, (8, 99))], [], (w, [], [], cn, sl, 81 + 12 * m, 114 + 25 * m)) (lwP i cn sl) := by
  refine xg_tX (xg_blk (b := [(1153, 1, 0, 1, 0, 0), (1154, 3, 13, 87, 88, 139), (1157, 1, 40, 0, 0, 0), (1158, 1, 0, 2, 0, 0), (1159, 3, 13, 204, 96, 142), (1162, 1, 40, 0, 0, 0), (1163, 3, 8, 1705, 0, 0)]) rfl).toX ?_
  refine xg_tX (xg_aload (va := (2, 0)) rfl rfl).toX ?_
  refine lwCx mX11_panels (vs := []) (rest := []) rfl hL (scPanels hL.1) (by decide) rfl rfl rfl rfl rfl rfl rfl (by omega) (by omega) (fun n1 w1 hF1 hR1 hL1 => ?_)
  have hC1 := hC.fr hR1 (by decide) (trivial)
  refine xg_tX (xg_pop rfl).toX ?_
  refine xg_tX (xg_aload (va := (2, 82)) rfl rfl).toX ?_
  refine lwCm mX12_panels (vs := []) (rest := []) rfl hL1 (mPanels hL1.2.1) (by decide) rfl rfl rfl rfl rfl rfl rfl (by omega) (by omega) (fun n2 w2 hF2 hR2 hL2 => ?_)
  have hC2 := hC1.fr hR2 (by decide) (trivial)
  refine xg_tX (xg_pop rfl).toX ?_
  refine xg_tX (xg_goto).toX ?_
  exact xg_eX ⟨m, _, cn, sl, hL2, hC2, by omega, by omega, rfl⟩
theorem lwc_30 (hi : i + 7 ≤ L) (hLL : L ≤ 3584) (hus : ∀ j, us j ≤ 4294967295) (hL : xLI m w) (hC : xCo w) (h1 : cn + 25 ≤ 600000) (h2 : sl + 4088 ≤ 7302250) : xToX L us 1000 mLa (1166, [], [(3, (0, i)), (2, (2, 82)), (1, (2, 0)), (0, (8, 99))], [], (w, [], [], cn, sl, 81 + 12 * m, 114 + 25 * m)) (lwP i cn sl) := by
  refine xg_tX (xg_blk (b := [(1166, 1, 0, 1, 0, 0), (1167, 1, 0, 0, 0, 0), (1168, 1, 2, 3, 0, 0), (1169, 1, 3, 1, 0, 0), (1170, 1, 11, 0, 0, 0), (1171, 1, 10, 0, 0, 0), (1172, 1, 0, 0, 0, 0), (1173, 1, 2, 3, 0, 0), (1174, 1, 3, 2, 0, 0), (1175, 1, 11, 0, 0, 0), (1176, 1, 10, 0, 0, 0), (1177, 3, 13, 86, 88, 143), (1180, 1, 40, 0, 0, 0), (1181, 1, 0, 2, 0, 0), (1182, 1, 0, 0, 0, 0), (1183, 1, 2, 3, 0, 0), (1184, 1, 3, 1, 0, 0), (1185, 1, 11, 0, 0, 0), (1186, 1, 10, 0, 0, 0), (1187, 1, 0, 0, 0, 0), (1188, 1, 2, 3, 0, 0), (1189, 1, 3, 2, 0, 0), (1190, 1, 11, 0, 0, 0), (1191, 1, 10, 0, 0, 0), (1192, 3, 13, 202, 96, 146), (1195, 1, 40, 0, 0, 0), (1196, 3, 8, 1705, 0, 0)]) rfl).toX ?_
  refine xg_tX (xg_aload (va := (2, 0)) rfl rfl).toX ?_
  refine xg_tX (lwA (k := 1) (by omega) (by omega)) ?_
  refine xg_tX (lwA (k := 2) (by omega) (by omega)) ?_
  refine lwCx mX11_panel (vs := [(0, us (i + 1)), (0, us (i + 2))]) (rest := []) rfl hL (scPanel hL.1 (hus _) (hus _)) (by decide) rfl rfl rfl rfl rfl rfl rfl (by omega) (by omega) (fun n1 w1 hF1 hR1 hL1 => ?_)
  have hC1 := hC.fr hR1 (by decide) (trivial)
  refine xg_tX (xg_pop rfl).toX ?_
  refine xg_tX (xg_aload (va := (2, 82)) rfl rfl).toX ?_
  refine xg_tX (lwA (k := 1) (by omega) (by omega)) ?_
  refine xg_tX (lwA (k := 2) (by omega) (by omega)) ?_
  refine lwCm mX12_panel (vs := [(0, us (i + 1)), (0, us (i + 2))]) (rest := []) rfl hL1 (mPanel hL1.2.1 (hus _) (hus _)) (by decide) rfl rfl rfl rfl rfl rfl rfl (by omega) (by omega) (fun n2 w2 hF2 hR2 hL2 => ?_)
  have hC2 := hC1.fr hR2 (by decide) (trivial)
  refine xg_tX (xg_pop rfl).toX ?_
  refine xg_tX (xg_goto).toX ?_
  exact xg_eX ⟨m, _, cn, sl, hL2, hC2, by omega, by omega, rfl⟩
theorem lwc_31 (hi : i + 7 ≤ L) (hLL : L ≤ 3584) (hus : ∀ j, us j ≤ 4294967295) (hL : xLI m w) (hC : xCo w) (h1 : cn + 25 ≤ 600000) (h2 : sl + 4088 ≤ 7302250) : xToX L us 1000 mLa (1199, [], [(3, (0, i)), (2, (2, 82)), (1, (2, 0)), (0, (8, 99))], [], (w, [], [], cn, sl, 81 + 12 * m, 114 + 25 * m)) (lwP i cn sl) := by
  refine xg_tX (xg_blk (b := [(1199, 1, 0, 1, 0, 0), (1200, 1, 0, 0, 0, 0), (1201, 1, 2, 3, 0, 0), (1202, 1, 3, 1, 0, 0), (1203, 1, 11, 0, 0, 0), (1204, 1, 10, 0, 0, 0), (1205, 1, 0, 0, 0, 0), (1206, 1, 2, 3, 0, 0), (1207, 1, 3, 2, 0, 0), (1208, 1, 11, 0, 0, 0), (1209, 1, 10, 0, 0, 0), (1210, 3, 13, 42, 88, 147), (1213, 1, 40, 0, 0, 0), (1214, 1, 0, 2, 0, 0), (1215, 1, 0, 0, 0, 0), (1216, 1, 2, 3, 0, 0), (1217, 1, 3, 1, 0, 0), (1218, 1, 11, 0, 0, 0), (1219, 1, 10, 0, 0, 0), (1220, 1, 0, 0, 0, 0), (1221, 1, 2, 3, 0, 0), (1222, 1, 3, 2, 0, 0), (1223, 1, 11, 0, 0, 0), (1224, 1, 10, 0, 0, 0), (1225, 3, 13, 126, 96, 150), (1228, 1, 40, 0, 0, 0), (1229, 3, 8, 1705, 0, 0)]) rfl).toX ?_
  refine xg_tX (xg_aload (va := (2, 0)) rfl rfl).toX ?_
  refine xg_tX (lwA (k := 1) (by omega) (by omega)) ?_
  refine xg_tX (lwA (k := 2) (by omega) (by omega)) ?_
  refine lwCx mX11_cost (vs := [(0, us (i + 1)), (0, us (i + 2))]) (rest := []) rfl hL (scCost hL.1 (hus _) (hus _)) (by decide) rfl rfl rfl rfl rfl rfl rfl (by omega) (by omega) (fun n1 w1 hF1 hR1 hL1 => ?_)
  refine xg_tX (xg_pop rfl).toX ?_
  refine xg_tX (xg_aload (va := (2, 82)) rfl rfl).toX ?_
  refine xg_tX (lwA (k := 1) (by omega) (by omega)) ?_
  refine xg_tX (lwA (k := 2) (by omega) (by omega)) ?_
  refine lwCm mX12_cost (vs := [(0, us (i + 1)), (0, us (i + 2))]) (rest := []) rfl hL1 (mCostK hL1.2.1 (hus _) (hus _)) (by decide) rfl rfl rfl rfl rfl rfl rfl (by omega) (by omega) (fun n2 w2 hF2 hR2 hL2 => ?_)
  obtain ⟨hT, hD, hFi, hP, hH, hE⟩ := id hC.1
  have r1 : ∀ j, rwv w1 83 j = rwv w 83 j := fun j => rwv_fr hR1 (by decide)
  have c1 : ∀ j, fld w2 1 j = fld w1 1 j := fun j => fld_fr hR2 (by decide)
  obtain ⟨m1, mJ⟩ := id hF2
  have hC2 : xCo w2 := hC.st (fun k h => (hR2.kp (by decide) k h).trans (hR1.kp (by decide) k h)) (fun j x y => (mJ j (by omega) (by omega)).trans (r1 j)) ⟨(hT.kp ((c1 1).trans (fld_fr hR1 (by decide))) ((hR2.1 2 (by decide)).trans (hR1.1 2 (by decide))) ((mJ 15 (by omega) (by omega)).trans (r1 15)) (fun j p q => (mJ j (by omega) (by omega)).trans (r1 j))), (hD.kp ((c1 6).trans (fld_fr hR1 (by decide))) ((c1 7).trans (fld_fr hR1 (by decide))) ((c1 9).trans (fld_fr hR1 (by decide))) (fun j p q => (mJ j (by omega) (by omega)).trans (r1 j))), (hFi.kp (keepL hR1 hR2 (by decide)) (fun j p => (mJ j (by omega) (by omega)).trans (r1 j))), (hP.kp ((hR2.1 16 (by decide)).trans (hR1.1 16 (by decide))) ((hR2.1 17 (by decide)).trans (hR1.1 17 (by decide))) ((mJ 10 (by omega) (by omega)).trans (r1 10)) (fun j p q => (mJ j (by omega) (by omega)).trans (r1 j))), (hH.kp ((hR2.1 18 (by decide)).trans (hR1.1 18 (by decide))) ((hR2.1 19 (by decide)).trans (hR1.1 19 (by decide))) ((mJ 900 (by omega) (by omega)).trans (r1 900)) (fun j p q => (mJ j (by omega) (by omega)).trans (r1 j))), (hE.kp ((hR2.1 20 (by decide)).trans (hR1.1 20 (by decide))) ((hR2.1 21 (by decide)).trans (hR1.1 21 (by decide))) ((mJ 901 (by omega) (by omega)).trans (r1 901)) (fun j p q => (mJ j (by omega) (by omega)).trans (r1 j)))⟩ (trivial)
  refine xg_tX (xg_pop rfl).toX ?_
  refine xg_tX (xg_goto).toX ?_
  exact xg_eX ⟨m, _, cn, sl, hL2, hC2, by omega, by omega, rfl⟩
theorem lwc_32 (hi : i + 7 ≤ L) (hLL : L ≤ 3584) (hus : ∀ j, us j ≤ 4294967295) (hL : xLI m w) (hC : xCo w) (h1 : cn + 25 ≤ 600000) (h2 : sl + 4088 ≤ 7302250) : xToX L us 1000 mLa (1232, [], [(3, (0, i)), (2, (2, 82)), (1, (2, 0)), (0, (8, 99))], [], (w, [], [], cn, sl, 81 + 12 * m, 114 + 25 * m)) (lwP i cn sl) := by
  refine xg_tX (xg_blk (b := [(1232, 1, 0, 1, 0, 0), (1233, 1, 0, 0, 0, 0), (1234, 1, 2, 3, 0, 0), (1235, 1, 3, 1, 0, 0), (1236, 1, 11, 0, 0, 0), (1237, 1, 10, 0, 0, 0), (1238, 3, 13, 81, 88, 151), (1241, 1, 40, 0, 0, 0), (1242, 1, 0, 2, 0, 0), (1243, 1, 0, 0, 0, 0), (1244, 1, 2, 3, 0, 0), (1245, 1, 3, 1, 0, 0), (1246, 1, 11, 0, 0, 0), (1247, 1, 10, 0, 0, 0), (1248, 3, 13, 192, 96, 154), (1251, 1, 40, 0, 0, 0), (1252, 3, 8, 1705, 0, 0)]) rfl).toX ?_
  refine xg_tX (xg_aload (va := (2, 0)) rfl rfl).toX ?_
  refine xg_tX (lwA (k := 1) (by omega) (by omega)) ?_
  refine lwCx mX11_mend (vs := [(0, us (i + 1))]) (rest := []) rfl hL (scMend hL.1 (hus _)) (by decide) rfl rfl rfl rfl rfl rfl rfl (by omega) (by omega) (fun n1 w1 hF1 hR1 hL1 => ?_)
  have hC1 := hC.fr hR1 (by decide) (trivial)
  refine xg_tX (xg_pop rfl).toX ?_
  refine xg_tX (xg_aload (va := (2, 82)) rfl rfl).toX ?_
  refine xg_tX (lwA (k := 1) (by omega) (by omega)) ?_
  refine lwCm mX12_mend (vs := [(0, us (i + 1))]) (rest := []) rfl hL1 (mMend hL1.2.1 (hus _)) (by decide) rfl rfl rfl rfl rfl rfl rfl (by omega) (by omega) (fun n2 w2 hF2 hR2 hL2 => ?_)
  have hC2 := hC1.fr hR2 (by decide) (trivial)
  refine xg_tX (xg_pop rfl).toX ?_
  refine xg_tX (xg_goto).toX ?_
  exact xg_eX ⟨m, _, cn, sl, hL2, hC2, by omega, by omega, rfl⟩
theorem lwc_33 (hi : i + 7 ≤ L) (hLL : L ≤ 3584) (hus : ∀ j, us j ≤ 4294967295) (hL : xLI m w) (hC : xCo w) (h1 : cn + 25 ≤ 600000) (h2 : sl + 4088 ≤ 7302250) : xToX L us 1000 mLa (1255, [], [(3, (0, i)), (2, (2, 82)), (1, (2, 0)), (0, (8, 99))], [], (w, [], [], cn, sl, 81 + 12 * m, 114 + 25 * m)) (lwP i cn sl) := by
  refine xg_tX (xg_blk (b := [(1255, 1, 0, 1, 0, 0), (1256, 1, 0, 0, 0, 0), (1257, 1, 2, 3, 0, 0), (1258, 1, 3, 1, 0, 0), (1259, 1, 11, 0, 0, 0), (1260, 1, 10, 0, 0, 0), (1261, 1, 0, 0, 0, 0), (1262, 1, 2, 3, 0, 0), (1263, 1, 3, 2, 0, 0), (1264, 1, 11, 0, 0, 0), (1265, 1, 10, 0, 0, 0), (1266, 1, 0, 0, 0, 0), (1267, 1, 2, 3, 0, 0), (1268, 1, 3, 3, 0, 0), (1269, 1, 11, 0, 0, 0), (1270, 1, 10, 0, 0, 0), (1271, 3, 13, 62, 88, 155), (1274, 1, 40, 0, 0, 0), (1275, 1, 0, 2, 0, 0), (1276, 1, 0, 0, 0, 0), (1277, 1, 2, 3, 0, 0), (1278, 1, 3, 1, 0, 0), (1279, 1, 11, 0, 0, 0), (1280, 1, 10, 0, 0, 0), (1281, 1, 0, 0, 0, 0), (1282, 1, 2, 3, 0, 0), (1283, 1, 3, 2, 0, 0), (1284, 1, 11, 0, 0, 0), (1285, 1, 10, 0, 0, 0), (1286, 1, 0, 0, 0, 0), (1287, 1, 2, 3, 0, 0), (1288, 1, 3, 3, 0, 0), (1289, 1, 11, 0, 0, 0), (1290, 1, 10, 0, 0, 0), (1291, 3, 13, 150, 96, 159), (1294, 1, 40, 0, 0, 0), (1295, 3, 8, 1705, 0, 0)]) rfl).toX ?_
  refine xg_tX (xg_aload (va := (2, 0)) rfl rfl).toX ?_
  refine xg_tX (lwA (k := 1) (by omega) (by omega)) ?_
  refine xg_tX (lwA (k := 2) (by omega) (by omega)) ?_
  refine xg_tX (lwA (k := 3) (by omega) (by omega)) ?_
  refine lwCx mX11_hand (vs := [(0, us (i + 1)), (0, us (i + 2)), (0, us (i + 3))]) (rest := []) rfl hL (scHandX hL.1 (hus _) (hus _) (hus _)) (by decide) rfl rfl rfl rfl rfl rfl rfl (by omega) (by omega) (fun n1 w1 hF1 hR1 hL1 => ?_)
  refine xg_tX (xg_pop rfl).toX ?_
  refine xg_tX (xg_aload (va := (2, 82)) rfl rfl).toX ?_
  refine xg_tX (lwA (k := 1) (by omega) (by omega)) ?_
  refine xg_tX (lwA (k := 2) (by omega) (by omega)) ?_
  refine xg_tX (lwA (k := 3) (by omega) (by omega)) ?_
  refine lwCm mX12_hand (vs := [(0, us (i + 1)), (0, us (i + 2)), (0, us (i + 3))]) (rest := []) rfl hL1 (mHandY hL1.2.1 (hus _) (hus _) (hus _)) (by decide) rfl rfl rfl rfl rfl rfl rfl (by omega) (by omega) (fun n2 w2 hF2 hR2 hL2 => ?_)
  obtain ⟨hT, hD, hFi, hP, hH, hE⟩ := id hC.1
  have r1 : ∀ j, rwv w1 83 j = rwv w 83 j := fun j => rwv_fr hR1 (by decide)
  have c1 : ∀ j, fld w2 1 j = fld w1 1 j := fun j => fld_fr hR2 (by decide)
  obtain ⟨hnn2, hH2⟩ := hH.hand hF1 hR1 (by decide) hF2 hR2
  obtain ⟨-, -, mJ⟩ := id hF2
  have l1 : fld w 18 3 = rwv w 83 900 := hH.1
  have l2 : fld w 18 3 ≤ 4 := hH.2.1
  have l3 := r1 900
  have hC2 : xCo w2 := hC.st (fun k h => (hR2.kp (by decide) k h).trans (hR1.kp (by decide) k h)) (fun j x y => (mJ j (by omega) (by omega)).trans (r1 j)) ⟨(hT.kp ((c1 1).trans (fld_fr hR1 (by decide))) ((hR2.1 2 (by decide)).trans (hR1.1 2 (by decide))) ((mJ 15 (by omega) (by omega)).trans (r1 15)) (fun j p q => (mJ j (by omega) (by omega)).trans (r1 j))), (hD.kp ((c1 6).trans (fld_fr hR1 (by decide))) ((c1 7).trans (fld_fr hR1 (by decide))) ((c1 9).trans (fld_fr hR1 (by decide))) (fun j p q => (mJ j (by omega) (by omega)).trans (r1 j))), (hFi.kp (keepL hR1 hR2 (by decide)) (fun j p => (mJ j (by omega) (by omega)).trans (r1 j))), (hP.kp ((hR2.1 16 (by decide)).trans (hR1.1 16 (by decide))) ((hR2.1 17 (by decide)).trans (hR1.1 17 (by decide))) ((mJ 10 (by omega) (by omega)).trans (r1 10)) (fun j p q => (mJ j (by omega) (by omega)).trans (r1 j))), hH2, (hE.kp ((hR2.1 20 (by decide)).trans (hR1.1 20 (by decide))) ((hR2.1 21 (by decide)).trans (hR1.1 21 (by decide))) ((mJ 901 (by omega) (by omega)).trans (r1 901)) (fun j p q => (mJ j (by omega) (by omega)).trans (r1 j)))⟩ (trivial)
  refine xg_tX (xg_pop rfl).toX ?_
  refine xg_tX (xg_goto).toX ?_
  exact xg_eX ⟨m, _, cn, sl, hL2, hC2, by omega, by omega, rfl⟩
theorem lwc_34 (hi : i + 7 ≤ L) (hLL : L ≤ 3584) (hus : ∀ j, us j ≤ 4294967295) (hL : xLI m w) (hC : xCo w) (h1 : cn + 25 ≤ 600000) (h2 : sl + 4088 ≤ 7302250) : xToX L us 1000 mLa (1298, [], [(3, (0, i)), (2, (2, 82)), (1, (2, 0)), (0, (8, 99))], [], (w, [], [], cn, sl, 81 + 12 * m, 114 + 25 * m)) (lwP i cn sl) := by
  refine xg_tX (xg_blk (b := [(1298, 1, 0, 1, 0, 0), (1299, 1, 0, 0, 0, 0), (1300, 1, 2, 3, 0, 0), (1301, 1, 3, 1, 0, 0), (1302, 1, 11, 0, 0, 0), (1303, 1, 10, 0, 0, 0), (1304, 1, 0, 0, 0, 0), (1305, 1, 2, 3, 0, 0), (1306, 1, 3, 2, 0, 0), (1307, 1, 11, 0, 0, 0), (1308, 1, 10, 0, 0, 0), (1309, 3, 13, 40, 88, 160), (1312, 1, 40, 0, 0, 0), (1313, 1, 0, 2, 0, 0), (1314, 1, 0, 0, 0, 0), (1315, 1, 2, 3, 0, 0), (1316, 1, 3, 1, 0, 0), (1317, 1, 11, 0, 0, 0), (1318, 1, 10, 0, 0, 0), (1319, 1, 0, 0, 0, 0), (1320, 1, 2, 3, 0, 0), (1321, 1, 3, 2, 0, 0), (1322, 1, 11, 0, 0, 0), (1323, 1, 10, 0, 0, 0), (1324, 3, 13, 124, 96, 163), (1327, 1, 40, 0, 0, 0), (1328, 3, 8, 1705, 0, 0)]) rfl).toX ?_
  refine xg_tX (xg_aload (va := (2, 0)) rfl rfl).toX ?_
  refine xg_tX (lwA (k := 1) (by omega) (by omega)) ?_
  refine xg_tX (lwA (k := 2) (by omega) (by omega)) ?_
  refine lwCx mX11_broken (vs := [(0, us (i + 1)), (0, us (i + 2))]) (rest := []) rfl hL (scBroken hL.1 (hus _) (hus _)) (by decide) rfl rfl rfl rfl rfl rfl rfl (by omega) (by omega) (fun n1 w1 hF1 hR1 hL1 => ?_)
  have hC1 := hC.fr hR1 (by decide) (trivial)
  refine xg_tX (xg_pop rfl).toX ?_
  refine xg_tX (xg_aload (va := (2, 82)) rfl rfl).toX ?_
  refine xg_tX (lwA (k := 1) (by omega) (by omega)) ?_
  refine xg_tX (lwA (k := 2) (by omega) (by omega)) ?_
  refine lwCm mX12_broken (vs := [(0, us (i + 1)), (0, us (i + 2))]) (rest := []) rfl hL1 (mBroken hL1.2.1 (hus _) (hus _)) (by decide) rfl rfl rfl rfl rfl rfl rfl (by omega) (by omega) (fun n2 w2 hF2 hR2 hL2 => ?_)
  have hC2 := hC1.fr hR2 (by decide) (trivial)
  refine xg_tX (xg_pop rfl).toX ?_
  refine xg_tX (xg_goto).toX ?_
  exact xg_eX ⟨m, _, cn, sl, hL2, hC2, by omega, by omega, rfl⟩
theorem lwc_35 (hi : i + 7 ≤ L) (hLL : L ≤ 3584) (hus : ∀ j, us j ≤ 4294967295) (hL : xLI m w) (hC : xCo w) (h1 : cn + 25 ≤ 600000) (h2 : sl + 4088 ≤ 7302250) : xToX L us 1000 mLa (1331, [], [(3, (0, i)), (2, (2, 82)), (1, (2, 0)), (0, (8, 99))], [], (w, [], [], cn, sl, 81 + 12 * m, 114 + 25 * m)) (lwP i cn sl) := by
  refine xg_tX (xg_blk (b := [(1331, 1, 0, 1, 0, 0), (1332, 1, 0, 0, 0, 0), (1333, 1, 2, 3, 0, 0), (1334, 1, 3, 1, 0, 0), (1335, 1, 11, 0, 0, 0), (1336, 1, 10, 0, 0, 0), (1337, 3, 13, 94, 88, 164), (1340, 1, 40, 0, 0, 0), (1341, 1, 0, 2, 0, 0), (1342, 1, 0, 0, 0, 0), (1343, 1, 2, 3, 0, 0), (1344, 1, 3, 1, 0, 0), (1345, 1, 11, 0, 0, 0), (1346, 1, 10, 0, 0, 0), (1347, 3, 13, 217, 96, 167), (1350, 1, 40, 0, 0, 0), (1351, 3, 8, 1705, 0, 0)]) rfl).toX ?_
  refine xg_tX (xg_aload (va := (2, 0)) rfl rfl).toX ?_
  refine xg_tX (lwA (k := 1) (by omega) (by omega)) ?_
  refine lwCx mX11_share (vs := [(0, us (i + 1))]) (rest := []) rfl hL (scShare hL.1 (hus _)) (by decide) rfl rfl rfl rfl rfl rfl rfl (by omega) (by omega) (fun n1 w1 hF1 hR1 hL1 => ?_)
  have hC1 := hC.fr hR1 (by decide) (trivial)
  refine xg_tX (xg_pop rfl).toX ?_
  refine xg_tX (xg_aload (va := (2, 82)) rfl rfl).toX ?_
  refine xg_tX (lwA (k := 1) (by omega) (by omega)) ?_
  refine lwCm mX12_share (vs := [(0, us (i + 1))]) (rest := []) rfl hL1 (mShare hL1.2.1 (hus _)) (by decide) rfl rfl rfl rfl rfl rfl rfl (by omega) (by omega) (fun n2 w2 hF2 hR2 hL2 => ?_)
  have hC2 := hC1.fr hR2 (by decide) (trivial)
  refine xg_tX (xg_pop rfl).toX ?_
  refine xg_tX (xg_goto).toX ?_
  exact xg_eX ⟨m, _, cn, sl, hL2, hC2, by omega, by omega, rfl⟩
theorem lwc_36 (hi : i + 7 ≤ L) (hLL : L ≤ 3584) (hus : ∀ j, us j ≤ 4294967295) (hL : xLI m w) (hC : xCo w) (h1 : cn + 25 ≤ 600000) (h2 : sl + 4088 ≤ 7302250) : xToX L us 1000 mLa (1354, [], [(3, (0, i)), (2, (2, 82)), (1, (2, 0)), (0, (8, 99))], [], (w, [], [], cn, sl, 81 + 12 * m, 114 + 25 * m)) (lwP i cn sl) := by
  refine xg_tX (xg_blk (b := [(1354, 1, 0, 1, 0, 0), (1355, 1, 0, 0, 0, 0), (1356, 1, 2, 3, 0, 0), (1357, 1, 3, 1, 0, 0), (1358, 1, 11, 0, 0, 0), (1359, 1, 10, 0, 0, 0), (1360, 3, 13, 90, 88, 168), (1363, 1, 40, 0, 0, 0), (1364, 1, 0, 2, 0, 0), (1365, 1, 0, 0, 0, 0), (1366, 1, 2, 3, 0, 0), (1367, 1, 3, 1, 0, 0), (1368, 1, 11, 0, 0, 0), (1369, 1, 10, 0, 0, 0), (1370, 3, 13, 210, 96, 171), (1373, 1, 40, 0, 0, 0), (1374, 3, 8, 1705, 0, 0)]) rfl).toX ?_
  refine xg_tX (xg_aload (va := (2, 0)) rfl rfl).toX ?_
  refine xg_tX (lwA (k := 1) (by omega) (by omega)) ?_
  refine lwCx mX11_promise (vs := [(0, us (i + 1))]) (rest := []) rfl hL (scPromise hL.1 (hus _)) (by decide) rfl rfl rfl rfl rfl rfl rfl (by omega) (by omega) (fun n1 w1 hF1 hR1 hL1 => ?_)
  have hC1 := hC.fr hR1 (by decide) (trivial)
  refine xg_tX (xg_pop rfl).toX ?_
  refine xg_tX (xg_aload (va := (2, 82)) rfl rfl).toX ?_
  refine xg_tX (lwA (k := 1) (by omega) (by omega)) ?_
  refine lwCm mX12_promise (vs := [(0, us (i + 1))]) (rest := []) rfl hL1 (mPromise hL1.2.1 (hus _)) (by decide) rfl rfl rfl rfl rfl rfl rfl (by omega) (by omega) (fun n2 w2 hF2 hR2 hL2 => ?_)
  have hC2 := hC1.fr hR2 (by decide) (trivial)
  refine xg_tX (xg_pop rfl).toX ?_
  refine xg_tX (xg_goto).toX ?_
  exact xg_eX ⟨m, _, cn, sl, hL2, hC2, by omega, by omega, rfl⟩
theorem lwc_37 (hi : i + 7 ≤ L) (hLL : L ≤ 3584) (hus : ∀ j, us j ≤ 4294967295) (hL : xLI m w) (hC : xCo w) (h1 : cn + 25 ≤ 600000) (h2 : sl + 4088 ≤ 7302250) : xToX L us 1000 mLa (1377, [], [(3, (0, i)), (2, (2, 82)), (1, (2, 0)), (0, (8, 99))], [], (w, [], [], cn, sl, 81 + 12 * m, 114 + 25 * m)) (lwP i cn sl) := by
  refine xg_tX (xg_blk (b := [(1377, 1, 0, 1, 0, 0), (1378, 1, 0, 0, 0, 0), (1379, 1, 2, 3, 0, 0), (1380, 1, 3, 1, 0, 0), (1381, 1, 11, 0, 0, 0), (1382, 1, 10, 0, 0, 0), (1383, 3, 13, 74, 88, 172), (1386, 1, 40, 0, 0, 0), (1387, 1, 0, 2, 0, 0), (1388, 1, 0, 0, 0, 0), (1389, 1, 2, 3, 0, 0), (1390, 1, 3, 1, 0, 0), (1391, 1, 11, 0, 0, 0), (1392, 1, 10, 0, 0, 0), (1393, 3, 13, 176, 96, 175), (1396, 1, 40, 0, 0, 0), (1397, 3, 8, 1705, 0, 0)]) rfl).toX ?_
  refine xg_tX (xg_aload (va := (2, 0)) rfl rfl).toX ?_
  refine xg_tX (lwA (k := 1) (by omega) (by omega)) ?_
  refine lwCx mX11_lasts (vs := [(0, us (i + 1))]) (rest := []) rfl hL (scLasts hL.1 (hus _)) (by decide) rfl rfl rfl rfl rfl rfl rfl (by omega) (by omega) (fun n1 w1 hF1 hR1 hL1 => ?_)
  have hC1 := hC.fr hR1 (by decide) (trivial)
  refine xg_tX (xg_pop rfl).toX ?_
  refine xg_tX (xg_aload (va := (2, 82)) rfl rfl).toX ?_
  refine xg_tX (lwA (k := 1) (by omega) (by omega)) ?_
  refine lwCm mX12_lasts (vs := [(0, us (i + 1))]) (rest := []) rfl hL1 (mLasts hL1.2.1 (hus _)) (by decide) rfl rfl rfl rfl rfl rfl rfl (by omega) (by omega) (fun n2 w2 hF2 hR2 hL2 => ?_)
  have hC2 := hC1.fr hR2 (by decide) (trivial)
  refine xg_tX (xg_pop rfl).toX ?_
  refine xg_tX (xg_goto).toX ?_
  exact xg_eX ⟨m, _, cn, sl, hL2, hC2, by omega, by omega, rfl⟩
theorem lwc_38 (hi : i + 7 ≤ L) (hLL : L ≤ 3584) (hus : ∀ j, us j ≤ 4294967295) (hL : xLI m w) (hC : xCo w) (h1 : cn + 25 ≤ 600000) (h2 : sl + 4088 ≤ 7302250) : xToX L us 1000 mLa (1400, [], [(3, (0, i)), (2, (2, 82)), (1, (2, 0)), (0, (8, 99))], [], (w, [], [], cn, sl, 81 + 12 * m, 114 + 25 * m)) (lwP i cn sl) := by
  refine xg_tX (xg_blk (b := [(1400, 1, 0, 1, 0, 0), (1401, 3, 13, 95, 88, 176), (1404, 1, 40, 0, 0, 0), (1405, 1, 0, 2, 0, 0), (1406, 3, 13, 219, 96, 179), (1409, 1, 40, 0, 0, 0), (1410, 3, 8, 1705, 0, 0)]) rfl).toX ?_
  refine xg_tX (xg_aload (va := (2, 0)) rfl rfl).toX ?_
  refine lwCx mX11_shift (vs := []) (rest := []) rfl hL (scShift hL.1) (by decide) rfl rfl rfl rfl rfl rfl rfl (by omega) (by omega) (fun n1 w1 hF1 hR1 hL1 => ?_)
  have hC1 := hC.fr hR1 (by decide) (trivial)
  refine xg_tX (xg_pop rfl).toX ?_
  refine xg_tX (xg_aload (va := (2, 82)) rfl rfl).toX ?_
  refine lwCm mX12_shift (vs := []) (rest := []) rfl hL1 (mShift hL1.2.1) (by decide) rfl rfl rfl rfl rfl rfl rfl (by omega) (by omega) (fun n2 w2 hF2 hR2 hL2 => ?_)
  have hC2 := hC1.fr hR2 (by decide) (trivial)
  refine xg_tX (xg_pop rfl).toX ?_
  refine xg_tX (xg_goto).toX ?_
  exact xg_eX ⟨m, _, cn, sl, hL2, hC2, by omega, by omega, rfl⟩
theorem lwc_39 (hi : i + 7 ≤ L) (hLL : L ≤ 3584) (hus : ∀ j, us j ≤ 4294967295) (hL : xLI m w) (hC : xCo w) (h1 : cn + 25 ≤ 600000) (h2 : sl + 4088 ≤ 7302250) : xToX L us 1000 mLa (1413, [], [(3, (0, i)), (2, (2, 82)), (1, (2, 0)), (0, (8, 99))], [], (w, [], [], cn, sl, 81 + 12 * m, 114 + 25 * m)) (lwP i cn sl) := by
  refine xg_tX (xg_blk (b := [(1413, 1, 0, 1, 0, 0), (1414, 1, 0, 0, 0, 0), (1415, 1, 2, 3, 0, 0), (1416, 1, 3, 1, 0, 0), (1417, 1, 11, 0, 0, 0), (1418, 1, 10, 0, 0, 0), (1419, 1, 0, 0, 0, 0), (1420, 1, 2, 3, 0, 0), (1421, 1, 3, 2, 0, 0), (1422, 1, 11, 0, 0, 0), (1423, 1, 10, 0, 0, 0), (1424, 1, 0, 0, 0, 0), (1425, 1, 2, 3, 0, 0), (1426, 1, 3, 3, 0, 0), (1427, 1, 11, 0, 0, 0), (1428, 1, 10, 0, 0, 0), (1429, 1, 0, 0, 0, 0), (1430, 1, 2, 3, 0, 0), (1431, 1, 3, 4, 0, 0), (1432, 1, 11, 0, 0, 0), (1433, 1, 10, 0, 0, 0), (1434, 3, 13, 98, 88, 180), (1437, 1, 40, 0, 0, 0), (1438, 1, 0, 2, 0, 0), (1439, 1, 0, 0, 0, 0), (1440, 1, 2, 3, 0, 0), (1441, 1, 3, 1, 0, 0), (1442, 1, 11, 0, 0, 0), (1443, 1, 10, 0, 0, 0), (1444, 1, 0, 0, 0, 0), (1445, 1, 2, 3, 0, 0), (1446, 1, 3, 2, 0, 0), (1447, 1, 11, 0, 0, 0), (1448, 1, 10, 0, 0, 0), (1449, 1, 0, 0, 0, 0), (1450, 1, 2, 3, 0, 0), (1451, 1, 3, 3, 0, 0), (1452, 1, 11, 0, 0, 0), (1453, 1, 10, 0, 0, 0), (1454, 1, 0, 0, 0, 0), (1455, 1, 2, 3, 0, 0), (1456, 1, 3, 4, 0, 0), (1457, 1, 11, 0, 0, 0), (1458, 1, 10, 0, 0, 0), (1459, 3, 13, 228, 96, 183), (1462, 1, 40, 0, 0, 0), (1463, 3, 8, 1705, 0, 0)]) rfl).toX ?_
  refine xg_tX (xg_aload (va := (2, 0)) rfl rfl).toX ?_
  refine xg_tX (lwA (k := 1) (by omega) (by omega)) ?_
  refine xg_tX (lwA (k := 2) (by omega) (by omega)) ?_
  refine xg_tX (lwA (k := 3) (by omega) (by omega)) ?_
  refine xg_tX (lwA (k := 4) (by omega) (by omega)) ?_
  refine lwCx mX11_test (vs := [(0, us (i + 1)), (0, us (i + 2)), (0, us (i + 3)), (0, us (i + 4))]) (rest := []) rfl hL (scTestX hL.1 (hus _) (hus _) (hus _) (hus _)) (by decide) rfl rfl rfl rfl rfl rfl rfl (by omega) (by omega) (fun n1 w1 hF1 hR1 hL1 => ?_)
  refine xg_tX (xg_pop rfl).toX ?_
  refine xg_tX (xg_aload (va := (2, 82)) rfl rfl).toX ?_
  refine xg_tX (lwA (k := 1) (by omega) (by omega)) ?_
  refine xg_tX (lwA (k := 2) (by omega) (by omega)) ?_
  refine xg_tX (lwA (k := 3) (by omega) (by omega)) ?_
  refine xg_tX (lwA (k := 4) (by omega) (by omega)) ?_
  refine lwCm mX12_test (vs := [(0, us (i + 1)), (0, us (i + 2)), (0, us (i + 3)), (0, us (i + 4))]) (rest := []) rfl hL1 (mTestX hL1.2.1 (hus _) (hus _) (hus _) (hus _)) (by decide) rfl rfl rfl rfl rfl rfl rfl (by omega) (by omega) (fun n2 w2 hF2 hR2 hL2 => ?_)
  obtain ⟨hT, hD, hFi, hP, hH, hE⟩ := id hC.1
  have r1 : ∀ j, rwv w1 83 j = rwv w 83 j := fun j => rwv_fr hR1 (by decide)
  have c1 : ∀ j, fld w2 1 j = fld w1 1 j := fun j => fld_fr hR2 (by decide)
  obtain ⟨hnn2, hE2⟩ := hE.test hF1 hR1 (by decide) hF2 hR2
  obtain ⟨-, -, mJ⟩ := id hF2
  have l1 : fld w 20 3 = rwv w 83 901 := hE.1
  have l2 : fld w 20 3 ≤ 12 := hE.2.1
  have l3 := r1 901
  have hC2 : xCo w2 := hC.st (fun k h => (hR2.kp (by decide) k h).trans (hR1.kp (by decide) k h)) (fun j x y => (mJ j (by omega) (by omega)).trans (r1 j)) ⟨(hT.kp ((c1 1).trans (fld_fr hR1 (by decide))) ((hR2.1 2 (by decide)).trans (hR1.1 2 (by decide))) ((mJ 15 (by omega) (by omega)).trans (r1 15)) (fun j p q => (mJ j (by omega) (by omega)).trans (r1 j))), (hD.kp ((c1 6).trans (fld_fr hR1 (by decide))) ((c1 7).trans (fld_fr hR1 (by decide))) ((c1 9).trans (fld_fr hR1 (by decide))) (fun j p q => (mJ j (by omega) (by omega)).trans (r1 j))), (hFi.kp (keepL hR1 hR2 (by decide)) (fun j p => (mJ j (by omega) (by omega)).trans (r1 j))), (hP.kp ((hR2.1 16 (by decide)).trans (hR1.1 16 (by decide))) ((hR2.1 17 (by decide)).trans (hR1.1 17 (by decide))) ((mJ 10 (by omega) (by omega)).trans (r1 10)) (fun j p q => (mJ j (by omega) (by omega)).trans (r1 j))), (hH.kp ((hR2.1 18 (by decide)).trans (hR1.1 18 (by decide))) ((hR2.1 19 (by decide)).trans (hR1.1 19 (by decide))) ((mJ 900 (by omega) (by omega)).trans (r1 900)) (fun j p q => (mJ j (by omega) (by omega)).trans (r1 j))), hE2⟩ (trivial)
  refine xg_tX (xg_pop rfl).toX ?_
  refine xg_tX (xg_goto).toX ?_
  exact xg_eX ⟨m, _, cn, sl, hL2, hC2, by omega, by omega, rfl⟩
theorem lwc_40 (hi : i + 7 ≤ L) (hLL : L ≤ 3584) (hus : ∀ j, us j ≤ 4294967295) (hL : xLI m w) (hC : xCo w) (h1 : cn + 25 ≤ 600000) (h2 : sl + 4088 ≤ 7302250) : xToX L us 1000 mLa (1466, [], [(3, (0, i)), (2, (2, 82)), (1, (2, 0)), (0, (8, 99))], [], (w, [], [], cn, sl, 81 + 12 * m, 114 + 25 * m)) (lwP i cn sl) := by
  refine xg_tX (xg_blk (b := [(1466, 1, 0, 1, 0, 0), (1467, 3, 13, 73, 88, 184), (1470, 1, 40, 0, 0, 0), (1471, 1, 0, 2, 0, 0), (1472, 3, 13, 175, 96, 187), (1475, 1, 40, 0, 0, 0), (1476, 3, 8, 1705, 0, 0)]) rfl).toX ?_
  refine xg_tX (xg_aload (va := (2, 0)) rfl rfl).toX ?_
  refine lwCx mX11_kept (vs := []) (rest := []) rfl hL (scKept hL.1) (by decide) rfl rfl rfl rfl rfl rfl rfl (by omega) (by omega) (fun n1 w1 hF1 hR1 hL1 => ?_)
  have hC1 := hC.fr hR1 (by decide) (trivial)
  refine xg_tX (xg_pop rfl).toX ?_
  refine xg_tX (xg_aload (va := (2, 82)) rfl rfl).toX ?_
  refine lwCm mX12_kept (vs := []) (rest := []) rfl hL1 (mKept hL1.2.1) (by decide) rfl rfl rfl rfl rfl rfl rfl (by omega) (by omega) (fun n2 w2 hF2 hR2 hL2 => ?_)
  have hC2 := hC1.fr hR2 (by decide) (trivial)
  refine xg_tX (xg_pop rfl).toX ?_
  refine xg_tX (xg_goto).toX ?_
  exact xg_eX ⟨m, _, cn, sl, hL2, hC2, by omega, by omega, rfl⟩
theorem lwc_41 (hi : i + 7 ≤ L) (hLL : L ≤ 3584) (hus : ∀ j, us j ≤ 4294967295) (hL : xLI m w) (hC : xCo w) (h1 : cn + 25 ≤ 600000) (h2 : sl + 4088 ≤ 7302250) : xToX L us 1000 mLa (1479, [], [(3, (0, i)), (2, (2, 82)), (1, (2, 0)), (0, (8, 99))], [], (w, [], [], cn, sl, 81 + 12 * m, 114 + 25 * m)) (lwP i cn sl) := by
  refine xg_tX (xg_blk (b := [(1479, 1, 0, 1, 0, 0), (1480, 1, 0, 0, 0, 0), (1481, 1, 2, 3, 0, 0), (1482, 1, 3, 1, 0, 0), (1483, 1, 11, 0, 0, 0), (1484, 1, 10, 0, 0, 0), (1485, 3, 13, 75, 88, 188), (1488, 1, 40, 0, 0, 0), (1489, 1, 0, 2, 0, 0), (1490, 1, 0, 0, 0, 0), (1491, 1, 2, 3, 0, 0), (1492, 1, 3, 1, 0, 0), (1493, 1, 11, 0, 0, 0), (1494, 1, 10, 0, 0, 0), (1495, 3, 13, 178, 96, 191), (1498, 1, 40, 0, 0, 0), (1499, 3, 8, 1705, 0, 0)]) rfl).toX ?_
  refine xg_tX (xg_aload (va := (2, 0)) rfl rfl).toX ?_
  refine xg_tX (lwA (k := 1) (by omega) (by omega)) ?_
  refine lwCx mX11_law (vs := [(0, us (i + 1))]) (rest := []) rfl hL (scLaw hL.1 (hus _)) (by decide) rfl rfl rfl rfl rfl rfl rfl (by omega) (by omega) (fun n1 w1 hF1 hR1 hL1 => ?_)
  have hC1 := hC.fr hR1 (by decide) (trivial)
  refine xg_tX (xg_pop rfl).toX ?_
  refine xg_tX (xg_aload (va := (2, 82)) rfl rfl).toX ?_
  refine xg_tX (lwA (k := 1) (by omega) (by omega)) ?_
  refine lwCm mX12_law (vs := [(0, us (i + 1))]) (rest := []) rfl hL1 (mLaw hL1.2.1 (hus _)) (by decide) rfl rfl rfl rfl rfl rfl rfl (by omega) (by omega) (fun n2 w2 hF2 hR2 hL2 => ?_)
  have hC2 := hC1.fr hR2 (by decide) (trivial)
  refine xg_tX (xg_pop rfl).toX ?_
  refine xg_tX (xg_goto).toX ?_
  exact xg_eX ⟨m, _, cn, sl, hL2, hC2, by omega, by omega, rfl⟩
theorem lwc_42 (hi : i + 7 ≤ L) (hLL : L ≤ 3584) (hus : ∀ j, us j ≤ 4294967295) (hL : xLI m w) (hC : xCo w) (h1 : cn + 25 ≤ 600000) (h2 : sl + 4088 ≤ 7302250) : xToX L us 1000 mLa (1502, [], [(3, (0, i)), (2, (2, 82)), (1, (2, 0)), (0, (8, 99))], [], (w, [], [], cn, sl, 81 + 12 * m, 114 + 25 * m)) (lwP i cn sl) := by
  refine xg_tX (xg_blk (b := [(1502, 1, 0, 1, 0, 0), (1503, 1, 0, 0, 0, 0), (1504, 1, 2, 3, 0, 0), (1505, 1, 3, 1, 0, 0), (1506, 1, 11, 0, 0, 0), (1507, 1, 10, 0, 0, 0), (1508, 1, 0, 0, 0, 0), (1509, 1, 2, 3, 0, 0), (1510, 1, 3, 2, 0, 0), (1511, 1, 11, 0, 0, 0), (1512, 1, 10, 0, 0, 0), (1513, 3, 7, 1520, 0, 0), (1516, 1, 3, 1, 0, 0), (1517, 3, 8, 1521, 0, 0)]) rfl).toX ?_
  refine xg_tX (xg_aload (va := (2, 0)) rfl rfl).toX ?_
  refine xg_tX (lwA (k := 1) (by omega) (by omega)) ?_
  refine xg_tX (lwA (k := 2) (by omega) (by omega)) ?_
  by_cases hz : us (i + 2) = 0
  · skip
    refine xg_tX (xg_ifT (u := us (i + 2)) rfl xnm0 (xj_eqT hz)).toX ?_
    refine xg_tX (xg_blk (b := [(1520, 1, 3, 0, 0, 0)]) rfl).toX ?_
    refine xg_tX (xg_const).toX ?_
    refine xg_tX (xg_blk (b := [(1521, 3, 13, 96, 88, 192), (1524, 1, 40, 0, 0, 0), (1525, 1, 0, 2, 0, 0), (1526, 1, 0, 0, 0, 0), (1527, 1, 2, 3, 0, 0), (1528, 1, 3, 1, 0, 0), (1529, 1, 11, 0, 0, 0), (1530, 1, 10, 0, 0, 0), (1531, 1, 0, 0, 0, 0), (1532, 1, 2, 3, 0, 0), (1533, 1, 3, 2, 0, 0), (1534, 1, 11, 0, 0, 0), (1535, 1, 10, 0, 0, 0), (1536, 3, 7, 1543, 0, 0), (1539, 1, 3, 1, 0, 0), (1540, 3, 8, 1544, 0, 0)]) rfl).toX ?_
    refine lwCx mX11_span (vs := [(0, us (i + 1)), (0, 0)]) (rest := []) rfl hL (scSpan hL.1 (hus _) (by decide)) (by decide) rfl rfl rfl rfl rfl rfl rfl (by omega) (by omega) (fun n1 w1 hF1 hR1 hL1 => ?_)
    have hC1 := hC.fr hR1 (by decide) (trivial)
    refine xg_tX (xg_pop rfl).toX ?_
    refine xg_tX (xg_aload (va := (2, 82)) rfl rfl).toX ?_
    refine xg_tX (lwA (k := 1) (by omega) (by omega)) ?_
    refine xg_tX (lwA (k := 2) (by omega) (by omega)) ?_
    refine xg_tX (xg_ifT (u := us (i + 2)) rfl xnm0 (xj_eqT hz)).toX ?_
    refine xg_tX (xg_blk (b := [(1543, 1, 3, 0, 0, 0)]) rfl).toX ?_
    refine xg_tX (xg_const).toX ?_
    refine xg_tX (xg_blk (b := [(1544, 3, 13, 223, 96, 196), (1547, 1, 40, 0, 0, 0), (1548, 3, 8, 1705, 0, 0)]) rfl).toX ?_
    refine lwCm mX12_span (vs := [(0, us (i + 1)), (0, 0)]) (rest := []) rfl hL1 (mSpan hL1.2.1 (hus _) (by decide)) (by decide) rfl rfl rfl rfl rfl rfl rfl (by omega) (by omega) (fun n2 w2 hF2 hR2 hL2 => ?_)
    have hC2 := hC1.fr hR2 (by decide) (trivial)
    refine xg_tX (xg_pop rfl).toX ?_
    refine xg_tX (xg_goto).toX ?_
    exact xg_eX ⟨m, _, cn, sl, hL2, hC2, by omega, by omega, rfl⟩
  · skip
    refine xg_tX (xg_ifF (u := us (i + 2)) rfl xnm0 (xj_eqF hz)).toX ?_
    refine xg_tX (xg_const).toX ?_
    refine xg_tX (xg_goto).toX ?_
    refine xg_tX (xg_blk (b := [(1521, 3, 13, 96, 88, 192), (1524, 1, 40, 0, 0, 0), (1525, 1, 0, 2, 0, 0), (1526, 1, 0, 0, 0, 0), (1527, 1, 2, 3, 0, 0), (1528, 1, 3, 1, 0, 0), (1529, 1, 11, 0, 0, 0), (1530, 1, 10, 0, 0, 0), (1531, 1, 0, 0, 0, 0), (1532, 1, 2, 3, 0, 0), (1533, 1, 3, 2, 0, 0), (1534, 1, 11, 0, 0, 0), (1535, 1, 10, 0, 0, 0), (1536, 3, 7, 1543, 0, 0), (1539, 1, 3, 1, 0, 0), (1540, 3, 8, 1544, 0, 0)]) rfl).toX ?_
    refine lwCx mX11_span (vs := [(0, us (i + 1)), (0, 1)]) (rest := []) rfl hL (scSpan hL.1 (hus _) (by decide)) (by decide) rfl rfl rfl rfl rfl rfl rfl (by omega) (by omega) (fun n1 w1 hF1 hR1 hL1 => ?_)
    have hC1 := hC.fr hR1 (by decide) (trivial)
    refine xg_tX (xg_pop rfl).toX ?_
    refine xg_tX (xg_aload (va := (2, 82)) rfl rfl).toX ?_
    refine xg_tX (lwA (k := 1) (by omega) (by omega)) ?_
    refine xg_tX (lwA (k := 2) (by omega) (by omega)) ?_
    refine xg_tX (xg_ifF (u := us (i + 2)) rfl xnm0 (xj_eqF hz)).toX ?_
    refine xg_tX (xg_const).toX ?_
    refine xg_tX (xg_goto).toX ?_
    refine xg_tX (xg_blk (b := [(1544, 3, 13, 223, 96, 196), (1547, 1, 40, 0, 0, 0), (1548, 3, 8, 1705, 0, 0)]) rfl).toX ?_
    refine lwCm mX12_span (vs := [(0, us (i + 1)), (0, 1)]) (rest := []) rfl hL1 (mSpan hL1.2.1 (hus _) (by decide)) (by decide) rfl rfl rfl rfl rfl rfl rfl (by omega) (by omega) (fun n2 w2 hF2 hR2 hL2 => ?_)
    have hC2 := hC1.fr hR2 (by decide) (trivial)
    refine xg_tX (xg_pop rfl).toX ?_
    refine xg_tX (xg_goto).toX ?_
    exact xg_eX ⟨m, _, cn, sl, hL2, hC2, by omega, by omega, rfl⟩
theorem lwc_43 (hi : i + 7 ≤ L) (hLL : L ≤ 3584) (hus : ∀ j, us j ≤ 4294967295) (hL : xLI m w) (hC : xCo w) (h1 : cn + 25 ≤ 600000) (h2 : sl + 4088 ≤ 7302250) : xToX L us 1000 mLa (1551, [], [(3, (0, i)), (2, (2, 82)), (1, (2, 0)), (0, (8, 99))], [], (w, [], [], cn, sl, 81 + 12 * m, 114 + 25 * m)) (lwP i cn sl) := by
  refine xg_tX (xg_blk (b := [(1551, 1, 0, 1, 0, 0), (1552, 1, 0, 0, 0, 0), (1553, 1, 2, 3, 0, 0), (1554, 1, 3, 1, 0, 0), (1555, 1, 11, 0, 0, 0), (1556, 1, 10, 0, 0, 0), (1557, 3, 13, 91, 88, 197), (1560, 1, 40, 0, 0, 0), (1561, 1, 0, 2, 0, 0), (1562, 1, 0, 0, 0, 0), (1563, 1, 2, 3, 0, 0), (1564, 1, 3, 1, 0, 0), (1565, 1, 11, 0, 0, 0), (1566, 1, 10, 0, 0, 0), (1567, 3, 13, 212, 96, 200), (1570, 1, 40, 0, 0, 0), (1571, 3, 8, 1705, 0, 0)]) rfl).toX ?_
  refine xg_tX (xg_aload (va := (2, 0)) rfl rfl).toX ?_
  refine xg_tX (lwA (k := 1) (by omega) (by omega)) ?_
  refine lwCx mX11_quarrel (vs := [(0, us (i + 1))]) (rest := []) rfl hL (scQuarrel hL.1 (hus _)) (by decide) rfl rfl rfl rfl rfl rfl rfl (by omega) (by omega) (fun n1 w1 hF1 hR1 hL1 => ?_)
  have hC1 := hC.fr hR1 (by decide) (trivial)
  refine xg_tX (xg_pop rfl).toX ?_
  refine xg_tX (xg_aload (va := (2, 82)) rfl rfl).toX ?_
  refine xg_tX (lwA (k := 1) (by omega) (by omega)) ?_
  refine lwCm mX12_quarrel (vs := [(0, us (i + 1))]) (rest := []) rfl hL1 (mQuarrel hL1.2.1 (hus _)) (by decide) rfl rfl rfl rfl rfl rfl rfl (by omega) (by omega) (fun n2 w2 hF2 hR2 hL2 => ?_)
  have hC2 := hC1.fr hR2 (by decide) (trivial)
  refine xg_tX (xg_pop rfl).toX ?_
  refine xg_tX (xg_goto).toX ?_
  exact xg_eX ⟨m, _, cn, sl, hL2, hC2, by omega, by omega, rfl⟩
theorem lwc_44 (hi : i + 7 ≤ L) (hLL : L ≤ 3584) (hus : ∀ j, us j ≤ 4294967295) (hL : xLI m w) (hC : xCo w) (h1 : cn + 25 ≤ 600000) (h2 : sl + 4088 ≤ 7302250) : xToX L us 1000 mLa (1574, [], [(3, (0, i)), (2, (2, 82)), (1, (2, 0)), (0, (8, 99))], [], (w, [], [], cn, sl, 81 + 12 * m, 114 + 25 * m)) (lwP i cn sl) := by
  refine xg_tX (xg_blk (b := [(1574, 1, 0, 1, 0, 0), (1575, 1, 0, 0, 0, 0), (1576, 1, 2, 3, 0, 0), (1577, 1, 3, 1, 0, 0), (1578, 1, 11, 0, 0, 0), (1579, 1, 10, 0, 0, 0), (1580, 3, 13, 84, 88, 201), (1583, 1, 40, 0, 0, 0), (1584, 1, 0, 2, 0, 0), (1585, 1, 0, 0, 0, 0), (1586, 1, 2, 3, 0, 0), (1587, 1, 3, 1, 0, 0), (1588, 1, 11, 0, 0, 0), (1589, 1, 10, 0, 0, 0), (1590, 3, 13, 197, 96, 204), (1593, 1, 40, 0, 0, 0), (1594, 3, 8, 1705, 0, 0)]) rfl).toX ?_
  refine xg_tX (xg_aload (va := (2, 0)) rfl rfl).toX ?_
  refine xg_tX (lwA (k := 1) (by omega) (by omega)) ?_
  refine lwCx mX11_next (vs := [(0, us (i + 1))]) (rest := []) rfl hL (scNext hL.1 (hus _)) (by decide) rfl rfl rfl rfl rfl rfl rfl (by omega) (by omega) (fun n1 w1 hF1 hR1 hL1 => ?_)
  have hC1 := hC.fr hR1 (by decide) (trivial)
  refine xg_tX (xg_pop rfl).toX ?_
  refine xg_tX (xg_aload (va := (2, 82)) rfl rfl).toX ?_
  refine xg_tX (lwA (k := 1) (by omega) (by omega)) ?_
  refine lwCm mX12_next (vs := [(0, us (i + 1))]) (rest := []) rfl hL1 (mNext hL1.2.1 (hus _)) (by decide) rfl rfl rfl rfl rfl rfl rfl (by omega) (by omega) (fun n2 w2 hF2 hR2 hL2 => ?_)
  have hC2 := hC1.fr hR2 (by decide) (trivial)
  refine xg_tX (xg_pop rfl).toX ?_
  refine xg_tX (xg_goto).toX ?_
  exact xg_eX ⟨m, _, cn, sl, hL2, hC2, by omega, by omega, rfl⟩
theorem lwc_45 (hi : i + 7 ≤ L) (hLL : L ≤ 3584) (hus : ∀ j, us j ≤ 4294967295) (hL : xLI m w) (hC : xCo w) (h1 : cn + 25 ≤ 600000) (h2 : sl + 4088 ≤ 7302250) : xToX L us 1000 mLa (1597, [], [(3, (0, i)), (2, (2, 82)), (1, (2, 0)), (0, (8, 99))], [], (w, [], [], cn, sl, 81 + 12 * m, 114 + 25 * m)) (lwP i cn sl) := by
  refine xg_tX (xg_blk (b := [(1597, 1, 0, 1, 0, 0), (1598, 3, 13, 93, 88, 205), (1601, 1, 40, 0, 0, 0), (1602, 1, 0, 2, 0, 0), (1603, 3, 13, 216, 96, 208), (1606, 1, 40, 0, 0, 0), (1607, 3, 8, 1705, 0, 0)]) rfl).toX ?_
  refine xg_tX (xg_aload (va := (2, 0)) rfl rfl).toX ?_
  refine lwCx mX11_rules (vs := []) (rest := []) rfl hL (bsRulesY hL.1) (by decide) rfl rfl rfl rfl rfl rfl rfl (by omega) (by omega) (fun n1 w1 hF1 hR1 hL1 => ?_)
  refine xg_tX (xg_pop rfl).toX ?_
  refine xg_tX (xg_aload (va := (2, 82)) rfl rfl).toX ?_
  refine lwCm mX12_rules (vs := []) (rest := []) rfl hL1 (mRules hL1.2.1) (by decide) rfl rfl rfl rfl rfl rfl rfl (by omega) (by omega) (fun n2 w2 hF2 hR2 hL2 => ?_)
  obtain ⟨hT, hD, hFi, hP, hH, hE⟩ := id hC.1
  have r1 : ∀ j, rwv w1 83 j = rwv w 83 j := fun j => rwv_fr hR1 (by decide)
  have c1 : ∀ j, fld w2 1 j = fld w1 1 j := fun j => fld_fr hR2 (by decide)
  obtain ⟨p0, p1, p6, p7, p9⟩ := id hF1
  obtain ⟨m0, m15, mJ⟩ := id hF2
  have hC2 : xCo w2 := hC.st (fun k h => (hR2.kp (by decide) k h).trans (hR1.kp (by decide) k h)) (fun j x y => (mJ j (by omega) (by omega) (by omega) (by omega)).trans (r1 j)) ⟨(hT.e0 ((c1 1).trans p1) m15), (hD.kp ((c1 6).trans p6) ((c1 7).trans p7) ((c1 9).trans p9) (fun j p q => (mJ j (by omega) (by omega) (by omega) (by omega)).trans (r1 j))), (hFi.kp (keepL hR1 hR2 (by decide)) (fun j p => (mJ j (by omega) (by omega) (by omega) (by omega)).trans (r1 j))), (hP.kp ((hR2.1 16 (by decide)).trans (hR1.1 16 (by decide))) ((hR2.1 17 (by decide)).trans (hR1.1 17 (by decide))) ((mJ 10 (by omega) (by omega) (by omega) (by omega)).trans (r1 10)) (fun j p q => (mJ j (by omega) (by omega) (by omega) (by omega)).trans (r1 j))), (hH.kp ((hR2.1 18 (by decide)).trans (hR1.1 18 (by decide))) ((hR2.1 19 (by decide)).trans (hR1.1 19 (by decide))) ((mJ 900 (by omega) (by omega) (by omega) (by omega)).trans (r1 900)) (fun j p q => (mJ j (by omega) (by omega) (by omega) (by omega)).trans (r1 j))), (hE.kp ((hR2.1 20 (by decide)).trans (hR1.1 20 (by decide))) ((hR2.1 21 (by decide)).trans (hR1.1 21 (by decide))) ((mJ 901 (by omega) (by omega) (by omega) (by omega)).trans (r1 901)) (fun j p q => (mJ j (by omega) (by omega) (by omega) (by omega)).trans (r1 j)))⟩ (trivial)
  refine xg_tX (xg_pop rfl).toX ?_
  refine xg_tX (xg_goto).toX ?_
  exact xg_eX ⟨m, _, cn, sl, hL2, hC2, by omega, by omega, rfl⟩
theorem lwc_46 (hi : i + 7 ≤ L) (hLL : L ≤ 3584) (hus : ∀ j, us j ≤ 4294967295) (hL : xLI m w) (hC : xCo w) (h1 : cn + 25 ≤ 600000) (h2 : sl + 4088 ≤ 7302250) : xToX L us 1000 mLa (1610, [], [(3, (0, i)), (2, (2, 82)), (1, (2, 0)), (0, (8, 99))], [], (w, [], [], cn, sl, 81 + 12 * m, 114 + 25 * m)) (lwP i cn sl) := by
  refine xg_tX (xg_blk (b := [(1610, 1, 0, 1, 0, 0), (1611, 3, 13, 38, 88, 209), (1614, 1, 40, 0, 0, 0), (1615, 1, 0, 2, 0, 0), (1616, 3, 13, 119, 96, 212), (1619, 1, 40, 0, 0, 0), (1620, 3, 8, 1705, 0, 0)]) rfl).toX ?_
  refine xg_tX (xg_aload (va := (2, 0)) rfl rfl).toX ?_
  refine lwCx mX11_barred (vs := []) (rest := []) rfl hL (scBarred hL.1) (by decide) rfl rfl rfl rfl rfl rfl rfl (by omega) (by omega) (fun n1 w1 hF1 hR1 hL1 => ?_)
  have hC1 := hC.fr hR1 (by decide) (trivial)
  refine xg_tX (xg_pop rfl).toX ?_
  refine xg_tX (xg_aload (va := (2, 82)) rfl rfl).toX ?_
  refine lwCm mX12_barred (vs := []) (rest := []) rfl hL1 (mBarred hL1.2.1) (by decide) rfl rfl rfl rfl rfl rfl rfl (by omega) (by omega) (fun n2 w2 hF2 hR2 hL2 => ?_)
  have hC2 := hC1.fr hR2 (by decide) (trivial)
  refine xg_tX (xg_pop rfl).toX ?_
  refine xg_tX (xg_goto).toX ?_
  exact xg_eX ⟨m, _, cn, sl, hL2, hC2, by omega, by omega, rfl⟩
theorem lwc_47 (hi : i + 7 ≤ L) (hLL : L ≤ 3584) (hus : ∀ j, us j ≤ 4294967295) (hL : xLI m w) (hC : xCo w) (h1 : cn + 25 ≤ 600000) (h2 : sl + 4088 ≤ 7302250) : xToX L us 1000 mLa (1623, [], [(3, (0, i)), (2, (2, 82)), (1, (2, 0)), (0, (8, 99))], [], (w, [], [], cn, sl, 81 + 12 * m, 114 + 25 * m)) (lwP i cn sl) := by
  refine xg_tX (xg_blk (b := [(1623, 1, 0, 1, 0, 0), (1624, 3, 13, 89, 88, 213), (1627, 1, 40, 0, 0, 0), (1628, 1, 0, 2, 0, 0), (1629, 3, 13, 209, 96, 216), (1632, 1, 40, 0, 0, 0), (1633, 3, 8, 1705, 0, 0)]) rfl).toX ?_
  refine xg_tX (xg_aload (va := (2, 0)) rfl rfl).toX ?_
  refine lwCx mX11_price (vs := []) (rest := []) rfl hL (scPrice hL.1) (by decide) rfl rfl rfl rfl rfl rfl rfl (by omega) (by omega) (fun n1 w1 hF1 hR1 hL1 => ?_)
  have hC1 := hC.fr hR1 (by decide) (trivial)
  refine xg_tX (xg_pop rfl).toX ?_
  refine xg_tX (xg_aload (va := (2, 82)) rfl rfl).toX ?_
  refine lwCm mX12_price (vs := []) (rest := []) rfl hL1 (mPrice hL1.2.1) (by decide) rfl rfl rfl rfl rfl rfl rfl (by omega) (by omega) (fun n2 w2 hF2 hR2 hL2 => ?_)
  have hC2 := hC1.fr hR2 (by decide) (trivial)
  refine xg_tX (xg_pop rfl).toX ?_
  refine xg_tX (xg_goto).toX ?_
  exact xg_eX ⟨m, _, cn, sl, hL2, hC2, by omega, by omega, rfl⟩
theorem lwc_48 (hi : i + 7 ≤ L) (hLL : L ≤ 3584) (hus : ∀ j, us j ≤ 4294967295) (hL : xLI m w) (hC : xCo w) (h1 : cn + 25 ≤ 600000) (h2 : sl + 4088 ≤ 7302250) : xToX L us 1000 mLa (1636, [], [(3, (0, i)), (2, (2, 82)), (1, (2, 0)), (0, (8, 99))], [], (w, [], [], cn, sl, 81 + 12 * m, 114 + 25 * m)) (lwP i cn sl) := by
  refine xg_tX (xg_blk (b := [(1636, 1, 0, 1, 0, 0), (1637, 1, 0, 0, 0, 0), (1638, 1, 2, 3, 0, 0), (1639, 1, 3, 1, 0, 0), (1640, 1, 11, 0, 0, 0), (1641, 1, 10, 0, 0, 0), (1642, 3, 13, 44, 88, 217), (1645, 1, 40, 0, 0, 0), (1646, 1, 0, 2, 0, 0), (1647, 1, 0, 0, 0, 0), (1648, 1, 2, 3, 0, 0), (1649, 1, 3, 1, 0, 0), (1650, 1, 11, 0, 0, 0), (1651, 1, 10, 0, 0, 0), (1652, 3, 13, 127, 96, 220), (1655, 1, 40, 0, 0, 0), (1656, 3, 8, 1705, 0, 0)]) rfl).toX ?_
  refine xg_tX (xg_aload (va := (2, 0)) rfl rfl).toX ?_
  refine xg_tX (lwA (k := 1) (by omega) (by omega)) ?_
  refine lwCx mX11_count (vs := [(0, us (i + 1))]) (rest := []) rfl hL (scCount hL.1 (hus _)) (by decide) rfl rfl rfl rfl rfl rfl rfl (by omega) (by omega) (fun n1 w1 hF1 hR1 hL1 => ?_)
  have hC1 := hC.fr hR1 (by decide) (trivial)
  refine xg_tX (xg_pop rfl).toX ?_
  refine xg_tX (xg_aload (va := (2, 82)) rfl rfl).toX ?_
  refine xg_tX (lwA (k := 1) (by omega) (by omega)) ?_
  refine lwCm mX12_count (vs := [(0, us (i + 1))]) (rest := []) rfl hL1 (mCount hL1.2.1 (hus _)) (by decide) rfl rfl rfl rfl rfl rfl rfl (by omega) (by omega) (fun n2 w2 hF2 hR2 hL2 => ?_)
  have hC2 := hC1.fr hR2 (by decide) (trivial)
  refine xg_tX (xg_pop rfl).toX ?_
  refine xg_tX (xg_goto).toX ?_
  exact xg_eX ⟨m, _, cn, sl, hL2, hC2, by omega, by omega, rfl⟩
theorem lwc_49 (hi : i + 7 ≤ L) (hLL : L ≤ 3584) (hus : ∀ j, us j ≤ 4294967295) (hL : xLI m w) (hC : xCo w) (h1 : cn + 25 ≤ 600000) (h2 : sl + 4088 ≤ 7302250) : xToX L us 1000 mLa (1659, [], [(3, (0, i)), (2, (2, 82)), (1, (2, 0)), (0, (8, 99))], [], (w, [], [], cn, sl, 81 + 12 * m, 114 + 25 * m)) (lwP i cn sl) := by
  refine xg_tX (xg_blk (b := [(1659, 1, 0, 1, 0, 0), (1660, 1, 0, 0, 0, 0), (1661, 1, 2, 3, 0, 0), (1662, 1, 3, 1, 0, 0), (1663, 1, 11, 0, 0, 0), (1664, 1, 10, 0, 0, 0), (1665, 3, 13, 65, 88, 221), (1668, 1, 40, 0, 0, 0), (1669, 1, 0, 2, 0, 0), (1670, 1, 0, 0, 0, 0), (1671, 1, 2, 3, 0, 0), (1672, 1, 3, 1, 0, 0), (1673, 1, 11, 0, 0, 0), (1674, 1, 10, 0, 0, 0), (1675, 3, 13, 153, 96, 224), (1678, 1, 40, 0, 0, 0), (1679, 3, 8, 1705, 0, 0)]) rfl).toX ?_
  refine xg_tX (xg_aload (va := (2, 0)) rfl rfl).toX ?_
  refine xg_tX (lwA (k := 1) (by omega) (by omega)) ?_
  refine lwCi rfl hL (hus _) h1 h2 (fun n1 m1 w1 hF1 hL1 => ?_)
  refine xg_tX (xg_pop rfl).toX ?_
  refine xg_tX (xg_aload (va := (2, 82)) rfl rfl).toX ?_
  refine xg_tX (lwA (k := 1) (by omega) (by omega)) ?_
  refine lwCm mX12_image (vs := [(0, us (i + 1))]) (rest := []) rfl hL1 (mImageX hL1.2.1 (hus _)) (by decide) rfl rfl rfl rfl rfl rfl rfl (by omega) (by omega) (fun n2 w2 hF2 hR2 hL2 => ?_)
  have hC2 : xCo w2 := hC.img hL hF1 hR2 hF2 (trivial)
  refine xg_tX (xg_pop rfl).toX ?_
  refine xg_tX (xg_goto).toX ?_
  exact xg_eX ⟨m1, _, cn + 25, sl + 4088, hL2, hC2, by omega, by omega, rfl⟩
theorem lwc_50 (hi : i + 7 ≤ L) (hLL : L ≤ 3584) (hus : ∀ j, us j ≤ 4294967295) (hL : xLI m w) (hC : xCo w) (h1 : cn + 25 ≤ 600000) (h2 : sl + 4088 ≤ 7302250) : xToX L us 1000 mLa (1682, [], [(3, (0, i)), (2, (2, 82)), (1, (2, 0)), (0, (8, 99))], [], (w, [], [], cn, sl, 81 + 12 * m, 114 + 25 * m)) (lwP i cn sl) := by
  refine xg_tX (xg_blk (b := [(1682, 1, 0, 1, 0, 0), (1683, 1, 0, 0, 0, 0), (1684, 1, 2, 3, 0, 0), (1685, 1, 3, 1, 0, 0), (1686, 1, 11, 0, 0, 0), (1687, 1, 10, 0, 0, 0), (1688, 3, 13, 37, 88, 225), (1691, 1, 40, 0, 0, 0), (1692, 1, 0, 2, 0, 0), (1693, 1, 0, 0, 0, 0), (1694, 1, 2, 3, 0, 0), (1695, 1, 3, 1, 0, 0), (1696, 1, 11, 0, 0, 0), (1697, 1, 10, 0, 0, 0), (1698, 3, 13, 111, 96, 228), (1701, 1, 40, 0, 0, 0), (1702, 3, 8, 1705, 0, 0)]) rfl).toX ?_
  refine xg_tX (xg_aload (va := (2, 0)) rfl rfl).toX ?_
  refine xg_tX (lwA (k := 1) (by omega) (by omega)) ?_
  obtain ⟨hI_, hM_, hs_, hJ_, us_, h26_, hv_, hnn_⟩ := id hL
  refine lwCx mX11_again (vs := [(0, us (i + 1))]) (rest := []) rfl hL (scAgainE hI_ (hus _) h26_ hv_ (by have := nn26_le (us := us_); omega) hJ_) (by decide) rfl rfl rfl rfl rfl rfl rfl (by omega) (by omega) (fun n1 w1 hF1 hR1 hL1 => ?_)
  refine xg_tX (xg_pop rfl).toX ?_
  refine xg_tX (xg_aload (va := (2, 82)) rfl rfl).toX ?_
  refine xg_tX (lwA (k := 1) (by omega) (by omega)) ?_
  refine lwCm mX12_again (vs := [(0, us (i + 1))]) (rest := []) rfl hL1 (mAgainX hL1.2.1 (hus _)) (by decide) rfl rfl rfl rfl rfl rfl rfl (by omega) (by omega) (fun n2 w2 hF2 hR2 hL2 => ?_)
  obtain ⟨hnn2, hC2⟩ := hC.agn h26_ hF1 hR1 (by decide) hF2 hR2 (fun hn1 => trivial)
  refine xg_tX (xg_pop rfl).toX ?_
  refine xg_tX (xg_goto).toX ?_
  exact xg_eX ⟨m, _, cn, sl, hL2, hC2, by omega, by omega, rfl⟩
end XLC
