section
/-! the model: the whole text of a film -/
section XFMF
variable {B : Nat → Nat} {n k : Nat} {w w' : List (List xE)}
theorem MST.data (h : MST B n w k) (h0 : (flA B n k).1 = 0) : DATA w := by
  obtain ⟨-, hm, hR⟩ := h
  obtain ⟨hR1, -⟩ := hR h0
  have hl : ∀ s, 1 ≤ lim s → lnC B n s k ≤ lim s := fun s h => lnC_lim h0 h
  have l0 : lnC B n 0 k ≤ 6 := hl 0 (by decide)
  have l1 : lnC B n 1 k ≤ 4 := hl 1 (by decide)
  have l2 : lnC B n 2 k ≤ 6 := hl 2 (by decide)
  have l3 : lnC B n 3 k ≤ 4 := hl 3 (by decide)
  have l4 : lnC B n 4 k ≤ 20 := hl 4 (by decide)
  have m0 := hm 0 (by decide)
  have m1 := hm 1 (by decide)
  have m2 := hm 2 (by decide)
  have m3 := hm 3 (by decide)
  have m4 := hm 4 (by decide)
  have two : ∀ s, s = 5 ∨ s = 6 → (1 ≤ XM w s 0 0 ∧ XM w s 0 0 ≤ grt0 s) ∧ (1 ≤ XM w s 0 1 ∧ XM w s 0 1 ≤ grt1 s) := by
    intro s h5
    by_cases e : lnC B n s k = 0
    · obtain ⟨a, b⟩ := hR1.2 s h5 e
      rw [a, b]
      rcases h5 with rfl | rfl <;> decide
    · obtain ⟨i, i1, i2, i3⟩ := lnC_hit (B := B) (n := n) (s := s) (m := 0) k (by omega)
      have a := hR1.1 i i1 0 (by rw [i2]; rcases h5 with rfl | rfl <;> decide)
      have b := hR1.1 i i1 1 (by rw [i2]; rcases h5 with rfl | rfl <;> decide)
      rw [i2, i3] at a b
      obtain ⟨-, c, d, -⟩ := flt_v i2 (flA_all h0 i i1)
      rw [a, b]
      rcases h5 with rfl | rfl
      · exact ⟨c, d⟩
      · exact ⟨c, d⟩
  obtain ⟨⟨a1, a2⟩, a3, a4⟩ := two 5 (Or.inl rfl)
  obtain ⟨⟨b1, b2⟩, b3, b4⟩ := two 6 (Or.inr rfl)
  refine ⟨by omega, by omega, by omega, by omega, by omega, ⟨b1, b2⟩, ⟨b3, b4⟩, ⟨a1, a2⟩, ⟨a3, a4⟩, fun q t hq ht => ?_, fun q hq => ?_⟩
  · obtain ⟨i, i1, i2, i3⟩ := lnC_hit (B := B) (n := n) (s := 0) (m := q) k (by omega)
    have a := hR1.1 i i1 t (by rw [i2]; show t < 4; omega)
    rw [i2, i3] at a
    have a : rwv w 86 (20 + 4 * q + t) = vln B n (lnP B n i) t := a
    obtain ⟨-, c, d, e⟩ := flt_v i2 (flA_all h0 i i1)
    rw [a]
    rcases (show t = 0 ∨ t = 1 ∨ t = 2 by omega) with rfl | rfl | rfl
    · exact c
    · exact d
    · exact e rfl
  · obtain ⟨i, i1, i2, i3⟩ := lnC_hit (B := B) (n := n) (s := 1) (m := q) k (by omega)
    have a := hR1.1 i i1 1 (by rw [i2]; decide)
    rw [i2, i3] at a
    have a : rwv w 86 (50 + 2 * q + 1) = vln B n (lnP B n i) 1 := a
    rw [show 51 + 2 * q = 50 + 2 * q + 1 by omega, a]
    exact (flt_v i2 (flA_all h0 i i1)).2.2.1
/-- all, as told -/
noncomputable def XA (w : List (List xE)) : Nat → Nat → Nat → Nat := fun s m t => if s = 0 then rwv w 83 (20 + 4 * m + t) else if s = 1 then rwv w 83 (50 + 2 * m + t) else if s = 2 then rwv w 83 (60 + 2 * m + t) else if s = 3 then rwv w 83 (80 + 3 * m + t) else if s = 4 then rwv w 83 (100 + 2 * m + t) else if s = 5 then rwv w 83 (7 + t) else if s = 6 then rwv w 83 (5 + t) else 0
def FLA (B : Nat → Nat) (n : Nat) (w : List (List xE)) (k : Nat) : Prop := (rwv w 83 0 = lnC B n 0 k ∧ rwv w 83 1 = lnC B n 1 k ∧ rwv w 83 2 = lnC B n 2 k ∧ rwv w 83 3 = lnC B n 3 k ∧ rwv w 83 4 = lnC B n 4 k ∧ rwv w 83 14 = k ∧ (flA B n k).1 = 0) ∧ RCN B n k (XA w)
theorem FLA.mk {wd : List (List xE)} (h : MST B n wd k) (h0 : (flA B n k).1 = 0) (c0 : rwv w 83 0 = rwv wd 85 0) (c1 : rwv w 83 1 = rwv wd 85 1) (c2 : rwv w 83 2 = rwv wd 85 2) (c3 : rwv w 83 3 = rwv wd 85 3) (c4 : rwv w 83 4 = rwv wd 85 4) (c14 : rwv w 83 14 = k) (d5 : rwv w 83 5 = rwv wd 86 5) (d6 : rwv w 83 6 = rwv wd 86 6) (d7 : rwv w 83 7 = rwv wd 86 7) (d8 : rwv w 83 8 = rwv wd 86 8) (r : ∀ j, 20 ≤ j → j < 140 → rwv w 83 j = rwv wd 86 j) : FLA B n w k := by
  obtain ⟨-, hm, hR⟩ := h
  obtain ⟨hR1, -⟩ := hR h0
  have hl : ∀ s, 1 ≤ lim s → lnC B n s k ≤ lim s := fun s h => lnC_lim h0 h
  refine ⟨⟨c0.trans (hm 0 (by decide)), c1.trans (hm 1 (by decide)), c2.trans (hm 2 (by decide)), c3.trans (hm 3 (by decide)), c4.trans (hm 4 (by decide)), c14, h0⟩, hR1.cg (fun s m t hm' ht => ?_) (fun s h5 => ?_)⟩
  · unfold XA XM
    by_cases e0 : s = 0
    · subst e0
      have q : lnC B n 0 k ≤ 6 := hl 0 (by decide)
      have ht : t < 4 := ht
      rw [if_pos rfl, if_pos rfl]
      exact r _ (by omega) (by omega)
    · rw [if_neg e0, if_neg e0]
      by_cases e1 : s = 1
      · subst e1
        have q : lnC B n 1 k ≤ 4 := hl 1 (by decide)
        have ht : t < 2 := ht
        rw [if_pos rfl, if_pos rfl]
        exact r _ (by omega) (by omega)
      · rw [if_neg e1, if_neg e1]
        by_cases e2 : s = 2
        · subst e2
          have q : lnC B n 2 k ≤ 6 := hl 2 (by decide)
          have ht : t < 2 := ht
          rw [if_pos rfl, if_pos rfl]
          exact r _ (by omega) (by omega)
        · rw [if_neg e2, if_neg e2]
          by_cases e3 : s = 3
          · subst e3
            have q : lnC B n 3 k ≤ 4 := hl 3 (by decide)
            have ht : t < 3 := ht
            rw [if_pos rfl, if_pos rfl]
            exact r _ (by omega) (by omega)
          · rw [if_neg e3, if_neg e3]
            by_cases e4 : s = 4
            · subst e4
              have q : lnC B n 4 k ≤ 20 := hl 4 (by decide)
              have ht : t < 2 := ht
              rw [if_pos rfl, if_pos rfl]
              exact r _ (by omega) (by omega)
            · rw [if_neg e4, if_neg e4]
              by_cases e5 : s = 5
              · subst e5
                have ht : t < 2 := ht
                rw [if_pos rfl, if_pos rfl]
                rcases (show t = 0 ∨ t = 1 by omega) with rfl | rfl
                · exact d7
                · exact d8
              · rw [if_neg e5, if_neg e5]
                by_cases e6 : s = 6
                · subst e6
                  have ht : t < 2 := ht
                  rw [if_pos rfl, if_pos rfl]
                  rcases (show t = 0 ∨ t = 1 by omega) with rfl | rfl
                  · exact d5
                  · exact d6
                · rw [if_neg e6, if_neg e6]
  · rcases h5 with rfl | rfl
    · exact ⟨d7, d8⟩
    · exact ⟨d5, d6⟩
theorem MST.zero (h10 : fld w 82 10 = 0) (h14 : fld w 82 14 = 0) (hF : rwv w 83 16 = 0) (hF2 : rwv w 83 17 = 4294967295) (hm : ∀ s, s < 7 → rwv w 85 s = 0) (d5 : rwv w 86 5 = 1) (d6 : rwv w 86 6 = 1) (d7 : rwv w 86 7 = 1) (d8 : rwv w 86 8 = 1) : MST B n w 0 := by
  refine ⟨⟨h10, h14, ⟨hF, fun z => absurd rfl z, Nat.zero_le _, fun _ => hF2⟩, fun z => absurd rfl z⟩, hm, fun _ => ⟨RCN.zero (fun s h5 => ?_), fun i hi => absurd hi (Nat.not_lt_zero _)⟩⟩
  rcases h5 with rfl | rfl
  · exact ⟨d7, d8⟩
  · exact ⟨d5, d6⟩
/-- but for the tape's length, the fault and its place -/
def KB (w w' : List (List xE)) : Prop := rwv w' 83 15 = 0 ∧ ∀ j, j < 5360 → j ≠ 15 → j ≠ 16 → j ≠ 17 → rwv w' 83 j = rwv w 83 j
theorem KB.kp {w1 w2 w3 : List (List xE)} (h : KB w1 w2) (k : K83 w2 w3) : KB w1 w3 := ⟨(k 15 (by decide) (by decide) (by decide)).trans h.1, fun j a b c d => (k j a c d).trans (h.2 j a b c d)⟩
theorem bsm.kb {nn : Nat} {w w' : List (List xE)} (h : bsm w B nn) (e : KB w w') : bsm w' B nn := h.fr (fun j h4 h9 => e.2 j (by omega) (by omega) (by omega) (by omega))
end XFMF
section XFMG
variable {d : Nat} {w : List (List xE)} {bd : List (Nat × Nat)} {fc : List (Nat × Nat × Bool)} {rr : Nat × Nat}
set_option maxHeartbeats 60000000 in
theorem mALnX {B : Nat → Nat} {nn k p0 : Nat} (hI : xMnv w) (hB : bsm w B nn) (hp0 : p0 = lnP B nn k) (hT : TKM 0 B nn w p0) (hS : MST B nn w k) (hk5 : k ≤ 500) : xPq (d + 7) mX12_aLine [(2, 82)] w bd fc rr [] (fun w' => xMnv w' ∧ xFr [82, 83, 85, 86, 87] w w' ∧ (((∃ q, lnR B nn p0 = (false, q) ∧ WRG w' (tq B nn q)) ∨ ((lnR B nn p0).1 = true ∧ TKM 0 B nn w' (lnP B nn (k + 1)) ∧ MST B nn w' (k + 1))) ∧ K83 w w' ∧ fld w 82 14 ≤ fld w' 82 14)) := by
  refine xPq.of ?_
  show xTo (d + 7) mX12_aLine (0, [], [(0, (2, 82))], [], (w, bd, fc, 0, 0, rr)) (fun φ => ∃ w', xEnd 0 [] (w', bd, fc, 0, 0, rr) φ ∧ xMnv w' ∧ xFr [82, 83, 85, 86, 87] w w' ∧ (((∃ q, lnR B nn p0 = (false, q) ∧ WRG w' (tq B nn q)) ∨ ((lnR B nn p0).1 = true ∧ TKM 0 B nn w' (lnP B nn (k + 1)) ∧ MST B nn w' (k + 1))) ∧ K83 w w' ∧ fld w 82 14 ≤ fld w' 82 14))
  refine xoCh82 (xqc82 hI : cp82 (wget w 82)) (fun f82_1 f82_3 f82_5 f82_7 f82_9 f82_11 f82_13 f82_15 f82_17 f82_19 f82_21 f82_22 f82_23 f82_25 f82_27 f82_29 h82_31 hb2 hb4 hb6 hb8 hb10 hb12 hb14 hb16 hb18 hb20 hb24 hb26 hb28 hb30 hb32 => ?_)
  obtain ⟨⟨z10, z14, zF, zp⟩, hm, hR⟩ := id hS
  have hf33 : fld w 82 6 = f82_9 := fld_of h82_31
  have hf34 : fld w 82 7 = f82_11 := fld_of h82_31
  have hf35 : fld w 82 9 = f82_15 := fld_of h82_31
  have hf36 : fld w 82 10 = f82_17 := fld_of h82_31
  have hf37 : fld w 82 14 = f82_19 := fld_of h82_31
  obtain ⟨⟨ht38, ht39, ht40, ht41, ht42, ht43⟩, ht44, ht45, ht46⟩ := id hT
  have hmk := mkd_of (ir := 0) (B := B) (n := nn) (p := p0)
  have hwx : wix 0 (twk B nn p0) = wixF (twk B nn p0) := rfl
  refine xg_t (xg_blq rfl) ?_
  refine xg_t (xg_aload (va := (2, 82)) rfl rfl) ?_
  refine xg_t (xg_getf (va := (0, f82_15)) h82_31 rfl) ?_
  have hn47 : f82_15 ≤ 4294967295 := hb16
  refine xg_t (xg_istore (l1 := [(0, (2, 82))]) rfl rfl rfl) ?_
  refine xg_t (xg_aload (va := (2, 82)) rfl rfl) ?_
  refine xg_t (xg_getf (va := (0, f82_9)) h82_31 rfl) ?_
  have hn48 : f82_9 ≤ 4294967295 := hb10
  refine xg_t (xg_istore (l1 := [(1, (0, f82_15)), (0, (2, 82))]) rfl rfl rfl) ?_
  refine xg_t (xg_aload (va := (2, 82)) rfl rfl) ?_
  refine xg_t (xg_getf (va := (0, f82_17)) h82_31 rfl) ?_
  refine xg_t (xg_ifF (u := f82_17) rfl xnm0 (xj_neF (by omega))) ?_
  refine xg_t (xg_aload (va := (2, 82)) rfl rfl) ?_
  refine xg_t (xg_getf (va := (0, f82_11)) h82_31 rfl) ?_
  refine xg_t (xg_const) ?_
  by_cases hc49 : f82_11 = 3
  · refine xg_t (xg_icF (u := f82_11) (v := 3) rfl xnm0 xnm0 (xj_neF hc49)) ?_
    refine xg_t (xg_aload (va := (2, 82)) rfl rfl) ?_
    refine xg_t (xg_getf (va := (0, f82_15)) h82_31 rfl) ?_
    refine xg_t (xg_const) ?_
    refine xg_t (xg_bip) ?_
    refine xg_t (xg_cSr mX12_isIn (vs := [(0, f82_15), (0, 0), (0, 6)]) (rest := []) (rs := [(0, if 0 ≤ f82_15 ∧ f82_15 ≤ 6 then 1 else 0)]) (cn1 := 0) (sl1 := 0) rfl (mIsIn (by omega) (by omega) (by omega)) rfl rfl rfl rfl rfl rfl rfl rfl) ?_
    by_cases hc50 : 0 ≤ f82_15 ∧ f82_15 ≤ 6
    · refine xg_t (xg_ifT (u := (if 0 ≤ f82_15 ∧ f82_15 ≤ 6 then 1 else 0)) rfl xnm0 (xj_neT (xite1 hc50))) ?_
      have hk1 : tkd B nn p0 = 1 := by omega
      have hk2 := ht45 hk1
      have hsl : slt B nn (lnP B nn k) = f82_15 := by
        rw [← hp0]
        unfold slt
        rw [srt_wix, if_pos (by omega)]
        omega
      have hat_ : f82_9 = tq B nn p0 := by omega
      rcases (show f82_15 = 0 ∨ f82_15 = 1 ∨ f82_15 = 2 ∨ f82_15 = 3 ∨ f82_15 = 4 ∨ f82_15 = 5 ∨ f82_15 = 6 by omega) with h_ | h_ | h_ | h_ | h_ | h_ | h_
      · rw [h_] at hsl ⊢
        exact mALnX0 hI hB hp0 hT hS hk5 hsl hat_
      · rw [h_] at hsl ⊢
        exact mALnX1 hI hB hp0 hT hS hk5 hsl hat_
      · rw [h_] at hsl ⊢
        exact mALnX2 hI hB hp0 hT hS hk5 hsl hat_
      · rw [h_] at hsl ⊢
        exact mALnX3 hI hB hp0 hT hS hk5 hsl hat_
      · rw [h_] at hsl ⊢
        exact mALnX4 hI hB hp0 hT hS hk5 hsl hat_
      · rw [h_] at hsl ⊢
        exact mALnX5 hI hB hp0 hT hS hk5 hsl hat_
      · rw [h_] at hsl ⊢
        exact mALnX6 hI hB hp0 hT hS hk5 hsl hat_
    · refine xg_t (xg_ifF (u := (if 0 ≤ f82_15 ∧ f82_15 ≤ 6 then 1 else 0)) rfl xnm0 (xj_neF (xite0 hc50))) ?_
      refine xg_t (xg_blq rfl) ?_
      refine xg_t (xg_aload (va := (2, 82)) rfl rfl) ?_
      refine xg_cVv mX12_ends (vs := []) (rest := []) (cn1 := 0) (sl1 := 0) rfl (mEndsX (hI) z10) rfl h82_31 rfl rfl rfl rfl rfl rfl (fun w51 hq52 => ?_)
      obtain ⟨hI53, hF54, hx55⟩ := hq52
      obtain ⟨hv56, hv57, hv58, hv59, hv60⟩ := hx55
      have h761 : slt B nn p0 = 7 := by
        unfold slt
        rw [srt_wix]
        by_cases y : tkd B nn p0 = 1
        · have y2 := ht45 y
          rw [if_neg (by omega)]
        · rw [twk_0 y]
          rfl
      exact xg_e ⟨w51, ⟨rfl, rfl⟩, hI53, (hF54.up (by decide)), ⟨Or.inl ⟨p0, lnR_7 h761, ⟨hv56, hv57, by omega⟩⟩, hv60, by omega⟩⟩
  · refine xg_t (xg_icT (u := f82_11) (v := 3) rfl xnm0 xnm0 (xj_neT hc49)) ?_
    refine xg_t (xg_blq rfl) ?_
    refine xg_t (xg_aload (va := (2, 82)) rfl rfl) ?_
    refine xg_cVv mX12_ends (vs := []) (rest := []) (cn1 := 0) (sl1 := 0) rfl (mEndsX (hI) z10) rfl h82_31 rfl rfl rfl rfl rfl rfl (fun w62 hq63 => ?_)
    obtain ⟨hI64, hF65, hx66⟩ := hq63
    obtain ⟨hv67, hv68, hv69, hv70, hv71⟩ := hx66
    have h772 : slt B nn p0 = 7 := by
      unfold slt
      rw [srt_wix]
      by_cases y : tkd B nn p0 = 1
      · have y2 := ht45 y
        rw [if_neg (by omega)]
      · rw [twk_0 y]
        rfl
    exact xg_e ⟨w62, ⟨rfl, rfl⟩, hI64, (hF65.up (by decide)), ⟨Or.inl ⟨p0, lnR_7 h772, ⟨hv67, hv68, by omega⟩⟩, hv71, by omega⟩⟩
theorem mBegX0 (hI : xMnv w)  : xPq d mX12_begins [(2, 82), (0, 0)] w bd fc rr [] (fun w' => xMnv w' ∧ xFr [82, 83] w w' ∧ (fld w' 82 2 = 0 ∧ fld w' 82 4 = rwv w 83 15 ∧ fld w' 82 5 = 0 ∧ fld w' 82 10 = 0 ∧ fld w' 82 14 = 0 ∧ rwv w' 83 16 = 0 ∧ rwv w' 83 17 = 4294967295 ∧ KB w w')) := by
  refine xPq.of ?_
  show xTo d mX12_begins (0, [], [(0, (2, 82)), (1, (0, 0))], [], (w, bd, fc, 0, 0, rr)) (fun φ => ∃ w', xEnd 0 [] (w', bd, fc, 0, 0, rr) φ ∧ xMnv w' ∧ xFr [82, 83] w w' ∧ (fld w' 82 2 = 0 ∧ fld w' 82 4 = rwv w 83 15 ∧ fld w' 82 5 = 0 ∧ fld w' 82 10 = 0 ∧ fld w' 82 14 = 0 ∧ rwv w' 83 16 = 0 ∧ rwv w' 83 17 = 4294967295 ∧ KB w w'))
  refine xoCh82 (xqc82 hI : cp82 (wget w 82)) (fun f82_1 f82_3 f82_5 f82_7 f82_9 f82_11 f82_13 f82_15 f82_17 f82_19 f82_21 f82_22 f82_23 f82_25 f82_27 f82_29 h82_31 hb2 hb4 hb6 hb8 hb10 hb12 hb14 hb16 hb18 hb20 hb24 hb26 hb28 hb30 hb32 => ?_)
  refine xoX83 (xqc83 hI : cpx83 (wget w 83)) (fun g83_33 h83_34 hb35 hx36 => ?_)
  refine xg_t (xg_blq rfl) ?_
  refine xg_t (xg_aload (va := (2, 82)) rfl rfl) ?_
  refine xg_t (xg_iload (va := (0, 0)) rfl rfl) ?_
  refine xg_putZ (fl1 := [(2, 83), (2, 84), (0, 0), (0, f82_3), (0, f82_5), (0, f82_7), (0, f82_9), (0, f82_11), (0, f82_13), (0, f82_15), (0, f82_17), (2, 85), (2, 86), (2, 87), (0, f82_19), (2, 88), (2, 89), (2, 90), (2, 91), (2, 92), (2, 93), (2, 94), (4, f82_21), (4, f82_22), (0, f82_23), (2, 95), (2, 96), (2, 97), (2, 98), (2, 99), (2, 100), (2, 101), (2, 102), (0, f82_25), (2, 103), (2, 104), (2, 105), (2, 106), (2, 107), (2, 108), (2, 109), (0, f82_27), (0, f82_29), (2, 110), (2, 111), (2, 112), (2, 113)]) h82_31 rfl rfl rfl (fun w37 hk38 hb39 => ?_)
  refine xg_t (xg_aload (va := (2, 82)) rfl rfl) ?_
  refine xg_t (xg_aload (va := (2, 82)) rfl rfl) ?_
  refine xg_t (xg_getf (va := (2, 83)) hk38 rfl) ?_
  refine xg_t (xg_bip) ?_
  refine xg_ialdB (n := 15) (B := 4294967295) (h83_34.but hb39 (by decide)) (hb35) xnm0 (by first | decide | omega) (fun u40 hu41 he42 => ?_)
  have hl43 : u40 ≤ 500 := by rw [← he42]; exact hx36.l15
  have hq44 : rwv w 83 15 = u40 := (rwv_of h83_34 (by decide)).trans he42
  refine xg_putI (fl1 := [(2, 83), (2, 84), (0, 0), (0, f82_3), (0, u40), (0, f82_7), (0, f82_9), (0, f82_11), (0, f82_13), (0, f82_15), (0, f82_17), (2, 85), (2, 86), (2, 87), (0, f82_19), (2, 88), (2, 89), (2, 90), (2, 91), (2, 92), (2, 93), (2, 94), (4, f82_21), (4, f82_22), (0, f82_23), (2, 95), (2, 96), (2, 97), (2, 98), (2, 99), (2, 100), (2, 101), (2, 102), (0, f82_25), (2, 103), (2, 104), (2, 105), (2, 106), (2, 107), (2, 108), (2, 109), (0, f82_27), (0, f82_29), (2, 110), (2, 111), (2, 112), (2, 113)]) hk38 rfl rfl rfl (fun w45 hk46 hb47 => ?_)
  refine xg_t (xg_aload (va := (2, 82)) rfl rfl) ?_
  refine xg_t (xg_getf (va := (2, 83)) hk46 rfl) ?_
  refine xg_t (xg_bip) ?_
  refine xg_t (xg_const) ?_
  refine xg_iastK (n := 15) (u := 0) ((h83_34.but hb39 (by decide)).but hb47 (by decide)) xnm0 xnm0 rfl (by first | decide | omega) (fun w48 hr49 hb50 => ?_)
  have hx51 : okA (fun j => if j = 15 then 0 else g83_33 j) := hx36.upd (by omega) (by omega) (by omega) (fun _ => by omega) (by omega) (fun _ => by omega) (fun _ => by omega) (fun _ => by omega) (fun _ => by omega) (by omega) (fun _ _ => by omega)
  have hb52 : ∀ j, (fun j => if j = 15 then 0 else g83_33 j) j ≤ 4294967295 := xrb (by omega) (hb35)
  obtain ⟨g53, hg54⟩ : ∃ g : Nat → Nat, g = (fun j => if j = 15 then 0 else g83_33 j) := ⟨_, rfl⟩
  rw [← hg54] at hr49
  have he55 : g53 15 = 0 := by rw [hg54]; exact if_pos rfl
  have hk56 : ∀ j, j ≠ 15 → g53 j = g83_33 j := fun j hj => by rw [hg54]; exact if_neg hj
  rw [← hg54] at hx51
  rw [← hg54] at hb52
  refine xg_t (xg_aload (va := (2, 82)) rfl rfl) ?_
  refine xg_t (xg_const) ?_
  refine xg_putI (fl1 := [(2, 83), (2, 84), (0, 0), (0, f82_3), (0, u40), (0, 0), (0, f82_9), (0, f82_11), (0, f82_13), (0, f82_15), (0, f82_17), (2, 85), (2, 86), (2, 87), (0, f82_19), (2, 88), (2, 89), (2, 90), (2, 91), (2, 92), (2, 93), (2, 94), (4, f82_21), (4, f82_22), (0, f82_23), (2, 95), (2, 96), (2, 97), (2, 98), (2, 99), (2, 100), (2, 101), (2, 102), (0, f82_25), (2, 103), (2, 104), (2, 105), (2, 106), (2, 107), (2, 108), (2, 109), (0, f82_27), (0, f82_29), (2, 110), (2, 111), (2, 112), (2, 113)]) (hb50.get (by decide) hk46) rfl rfl rfl (fun w57 hk58 hb59 => ?_)
  refine xg_t (xg_aload (va := (2, 82)) rfl rfl) ?_
  refine xg_t (xg_getf (va := (2, 83)) hk58 rfl) ?_
  refine xg_t (xg_bip) ?_
  refine xg_t (xg_const) ?_
  refine xg_iastK (n := 16) (u := 0) (hr49.but hb59 (by decide)) xnm0 xnm0 rfl (by first | decide | omega) (fun w60 hr61 hb62 => ?_)
  have hx63 : okA (fun j => if j = 16 then 0 else g53 j) := hx51.upd (by omega) (by omega) (by omega) (fun _ => by omega) (by omega) (fun _ => by omega) (fun _ => by omega) (fun _ => by omega) (fun _ => by omega) (by omega) (fun _ _ => by omega)
  have hb64 : ∀ j, (fun j => if j = 16 then 0 else g53 j) j ≤ 4294967295 := xrb (by omega) (hb52)
  obtain ⟨g65, hg66⟩ : ∃ g : Nat → Nat, g = (fun j => if j = 16 then 0 else g53 j) := ⟨_, rfl⟩
  rw [← hg66] at hr61
  have he67 : g65 16 = 0 := by rw [hg66]; exact if_pos rfl
  have hk68 : ∀ j, j ≠ 16 → g65 j = g53 j := fun j hj => by rw [hg66]; exact if_neg hj
  rw [← hg66] at hx63
  rw [← hg66] at hb64
  refine xg_t (xg_aload (va := (2, 82)) rfl rfl) ?_
  refine xg_t (xg_getf (va := (2, 83)) (hb62.get (by decide) hk58) rfl) ?_
  refine xg_t (xg_bip) ?_
  refine xg_t (xg_const) ?_
  refine xg_iastK (n := 17) (u := 4294967295) hr61 xnm0 xnm0 rfl (by first | decide | omega) (fun w69 hr70 hb71 => ?_)
  have hx72 : okA (fun j => if j = 17 then 4294967295 else g65 j) := hx63.upd (by omega) (by omega) (by omega) (fun _ => by omega) (by omega) (fun _ => by omega) (fun _ => by omega) (fun _ => by omega) (fun _ => by omega) (by omega) (fun _ _ => by omega)
  have hb73 : ∀ j, (fun j => if j = 17 then 4294967295 else g65 j) j ≤ 4294967295 := xrb (by omega) (hb64)
  obtain ⟨g74, hg75⟩ : ∃ g : Nat → Nat, g = (fun j => if j = 17 then 4294967295 else g65 j) := ⟨_, rfl⟩
  rw [← hg75] at hr70
  have he76 : g74 17 = 4294967295 := by rw [hg75]; exact if_pos rfl
  have hk77 : ∀ j, j ≠ 17 → g74 j = g65 j := fun j hj => by rw [hg75]; exact if_neg hj
  rw [← hg75] at hx72
  rw [← hg75] at hb73
  refine xg_t (xg_aload (va := (2, 82)) rfl rfl) ?_
  refine xg_t (xg_const) ?_
  refine xg_putZ (fl1 := [(2, 83), (2, 84), (0, 0), (0, f82_3), (0, u40), (0, 0), (0, f82_9), (0, f82_11), (0, f82_13), (0, f82_15), (0, 0), (2, 85), (2, 86), (2, 87), (0, f82_19), (2, 88), (2, 89), (2, 90), (2, 91), (2, 92), (2, 93), (2, 94), (4, f82_21), (4, f82_22), (0, f82_23), (2, 95), (2, 96), (2, 97), (2, 98), (2, 99), (2, 100), (2, 101), (2, 102), (0, f82_25), (2, 103), (2, 104), (2, 105), (2, 106), (2, 107), (2, 108), (2, 109), (0, f82_27), (0, f82_29), (2, 110), (2, 111), (2, 112), (2, 113)]) (hb71.get (by decide) (hb62.get (by decide) hk58)) rfl rfl rfl (fun w78 hk79 hb80 => ?_)
  refine xg_t (xg_aload (va := (2, 82)) rfl rfl) ?_
  refine xg_t (xg_const) ?_
  refine xg_putI (fl1 := [(2, 83), (2, 84), (0, 0), (0, f82_3), (0, u40), (0, 0), (0, f82_9), (0, f82_11), (0, f82_13), (0, f82_15), (0, 0), (2, 85), (2, 86), (2, 87), (0, 0), (2, 88), (2, 89), (2, 90), (2, 91), (2, 92), (2, 93), (2, 94), (4, f82_21), (4, f82_22), (0, f82_23), (2, 95), (2, 96), (2, 97), (2, 98), (2, 99), (2, 100), (2, 101), (2, 102), (0, f82_25), (2, 103), (2, 104), (2, 105), (2, 106), (2, 107), (2, 108), (2, 109), (0, f82_27), (0, f82_29), (2, 110), (2, 111), (2, 112), (2, 113)]) hk79 rfl rfl rfl (fun w81 hk82 hb83 => ?_)
  have hf84 : fld w81 82 2 = 0 := fld_of hk82
  have hf85 : fld w81 82 4 = u40 := fld_of hk82
  have hf86 : fld w81 82 5 = 0 := fld_of hk82
  have hf87 : fld w81 82 10 = 0 := fld_of hk82
  have hf88 : fld w81 82 14 = 0 := fld_of hk82
  have hq89 : rwv w81 83 15 = 0 := (rwv_of ((hr70.but hb80 (by decide)).but hb83 (by decide)) (by decide)).trans (by rw [hk77 15 (by decide), hk68 15 (by decide), he55])
  have hq90 : rwv w81 83 16 = 0 := (rwv_of ((hr70.but hb80 (by decide)).but hb83 (by decide)) (by decide)).trans (by rw [hk77 16 (by decide), he67])
  have hq91 : rwv w81 83 17 = 4294967295 := (rwv_of ((hr70.but hb80 (by decide)).but hb83 (by decide)) (by decide)).trans (by rw [he76])
  exact xg_e ⟨w81, ⟨rfl, rfl⟩, xMnv.up (S := [82, 83]) hI ((((((((xFr.of (S := [82, 83]) hb39 (by decide)).tr (xFr.of (S := [82, 83]) hb47 (by decide))).tr (xFr.of (S := [82, 83]) hb50 (by decide))).tr (xFr.of (S := [82, 83]) hb59 (by decide))).tr (xFr.of (S := [82, 83]) hb62 (by decide))).tr (xFr.of (S := [82, 83]) hb71 (by decide))).tr (xFr.of (S := [82, 83]) hb80 (by decide))).tr (xFr.of (S := [82, 83]) hb83 (by decide))) (List.forall_mem_cons.mpr ⟨xqu82 (show cp82 (wget w81 82) from xmC82 0 f82_3 u40 0 f82_9 f82_11 f82_13 f82_15 0 0 f82_21 f82_22 f82_23 f82_25 f82_27 f82_29 hk82 (by decide) hb4 (by omega) (by decide) hb10 hb12 hb14 hb16 (by decide) (by decide) hb24 hb26 hb28 hb30 (by omega)), List.forall_mem_cons.mpr ⟨xqu83 (show cpx83 (wget w81 83) from ⟨_, ((hr70.but hb80 (by decide)).but hb83 (by decide)), hb73, hx72⟩), fun _ h => absurd h List.not_mem_nil⟩⟩), ((((((((xFr.of (S := [82, 83]) hb39 (by decide)).tr (xFr.of (S := [82, 83]) hb47 (by decide))).tr (xFr.of (S := [82, 83]) hb50 (by decide))).tr (xFr.of (S := [82, 83]) hb59 (by decide))).tr (xFr.of (S := [82, 83]) hb62 (by decide))).tr (xFr.of (S := [82, 83]) hb71 (by decide))).tr (xFr.of (S := [82, 83]) hb80 (by decide))).tr (xFr.of (S := [82, 83]) hb83 (by decide))), ⟨hf84, by omega, hf86, hf87, hf88, hq90, hq91, ⟨hq89, fun j a b c d => (rwv_of ((hr70.but hb80 (by decide)).but hb83 (by decide)) a).trans (Eq.trans (by rw [hk77 j (by omega), hk68 j (by omega), hk56 j (by omega)]) (rwv_of h83_34 a).symm)⟩⟩⟩
theorem fl9M {B : Nat → Nat} {n k m t : Nat} {w : List (List xE)} (h : MST B n w k) (h0 : (flA B n k).1 = 0) (hm : m < lnC B n 4 k) (ht : t < 2) : rwv w 86 (100 + 2 * m + t) ≤ 9 := by
  obtain ⟨i, i1, i2, i3⟩ := lnC_hit (B := B) (n := n) (s := 4) k hm
  have q := (h.2.2 h0).1.1 i i1 t (by rw [i2]; exact ht)
  rw [i2, i3] at q
  have q : rwv w 86 (100 + 2 * m + t) = vln B n (lnP B n i) t := q
  obtain ⟨-, ⟨-, a⟩, ⟨-, b⟩, -⟩ := flt_v i2 (flA_all h0 i i1)
  have a : vln B n (lnP B n i) 0 ≤ 9 := a
  have b : vln B n (lnP B n i) 1 ≤ 9 := b
  rw [q]
  rcases (show t = 0 ∨ t = 1 by omega) with rfl | rfl
  · exact a
  · exact b
set_option maxHeartbeats 60000000 in
theorem mFilmF {B : Nat → Nat} {nn : Nat} (hI : xMnv w) (hB : bsm w B nn) (hnn : rwv w 83 15 = nn) : xPi (d + 8) mX12_film [(2, 82)] w bd fc rr (fun n w' => (FRes B nn n (rwv w' 83 16) (rwv w' 83 17) ∧ rwv w' 83 15 = 0 ∧ (n = 4294967295 → KB w w') ∧ (n ≠ 4294967295 → FLA B nn w' n ∧ rwv w' 83 9 = 0 ∧ rwv w' 83 10 = 0) ∧ (∀ j, (140 ≤ j ∨ j = 11 ∨ j = 12 ∨ j = 13) → j < 5360 → rwv w' 83 j = rwv w 83 j)) ∧ xMnv w' ∧ xFr [82, 83, 85, 86, 87] w w') := by
  refine xPi.of ?_
  show xTo (d + 8) mX12_film (0, [], [(0, (2, 82))], [], (w, bd, fc, 0, 0, rr)) (fun φ => ∃ n w', xEnd 1 [(0, n)] (w', bd, fc, 0, 0, rr) φ ∧ (FRes B nn n (rwv w' 83 16) (rwv w' 83 17) ∧ rwv w' 83 15 = 0 ∧ (n = 4294967295 → KB w w') ∧ (n ≠ 4294967295 → FLA B nn w' n ∧ rwv w' 83 9 = 0 ∧ rwv w' 83 10 = 0) ∧ (∀ j, (140 ≤ j ∨ j = 11 ∨ j = 12 ∨ j = 13) → j < 5360 → rwv w' 83 j = rwv w 83 j)) ∧ xMnv w' ∧ xFr [82, 83, 85, 86, 87] w w')
  refine xoCh82 (xqc82 hI : cp82 (wget w 82)) (fun f82_1 f82_3 f82_5 f82_7 f82_9 f82_11 f82_13 f82_15 f82_17 f82_19 f82_21 f82_22 f82_23 f82_25 f82_27 f82_29 h82_31 hb2 hb4 hb6 hb8 hb10 hb12 hb14 hb16 hb18 hb20 hb24 hb26 hb28 hb30 hb32 => ?_)
  refine xoX83 (xqc83 hI : cpx83 (wget w 83)) (fun g83_33 h83_34 hb35 hx36 => ?_)
  refine xoI (xqc85 hI : cpI 7 52 4294967295 (wget w 85)) (fun g85_37 h85_38 hb39 => ?_)
  refine xoI (xqc86 hI : cpI 140 53 4294967295 (wget w 86)) (fun g86_40 h86_41 hb42 => ?_)
  refine xg_t (xg_blq rfl) ?_
  refine xg_t (xg_aload (va := (2, 82)) rfl rfl) ?_
  refine xg_t (xg_const) ?_
  refine xg_cVv mX12_begins (vs := [(0, 0)]) (rest := []) (cn1 := 0) (sl1 := 0) rfl (mBegX0 (hI)) rfl h82_31 rfl rfl rfl rfl rfl rfl (fun w43 hq44 => ?_)
  obtain ⟨hI45, hF46, hx47⟩ := hq44
  obtain ⟨hg48, hg49, hg50, hg51, hg52, hg53, hg54, hg55⟩ := hx47
  refine xg_t (xg_const) ?_
  refine xg_t (xg_istore (l1 := [(0, (2, 82))]) rfl rfl rfl) ?_
  refine xg_t (xg_blq rfl) ?_
  refine xg_t (xg_iload (va := (0, 0)) rfl rfl) ?_
  refine xg_t (xg_bip) ?_
  refine xg_t (xg_icF (u := 0) (v := 7) rfl xnm0 xnm0 (by decide)) ?_
  refine xg_t (xg_aload (va := (2, 82)) rfl rfl) ?_
  refine xoCh82 (xqc82 hI45 : cp82 (wget w43 82)) (fun f82_56 f82_58 f82_60 f82_62 f82_64 f82_66 f82_68 f82_70 f82_72 f82_74 f82_76 f82_77 f82_78 f82_80 f82_82 f82_84 h82_86 hb57 hb59 hb61 hb63 hb65 hb67 hb69 hb71 hb73 hb75 hb79 hb81 hb83 hb85 hb87 => ?_)
  refine xg_t (xg_getf (va := (2, 85)) h82_86 rfl) ?_
  refine xg_t (xg_iload (va := (0, 0)) rfl rfl) ?_
  refine xg_t (xg_const) ?_
  refine xg_iastK (n := 0) (u := 0) (h85_38.fr hF46 (by decide)) xnm0 xnm0 rfl (by first | decide | omega) (fun w88 hr89 hb90 => ?_)
  refine xg_t (xg_iinc (u := 0) (z := 1) (l1 := [(0, (2, 82))]) rfl rfl (by decide) rfl) ?_
  refine xg_t (xg_goto) ?_
  refine xg_t (xg_blq rfl) ?_
  refine xg_t (xg_iload (va := (0, 1)) rfl rfl) ?_
  refine xg_t (xg_bip) ?_
  refine xg_t (xg_icF (u := 1) (v := 7) rfl xnm0 xnm0 (by decide)) ?_
  refine xg_t (xg_aload (va := (2, 82)) rfl rfl) ?_
  refine xg_t (xg_getf (va := (2, 85)) (hb90.get (by decide) h82_86) rfl) ?_
  refine xg_t (xg_iload (va := (0, 1)) rfl rfl) ?_
  refine xg_t (xg_const) ?_
  refine xg_iastK (n := 1) (u := 0) hr89 xnm0 xnm0 rfl (by first | decide | omega) (fun w91 hr92 hb93 => ?_)
  refine xg_t (xg_iinc (u := 1) (z := 2) (l1 := [(0, (2, 82))]) rfl rfl (by decide) rfl) ?_
  refine xg_t (xg_goto) ?_
  refine xg_t (xg_blq rfl) ?_
  refine xg_t (xg_iload (va := (0, 2)) rfl rfl) ?_
  refine xg_t (xg_bip) ?_
  refine xg_t (xg_icF (u := 2) (v := 7) rfl xnm0 xnm0 (by decide)) ?_
  refine xg_t (xg_aload (va := (2, 82)) rfl rfl) ?_
  refine xg_t (xg_getf (va := (2, 85)) (hb93.get (by decide) (hb90.get (by decide) h82_86)) rfl) ?_
  refine xg_t (xg_iload (va := (0, 2)) rfl rfl) ?_
  refine xg_t (xg_const) ?_
  refine xg_iastK (n := 2) (u := 0) hr92 xnm0 xnm0 rfl (by first | decide | omega) (fun w94 hr95 hb96 => ?_)
  refine xg_t (xg_iinc (u := 2) (z := 3) (l1 := [(0, (2, 82))]) rfl rfl (by decide) rfl) ?_
  refine xg_t (xg_goto) ?_
  refine xg_t (xg_blq rfl) ?_
  refine xg_t (xg_iload (va := (0, 3)) rfl rfl) ?_
  refine xg_t (xg_bip) ?_
  refine xg_t (xg_icF (u := 3) (v := 7) rfl xnm0 xnm0 (by decide)) ?_
  refine xg_t (xg_aload (va := (2, 82)) rfl rfl) ?_
  refine xg_t (xg_getf (va := (2, 85)) (hb96.get (by decide) (hb93.get (by decide) (hb90.get (by decide) h82_86))) rfl) ?_
  refine xg_t (xg_iload (va := (0, 3)) rfl rfl) ?_
  refine xg_t (xg_const) ?_
  refine xg_iastK (n := 3) (u := 0) hr95 xnm0 xnm0 rfl (by first | decide | omega) (fun w97 hr98 hb99 => ?_)
  refine xg_t (xg_iinc (u := 3) (z := 4) (l1 := [(0, (2, 82))]) rfl rfl (by decide) rfl) ?_
  refine xg_t (xg_goto) ?_
  refine xg_t (xg_blq rfl) ?_
  refine xg_t (xg_iload (va := (0, 4)) rfl rfl) ?_
  refine xg_t (xg_bip) ?_
  refine xg_t (xg_icF (u := 4) (v := 7) rfl xnm0 xnm0 (by decide)) ?_
  refine xg_t (xg_aload (va := (2, 82)) rfl rfl) ?_
  refine xg_t (xg_getf (va := (2, 85)) (hb99.get (by decide) (hb96.get (by decide) (hb93.get (by decide) (hb90.get (by decide) h82_86)))) rfl) ?_
  refine xg_t (xg_iload (va := (0, 4)) rfl rfl) ?_
  refine xg_t (xg_const) ?_
  refine xg_iastK (n := 4) (u := 0) hr98 xnm0 xnm0 rfl (by first | decide | omega) (fun w100 hr101 hb102 => ?_)
  refine xg_t (xg_iinc (u := 4) (z := 5) (l1 := [(0, (2, 82))]) rfl rfl (by decide) rfl) ?_
  refine xg_t (xg_goto) ?_
  refine xg_t (xg_blq rfl) ?_
  refine xg_t (xg_iload (va := (0, 5)) rfl rfl) ?_
  refine xg_t (xg_bip) ?_
  refine xg_t (xg_icF (u := 5) (v := 7) rfl xnm0 xnm0 (by decide)) ?_
  refine xg_t (xg_aload (va := (2, 82)) rfl rfl) ?_
  refine xg_t (xg_getf (va := (2, 85)) (hb102.get (by decide) (hb99.get (by decide) (hb96.get (by decide) (hb93.get (by decide) (hb90.get (by decide) h82_86))))) rfl) ?_
  refine xg_t (xg_iload (va := (0, 5)) rfl rfl) ?_
  refine xg_t (xg_const) ?_
  refine xg_iastK (n := 5) (u := 0) hr101 xnm0 xnm0 rfl (by first | decide | omega) (fun w103 hr104 hb105 => ?_)
  refine xg_t (xg_iinc (u := 5) (z := 6) (l1 := [(0, (2, 82))]) rfl rfl (by decide) rfl) ?_
  refine xg_t (xg_goto) ?_
  refine xg_t (xg_blq rfl) ?_
  refine xg_t (xg_iload (va := (0, 6)) rfl rfl) ?_
  refine xg_t (xg_bip) ?_
  refine xg_t (xg_icF (u := 6) (v := 7) rfl xnm0 xnm0 (by decide)) ?_
  refine xg_t (xg_aload (va := (2, 82)) rfl rfl) ?_
  refine xg_t (xg_getf (va := (2, 85)) (hb105.get (by decide) (hb102.get (by decide) (hb99.get (by decide) (hb96.get (by decide) (hb93.get (by decide) (hb90.get (by decide) h82_86)))))) rfl) ?_
  refine xg_t (xg_iload (va := (0, 6)) rfl rfl) ?_
  refine xg_t (xg_const) ?_
  refine xg_iastK (n := 6) (u := 0) hr104 xnm0 xnm0 rfl (by first | decide | omega) (fun w106 hr107 hb108 => ?_)
  refine xg_t (xg_iinc (u := 6) (z := 7) (l1 := [(0, (2, 82))]) rfl rfl (by decide) rfl) ?_
  refine xg_t (xg_goto) ?_
  refine xg_t (xg_blq rfl) ?_
  refine xg_t (xg_iload (va := (0, 7)) rfl rfl) ?_
  refine xg_t (xg_bip) ?_
  refine xg_t (xg_icT (u := 7) (v := 7) rfl xnm0 xnm0 (by decide)) ?_
  refine xg_t (xg_blq rfl) ?_
  refine xg_t (xg_aload (va := (2, 82)) rfl rfl) ?_
  refine xg_t (xg_getf (va := (2, 86)) (hb108.get (by decide) (hb105.get (by decide) (hb102.get (by decide) (hb99.get (by decide) (hb96.get (by decide) (hb93.get (by decide) (hb90.get (by decide) h82_86))))))) rfl) ?_
  refine xg_t (xg_const) ?_
  refine xg_t (xg_const) ?_
  refine xg_iastK (n := 5) (u := 1) ((((((((h86_41.fr hF46 (by decide)).but hb90 (by decide)).but hb93 (by decide)).but hb96 (by decide)).but hb99 (by decide)).but hb102 (by decide)).but hb105 (by decide)).but hb108 (by decide)) xnm0 xnm0 rfl (by first | decide | omega) (fun w109 hr110 hb111 => ?_)
  refine xg_t (xg_aload (va := (2, 82)) rfl rfl) ?_
  refine xg_t (xg_getf (va := (2, 86)) (hb111.get (by decide) (hb108.get (by decide) (hb105.get (by decide) (hb102.get (by decide) (hb99.get (by decide) (hb96.get (by decide) (hb93.get (by decide) (hb90.get (by decide) h82_86)))))))) rfl) ?_
  refine xg_t (xg_bip) ?_
  refine xg_t (xg_const) ?_
  refine xg_iastK (n := 6) (u := 1) hr110 xnm0 xnm0 rfl (by first | decide | omega) (fun w112 hr113 hb114 => ?_)
  refine xg_t (xg_aload (va := (2, 82)) rfl rfl) ?_
  refine xg_t (xg_getf (va := (2, 86)) (hb114.get (by decide) (hb111.get (by decide) (hb108.get (by decide) (hb105.get (by decide) (hb102.get (by decide) (hb99.get (by decide) (hb96.get (by decide) (hb93.get (by decide) (hb90.get (by decide) h82_86))))))))) rfl) ?_
  refine xg_t (xg_bip) ?_
  refine xg_t (xg_const) ?_
  refine xg_iastK (n := 7) (u := 1) hr113 xnm0 xnm0 rfl (by first | decide | omega) (fun w115 hr116 hb117 => ?_)
  refine xg_t (xg_aload (va := (2, 82)) rfl rfl) ?_
  refine xg_t (xg_getf (va := (2, 86)) (hb117.get (by decide) (hb114.get (by decide) (hb111.get (by decide) (hb108.get (by decide) (hb105.get (by decide) (hb102.get (by decide) (hb99.get (by decide) (hb96.get (by decide) (hb93.get (by decide) (hb90.get (by decide) h82_86)))))))))) rfl) ?_
  refine xg_t (xg_bip) ?_
  refine xg_t (xg_const) ?_
  refine xg_iastK (n := 8) (u := 1) hr116 xnm0 xnm0 rfl (by first | decide | omega) (fun w118 hr119 hb120 => ?_)
  refine xg_t (xg_aload (va := (2, 82)) rfl rfl) ?_
  have hm121 : ∀ s, s < 7 → rwv w118 85 s = 0 := fun s hs => (rwv_of ((((hr107.but hb111 (by decide)).but hb114 (by decide)).but hb117 (by decide)).but hb120 (by decide)) hs).trans (by rcases (show s = 0 ∨ s = 1 ∨ s = 2 ∨ s = 3 ∨ s = 4 ∨ s = 5 ∨ s = 6 by omega) with rfl | rfl | rfl | rfl | rfl | rfl | rfl <;> rfl)
  have hd122 : rwv w118 86 5 = 1 := (rwv_of hr119 (by decide)).trans rfl
  have hd123 : rwv w118 86 6 = 1 := (rwv_of hr119 (by decide)).trans rfl
  have hd124 : rwv w118 86 7 = 1 := (rwv_of hr119 (by decide)).trans rfl
  have hd125 : rwv w118 86 8 = 1 := (rwv_of hr119 (by decide)).trans rfl
  have hz126 := ((fld_eq (j := 2) ((hb120.1 82 (by decide)).trans ((hb117.1 82 (by decide)).trans ((hb114.1 82 (by decide)).trans ((hb111.1 82 (by decide)).trans ((hb108.1 82 (by decide)).trans ((hb105.1 82 (by decide)).trans ((hb102.1 82 (by decide)).trans ((hb99.1 82 (by decide)).trans ((hb96.1 82 (by decide)).trans ((hb93.1 82 (by decide)).trans (hb90.1 82 (by decide))))))))))))).trans hg48)
  have hz127 := ((fld_eq (j := 4) ((hb120.1 82 (by decide)).trans ((hb117.1 82 (by decide)).trans ((hb114.1 82 (by decide)).trans ((hb111.1 82 (by decide)).trans ((hb108.1 82 (by decide)).trans ((hb105.1 82 (by decide)).trans ((hb102.1 82 (by decide)).trans ((hb99.1 82 (by decide)).trans ((hb96.1 82 (by decide)).trans ((hb93.1 82 (by decide)).trans (hb90.1 82 (by decide))))))))))))).trans hg49)
  have hz128 := ((fld_eq (j := 5) ((hb120.1 82 (by decide)).trans ((hb117.1 82 (by decide)).trans ((hb114.1 82 (by decide)).trans ((hb111.1 82 (by decide)).trans ((hb108.1 82 (by decide)).trans ((hb105.1 82 (by decide)).trans ((hb102.1 82 (by decide)).trans ((hb99.1 82 (by decide)).trans ((hb96.1 82 (by decide)).trans ((hb93.1 82 (by decide)).trans (hb90.1 82 (by decide))))))))))))).trans hg50)
  have hz129 := ((fld_eq (j := 10) ((hb120.1 82 (by decide)).trans ((hb117.1 82 (by decide)).trans ((hb114.1 82 (by decide)).trans ((hb111.1 82 (by decide)).trans ((hb108.1 82 (by decide)).trans ((hb105.1 82 (by decide)).trans ((hb102.1 82 (by decide)).trans ((hb99.1 82 (by decide)).trans ((hb96.1 82 (by decide)).trans ((hb93.1 82 (by decide)).trans (hb90.1 82 (by decide))))))))))))).trans hg51)
  have hz130 := ((fld_eq (j := 14) ((hb120.1 82 (by decide)).trans ((hb117.1 82 (by decide)).trans ((hb114.1 82 (by decide)).trans ((hb111.1 82 (by decide)).trans ((hb108.1 82 (by decide)).trans ((hb105.1 82 (by decide)).trans ((hb102.1 82 (by decide)).trans ((hb99.1 82 (by decide)).trans ((hb96.1 82 (by decide)).trans ((hb93.1 82 (by decide)).trans (hb90.1 82 (by decide))))))))))))).trans hg52)
  have hz131 : rwv w118 83 16 = 0 := (rwv_eq ((hb120.1 83 (by decide)).trans ((hb117.1 83 (by decide)).trans ((hb114.1 83 (by decide)).trans ((hb111.1 83 (by decide)).trans ((hb108.1 83 (by decide)).trans ((hb105.1 83 (by decide)).trans ((hb102.1 83 (by decide)).trans ((hb99.1 83 (by decide)).trans ((hb96.1 83 (by decide)).trans ((hb93.1 83 (by decide)).trans (hb90.1 83 (by decide))))))))))))).trans hg53
  have hz132 : rwv w118 83 17 = 4294967295 := (rwv_eq ((hb120.1 83 (by decide)).trans ((hb117.1 83 (by decide)).trans ((hb114.1 83 (by decide)).trans ((hb111.1 83 (by decide)).trans ((hb108.1 83 (by decide)).trans ((hb105.1 83 (by decide)).trans ((hb102.1 83 (by decide)).trans ((hb99.1 83 (by decide)).trans ((hb96.1 83 (by decide)).trans ((hb93.1 83 (by decide)).trans (hb90.1 83 (by decide))))))))))))).trans hg54
  have kb133 : KB w w118 := hg55.kp (fun j _ _ _ => rwv_eq ((hb120.1 83 (by decide)).trans ((hb117.1 83 (by decide)).trans ((hb114.1 83 (by decide)).trans ((hb111.1 83 (by decide)).trans ((hb108.1 83 (by decide)).trans ((hb105.1 83 (by decide)).trans ((hb102.1 83 (by decide)).trans ((hb99.1 83 (by decide)).trans ((hb96.1 83 (by decide)).trans ((hb93.1 83 (by decide)).trans (hb90.1 83 (by decide)))))))))))))
  refine xg_cVv mX12_advance (vs := []) (rest := []) (cn1 := 0) (sl1 := 0) rfl (mAdvX (ir := 0) (nn := nn) (xMnv.up (S := [85, 86]) hI45 (((((((((((xFr.of (S := [85, 86]) hb90 (by decide)).tr (xFr.of (S := [85, 86]) hb93 (by decide))).tr (xFr.of (S := [85, 86]) hb96 (by decide))).tr (xFr.of (S := [85, 86]) hb99 (by decide))).tr (xFr.of (S := [85, 86]) hb102 (by decide))).tr (xFr.of (S := [85, 86]) hb105 (by decide))).tr (xFr.of (S := [85, 86]) hb108 (by decide))).tr (xFr.of (S := [85, 86]) hb111 (by decide))).tr (xFr.of (S := [85, 86]) hb114 (by decide))).tr (xFr.of (S := [85, 86]) hb117 (by decide))).tr (xFr.of (S := [85, 86]) hb120 (by decide))) (List.forall_mem_cons.mpr ⟨xqu85 (show cpI 7 52 4294967295 (wget w118 85) from ⟨_, ((((hr107.but hb111 (by decide)).but hb114 (by decide)).but hb117 (by decide)).but hb120 (by decide)), xrb (by omega) (xrb (by omega) (xrb (by omega) (xrb (by omega) (xrb (by omega) (xrb (by omega) (xrb (by omega) (hb39)))))))⟩), List.forall_mem_cons.mpr ⟨xqu86 (show cpI 140 53 4294967295 (wget w118 86) from ⟨_, hr119, xrb (by omega) (xrb (by omega) (xrb (by omega) (xrb (by omega) (hb42))))⟩), fun _ h => absurd h List.not_mem_nil⟩⟩)) (hB.kb kb133) hz126 (hz127.trans hnn) (by omega)) rfl (hb120.get (by decide) (hb117.get (by decide) (hb114.get (by decide) (hb111.get (by decide) (hb108.get (by decide) (hb105.get (by decide) (hb102.get (by decide) (hb99.get (by decide) (hb96.get (by decide) (hb93.get (by decide) (hb90.get (by decide) h82_86))))))))))) rfl rfl rfl rfl rfl rfl (fun w134 hq135 => ?_)
  obtain ⟨hI136, hF137, hx138⟩ := hq135
  obtain ⟨ht139, ht140, ht141⟩ := hx138
  rw [hz128] at ht139
  have hM142 : MST B nn w134 0 := MST.zero (ht140.trans hz129) (ht141.trans hz130) ((rwv_fr hF137 (by decide)).trans hz131) ((rwv_fr hF137 (by decide)).trans hz132) (fun s hs => (rwv_fr hF137 (by decide)).trans (hm121 s hs)) ((rwv_fr hF137 (by decide)).trans hd122) ((rwv_fr hF137 (by decide)).trans hd123) ((rwv_fr hF137 (by decide)).trans hd124) ((rwv_fr hF137 (by decide)).trans hd125)
  have kb143 : KB w w134 := kb133.kp (K83.fr hF137 (by decide))
  refine xg_t (xg_drop (l1 := [(0, (2, 82))]) (List.forall_mem_cons.mpr ⟨List.mem_cons_of_mem _ (List.mem_cons_self), fun _ h => absurd h List.not_mem_nil⟩)) ?_
  have key144 : ∀ (m146 : Nat) (w147 : List (List xE)), 2 * (501 - fld w147 82 14) + (1 - fld w147 82 10) < m146 → xMnv w147 → xFr [82, 83, 85, 86, 87] w w147 → ((∃ k, k ≤ 500 ∧ (∀ i, i < k → (lnR B nn (lnP B nn i)).1 = true) ∧ ((TKM 0 B nn w147 (lnP B nn k) ∧ MST B nn w147 k) ∨ (∃ q, lnR B nn (lnP B nn k) = (false, q) ∧ tkd B nn (lnP B nn k) ≠ 0 ∧ WRG w147 (tq B nn q)))) ∧ KB w w147) → xTo (d + 8) mX12_film (61, [], [(0, (2, 82))], [], (w147, bd, fc, 0, 0, rr)) (fun φ => ∃ n w', xEnd 1 [(0, n)] (w', bd, fc, 0, 0, rr) φ ∧ (FRes B nn n (rwv w' 83 16) (rwv w' 83 17) ∧ rwv w' 83 15 = 0 ∧ (n = 4294967295 → KB w w') ∧ (n ≠ 4294967295 → FLA B nn w' n ∧ rwv w' 83 9 = 0 ∧ rwv w' 83 10 = 0) ∧ (∀ j, (140 ≤ j ∨ j = 11 ∨ j = 12 ∨ j = 13) → j < 5360 → rwv w' 83 j = rwv w 83 j)) ∧ xMnv w' ∧ xFr [82, 83, 85, 86, 87] w w') := by
    intro m146
    induction m146 with
    | zero => intro w147 hz; exact absurd hz (Nat.not_lt_zero _)
    | succ m146 ih145 =>
      intro w147 hm151 hI148 hF149 he150
      obtain ⟨⟨k_152, hk153, hok154, hx155⟩, kb156⟩ := he150
      refine xg_t (xg_blq rfl) ?_
      rcases hx155 with ⟨hT_157, hM_158⟩ | ⟨q_159, lf160, h0_161, hW_162⟩
      · refine xoCh82 (xqc82 hI148 : cp82 (wget w147 82)) (fun f82_163 f82_165 f82_167 f82_169 f82_171 f82_173 f82_175 f82_177 f82_179 f82_181 f82_183 f82_184 f82_185 f82_187 f82_189 f82_191 h82_193 hb164 hb166 hb168 hb170 hb172 hb174 hb176 hb178 hb180 hb182 hb186 hb188 hb190 hb192 hb194 => ?_)
        have hf195 : fld w147 82 7 = f82_173 := fld_of h82_193
        have hf196 : fld w147 82 10 = f82_179 := fld_of h82_193
        have hf197 : fld w147 82 14 = f82_181 := fld_of h82_193
        have hz198 := hM_158.1.1
        have hz199 := hM_158.1.2.1
        have hz200 := hT_157.1.2.2.2.2.1
        have hmk := (mkd_of (ir := 0) (B := B) (n := nn) (p := lnP B nn k_152)).1
        refine xg_t (xg_aload (va := (2, 82)) rfl rfl) ?_
        refine xg_t (xg_getf (va := (0, f82_179)) h82_193 rfl) ?_
        refine xg_t (xg_ifF (u := f82_179) rfl xnm0 (xj_neF (by omega))) ?_
        refine xg_t (xg_aload (va := (2, 82)) rfl rfl) ?_
        refine xg_t (xg_getf (va := (0, f82_173)) h82_193 rfl) ?_
        by_cases hc201 : f82_173 = 0
        · refine xg_t (xg_ifT (u := f82_173) rfl xnm0 (xj_eqT hc201)) ?_
          refine xg_t (xg_blq rfl) ?_
          have hend : tkd B nn (lnP B nn k_152) = 0 := by omega
          have hnok : ¬ (lnR B nn (lnP B nn k_152)).1 = true := by rw [lnR_0 hend]; exact Bool.false_ne_true
          by_cases hc203 : (flA B nn k_152).1 = 0
          · refine xg_t (xg_const) ?_
            refine xg_t (xg_istore (l1 := [(0, (2, 82))]) rfl rfl rfl) ?_
            refine xg_t (xg_drop (l1 := [(0, (2, 82)), (1, (0, 0))]) (List.forall_mem_cons.mpr ⟨List.mem_cons_of_mem _ (List.mem_cons_self), List.forall_mem_cons.mpr ⟨List.mem_cons_self, fun _ h => absurd h List.not_mem_nil⟩⟩)) ?_
            have key204 : ∀ (m206 : Nat) (kf : Nat) (w207 : List (List xE)), 20 - kf < m206 → kf ≤ 20 → xMnv w207 → xFr [82, 83, 85, 86, 87] w w207 → (((rwv w207 83 16 = 0 ∧ rwv w207 83 17 = 4294967295 ∧ (∀ j, j < kf → ¬ bsX (XM w147) j)) ∨ (rwv w207 83 16 = 4 ∧ ∃ m, m < lnC B nn 4 k_152 ∧ bsX (XM w147) m ∧ (∀ j, j < m → ¬ bsX (XM w147) j) ∧ rwv w207 83 17 = rwv w147 87 m)) ∧ fld w207 82 10 = 0 ∧ fld w207 82 14 = k_152 ∧ KB w w207 ∧ wget w207 85 = wget w147 85 ∧ wget w207 86 = wget w147 86 ∧ wget w207 87 = wget w147 87) → xTo (d + 8) mX12_film (84, [], [(0, (2, 82)), (1, (0, kf))], [], (w207, bd, fc, 0, 0, rr)) (fun φ => ∃ n w', xEnd 1 [(0, n)] (w', bd, fc, 0, 0, rr) φ ∧ (FRes B nn n (rwv w' 83 16) (rwv w' 83 17) ∧ rwv w' 83 15 = 0 ∧ (n = 4294967295 → KB w w') ∧ (n ≠ 4294967295 → FLA B nn w' n ∧ rwv w' 83 9 = 0 ∧ rwv w' 83 10 = 0) ∧ (∀ j, (140 ≤ j ∨ j = 11 ∨ j = 12 ∨ j = 13) → j < 5360 → rwv w' 83 j = rwv w 83 j)) ∧ xMnv w' ∧ xFr [82, 83, 85, 86, 87] w w') := by
              intro m206
              induction m206 with
              | zero => intro kf w207 hz; exact absurd hz (Nat.not_lt_zero _)
              | succ m206 ih205 =>
                intro kf w207 hm212 hn210 hI208 hF209 he211
                obtain ⟨hj213, hj214, hj215, hj216, hj217, hj218, hj219⟩ := he211
                refine xoCh82 (xqc82 hI208 : cp82 (wget w207 82)) (fun f82_220 f82_222 f82_224 f82_226 f82_228 f82_230 f82_232 f82_234 f82_236 f82_238 f82_240 f82_241 f82_242 f82_244 f82_246 f82_248 h82_250 hb221 hb223 hb225 hb227 hb229 hb231 hb233 hb235 hb237 hb239 hb243 hb245 hb247 hb249 hb251 => ?_)
                refine xoX83 (xqc83 hI208 : cpx83 (wget w207 83)) (fun g83_252 h83_253 hb254 hx255 => ?_)
                have hf256 : fld w207 82 10 = f82_236 := fld_of h82_250
                have hf257 : fld w207 82 14 = f82_238 := fld_of h82_250
                refine xoI (xqc85 hI208 : cpI 7 52 4294967295 (wget w207 85)) (fun g85_258 h85_259 hb260 => ?_)
                refine xoI (xqc86 hI208 : cpI 140 53 4294967295 (wget w207 86)) (fun g86_261 h86_262 hb263 => ?_)
                refine xoI (xqc87 hI208 : cpI 20 54 4294967295 (wget w207 87)) (fun g87_264 h87_265 hb266 => ?_)
                have hm267 : g85_258 4 = lnC B nn 4 k_152 := (rwv_of h85_259 (by decide)).symm.trans ((rwv_eq hj217).trans (hM_158.2.1 4 (by decide)))
                have hc4 : lnC B nn 4 k_152 ≤ 20 := lnC_lim hc203 (by decide)
                refine xg_t (xg_blq rfl) ?_
                refine xg_t (xg_iload (va := (0, kf)) rfl rfl) ?_
                refine xg_t (xg_aload (va := (2, 82)) rfl rfl) ?_
                refine xg_t (xg_getf (va := (2, 85)) h82_250 rfl) ?_
                refine xg_t (xg_const) ?_
                refine xg_ialdB (n := 4) (B := 4294967295) h85_259 (hb260) xnm0 (by first | decide | omega) (fun u268 hu269 he270 => ?_)
                by_cases hc271 : xbs kf < xbs u268
                · have hc271u := hc271
                  unfold xbs at hc271u
                  have hn272 : kf ≤ 20 := by omega
                  have hn273 : u268 ≤ 2147483647 := by omega
                  refine xg_t (xg_icF (u := kf) (v := u268) rfl xnm0 xnm0 (xjs_geF hc271)) ?_
                  refine xg_t (xg_aload (va := (2, 82)) rfl rfl) ?_
                  refine xg_t (xg_getf (va := (2, 83)) h82_250 rfl) ?_
                  refine xg_t (xg_bip) ?_
                  refine xg_ialdB (n := 16) (B := 4294967295) h83_253 (hb254) xnm0 (by first | decide | omega) (fun u274 hu275 he276 => ?_)
                  have hq277 : rwv w207 83 16 = u274 := (rwv_of h83_253 (by decide)).trans he276
                  by_cases hc278 : u274 = 0
                  · refine xg_t (xg_ifF (u := u274) rfl xnm0 (xj_neF hc278)) ?_
                    have hnb : rwv w207 83 16 = 0 ∧ ∀ j, j < kf → ¬ bsX (XM w147) j := by
                      rcases hj213 with ⟨z1, -, z2⟩ | ⟨z1, z2⟩
                      · exact ⟨z1, z2⟩
                      · omega
                    have hnb2 : rwv w207 83 17 = 4294967295 := by
                      rcases hj213 with ⟨-, z1, -⟩ | ⟨z1, z2⟩
                      · exact z1
                      · omega
                    have hl279 : kf ≤ 19 := by omega
                    refine xg_t (xg_aload (va := (2, 82)) rfl rfl) ?_
                    refine xg_t (xg_getf (va := (2, 86)) h82_250 rfl) ?_
                    refine xg_t (xg_bip) ?_
                    refine xg_t (xg_const) ?_
                    refine xg_t (xg_iload (va := (0, kf)) rfl rfl) ?_
                    refine xg_t (xg_imul (u := 2) (v := kf) (z := 2 * kf) xnm0 xnm0 (by omega)) ?_
                    refine xg_t (xg_iadd (u := 100) (v := 2 * kf) (z := 100 + (2 * kf)) xnm0 xnm0 (by omega)) ?_
                    refine xg_ialdB (n := 100 + (2 * kf)) (B := 4294967295) h86_262 (hb263) xnm0 (by omega) (fun u280 hu281 he282 => ?_)
                    have hq283 : rwv w147 86 (100 + (2 * kf)) = u280 := (rwv_eq hj218).symm.trans ((rwv_of h86_262 (by omega)).trans he282)
                    have hq284 : u280 ≤ 9 := by
                      rw [← hq283]
                      exact fl9M (m := kf) (t := 0) hM_158 hc203 (by omega) (by omega)
                    refine xg_t (xg_aload (va := (2, 82)) rfl rfl) ?_
                    refine xg_t (xg_getf (va := (2, 86)) h82_250 rfl) ?_
                    refine xg_t (xg_bip) ?_
                    refine xg_ialdB (n := 7) (B := 4294967295) h86_262 (hb263) xnm0 (by first | decide | omega) (fun u285 hu286 he287 => ?_)
                    have hq288 : rwv w147 86 (7) = u285 := (rwv_eq hj218).symm.trans ((rwv_of h86_262 (by omega)).trans he287)
                    have hq289 : u285 ≤ 10 := by
                      have q := hM_158.data hc203
                      obtain ⟨-, -, -, -, -, -, -, q7, q8, -, -⟩ := q
                      omega
                    by_cases hc290 : u280 < u285
                    · refine xg_t (xg_icF (u := u280) (v := u285) rfl xnm0 xnm0 (xj_geF hc290 (by omega))) ?_
                      refine xg_t (xg_aload (va := (2, 82)) rfl rfl) ?_
                      refine xg_t (xg_getf (va := (2, 86)) h82_250 rfl) ?_
                      refine xg_t (xg_bip) ?_
                      refine xg_t (xg_const) ?_
                      refine xg_t (xg_iload (va := (0, kf)) rfl rfl) ?_
                      refine xg_t (xg_imul (u := 2) (v := kf) (z := 2 * kf) xnm0 xnm0 (by omega)) ?_
                      refine xg_t (xg_iadd (u := 100) (v := 2 * kf) (z := 100 + (2 * kf)) xnm0 xnm0 (by omega)) ?_
                      refine xg_t (xg_const) ?_
                      refine xg_t (xg_iadd (u := 100 + (2 * kf)) (v := 1) (z := (100 + (2 * kf)) + 1) xnm0 xnm0 (by omega)) ?_
                      refine xg_ialdB (n := (100 + (2 * kf)) + 1) (B := 4294967295) h86_262 (hb263) xnm0 (by omega) (fun u291 hu292 he293 => ?_)
                      have hq294 : rwv w147 86 ((100 + (2 * kf)) + 1) = u291 := (rwv_eq hj218).symm.trans ((rwv_of h86_262 (by omega)).trans he293)
                      have hq295 : u291 ≤ 9 := by
                        rw [← hq294]
                        exact fl9M (m := kf) (t := 1) hM_158 hc203 (by omega) (by omega)
                      refine xg_t (xg_aload (va := (2, 82)) rfl rfl) ?_
                      refine xg_t (xg_getf (va := (2, 86)) h82_250 rfl) ?_
                      refine xg_t (xg_bip) ?_
                      refine xg_ialdB (n := 8) (B := 4294967295) h86_262 (hb263) xnm0 (by first | decide | omega) (fun u296 hu297 he298 => ?_)
                      have hq299 : rwv w147 86 (8) = u296 := (rwv_eq hj218).symm.trans ((rwv_of h86_262 (by omega)).trans he298)
                      have hq300 : u296 ≤ 10 := by
                        have q := hM_158.data hc203
                        obtain ⟨-, -, -, -, -, -, -, q7, q8, -, -⟩ := q
                        omega
                      by_cases hc301 : u291 < u296
                      · refine xg_t (xg_icT (u := u291) (v := u296) rfl xnm0 xnm0 (xj_ltT hc301 (by omega))) ?_
                        refine xg_t (xg_blq rfl) ?_
                        refine xg_t (xg_iinc (u := kf) (z := kf + 1) (l1 := [(0, (2, 82))]) rfl rfl (by omega) rfl) ?_
                        refine xg_t (xg_goto) ?_
                        refine xg_t (xg_drop (l1 := [(0, (2, 82)), (1, (0, kf + 1))]) (List.forall_mem_cons.mpr ⟨List.mem_cons_of_mem _ (List.mem_cons_self), List.forall_mem_cons.mpr ⟨List.mem_cons_self, fun _ h => absurd h List.not_mem_nil⟩⟩)) ?_
                        have nb_302 : ¬ bsX (XM w147) kf := fun y => by
                          have y : rwv w147 86 (7 + 0) ≤ rwv w147 86 (100 + 2 * kf + 0) ∨ rwv w147 86 (7 + 1) ≤ rwv w147 86 (100 + 2 * kf + 1) := y
                          simp only [Nat.add_zero, Nat.reduceAdd] at y
                          omega
                        exact ih205 (kf + 1) w207 (by omega) (by omega) (hI208) (hF209) (⟨Or.inl ⟨hnb.1, hnb2, fun j hj => (Nat.lt_or_eq_of_le (Nat.le_of_lt_succ hj)).elim (fun z => hnb.2 j z) (fun z => by rw [z]; exact nb_302)⟩, hj214, hj215, hj216.kp K83.rf, hj217, hj218, hj219⟩)
                      · refine xg_t (xg_icF (u := u291) (v := u296) rfl xnm0 xnm0 (xj_ltF (by omega) (by omega))) ?_
                        refine xg_t (xg_blq rfl) ?_
                        refine xg_t (xg_aload (va := (2, 82)) rfl rfl) ?_
                        refine xg_t (xg_const) ?_
                        refine xg_t (xg_aload (va := (2, 82)) rfl rfl) ?_
                        refine xg_t (xg_getf (va := (2, 87)) h82_250 rfl) ?_
                        refine xg_t (xg_iload (va := (0, kf)) rfl rfl) ?_
                        refine xg_ialdB (n := kf) (B := 4294967295) h87_265 (hb266) xnm0 (by omega) (fun u303 hu304 he305 => ?_)
                        have hq306 : rwv w147 87 kf = u303 := (rwv_eq hj219).symm.trans ((rwv_of h87_265 (by omega)).trans he305)
                        have hq307 : u303 ≤ 500 := by
                          rw [← hq306]
                          obtain ⟨i, i1, i2, i3⟩ := lnC_hit (B := B) (n := nn) (s := 4) (m := kf) k_152 (by omega)
                          have z := (hM_158.2.2 hc203).2 i i1 i2
                          rw [i3] at z
                          rw [z]
                          have z2 := tq_le (B := B) (n := nn) (p := lnP B nn i) lnP_le
                          have z3 := hB.1
                          omega
                        refine xg_cVv mX12_also (vs := [(0, 4), (0, u303)]) (rest := []) (cn1 := 0) (sl1 := 0) rfl (mAlsoX (fp := (0, 0)) (hI208) (by omega) (by omega) (by omega) hj214 ⟨hnb.1, fun z => absurd rfl z, Nat.zero_le _, fun _ => hnb2⟩) rfl h82_250 rfl rfl rfl rfl rfl rfl (fun w308 hq309 => ?_)
                        obtain ⟨hI310, hF311, hx312⟩ := hq309
                        obtain ⟨hv313, hv314⟩ := hx312
                        rw [alo_n (fun z => z.1 rfl)] at hv313
                        refine xg_t (xg_blq rfl) ?_
                        refine xg_t (xg_iinc (u := kf) (z := kf + 1) (l1 := [(0, (2, 82))]) rfl rfl (by omega) rfl) ?_
                        refine xg_t (xg_goto) ?_
                        refine xg_t (xg_drop (l1 := [(0, (2, 82)), (1, (0, kf + 1))]) (List.forall_mem_cons.mpr ⟨List.mem_cons_of_mem _ (List.mem_cons_self), List.forall_mem_cons.mpr ⟨List.mem_cons_self, fun _ h => absurd h List.not_mem_nil⟩⟩)) ?_
                        have hb_315 : bsX (XM w147) kf := by
                          have e : rwv w147 86 (7 + 0) ≤ rwv w147 86 (100 + 2 * kf + 0) ∨ rwv w147 86 (7 + 1) ≤ rwv w147 86 (100 + 2 * kf + 1) := by
                            simp only [Nat.add_zero, Nat.reduceAdd]
                            omega
                          exact e
                        exact ih205 (kf + 1) w308 (by omega) (by omega) (hI310) ((hF209.tr (hF311.up (by decide)))) (⟨Or.inr ⟨hv313.1, kf, by omega, hb_315, hnb.2, (hv313.2.1 (Nat.succ_ne_zero 3)).1.trans hq306.symm⟩, (fld_eq (j := 10) (hF311.1 82 (by decide))).trans hj214, (fld_eq (j := 14) (hF311.1 82 (by decide))).trans hj215, hj216.kp hv314, (hF311.1 85 (by decide)).trans hj217, (hF311.1 86 (by decide)).trans hj218, (hF311.1 87 (by decide)).trans hj219⟩)
                    · refine xg_t (xg_icT (u := u280) (v := u285) rfl xnm0 xnm0 (xj_geT (by omega) (by omega))) ?_
                      refine xg_t (xg_blq rfl) ?_
                      refine xg_t (xg_aload (va := (2, 82)) rfl rfl) ?_
                      refine xg_t (xg_const) ?_
                      refine xg_t (xg_aload (va := (2, 82)) rfl rfl) ?_
                      refine xg_t (xg_getf (va := (2, 87)) h82_250 rfl) ?_
                      refine xg_t (xg_iload (va := (0, kf)) rfl rfl) ?_
                      refine xg_ialdB (n := kf) (B := 4294967295) h87_265 (hb266) xnm0 (by omega) (fun u316 hu317 he318 => ?_)
                      have hq319 : rwv w147 87 kf = u316 := (rwv_eq hj219).symm.trans ((rwv_of h87_265 (by omega)).trans he318)
                      have hq320 : u316 ≤ 500 := by
                        rw [← hq319]
                        obtain ⟨i, i1, i2, i3⟩ := lnC_hit (B := B) (n := nn) (s := 4) (m := kf) k_152 (by omega)
                        have z := (hM_158.2.2 hc203).2 i i1 i2
                        rw [i3] at z
                        rw [z]
                        have z2 := tq_le (B := B) (n := nn) (p := lnP B nn i) lnP_le
                        have z3 := hB.1
                        omega
                      refine xg_cVv mX12_also (vs := [(0, 4), (0, u316)]) (rest := []) (cn1 := 0) (sl1 := 0) rfl (mAlsoX (fp := (0, 0)) (hI208) (by omega) (by omega) (by omega) hj214 ⟨hnb.1, fun z => absurd rfl z, Nat.zero_le _, fun _ => hnb2⟩) rfl h82_250 rfl rfl rfl rfl rfl rfl (fun w321 hq322 => ?_)
                      obtain ⟨hI323, hF324, hx325⟩ := hq322
                      obtain ⟨hv326, hv327⟩ := hx325
                      rw [alo_n (fun z => z.1 rfl)] at hv326
                      refine xg_t (xg_blq rfl) ?_
                      refine xg_t (xg_iinc (u := kf) (z := kf + 1) (l1 := [(0, (2, 82))]) rfl rfl (by omega) rfl) ?_
                      refine xg_t (xg_goto) ?_
                      refine xg_t (xg_drop (l1 := [(0, (2, 82)), (1, (0, kf + 1))]) (List.forall_mem_cons.mpr ⟨List.mem_cons_of_mem _ (List.mem_cons_self), List.forall_mem_cons.mpr ⟨List.mem_cons_self, fun _ h => absurd h List.not_mem_nil⟩⟩)) ?_
                      have hb_328 : bsX (XM w147) kf := by
                        have e : rwv w147 86 (7 + 0) ≤ rwv w147 86 (100 + 2 * kf + 0) ∨ rwv w147 86 (7 + 1) ≤ rwv w147 86 (100 + 2 * kf + 1) := by
                          simp only [Nat.add_zero, Nat.reduceAdd]
                          omega
                        exact e
                      exact ih205 (kf + 1) w321 (by omega) (by omega) (hI323) ((hF209.tr (hF324.up (by decide)))) (⟨Or.inr ⟨hv326.1, kf, by omega, hb_328, hnb.2, (hv326.2.1 (Nat.succ_ne_zero 3)).1.trans hq319.symm⟩, (fld_eq (j := 10) (hF324.1 82 (by decide))).trans hj214, (fld_eq (j := 14) (hF324.1 82 (by decide))).trans hj215, hj216.kp hv327, (hF324.1 85 (by decide)).trans hj217, (hF324.1 86 (by decide)).trans hj218, (hF324.1 87 (by decide)).trans hj219⟩)
                  · refine xg_t (xg_ifT (u := u274) rfl xnm0 (xj_neT hc278)) ?_
                    refine xg_t (xg_blq rfl) ?_
                    have hq329 : rwv w207 83 16 = g83_252 16 := rwv_of h83_253 (by decide)
                    rcases hj213 with ⟨z1330, z3331, z2332⟩ | ⟨z1330, z2332⟩
                    · have hnb : rwv w207 83 16 = 0 ∧ ∀ j, j < kf → ¬ bsX (XM w147) j := ⟨z1330, z2332⟩
                      have hnb2 := z3331
                      refine xg_t (xg_aload (va := (2, 82)) rfl rfl) ?_
                      refine xg_t (xg_getf (va := (2, 83)) h82_250 rfl) ?_
                      refine xg_t (xg_bip) ?_
                      refine xg_ialdB (n := 16) (B := 4294967295) h83_253 (hb254) xnm0 (by first | decide | omega) (fun u333 hu334 he335 => ?_)
                      refine xg_t (xg_ifT (u := u333) rfl xnm0 (xj_eqT (by omega))) ?_
                      refine xg_t (xg_blq rfl) ?_
                      have hMx : MST B nn w147 k_152 := hM_158
                      have hDE := hMx.data hc203
                      have hDD : DATA w207 := by
                        unfold DATA
                        simp only [fun j => rwv_eq (j := j) hj217, fun j => rwv_eq (j := j) hj218]
                        exact hDE
                      have hdt := hDD.toDt h85_259 h86_262
                      have hf337 : fld w207 82 14 = f82_238 := fld_of h82_250
                      refine xg_t (xg_const) ?_
                      refine xg_t (xg_istore (l1 := [(0, (2, 82))]) rfl rfl rfl) ?_
                      refine xg_t (xg_blq rfl) ?_
                      refine xg_t (xg_iload (va := (0, 0)) rfl rfl) ?_
                      refine xg_t (xg_const) ?_
                      refine xg_t (xg_icF (u := 0) (v := 5) rfl xnm0 xnm0 (by decide)) ?_
                      refine xg_t (xg_aload (va := (2, 82)) rfl rfl) ?_
                      refine xg_t (xg_getf (va := (2, 83)) h82_250 rfl) ?_
                      refine xg_t (xg_iload (va := (0, 0)) rfl rfl) ?_
                      refine xg_t (xg_aload (va := (2, 82)) rfl rfl) ?_
                      refine xg_t (xg_getf (va := (2, 85)) h82_250 rfl) ?_
                      refine xg_t (xg_iload (va := (0, 0)) rfl rfl) ?_
                      refine xg_ialdB (n := 0) (B := 4294967295) h85_259 (hb260) xnm0 (by first | decide | omega) (fun u338 hu339 he340 => ?_)
                      have hq341 : rwv w207 85 0 = u338 := (rwv_of h85_259 (by decide)).trans he340
                      refine xg_iastK (n := 0) (u := u338) h83_253 xnm0 xnm0 rfl (by first | decide | omega) (fun w342 hr343 hb344 => ?_)
                      have hb345 : ∀ j, (fun j => if j = 0 then u338 else g83_252 j) j ≤ 4294967295 := xrb (by omega) (hb254)
                      obtain ⟨g346, hg347⟩ : ∃ g : Nat → Nat, g = (fun j => if j = 0 then u338 else g83_252 j) := ⟨_, rfl⟩
                      rw [← hg347] at hr343
                      have he348 : g346 0 = u338 := by rw [hg347]; exact if_pos rfl
                      have hk349 : ∀ j, j ≠ 0 → g346 j = g83_252 j := fun j hj => by rw [hg347]; exact if_neg hj
                      rw [← hg347] at hb345
                      refine xg_t (xg_iinc (u := 0) (z := 1) (l1 := [(0, (2, 82))]) rfl rfl (by decide) rfl) ?_
                      refine xg_t (xg_goto) ?_
                      refine xg_t (xg_blq rfl) ?_
                      refine xg_t (xg_iload (va := (0, 1)) rfl rfl) ?_
                      refine xg_t (xg_const) ?_
                      refine xg_t (xg_icF (u := 1) (v := 5) rfl xnm0 xnm0 (by decide)) ?_
                      refine xg_t (xg_aload (va := (2, 82)) rfl rfl) ?_
                      refine xg_t (xg_getf (va := (2, 83)) (hb344.get (by decide) h82_250) rfl) ?_
                      refine xg_t (xg_iload (va := (0, 1)) rfl rfl) ?_
                      refine xg_t (xg_aload (va := (2, 82)) rfl rfl) ?_
                      refine xg_t (xg_getf (va := (2, 85)) (hb344.get (by decide) h82_250) rfl) ?_
                      refine xg_t (xg_iload (va := (0, 1)) rfl rfl) ?_
                      refine xg_ialdB (n := 1) (B := 4294967295) (h85_259.but hb344 (by decide)) (hb260) xnm0 (by first | decide | omega) (fun u350 hu351 he352 => ?_)
                      have hq353 : rwv w207 85 1 = u350 := (rwv_of h85_259 (by decide)).trans he352
                      refine xg_iastK (n := 1) (u := u350) hr343 xnm0 xnm0 rfl (by first | decide | omega) (fun w354 hr355 hb356 => ?_)
                      have hb357 : ∀ j, (fun j => if j = 1 then u350 else g346 j) j ≤ 4294967295 := xrb (by omega) (hb345)
                      obtain ⟨g358, hg359⟩ : ∃ g : Nat → Nat, g = (fun j => if j = 1 then u350 else g346 j) := ⟨_, rfl⟩
                      rw [← hg359] at hr355
                      have he360 : g358 1 = u350 := by rw [hg359]; exact if_pos rfl
                      have hk361 : ∀ j, j ≠ 1 → g358 j = g346 j := fun j hj => by rw [hg359]; exact if_neg hj
                      rw [← hg359] at hb357
                      refine xg_t (xg_iinc (u := 1) (z := 2) (l1 := [(0, (2, 82))]) rfl rfl (by decide) rfl) ?_
                      refine xg_t (xg_goto) ?_
                      refine xg_t (xg_blq rfl) ?_
                      refine xg_t (xg_iload (va := (0, 2)) rfl rfl) ?_
                      refine xg_t (xg_const) ?_
                      refine xg_t (xg_icF (u := 2) (v := 5) rfl xnm0 xnm0 (by decide)) ?_
                      refine xg_t (xg_aload (va := (2, 82)) rfl rfl) ?_
                      refine xg_t (xg_getf (va := (2, 83)) (hb356.get (by decide) (hb344.get (by decide) h82_250)) rfl) ?_
                      refine xg_t (xg_iload (va := (0, 2)) rfl rfl) ?_
                      refine xg_t (xg_aload (va := (2, 82)) rfl rfl) ?_
                      refine xg_t (xg_getf (va := (2, 85)) (hb356.get (by decide) (hb344.get (by decide) h82_250)) rfl) ?_
                      refine xg_t (xg_iload (va := (0, 2)) rfl rfl) ?_
                      refine xg_ialdB (n := 2) (B := 4294967295) ((h85_259.but hb344 (by decide)).but hb356 (by decide)) (hb260) xnm0 (by first | decide | omega) (fun u362 hu363 he364 => ?_)
                      have hq365 : rwv w207 85 2 = u362 := (rwv_of h85_259 (by decide)).trans he364
                      refine xg_iastK (n := 2) (u := u362) hr355 xnm0 xnm0 rfl (by first | decide | omega) (fun w366 hr367 hb368 => ?_)
                      have hb369 : ∀ j, (fun j => if j = 2 then u362 else g358 j) j ≤ 4294967295 := xrb (by omega) (hb357)
                      obtain ⟨g370, hg371⟩ : ∃ g : Nat → Nat, g = (fun j => if j = 2 then u362 else g358 j) := ⟨_, rfl⟩
                      rw [← hg371] at hr367
                      have he372 : g370 2 = u362 := by rw [hg371]; exact if_pos rfl
                      have hk373 : ∀ j, j ≠ 2 → g370 j = g358 j := fun j hj => by rw [hg371]; exact if_neg hj
                      rw [← hg371] at hb369
                      refine xg_t (xg_iinc (u := 2) (z := 3) (l1 := [(0, (2, 82))]) rfl rfl (by decide) rfl) ?_
                      refine xg_t (xg_goto) ?_
                      refine xg_t (xg_blq rfl) ?_
                      refine xg_t (xg_iload (va := (0, 3)) rfl rfl) ?_
                      refine xg_t (xg_const) ?_
                      refine xg_t (xg_icF (u := 3) (v := 5) rfl xnm0 xnm0 (by decide)) ?_
                      refine xg_t (xg_aload (va := (2, 82)) rfl rfl) ?_
                      refine xg_t (xg_getf (va := (2, 83)) (hb368.get (by decide) (hb356.get (by decide) (hb344.get (by decide) h82_250))) rfl) ?_
                      refine xg_t (xg_iload (va := (0, 3)) rfl rfl) ?_
                      refine xg_t (xg_aload (va := (2, 82)) rfl rfl) ?_
                      refine xg_t (xg_getf (va := (2, 85)) (hb368.get (by decide) (hb356.get (by decide) (hb344.get (by decide) h82_250))) rfl) ?_
                      refine xg_t (xg_iload (va := (0, 3)) rfl rfl) ?_
                      refine xg_ialdB (n := 3) (B := 4294967295) (((h85_259.but hb344 (by decide)).but hb356 (by decide)).but hb368 (by decide)) (hb260) xnm0 (by first | decide | omega) (fun u374 hu375 he376 => ?_)
                      have hq377 : rwv w207 85 3 = u374 := (rwv_of h85_259 (by decide)).trans he376
                      refine xg_iastK (n := 3) (u := u374) hr367 xnm0 xnm0 rfl (by first | decide | omega) (fun w378 hr379 hb380 => ?_)
                      have hb381 : ∀ j, (fun j => if j = 3 then u374 else g370 j) j ≤ 4294967295 := xrb (by omega) (hb369)
                      obtain ⟨g382, hg383⟩ : ∃ g : Nat → Nat, g = (fun j => if j = 3 then u374 else g370 j) := ⟨_, rfl⟩
                      rw [← hg383] at hr379
                      have he384 : g382 3 = u374 := by rw [hg383]; exact if_pos rfl
                      have hk385 : ∀ j, j ≠ 3 → g382 j = g370 j := fun j hj => by rw [hg383]; exact if_neg hj
                      rw [← hg383] at hb381
                      refine xg_t (xg_iinc (u := 3) (z := 4) (l1 := [(0, (2, 82))]) rfl rfl (by decide) rfl) ?_
                      refine xg_t (xg_goto) ?_
                      refine xg_t (xg_blq rfl) ?_
                      refine xg_t (xg_iload (va := (0, 4)) rfl rfl) ?_
                      refine xg_t (xg_const) ?_
                      refine xg_t (xg_icF (u := 4) (v := 5) rfl xnm0 xnm0 (by decide)) ?_
                      refine xg_t (xg_aload (va := (2, 82)) rfl rfl) ?_
                      refine xg_t (xg_getf (va := (2, 83)) (hb380.get (by decide) (hb368.get (by decide) (hb356.get (by decide) (hb344.get (by decide) h82_250)))) rfl) ?_
                      refine xg_t (xg_iload (va := (0, 4)) rfl rfl) ?_
                      refine xg_t (xg_aload (va := (2, 82)) rfl rfl) ?_
                      refine xg_t (xg_getf (va := (2, 85)) (hb380.get (by decide) (hb368.get (by decide) (hb356.get (by decide) (hb344.get (by decide) h82_250)))) rfl) ?_
                      refine xg_t (xg_iload (va := (0, 4)) rfl rfl) ?_
                      refine xg_ialdB (n := 4) (B := 4294967295) ((((h85_259.but hb344 (by decide)).but hb356 (by decide)).but hb368 (by decide)).but hb380 (by decide)) (hb260) xnm0 (by first | decide | omega) (fun u386 hu387 he388 => ?_)
                      have hq389 : rwv w207 85 4 = u386 := (rwv_of h85_259 (by decide)).trans he388
                      refine xg_iastK (n := 4) (u := u386) hr379 xnm0 xnm0 rfl (by first | decide | omega) (fun w390 hr391 hb392 => ?_)
                      have hb393 : ∀ j, (fun j => if j = 4 then u386 else g382 j) j ≤ 4294967295 := xrb (by omega) (hb381)
                      obtain ⟨g394, hg395⟩ : ∃ g : Nat → Nat, g = (fun j => if j = 4 then u386 else g382 j) := ⟨_, rfl⟩
                      rw [← hg395] at hr391
                      have he396 : g394 4 = u386 := by rw [hg395]; exact if_pos rfl
                      have hk397 : ∀ j, j ≠ 4 → g394 j = g382 j := fun j hj => by rw [hg395]; exact if_neg hj
                      rw [← hg395] at hb393
                      refine xg_t (xg_iinc (u := 4) (z := 5) (l1 := [(0, (2, 82))]) rfl rfl (by decide) rfl) ?_
                      refine xg_t (xg_goto) ?_
                      refine xg_t (xg_blq rfl) ?_
                      refine xg_t (xg_iload (va := (0, 5)) rfl rfl) ?_
                      refine xg_t (xg_const) ?_
                      refine xg_t (xg_icT (u := 5) (v := 5) rfl xnm0 xnm0 (by decide)) ?_
                      refine xg_t (xg_blq rfl) ?_
                      refine xg_t (xg_const) ?_
                      refine xg_t (xg_istore (l1 := [(0, (2, 82))]) rfl rfl rfl) ?_
                      refine xg_t (xg_blq rfl) ?_
                      refine xg_t (xg_iload (va := (0, 5)) rfl rfl) ?_
                      refine xg_t (xg_bip) ?_
                      refine xg_t (xg_icF (u := 5) (v := 8) rfl xnm0 xnm0 (by decide)) ?_
                      refine xg_t (xg_aload (va := (2, 82)) rfl rfl) ?_
                      refine xg_t (xg_getf (va := (2, 83)) (hb392.get (by decide) (hb380.get (by decide) (hb368.get (by decide) (hb356.get (by decide) (hb344.get (by decide) h82_250))))) rfl) ?_
                      refine xg_t (xg_iload (va := (0, 5)) rfl rfl) ?_
                      refine xg_t (xg_aload (va := (2, 82)) rfl rfl) ?_
                      refine xg_t (xg_getf (va := (2, 86)) (hb392.get (by decide) (hb380.get (by decide) (hb368.get (by decide) (hb356.get (by decide) (hb344.get (by decide) h82_250))))) rfl) ?_
                      refine xg_t (xg_iload (va := (0, 5)) rfl rfl) ?_
                      refine xg_ialdB (n := 5) (B := 4294967295) (((((h86_262.but hb344 (by decide)).but hb356 (by decide)).but hb368 (by decide)).but hb380 (by decide)).but hb392 (by decide)) (hb263) xnm0 (by first | decide | omega) (fun u398 hu399 he400 => ?_)
                      have hq401 : rwv w207 86 5 = u398 := (rwv_of h86_262 (by decide)).trans he400
                      refine xg_iastK (n := 5) (u := u398) hr391 xnm0 xnm0 rfl (by first | decide | omega) (fun w402 hr403 hb404 => ?_)
                      have hb405 : ∀ j, (fun j => if j = 5 then u398 else g394 j) j ≤ 4294967295 := xrb (by omega) (hb393)
                      obtain ⟨g406, hg407⟩ : ∃ g : Nat → Nat, g = (fun j => if j = 5 then u398 else g394 j) := ⟨_, rfl⟩
                      rw [← hg407] at hr403
                      have he408 : g406 5 = u398 := by rw [hg407]; exact if_pos rfl
                      have hk409 : ∀ j, j ≠ 5 → g406 j = g394 j := fun j hj => by rw [hg407]; exact if_neg hj
                      rw [← hg407] at hb405
                      refine xg_t (xg_iinc (u := 5) (z := 6) (l1 := [(0, (2, 82))]) rfl rfl (by decide) rfl) ?_
                      refine xg_t (xg_goto) ?_
                      refine xg_t (xg_blq rfl) ?_
                      refine xg_t (xg_iload (va := (0, 6)) rfl rfl) ?_
                      refine xg_t (xg_bip) ?_
                      refine xg_t (xg_icF (u := 6) (v := 8) rfl xnm0 xnm0 (by decide)) ?_
                      refine xg_t (xg_aload (va := (2, 82)) rfl rfl) ?_
                      refine xg_t (xg_getf (va := (2, 83)) (hb404.get (by decide) (hb392.get (by decide) (hb380.get (by decide) (hb368.get (by decide) (hb356.get (by decide) (hb344.get (by decide) h82_250)))))) rfl) ?_
                      refine xg_t (xg_iload (va := (0, 6)) rfl rfl) ?_
                      refine xg_t (xg_aload (va := (2, 82)) rfl rfl) ?_
                      refine xg_t (xg_getf (va := (2, 86)) (hb404.get (by decide) (hb392.get (by decide) (hb380.get (by decide) (hb368.get (by decide) (hb356.get (by decide) (hb344.get (by decide) h82_250)))))) rfl) ?_
                      refine xg_t (xg_iload (va := (0, 6)) rfl rfl) ?_
                      refine xg_ialdB (n := 6) (B := 4294967295) ((((((h86_262.but hb344 (by decide)).but hb356 (by decide)).but hb368 (by decide)).but hb380 (by decide)).but hb392 (by decide)).but hb404 (by decide)) (hb263) xnm0 (by first | decide | omega) (fun u410 hu411 he412 => ?_)
                      have hq413 : rwv w207 86 6 = u410 := (rwv_of h86_262 (by decide)).trans he412
                      refine xg_iastK (n := 6) (u := u410) hr403 xnm0 xnm0 rfl (by first | decide | omega) (fun w414 hr415 hb416 => ?_)
                      have hb417 : ∀ j, (fun j => if j = 6 then u410 else g406 j) j ≤ 4294967295 := xrb (by omega) (hb405)
                      obtain ⟨g418, hg419⟩ : ∃ g : Nat → Nat, g = (fun j => if j = 6 then u410 else g406 j) := ⟨_, rfl⟩
                      rw [← hg419] at hr415
                      have he420 : g418 6 = u410 := by rw [hg419]; exact if_pos rfl
                      have hk421 : ∀ j, j ≠ 6 → g418 j = g406 j := fun j hj => by rw [hg419]; exact if_neg hj
                      rw [← hg419] at hb417
                      refine xg_t (xg_iinc (u := 6) (z := 7) (l1 := [(0, (2, 82))]) rfl rfl (by decide) rfl) ?_
                      refine xg_t (xg_goto) ?_
                      refine xg_t (xg_blq rfl) ?_
                      refine xg_t (xg_iload (va := (0, 7)) rfl rfl) ?_
                      refine xg_t (xg_bip) ?_
                      refine xg_t (xg_icF (u := 7) (v := 8) rfl xnm0 xnm0 (by decide)) ?_
                      refine xg_t (xg_aload (va := (2, 82)) rfl rfl) ?_
                      refine xg_t (xg_getf (va := (2, 83)) (hb416.get (by decide) (hb404.get (by decide) (hb392.get (by decide) (hb380.get (by decide) (hb368.get (by decide) (hb356.get (by decide) (hb344.get (by decide) h82_250))))))) rfl) ?_
                      refine xg_t (xg_iload (va := (0, 7)) rfl rfl) ?_
                      refine xg_t (xg_aload (va := (2, 82)) rfl rfl) ?_
                      refine xg_t (xg_getf (va := (2, 86)) (hb416.get (by decide) (hb404.get (by decide) (hb392.get (by decide) (hb380.get (by decide) (hb368.get (by decide) (hb356.get (by decide) (hb344.get (by decide) h82_250))))))) rfl) ?_
                      refine xg_t (xg_iload (va := (0, 7)) rfl rfl) ?_
                      refine xg_ialdB (n := 7) (B := 4294967295) (((((((h86_262.but hb344 (by decide)).but hb356 (by decide)).but hb368 (by decide)).but hb380 (by decide)).but hb392 (by decide)).but hb404 (by decide)).but hb416 (by decide)) (hb263) xnm0 (by first | decide | omega) (fun u422 hu423 he424 => ?_)
                      have hq425 : rwv w207 86 7 = u422 := (rwv_of h86_262 (by decide)).trans he424
                      refine xg_iastK (n := 7) (u := u422) hr415 xnm0 xnm0 rfl (by first | decide | omega) (fun w426 hr427 hb428 => ?_)
                      have hb429 : ∀ j, (fun j => if j = 7 then u422 else g418 j) j ≤ 4294967295 := xrb (by omega) (hb417)
                      obtain ⟨g430, hg431⟩ : ∃ g : Nat → Nat, g = (fun j => if j = 7 then u422 else g418 j) := ⟨_, rfl⟩
                      rw [← hg431] at hr427
                      have he432 : g430 7 = u422 := by rw [hg431]; exact if_pos rfl
                      have hk433 : ∀ j, j ≠ 7 → g430 j = g418 j := fun j hj => by rw [hg431]; exact if_neg hj
                      rw [← hg431] at hb429
                      refine xg_t (xg_iinc (u := 7) (z := 8) (l1 := [(0, (2, 82))]) rfl rfl (by decide) rfl) ?_
                      refine xg_t (xg_goto) ?_
                      refine xg_t (xg_blq rfl) ?_
                      refine xg_t (xg_iload (va := (0, 8)) rfl rfl) ?_
                      refine xg_t (xg_bip) ?_
                      refine xg_t (xg_icF (u := 8) (v := 8) rfl xnm0 xnm0 (by decide)) ?_
                      refine xg_t (xg_aload (va := (2, 82)) rfl rfl) ?_
                      refine xg_t (xg_getf (va := (2, 83)) (hb428.get (by decide) (hb416.get (by decide) (hb404.get (by decide) (hb392.get (by decide) (hb380.get (by decide) (hb368.get (by decide) (hb356.get (by decide) (hb344.get (by decide) h82_250)))))))) rfl) ?_
                      refine xg_t (xg_iload (va := (0, 8)) rfl rfl) ?_
                      refine xg_t (xg_aload (va := (2, 82)) rfl rfl) ?_
                      refine xg_t (xg_getf (va := (2, 86)) (hb428.get (by decide) (hb416.get (by decide) (hb404.get (by decide) (hb392.get (by decide) (hb380.get (by decide) (hb368.get (by decide) (hb356.get (by decide) (hb344.get (by decide) h82_250)))))))) rfl) ?_
                      refine xg_t (xg_iload (va := (0, 8)) rfl rfl) ?_
                      refine xg_ialdB (n := 8) (B := 4294967295) ((((((((h86_262.but hb344 (by decide)).but hb356 (by decide)).but hb368 (by decide)).but hb380 (by decide)).but hb392 (by decide)).but hb404 (by decide)).but hb416 (by decide)).but hb428 (by decide)) (hb263) xnm0 (by first | decide | omega) (fun u434 hu435 he436 => ?_)
                      have hq437 : rwv w207 86 8 = u434 := (rwv_of h86_262 (by decide)).trans he436
                      refine xg_iastK (n := 8) (u := u434) hr427 xnm0 xnm0 rfl (by first | decide | omega) (fun w438 hr439 hb440 => ?_)
                      have hb441 : ∀ j, (fun j => if j = 8 then u434 else g430 j) j ≤ 4294967295 := xrb (by omega) (hb429)
                      obtain ⟨g442, hg443⟩ : ∃ g : Nat → Nat, g = (fun j => if j = 8 then u434 else g430 j) := ⟨_, rfl⟩
                      rw [← hg443] at hr439
                      have he444 : g442 8 = u434 := by rw [hg443]; exact if_pos rfl
                      have hk445 : ∀ j, j ≠ 8 → g442 j = g430 j := fun j hj => by rw [hg443]; exact if_neg hj
                      rw [← hg443] at hb441
                      refine xg_t (xg_iinc (u := 8) (z := 9) (l1 := [(0, (2, 82))]) rfl rfl (by decide) rfl) ?_
                      refine xg_t (xg_goto) ?_
                      refine xg_t (xg_blq rfl) ?_
                      refine xg_t (xg_iload (va := (0, 9)) rfl rfl) ?_
                      refine xg_t (xg_bip) ?_
                      refine xg_t (xg_icT (u := 9) (v := 8) rfl xnm0 xnm0 (by decide)) ?_
                      refine xg_t (xg_blq rfl) ?_
                      refine xg_t (xg_bip) ?_
                      refine xg_t (xg_istore (l1 := [(0, (2, 82))]) rfl rfl rfl) ?_
                      refine xg_t (xg_drop (l1 := [(0, (2, 82)), (1, (0, 20))]) (List.forall_mem_cons.mpr ⟨List.mem_cons_of_mem _ (List.mem_cons_self), List.forall_mem_cons.mpr ⟨List.mem_cons_self, fun _ h => absurd h List.not_mem_nil⟩⟩)) ?_
                      refine cpFilm 120 20 w438 g442 (by decide) hr439 hb441 (((((((((h86_262.but hb344 (by decide)).but hb356 (by decide)).but hb368 (by decide)).but hb380 (by decide)).but hb392 (by decide)).but hb404 (by decide)).but hb416 (by decide)).but hb428 (by decide)).but hb440 (by decide)) hb263 (hb440.get (by decide) (hb428.get (by decide) (hb416.get (by decide) (hb404.get (by decide) (hb392.get (by decide) (hb380.get (by decide) (hb368.get (by decide) (hb356.get (by decide) (hb344.get (by decide) h82_250))))))))) (fun w446 g447 hc448 hc449 hc450 hc451 hc452 => ?_)
                      refine xg_t (xg_blq rfl) ?_
                      refine xg_t (xg_aload (va := (2, 82)) rfl rfl) ?_
                      refine xg_t (xg_getf (va := (2, 83)) (hc450.get (by decide) (hb440.get (by decide) (hb428.get (by decide) (hb416.get (by decide) (hb404.get (by decide) (hb392.get (by decide) (hb380.get (by decide) (hb368.get (by decide) (hb356.get (by decide) (hb344.get (by decide) h82_250)))))))))) rfl) ?_
                      refine xg_t (xg_bip) ?_
                      refine xg_t (xg_const) ?_
                      refine xg_iastK (n := 9) (u := 0) hc448 xnm0 xnm0 rfl (by first | decide | omega) (fun w453 hr454 hb455 => ?_)
                      have hb456 : ∀ j, (fun j => if j = 9 then 0 else g447 j) j ≤ 4294967295 := xrb (by omega) (hc449)
                      obtain ⟨g457, hg458⟩ : ∃ g : Nat → Nat, g = (fun j => if j = 9 then 0 else g447 j) := ⟨_, rfl⟩
                      rw [← hg458] at hr454
                      have he459 : g457 9 = 0 := by rw [hg458]; exact if_pos rfl
                      have hk460 : ∀ j, j ≠ 9 → g457 j = g447 j := fun j hj => by rw [hg458]; exact if_neg hj
                      rw [← hg458] at hb456
                      refine xg_t (xg_aload (va := (2, 82)) rfl rfl) ?_
                      refine xg_t (xg_getf (va := (2, 83)) (hb455.get (by decide) (hc450.get (by decide) (hb440.get (by decide) (hb428.get (by decide) (hb416.get (by decide) (hb404.get (by decide) (hb392.get (by decide) (hb380.get (by decide) (hb368.get (by decide) (hb356.get (by decide) (hb344.get (by decide) h82_250))))))))))) rfl) ?_
                      refine xg_t (xg_bip) ?_
                      refine xg_t (xg_const) ?_
                      refine xg_iastK (n := 10) (u := 0) hr454 xnm0 xnm0 rfl (by first | decide | omega) (fun w461 hr462 hb463 => ?_)
                      have hb464 : ∀ j, (fun j => if j = 10 then 0 else g457 j) j ≤ 4294967295 := xrb (by omega) (hb456)
                      obtain ⟨g465, hg466⟩ : ∃ g : Nat → Nat, g = (fun j => if j = 10 then 0 else g457 j) := ⟨_, rfl⟩
                      rw [← hg466] at hr462
                      have he467 : g465 10 = 0 := by rw [hg466]; exact if_pos rfl
                      have hk468 : ∀ j, j ≠ 10 → g465 j = g457 j := fun j hj => by rw [hg466]; exact if_neg hj
                      rw [← hg466] at hb464
                      refine xg_t (xg_aload (va := (2, 82)) rfl rfl) ?_
                      refine xg_t (xg_getf (va := (2, 83)) (hb463.get (by decide) (hb455.get (by decide) (hc450.get (by decide) (hb440.get (by decide) (hb428.get (by decide) (hb416.get (by decide) (hb404.get (by decide) (hb392.get (by decide) (hb380.get (by decide) (hb368.get (by decide) (hb356.get (by decide) (hb344.get (by decide) h82_250)))))))))))) rfl) ?_
                      refine xg_t (xg_bip) ?_
                      refine xg_t (xg_aload (va := (2, 82)) rfl rfl) ?_
                      refine xg_t (xg_getf (va := (0, f82_238)) (hb463.get (by decide) (hb455.get (by decide) (hc450.get (by decide) (hb440.get (by decide) (hb428.get (by decide) (hb416.get (by decide) (hb404.get (by decide) (hb392.get (by decide) (hb380.get (by decide) (hb368.get (by decide) (hb356.get (by decide) (hb344.get (by decide) h82_250)))))))))))) rfl) ?_
                      have hn469 : f82_238 ≤ 4294967295 := hb239
                      refine xg_iastK (n := 14) (u := f82_238) hr462 xnm0 xnm0 rfl (by first | decide | omega) (fun w470 hr471 hb472 => ?_)
                      have hb473 : ∀ j, (fun j => if j = 14 then f82_238 else g465 j) j ≤ 4294967295 := xrb (by omega) (hb464)
                      obtain ⟨g474, hg475⟩ : ∃ g : Nat → Nat, g = (fun j => if j = 14 then f82_238 else g465 j) := ⟨_, rfl⟩
                      rw [← hg475] at hr471
                      have he476 : g474 14 = f82_238 := by rw [hg475]; exact if_pos rfl
                      have hk477 : ∀ j, j ≠ 14 → g474 j = g465 j := fun j hj => by rw [hg475]; exact if_neg hj
                      rw [← hg475] at hb473
                      have hq478 : g474 0 = u338 := by rw [hk477 0 (by omega), hk468 0 (by omega), hk460 0 (by omega), hc452 0 (by omega), hk445 0 (by omega), hk433 0 (by omega), hk421 0 (by omega), hk409 0 (by omega), hk397 0 (by omega), hk385 0 (by omega), hk373 0 (by omega), hk361 0 (by omega), he348]
                      have hq479 : g474 1 = u350 := by rw [hk477 1 (by omega), hk468 1 (by omega), hk460 1 (by omega), hc452 1 (by omega), hk445 1 (by omega), hk433 1 (by omega), hk421 1 (by omega), hk409 1 (by omega), hk397 1 (by omega), hk385 1 (by omega), hk373 1 (by omega), he360]
                      have hq480 : g474 2 = u362 := by rw [hk477 2 (by omega), hk468 2 (by omega), hk460 2 (by omega), hc452 2 (by omega), hk445 2 (by omega), hk433 2 (by omega), hk421 2 (by omega), hk409 2 (by omega), hk397 2 (by omega), hk385 2 (by omega), he372]
                      have hq481 : g474 3 = u374 := by rw [hk477 3 (by omega), hk468 3 (by omega), hk460 3 (by omega), hc452 3 (by omega), hk445 3 (by omega), hk433 3 (by omega), hk421 3 (by omega), hk409 3 (by omega), hk397 3 (by omega), he384]
                      have hq482 : g474 4 = u386 := by rw [hk477 4 (by omega), hk468 4 (by omega), hk460 4 (by omega), hc452 4 (by omega), hk445 4 (by omega), hk433 4 (by omega), hk421 4 (by omega), hk409 4 (by omega), he396]
                      have hq483 : g474 5 = u398 := by rw [hk477 5 (by omega), hk468 5 (by omega), hk460 5 (by omega), hc452 5 (by omega), hk445 5 (by omega), hk433 5 (by omega), hk421 5 (by omega), he408]
                      have hq484 : g474 6 = u410 := by rw [hk477 6 (by omega), hk468 6 (by omega), hk460 6 (by omega), hc452 6 (by omega), hk445 6 (by omega), hk433 6 (by omega), he420]
                      have hq485 : g474 7 = u422 := by rw [hk477 7 (by omega), hk468 7 (by omega), hk460 7 (by omega), hc452 7 (by omega), hk445 7 (by omega), he432]
                      have hq486 : g474 8 = u434 := by rw [hk477 8 (by omega), hk468 8 (by omega), hk460 8 (by omega), hc452 8 (by omega), he444]
                      have hq487 : g474 9 = 0 := by rw [hk477 9 (by omega), hk468 9 (by omega), he459]
                      have hq488 : g474 10 = 0 := by rw [hk477 10 (by omega), he467]
                      have hq489 : ∀ j, 20 ≤ j → j < 140 → g474 j = g86_261 j := fun j h1 h2 => by rw [hk477 j (by omega), hk468 j (by omega), hk460 j (by omega)]; exact hc451 j h1 h2
                      have hq490 : ∀ j, 140 ≤ j ∨ j = 11 ∨ j = 12 ∨ j = 13 ∨ j = 15 → g474 j = g83_252 j := fun j hj => by rw [hk477 j (by omega), hk468 j (by omega), hk460 j (by omega), hc452 j (by omega), hk445 j (by omega), hk433 j (by omega), hk421 j (by omega), hk409 j (by omega), hk397 j (by omega), hk385 j (by omega), hk373 j (by omega), hk361 j (by omega), hk349 j (by omega)]
                      have hx491 : okA g474 := film_ok hx255 hdt (by omega) (by omega) (by omega) (by omega) (by omega) (by omega) (by omega) (by omega) (by omega) (by omega) (by omega) hq489 (fun j hj => hq490 j (by omega))
                      refine xg_t (xg_aload (va := (2, 82)) rfl rfl) ?_
                      refine xg_t (xg_getf (va := (0, f82_238)) (hb472.get (by decide) (hb463.get (by decide) (hb455.get (by decide) (hc450.get (by decide) (hb440.get (by decide) (hb428.get (by decide) (hb416.get (by decide) (hb404.get (by decide) (hb392.get (by decide) (hb380.get (by decide) (hb368.get (by decide) (hb356.get (by decide) (hb344.get (by decide) h82_250))))))))))))) rfl) ?_
                      have hq494 : rwv w470 83 0 = g474 0 := rwv_of hr471 (by decide)
                      have hq495 : rwv w470 83 1 = g474 1 := rwv_of hr471 (by decide)
                      have hq496 : rwv w470 83 2 = g474 2 := rwv_of hr471 (by decide)
                      have hq497 : rwv w470 83 3 = g474 3 := rwv_of hr471 (by decide)
                      have hq498 : rwv w470 83 4 = g474 4 := rwv_of hr471 (by decide)
                      have hq499 : rwv w470 83 5 = g474 5 := rwv_of hr471 (by decide)
                      have hq500 : rwv w470 83 6 = g474 6 := rwv_of hr471 (by decide)
                      have hq501 : rwv w470 83 7 = g474 7 := rwv_of hr471 (by decide)
                      have hq502 : rwv w470 83 8 = g474 8 := rwv_of hr471 (by decide)
                      have hq503 : rwv w470 83 9 = g474 9 := rwv_of hr471 (by decide)
                      have hq504 : rwv w470 83 10 = g474 10 := rwv_of hr471 (by decide)
                      have hq505 : rwv w470 83 14 = g474 14 := rwv_of hr471 (by decide)
                      have hq506 : rwv w470 83 16 = g474 16 := rwv_of hr471 (by decide)
                      have hq507 : rwv w470 83 17 = g474 17 := rwv_of hr471 (by decide)
                      have h14x : g474 14 = f82_238 := by rw [he476]
                      have h16x : g474 16 = g83_252 16 := by rw [hk477 16 (by decide), hk468 16 (by decide), hk460 16 (by decide), hc452 16 (by omega), hk445 16 (by decide), hk433 16 (by decide), hk421 16 (by decide), hk409 16 (by decide), hk397 16 (by decide), hk385 16 (by decide), hk373 16 (by decide), hk361 16 (by decide), hk349 16 (by decide)]
                      have hq508 : rwv w207 83 16 = g83_252 16 := rwv_of h83_253 (by decide)
                      have h17x : g474 17 = g83_252 17 := by rw [hk477 17 (by decide), hk468 17 (by decide), hk460 17 (by decide), hc452 17 (by omega), hk445 17 (by decide), hk433 17 (by decide), hk421 17 (by decide), hk409 17 (by decide), hk397 17 (by decide), hk385 17 (by decide), hk373 17 (by decide), hk361 17 (by decide), hk349 17 (by decide)]
                      have hq509 : rwv w207 83 17 = g83_252 17 := rwv_of h83_253 (by decide)
                      have hF510 : FLA B nn w470 k_152 := FLA.mk hM_158 hc203 ((show rwv w470 83 0 = rwv w207 85 0 by omega).trans (rwv_eq hj217)) ((show rwv w470 83 1 = rwv w207 85 1 by omega).trans (rwv_eq hj217)) ((show rwv w470 83 2 = rwv w207 85 2 by omega).trans (rwv_eq hj217)) ((show rwv w470 83 3 = rwv w207 85 3 by omega).trans (rwv_eq hj217)) ((show rwv w470 83 4 = rwv w207 85 4 by omega).trans (rwv_eq hj217)) (by omega) ((show rwv w470 83 5 = rwv w207 86 5 by omega).trans (rwv_eq hj218)) ((show rwv w470 83 6 = rwv w207 86 6 by omega).trans (rwv_eq hj218)) ((show rwv w470 83 7 = rwv w207 86 7 by omega).trans (rwv_eq hj218)) ((show rwv w470 83 8 = rwv w207 86 8 by omega).trans (rwv_eq hj218)) (fun j h1 h2 => (rwv_of hr471 (by omega)).trans ((hq489 j h1 h2).trans ((rwv_of h86_262 (by omega)).symm.trans (rwv_eq hj218))))
                      have hz511 : f82_238 = k_152 := by omega
                      have hz16 := hnb.1
                      have hR492 : FRes B nn f82_238 (rwv w470 83 16) (rwv w470 83 17) := by
                        rw [hz511]
                        exact ⟨k_152, hok154, hnok, Or.inr (Or.inr ⟨hend, hc203, XM w147, rwv w147 87, (hM_158.2.2 hc203).1, (hM_158.2.2 hc203).2, Or.inr ⟨rfl, by omega, by omega, hk153, fun j hj => hnb.2 j (by omega)⟩⟩)⟩
                      exact xg_e ⟨f82_238, w470, ⟨rfl, rfl⟩, ⟨hR492, (rwv_of hr471 (by decide)).trans ((hq490 15 (by omega)).trans ((rwv_of h83_253 (by decide)).symm.trans hj216.1)), fun z => absurd z (by omega), fun _ => ⟨by rw [hz511]; exact hF510, by omega, by omega⟩, fun j h1 h2 => (rwv_of hr471 h2).trans ((hq490 j (by omega)).trans ((rwv_of h83_253 h2).symm.trans (hj216.2 j h2 (by omega) (by omega) (by omega))))⟩, xMnv.up (S := [83]) hI208 (((((((((((((xFr.of (S := [83]) hb344 (by decide)).tr (xFr.of (S := [83]) hb356 (by decide))).tr (xFr.of (S := [83]) hb368 (by decide))).tr (xFr.of (S := [83]) hb380 (by decide))).tr (xFr.of (S := [83]) hb392 (by decide))).tr (xFr.of (S := [83]) hb404 (by decide))).tr (xFr.of (S := [83]) hb416 (by decide))).tr (xFr.of (S := [83]) hb428 (by decide))).tr (xFr.of (S := [83]) hb440 (by decide))).tr (xFr.of (S := [83]) hc450 (by decide))).tr (xFr.of (S := [83]) hb455 (by decide))).tr (xFr.of (S := [83]) hb463 (by decide))).tr (xFr.of (S := [83]) hb472 (by decide))) (List.forall_mem_cons.mpr ⟨xqu83 (show cpx83 (wget w470 83) from ⟨_, hr471, hb473, hx491⟩), fun _ h => absurd h List.not_mem_nil⟩), (hF209.tr (((((((((((((xFr.of (S := [82, 83, 85, 86, 87]) hb344 (by decide)).tr (xFr.of (S := [82, 83, 85, 86, 87]) hb356 (by decide))).tr (xFr.of (S := [82, 83, 85, 86, 87]) hb368 (by decide))).tr (xFr.of (S := [82, 83, 85, 86, 87]) hb380 (by decide))).tr (xFr.of (S := [82, 83, 85, 86, 87]) hb392 (by decide))).tr (xFr.of (S := [82, 83, 85, 86, 87]) hb404 (by decide))).tr (xFr.of (S := [82, 83, 85, 86, 87]) hb416 (by decide))).tr (xFr.of (S := [82, 83, 85, 86, 87]) hb428 (by decide))).tr (xFr.of (S := [82, 83, 85, 86, 87]) hb440 (by decide))).tr (xFr.of (S := [82, 83, 85, 86, 87]) hc450 (by decide))).tr (xFr.of (S := [82, 83, 85, 86, 87]) hb455 (by decide))).tr (xFr.of (S := [82, 83, 85, 86, 87]) hb463 (by decide))).tr (xFr.of (S := [82, 83, 85, 86, 87]) hb472 (by decide))))⟩
                    · refine xg_t (xg_aload (va := (2, 82)) rfl rfl) ?_
                      refine xg_t (xg_getf (va := (2, 83)) h82_250 rfl) ?_
                      refine xg_t (xg_bip) ?_
                      refine xg_ialdB (n := 16) (B := 4294967295) h83_253 (hb254) xnm0 (by first | decide | omega) (fun u512 hu513 he514 => ?_)
                      refine xg_t (xg_ifF (u := u512) rfl xnm0 (xj_eqF (by omega))) ?_
                      refine xg_t (xg_const) ?_
                      have kb516 : KB w w207 := hj216
                      have hR515 : FRes B nn 4294967295 (rwv w207 83 16) (rwv w207 83 17) := by
                        obtain ⟨m, m1, m2, m3, m4⟩ := z2332
                        exact ⟨k_152, hok154, hnok, Or.inr (Or.inr ⟨hend, hc203, XM w147, rwv w147 87, (hM_158.2.2 hc203).1, (hM_158.2.2 hc203).2, Or.inl ⟨rfl, z1330, m, m1, m2, m3, m4⟩⟩)⟩
                      exact xg_e ⟨4294967295, w207, ⟨rfl, rfl⟩, ⟨hR515, kb516.1, fun _ => kb516, fun z => absurd rfl z, fun j h1 h2 => kb516.2 j h2 (by omega) (by omega) (by omega)⟩, hI208, hF209⟩
                · have hc271u := hc271
                  unfold xbs at hc271u
                  have hn517 : kf ≤ 20 := by omega
                  refine xg_t (xg_icT (u := kf) (v := u268) rfl xnm0 xnm0 (xjs_geT hc271)) ?_
                  refine xg_t (xg_blq rfl) ?_
                  have hq518 : rwv w207 83 16 = g83_252 16 := rwv_of h83_253 (by decide)
                  rcases hj213 with ⟨z1519, z3520, z2521⟩ | ⟨z1519, z2521⟩
                  · have hnb : rwv w207 83 16 = 0 ∧ ∀ j, j < kf → ¬ bsX (XM w147) j := ⟨z1519, z2521⟩
                    have hnb2 := z3520
                    refine xg_t (xg_aload (va := (2, 82)) rfl rfl) ?_
                    refine xg_t (xg_getf (va := (2, 83)) h82_250 rfl) ?_
                    refine xg_t (xg_bip) ?_
                    refine xg_ialdB (n := 16) (B := 4294967295) h83_253 (hb254) xnm0 (by first | decide | omega) (fun u522 hu523 he524 => ?_)
                    refine xg_t (xg_ifT (u := u522) rfl xnm0 (xj_eqT (by omega))) ?_
                    refine xg_t (xg_blq rfl) ?_
                    have hMx : MST B nn w147 k_152 := hM_158
                    have hDE := hMx.data hc203
                    have hDD : DATA w207 := by
                      unfold DATA
                      simp only [fun j => rwv_eq (j := j) hj217, fun j => rwv_eq (j := j) hj218]
                      exact hDE
                    have hdt := hDD.toDt h85_259 h86_262
                    have hf526 : fld w207 82 14 = f82_238 := fld_of h82_250
                    refine xg_t (xg_const) ?_
                    refine xg_t (xg_istore (l1 := [(0, (2, 82))]) rfl rfl rfl) ?_
                    refine xg_t (xg_blq rfl) ?_
                    refine xg_t (xg_iload (va := (0, 0)) rfl rfl) ?_
                    refine xg_t (xg_const) ?_
                    refine xg_t (xg_icF (u := 0) (v := 5) rfl xnm0 xnm0 (by decide)) ?_
                    refine xg_t (xg_aload (va := (2, 82)) rfl rfl) ?_
                    refine xg_t (xg_getf (va := (2, 83)) h82_250 rfl) ?_
                    refine xg_t (xg_iload (va := (0, 0)) rfl rfl) ?_
                    refine xg_t (xg_aload (va := (2, 82)) rfl rfl) ?_
                    refine xg_t (xg_getf (va := (2, 85)) h82_250 rfl) ?_
                    refine xg_t (xg_iload (va := (0, 0)) rfl rfl) ?_
                    refine xg_ialdB (n := 0) (B := 4294967295) h85_259 (hb260) xnm0 (by first | decide | omega) (fun u527 hu528 he529 => ?_)
                    have hq530 : rwv w207 85 0 = u527 := (rwv_of h85_259 (by decide)).trans he529
                    refine xg_iastK (n := 0) (u := u527) h83_253 xnm0 xnm0 rfl (by first | decide | omega) (fun w531 hr532 hb533 => ?_)
                    have hb534 : ∀ j, (fun j => if j = 0 then u527 else g83_252 j) j ≤ 4294967295 := xrb (by omega) (hb254)
                    obtain ⟨g535, hg536⟩ : ∃ g : Nat → Nat, g = (fun j => if j = 0 then u527 else g83_252 j) := ⟨_, rfl⟩
                    rw [← hg536] at hr532
                    have he537 : g535 0 = u527 := by rw [hg536]; exact if_pos rfl
                    have hk538 : ∀ j, j ≠ 0 → g535 j = g83_252 j := fun j hj => by rw [hg536]; exact if_neg hj
                    rw [← hg536] at hb534
                    refine xg_t (xg_iinc (u := 0) (z := 1) (l1 := [(0, (2, 82))]) rfl rfl (by decide) rfl) ?_
                    refine xg_t (xg_goto) ?_
                    refine xg_t (xg_blq rfl) ?_
                    refine xg_t (xg_iload (va := (0, 1)) rfl rfl) ?_
                    refine xg_t (xg_const) ?_
                    refine xg_t (xg_icF (u := 1) (v := 5) rfl xnm0 xnm0 (by decide)) ?_
                    refine xg_t (xg_aload (va := (2, 82)) rfl rfl) ?_
                    refine xg_t (xg_getf (va := (2, 83)) (hb533.get (by decide) h82_250) rfl) ?_
                    refine xg_t (xg_iload (va := (0, 1)) rfl rfl) ?_
                    refine xg_t (xg_aload (va := (2, 82)) rfl rfl) ?_
                    refine xg_t (xg_getf (va := (2, 85)) (hb533.get (by decide) h82_250) rfl) ?_
                    refine xg_t (xg_iload (va := (0, 1)) rfl rfl) ?_
                    refine xg_ialdB (n := 1) (B := 4294967295) (h85_259.but hb533 (by decide)) (hb260) xnm0 (by first | decide | omega) (fun u539 hu540 he541 => ?_)
                    have hq542 : rwv w207 85 1 = u539 := (rwv_of h85_259 (by decide)).trans he541
                    refine xg_iastK (n := 1) (u := u539) hr532 xnm0 xnm0 rfl (by first | decide | omega) (fun w543 hr544 hb545 => ?_)
                    have hb546 : ∀ j, (fun j => if j = 1 then u539 else g535 j) j ≤ 4294967295 := xrb (by omega) (hb534)
                    obtain ⟨g547, hg548⟩ : ∃ g : Nat → Nat, g = (fun j => if j = 1 then u539 else g535 j) := ⟨_, rfl⟩
                    rw [← hg548] at hr544
                    have he549 : g547 1 = u539 := by rw [hg548]; exact if_pos rfl
                    have hk550 : ∀ j, j ≠ 1 → g547 j = g535 j := fun j hj => by rw [hg548]; exact if_neg hj
                    rw [← hg548] at hb546
                    refine xg_t (xg_iinc (u := 1) (z := 2) (l1 := [(0, (2, 82))]) rfl rfl (by decide) rfl) ?_
                    refine xg_t (xg_goto) ?_
                    refine xg_t (xg_blq rfl) ?_
                    refine xg_t (xg_iload (va := (0, 2)) rfl rfl) ?_
                    refine xg_t (xg_const) ?_
                    refine xg_t (xg_icF (u := 2) (v := 5) rfl xnm0 xnm0 (by decide)) ?_
                    refine xg_t (xg_aload (va := (2, 82)) rfl rfl) ?_
                    refine xg_t (xg_getf (va := (2, 83)) (hb545.get (by decide) (hb533.get (by decide) h82_250)) rfl) ?_
                    refine xg_t (xg_iload (va := (0, 2)) rfl rfl) ?_
                    refine xg_t (xg_aload (va := (2, 82)) rfl rfl) ?_
                    refine xg_t (xg_getf (va := (2, 85)) (hb545.get (by decide) (hb533.get (by decide) h82_250)) rfl) ?_
                    refine xg_t (xg_iload (va := (0, 2)) rfl rfl) ?_
                    refine xg_ialdB (n := 2) (B := 4294967295) ((h85_259.but hb533 (by decide)).but hb545 (by decide)) (hb260) xnm0 (by first | decide | omega) (fun u551 hu552 he553 => ?_)
                    have hq554 : rwv w207 85 2 = u551 := (rwv_of h85_259 (by decide)).trans he553
                    refine xg_iastK (n := 2) (u := u551) hr544 xnm0 xnm0 rfl (by first | decide | omega) (fun w555 hr556 hb557 => ?_)
                    have hb558 : ∀ j, (fun j => if j = 2 then u551 else g547 j) j ≤ 4294967295 := xrb (by omega) (hb546)
                    obtain ⟨g559, hg560⟩ : ∃ g : Nat → Nat, g = (fun j => if j = 2 then u551 else g547 j) := ⟨_, rfl⟩
                    rw [← hg560] at hr556
                    have he561 : g559 2 = u551 := by rw [hg560]; exact if_pos rfl
                    have hk562 : ∀ j, j ≠ 2 → g559 j = g547 j := fun j hj => by rw [hg560]; exact if_neg hj
                    rw [← hg560] at hb558
                    refine xg_t (xg_iinc (u := 2) (z := 3) (l1 := [(0, (2, 82))]) rfl rfl (by decide) rfl) ?_
                    refine xg_t (xg_goto) ?_
                    refine xg_t (xg_blq rfl) ?_
                    refine xg_t (xg_iload (va := (0, 3)) rfl rfl) ?_
                    refine xg_t (xg_const) ?_
                    refine xg_t (xg_icF (u := 3) (v := 5) rfl xnm0 xnm0 (by decide)) ?_
                    refine xg_t (xg_aload (va := (2, 82)) rfl rfl) ?_
                    refine xg_t (xg_getf (va := (2, 83)) (hb557.get (by decide) (hb545.get (by decide) (hb533.get (by decide) h82_250))) rfl) ?_
                    refine xg_t (xg_iload (va := (0, 3)) rfl rfl) ?_
                    refine xg_t (xg_aload (va := (2, 82)) rfl rfl) ?_
                    refine xg_t (xg_getf (va := (2, 85)) (hb557.get (by decide) (hb545.get (by decide) (hb533.get (by decide) h82_250))) rfl) ?_
                    refine xg_t (xg_iload (va := (0, 3)) rfl rfl) ?_
                    refine xg_ialdB (n := 3) (B := 4294967295) (((h85_259.but hb533 (by decide)).but hb545 (by decide)).but hb557 (by decide)) (hb260) xnm0 (by first | decide | omega) (fun u563 hu564 he565 => ?_)
                    have hq566 : rwv w207 85 3 = u563 := (rwv_of h85_259 (by decide)).trans he565
                    refine xg_iastK (n := 3) (u := u563) hr556 xnm0 xnm0 rfl (by first | decide | omega) (fun w567 hr568 hb569 => ?_)
                    have hb570 : ∀ j, (fun j => if j = 3 then u563 else g559 j) j ≤ 4294967295 := xrb (by omega) (hb558)
                    obtain ⟨g571, hg572⟩ : ∃ g : Nat → Nat, g = (fun j => if j = 3 then u563 else g559 j) := ⟨_, rfl⟩
                    rw [← hg572] at hr568
                    have he573 : g571 3 = u563 := by rw [hg572]; exact if_pos rfl
                    have hk574 : ∀ j, j ≠ 3 → g571 j = g559 j := fun j hj => by rw [hg572]; exact if_neg hj
                    rw [← hg572] at hb570
                    refine xg_t (xg_iinc (u := 3) (z := 4) (l1 := [(0, (2, 82))]) rfl rfl (by decide) rfl) ?_
                    refine xg_t (xg_goto) ?_
                    refine xg_t (xg_blq rfl) ?_
                    refine xg_t (xg_iload (va := (0, 4)) rfl rfl) ?_
                    refine xg_t (xg_const) ?_
                    refine xg_t (xg_icF (u := 4) (v := 5) rfl xnm0 xnm0 (by decide)) ?_
                    refine xg_t (xg_aload (va := (2, 82)) rfl rfl) ?_
                    refine xg_t (xg_getf (va := (2, 83)) (hb569.get (by decide) (hb557.get (by decide) (hb545.get (by decide) (hb533.get (by decide) h82_250)))) rfl) ?_
                    refine xg_t (xg_iload (va := (0, 4)) rfl rfl) ?_
                    refine xg_t (xg_aload (va := (2, 82)) rfl rfl) ?_
                    refine xg_t (xg_getf (va := (2, 85)) (hb569.get (by decide) (hb557.get (by decide) (hb545.get (by decide) (hb533.get (by decide) h82_250)))) rfl) ?_
                    refine xg_t (xg_iload (va := (0, 4)) rfl rfl) ?_
                    refine xg_ialdB (n := 4) (B := 4294967295) ((((h85_259.but hb533 (by decide)).but hb545 (by decide)).but hb557 (by decide)).but hb569 (by decide)) (hb260) xnm0 (by first | decide | omega) (fun u575 hu576 he577 => ?_)
                    have hq578 : rwv w207 85 4 = u575 := (rwv_of h85_259 (by decide)).trans he577
                    refine xg_iastK (n := 4) (u := u575) hr568 xnm0 xnm0 rfl (by first | decide | omega) (fun w579 hr580 hb581 => ?_)
                    have hb582 : ∀ j, (fun j => if j = 4 then u575 else g571 j) j ≤ 4294967295 := xrb (by omega) (hb570)
                    obtain ⟨g583, hg584⟩ : ∃ g : Nat → Nat, g = (fun j => if j = 4 then u575 else g571 j) := ⟨_, rfl⟩
                    rw [← hg584] at hr580
                    have he585 : g583 4 = u575 := by rw [hg584]; exact if_pos rfl
                    have hk586 : ∀ j, j ≠ 4 → g583 j = g571 j := fun j hj => by rw [hg584]; exact if_neg hj
                    rw [← hg584] at hb582
                    refine xg_t (xg_iinc (u := 4) (z := 5) (l1 := [(0, (2, 82))]) rfl rfl (by decide) rfl) ?_
                    refine xg_t (xg_goto) ?_
                    refine xg_t (xg_blq rfl) ?_
                    refine xg_t (xg_iload (va := (0, 5)) rfl rfl) ?_
                    refine xg_t (xg_const) ?_
                    refine xg_t (xg_icT (u := 5) (v := 5) rfl xnm0 xnm0 (by decide)) ?_
                    refine xg_t (xg_blq rfl) ?_
                    refine xg_t (xg_const) ?_
                    refine xg_t (xg_istore (l1 := [(0, (2, 82))]) rfl rfl rfl) ?_
                    refine xg_t (xg_blq rfl) ?_
                    refine xg_t (xg_iload (va := (0, 5)) rfl rfl) ?_
                    refine xg_t (xg_bip) ?_
                    refine xg_t (xg_icF (u := 5) (v := 8) rfl xnm0 xnm0 (by decide)) ?_
                    refine xg_t (xg_aload (va := (2, 82)) rfl rfl) ?_
                    refine xg_t (xg_getf (va := (2, 83)) (hb581.get (by decide) (hb569.get (by decide) (hb557.get (by decide) (hb545.get (by decide) (hb533.get (by decide) h82_250))))) rfl) ?_
                    refine xg_t (xg_iload (va := (0, 5)) rfl rfl) ?_
                    refine xg_t (xg_aload (va := (2, 82)) rfl rfl) ?_
                    refine xg_t (xg_getf (va := (2, 86)) (hb581.get (by decide) (hb569.get (by decide) (hb557.get (by decide) (hb545.get (by decide) (hb533.get (by decide) h82_250))))) rfl) ?_
                    refine xg_t (xg_iload (va := (0, 5)) rfl rfl) ?_
                    refine xg_ialdB (n := 5) (B := 4294967295) (((((h86_262.but hb533 (by decide)).but hb545 (by decide)).but hb557 (by decide)).but hb569 (by decide)).but hb581 (by decide)) (hb263) xnm0 (by first | decide | omega) (fun u587 hu588 he589 => ?_)
                    have hq590 : rwv w207 86 5 = u587 := (rwv_of h86_262 (by decide)).trans he589
                    refine xg_iastK (n := 5) (u := u587) hr580 xnm0 xnm0 rfl (by first | decide | omega) (fun w591 hr592 hb593 => ?_)
                    have hb594 : ∀ j, (fun j => if j = 5 then u587 else g583 j) j ≤ 4294967295 := xrb (by omega) (hb582)
                    obtain ⟨g595, hg596⟩ : ∃ g : Nat → Nat, g = (fun j => if j = 5 then u587 else g583 j) := ⟨_, rfl⟩
                    rw [← hg596] at hr592
                    have he597 : g595 5 = u587 := by rw [hg596]; exact if_pos rfl
                    have hk598 : ∀ j, j ≠ 5 → g595 j = g583 j := fun j hj => by rw [hg596]; exact if_neg hj
                    rw [← hg596] at hb594
                    refine xg_t (xg_iinc (u := 5) (z := 6) (l1 := [(0, (2, 82))]) rfl rfl (by decide) rfl) ?_
                    refine xg_t (xg_goto) ?_
                    refine xg_t (xg_blq rfl) ?_
                    refine xg_t (xg_iload (va := (0, 6)) rfl rfl) ?_
                    refine xg_t (xg_bip) ?_
                    refine xg_t (xg_icF (u := 6) (v := 8) rfl xnm0 xnm0 (by decide)) ?_
                    refine xg_t (xg_aload (va := (2, 82)) rfl rfl) ?_
                    refine xg_t (xg_getf (va := (2, 83)) (hb593.get (by decide) (hb581.get (by decide) (hb569.get (by decide) (hb557.get (by decide) (hb545.get (by decide) (hb533.get (by decide) h82_250)))))) rfl) ?_
                    refine xg_t (xg_iload (va := (0, 6)) rfl rfl) ?_
                    refine xg_t (xg_aload (va := (2, 82)) rfl rfl) ?_
                    refine xg_t (xg_getf (va := (2, 86)) (hb593.get (by decide) (hb581.get (by decide) (hb569.get (by decide) (hb557.get (by decide) (hb545.get (by decide) (hb533.get (by decide) h82_250)))))) rfl) ?_
                    refine xg_t (xg_iload (va := (0, 6)) rfl rfl) ?_
                    refine xg_ialdB (n := 6) (B := 4294967295) ((((((h86_262.but hb533 (by decide)).but hb545 (by decide)).but hb557 (by decide)).but hb569 (by decide)).but hb581 (by decide)).but hb593 (by decide)) (hb263) xnm0 (by first | decide | omega) (fun u599 hu600 he601 => ?_)
                    have hq602 : rwv w207 86 6 = u599 := (rwv_of h86_262 (by decide)).trans he601
                    refine xg_iastK (n := 6) (u := u599) hr592 xnm0 xnm0 rfl (by first | decide | omega) (fun w603 hr604 hb605 => ?_)
                    have hb606 : ∀ j, (fun j => if j = 6 then u599 else g595 j) j ≤ 4294967295 := xrb (by omega) (hb594)
                    obtain ⟨g607, hg608⟩ : ∃ g : Nat → Nat, g = (fun j => if j = 6 then u599 else g595 j) := ⟨_, rfl⟩
                    rw [← hg608] at hr604
                    have he609 : g607 6 = u599 := by rw [hg608]; exact if_pos rfl
                    have hk610 : ∀ j, j ≠ 6 → g607 j = g595 j := fun j hj => by rw [hg608]; exact if_neg hj
                    rw [← hg608] at hb606
                    refine xg_t (xg_iinc (u := 6) (z := 7) (l1 := [(0, (2, 82))]) rfl rfl (by decide) rfl) ?_
                    refine xg_t (xg_goto) ?_
                    refine xg_t (xg_blq rfl) ?_
                    refine xg_t (xg_iload (va := (0, 7)) rfl rfl) ?_
                    refine xg_t (xg_bip) ?_
                    refine xg_t (xg_icF (u := 7) (v := 8) rfl xnm0 xnm0 (by decide)) ?_
                    refine xg_t (xg_aload (va := (2, 82)) rfl rfl) ?_
                    refine xg_t (xg_getf (va := (2, 83)) (hb605.get (by decide) (hb593.get (by decide) (hb581.get (by decide) (hb569.get (by decide) (hb557.get (by decide) (hb545.get (by decide) (hb533.get (by decide) h82_250))))))) rfl) ?_
                    refine xg_t (xg_iload (va := (0, 7)) rfl rfl) ?_
                    refine xg_t (xg_aload (va := (2, 82)) rfl rfl) ?_
                    refine xg_t (xg_getf (va := (2, 86)) (hb605.get (by decide) (hb593.get (by decide) (hb581.get (by decide) (hb569.get (by decide) (hb557.get (by decide) (hb545.get (by decide) (hb533.get (by decide) h82_250))))))) rfl) ?_
                    refine xg_t (xg_iload (va := (0, 7)) rfl rfl) ?_
                    refine xg_ialdB (n := 7) (B := 4294967295) (((((((h86_262.but hb533 (by decide)).but hb545 (by decide)).but hb557 (by decide)).but hb569 (by decide)).but hb581 (by decide)).but hb593 (by decide)).but hb605 (by decide)) (hb263) xnm0 (by first | decide | omega) (fun u611 hu612 he613 => ?_)
                    have hq614 : rwv w207 86 7 = u611 := (rwv_of h86_262 (by decide)).trans he613
                    refine xg_iastK (n := 7) (u := u611) hr604 xnm0 xnm0 rfl (by first | decide | omega) (fun w615 hr616 hb617 => ?_)
                    have hb618 : ∀ j, (fun j => if j = 7 then u611 else g607 j) j ≤ 4294967295 := xrb (by omega) (hb606)
                    obtain ⟨g619, hg620⟩ : ∃ g : Nat → Nat, g = (fun j => if j = 7 then u611 else g607 j) := ⟨_, rfl⟩
                    rw [← hg620] at hr616
                    have he621 : g619 7 = u611 := by rw [hg620]; exact if_pos rfl
                    have hk622 : ∀ j, j ≠ 7 → g619 j = g607 j := fun j hj => by rw [hg620]; exact if_neg hj
                    rw [← hg620] at hb618
                    refine xg_t (xg_iinc (u := 7) (z := 8) (l1 := [(0, (2, 82))]) rfl rfl (by decide) rfl) ?_
                    refine xg_t (xg_goto) ?_
                    refine xg_t (xg_blq rfl) ?_
                    refine xg_t (xg_iload (va := (0, 8)) rfl rfl) ?_
                    refine xg_t (xg_bip) ?_
                    refine xg_t (xg_icF (u := 8) (v := 8) rfl xnm0 xnm0 (by decide)) ?_
                    refine xg_t (xg_aload (va := (2, 82)) rfl rfl) ?_
                    refine xg_t (xg_getf (va := (2, 83)) (hb617.get (by decide) (hb605.get (by decide) (hb593.get (by decide) (hb581.get (by decide) (hb569.get (by decide) (hb557.get (by decide) (hb545.get (by decide) (hb533.get (by decide) h82_250)))))))) rfl) ?_
                    refine xg_t (xg_iload (va := (0, 8)) rfl rfl) ?_
                    refine xg_t (xg_aload (va := (2, 82)) rfl rfl) ?_
                    refine xg_t (xg_getf (va := (2, 86)) (hb617.get (by decide) (hb605.get (by decide) (hb593.get (by decide) (hb581.get (by decide) (hb569.get (by decide) (hb557.get (by decide) (hb545.get (by decide) (hb533.get (by decide) h82_250)))))))) rfl) ?_
                    refine xg_t (xg_iload (va := (0, 8)) rfl rfl) ?_
                    refine xg_ialdB (n := 8) (B := 4294967295) ((((((((h86_262.but hb533 (by decide)).but hb545 (by decide)).but hb557 (by decide)).but hb569 (by decide)).but hb581 (by decide)).but hb593 (by decide)).but hb605 (by decide)).but hb617 (by decide)) (hb263) xnm0 (by first | decide | omega) (fun u623 hu624 he625 => ?_)
                    have hq626 : rwv w207 86 8 = u623 := (rwv_of h86_262 (by decide)).trans he625
                    refine xg_iastK (n := 8) (u := u623) hr616 xnm0 xnm0 rfl (by first | decide | omega) (fun w627 hr628 hb629 => ?_)
                    have hb630 : ∀ j, (fun j => if j = 8 then u623 else g619 j) j ≤ 4294967295 := xrb (by omega) (hb618)
                    obtain ⟨g631, hg632⟩ : ∃ g : Nat → Nat, g = (fun j => if j = 8 then u623 else g619 j) := ⟨_, rfl⟩
                    rw [← hg632] at hr628
                    have he633 : g631 8 = u623 := by rw [hg632]; exact if_pos rfl
                    have hk634 : ∀ j, j ≠ 8 → g631 j = g619 j := fun j hj => by rw [hg632]; exact if_neg hj
                    rw [← hg632] at hb630
                    refine xg_t (xg_iinc (u := 8) (z := 9) (l1 := [(0, (2, 82))]) rfl rfl (by decide) rfl) ?_
                    refine xg_t (xg_goto) ?_
                    refine xg_t (xg_blq rfl) ?_
                    refine xg_t (xg_iload (va := (0, 9)) rfl rfl) ?_
                    refine xg_t (xg_bip) ?_
                    refine xg_t (xg_icT (u := 9) (v := 8) rfl xnm0 xnm0 (by decide)) ?_
                    refine xg_t (xg_blq rfl) ?_
                    refine xg_t (xg_bip) ?_
                    refine xg_t (xg_istore (l1 := [(0, (2, 82))]) rfl rfl rfl) ?_
                    refine xg_t (xg_drop (l1 := [(0, (2, 82)), (1, (0, 20))]) (List.forall_mem_cons.mpr ⟨List.mem_cons_of_mem _ (List.mem_cons_self), List.forall_mem_cons.mpr ⟨List.mem_cons_self, fun _ h => absurd h List.not_mem_nil⟩⟩)) ?_
                    refine cpFilm 120 20 w627 g631 (by decide) hr628 hb630 (((((((((h86_262.but hb533 (by decide)).but hb545 (by decide)).but hb557 (by decide)).but hb569 (by decide)).but hb581 (by decide)).but hb593 (by decide)).but hb605 (by decide)).but hb617 (by decide)).but hb629 (by decide)) hb263 (hb629.get (by decide) (hb617.get (by decide) (hb605.get (by decide) (hb593.get (by decide) (hb581.get (by decide) (hb569.get (by decide) (hb557.get (by decide) (hb545.get (by decide) (hb533.get (by decide) h82_250))))))))) (fun w635 g636 hc637 hc638 hc639 hc640 hc641 => ?_)
                    refine xg_t (xg_blq rfl) ?_
                    refine xg_t (xg_aload (va := (2, 82)) rfl rfl) ?_
                    refine xg_t (xg_getf (va := (2, 83)) (hc639.get (by decide) (hb629.get (by decide) (hb617.get (by decide) (hb605.get (by decide) (hb593.get (by decide) (hb581.get (by decide) (hb569.get (by decide) (hb557.get (by decide) (hb545.get (by decide) (hb533.get (by decide) h82_250)))))))))) rfl) ?_
                    refine xg_t (xg_bip) ?_
                    refine xg_t (xg_const) ?_
                    refine xg_iastK (n := 9) (u := 0) hc637 xnm0 xnm0 rfl (by first | decide | omega) (fun w642 hr643 hb644 => ?_)
                    have hb645 : ∀ j, (fun j => if j = 9 then 0 else g636 j) j ≤ 4294967295 := xrb (by omega) (hc638)
                    obtain ⟨g646, hg647⟩ : ∃ g : Nat → Nat, g = (fun j => if j = 9 then 0 else g636 j) := ⟨_, rfl⟩
                    rw [← hg647] at hr643
                    have he648 : g646 9 = 0 := by rw [hg647]; exact if_pos rfl
                    have hk649 : ∀ j, j ≠ 9 → g646 j = g636 j := fun j hj => by rw [hg647]; exact if_neg hj
                    rw [← hg647] at hb645
                    refine xg_t (xg_aload (va := (2, 82)) rfl rfl) ?_
                    refine xg_t (xg_getf (va := (2, 83)) (hb644.get (by decide) (hc639.get (by decide) (hb629.get (by decide) (hb617.get (by decide) (hb605.get (by decide) (hb593.get (by decide) (hb581.get (by decide) (hb569.get (by decide) (hb557.get (by decide) (hb545.get (by decide) (hb533.get (by decide) h82_250))))))))))) rfl) ?_
                    refine xg_t (xg_bip) ?_
                    refine xg_t (xg_const) ?_
                    refine xg_iastK (n := 10) (u := 0) hr643 xnm0 xnm0 rfl (by first | decide | omega) (fun w650 hr651 hb652 => ?_)
                    have hb653 : ∀ j, (fun j => if j = 10 then 0 else g646 j) j ≤ 4294967295 := xrb (by omega) (hb645)
                    obtain ⟨g654, hg655⟩ : ∃ g : Nat → Nat, g = (fun j => if j = 10 then 0 else g646 j) := ⟨_, rfl⟩
                    rw [← hg655] at hr651
                    have he656 : g654 10 = 0 := by rw [hg655]; exact if_pos rfl
                    have hk657 : ∀ j, j ≠ 10 → g654 j = g646 j := fun j hj => by rw [hg655]; exact if_neg hj
                    rw [← hg655] at hb653
                    refine xg_t (xg_aload (va := (2, 82)) rfl rfl) ?_
                    refine xg_t (xg_getf (va := (2, 83)) (hb652.get (by decide) (hb644.get (by decide) (hc639.get (by decide) (hb629.get (by decide) (hb617.get (by decide) (hb605.get (by decide) (hb593.get (by decide) (hb581.get (by decide) (hb569.get (by decide) (hb557.get (by decide) (hb545.get (by decide) (hb533.get (by decide) h82_250)))))))))))) rfl) ?_
                    refine xg_t (xg_bip) ?_
                    refine xg_t (xg_aload (va := (2, 82)) rfl rfl) ?_
                    refine xg_t (xg_getf (va := (0, f82_238)) (hb652.get (by decide) (hb644.get (by decide) (hc639.get (by decide) (hb629.get (by decide) (hb617.get (by decide) (hb605.get (by decide) (hb593.get (by decide) (hb581.get (by decide) (hb569.get (by decide) (hb557.get (by decide) (hb545.get (by decide) (hb533.get (by decide) h82_250)))))))))))) rfl) ?_
                    have hn658 : f82_238 ≤ 4294967295 := hb239
                    refine xg_iastK (n := 14) (u := f82_238) hr651 xnm0 xnm0 rfl (by first | decide | omega) (fun w659 hr660 hb661 => ?_)
                    have hb662 : ∀ j, (fun j => if j = 14 then f82_238 else g654 j) j ≤ 4294967295 := xrb (by omega) (hb653)
                    obtain ⟨g663, hg664⟩ : ∃ g : Nat → Nat, g = (fun j => if j = 14 then f82_238 else g654 j) := ⟨_, rfl⟩
                    rw [← hg664] at hr660
                    have he665 : g663 14 = f82_238 := by rw [hg664]; exact if_pos rfl
                    have hk666 : ∀ j, j ≠ 14 → g663 j = g654 j := fun j hj => by rw [hg664]; exact if_neg hj
                    rw [← hg664] at hb662
                    have hq667 : g663 0 = u527 := by rw [hk666 0 (by omega), hk657 0 (by omega), hk649 0 (by omega), hc641 0 (by omega), hk634 0 (by omega), hk622 0 (by omega), hk610 0 (by omega), hk598 0 (by omega), hk586 0 (by omega), hk574 0 (by omega), hk562 0 (by omega), hk550 0 (by omega), he537]
                    have hq668 : g663 1 = u539 := by rw [hk666 1 (by omega), hk657 1 (by omega), hk649 1 (by omega), hc641 1 (by omega), hk634 1 (by omega), hk622 1 (by omega), hk610 1 (by omega), hk598 1 (by omega), hk586 1 (by omega), hk574 1 (by omega), hk562 1 (by omega), he549]
                    have hq669 : g663 2 = u551 := by rw [hk666 2 (by omega), hk657 2 (by omega), hk649 2 (by omega), hc641 2 (by omega), hk634 2 (by omega), hk622 2 (by omega), hk610 2 (by omega), hk598 2 (by omega), hk586 2 (by omega), hk574 2 (by omega), he561]
                    have hq670 : g663 3 = u563 := by rw [hk666 3 (by omega), hk657 3 (by omega), hk649 3 (by omega), hc641 3 (by omega), hk634 3 (by omega), hk622 3 (by omega), hk610 3 (by omega), hk598 3 (by omega), hk586 3 (by omega), he573]
                    have hq671 : g663 4 = u575 := by rw [hk666 4 (by omega), hk657 4 (by omega), hk649 4 (by omega), hc641 4 (by omega), hk634 4 (by omega), hk622 4 (by omega), hk610 4 (by omega), hk598 4 (by omega), he585]
                    have hq672 : g663 5 = u587 := by rw [hk666 5 (by omega), hk657 5 (by omega), hk649 5 (by omega), hc641 5 (by omega), hk634 5 (by omega), hk622 5 (by omega), hk610 5 (by omega), he597]
                    have hq673 : g663 6 = u599 := by rw [hk666 6 (by omega), hk657 6 (by omega), hk649 6 (by omega), hc641 6 (by omega), hk634 6 (by omega), hk622 6 (by omega), he609]
                    have hq674 : g663 7 = u611 := by rw [hk666 7 (by omega), hk657 7 (by omega), hk649 7 (by omega), hc641 7 (by omega), hk634 7 (by omega), he621]
                    have hq675 : g663 8 = u623 := by rw [hk666 8 (by omega), hk657 8 (by omega), hk649 8 (by omega), hc641 8 (by omega), he633]
                    have hq676 : g663 9 = 0 := by rw [hk666 9 (by omega), hk657 9 (by omega), he648]
                    have hq677 : g663 10 = 0 := by rw [hk666 10 (by omega), he656]
                    have hq678 : ∀ j, 20 ≤ j → j < 140 → g663 j = g86_261 j := fun j h1 h2 => by rw [hk666 j (by omega), hk657 j (by omega), hk649 j (by omega)]; exact hc640 j h1 h2
                    have hq679 : ∀ j, 140 ≤ j ∨ j = 11 ∨ j = 12 ∨ j = 13 ∨ j = 15 → g663 j = g83_252 j := fun j hj => by rw [hk666 j (by omega), hk657 j (by omega), hk649 j (by omega), hc641 j (by omega), hk634 j (by omega), hk622 j (by omega), hk610 j (by omega), hk598 j (by omega), hk586 j (by omega), hk574 j (by omega), hk562 j (by omega), hk550 j (by omega), hk538 j (by omega)]
                    have hx680 : okA g663 := film_ok hx255 hdt (by omega) (by omega) (by omega) (by omega) (by omega) (by omega) (by omega) (by omega) (by omega) (by omega) (by omega) hq678 (fun j hj => hq679 j (by omega))
                    refine xg_t (xg_aload (va := (2, 82)) rfl rfl) ?_
                    refine xg_t (xg_getf (va := (0, f82_238)) (hb661.get (by decide) (hb652.get (by decide) (hb644.get (by decide) (hc639.get (by decide) (hb629.get (by decide) (hb617.get (by decide) (hb605.get (by decide) (hb593.get (by decide) (hb581.get (by decide) (hb569.get (by decide) (hb557.get (by decide) (hb545.get (by decide) (hb533.get (by decide) h82_250))))))))))))) rfl) ?_
                    have hq683 : rwv w659 83 0 = g663 0 := rwv_of hr660 (by decide)
                    have hq684 : rwv w659 83 1 = g663 1 := rwv_of hr660 (by decide)
                    have hq685 : rwv w659 83 2 = g663 2 := rwv_of hr660 (by decide)
                    have hq686 : rwv w659 83 3 = g663 3 := rwv_of hr660 (by decide)
                    have hq687 : rwv w659 83 4 = g663 4 := rwv_of hr660 (by decide)
                    have hq688 : rwv w659 83 5 = g663 5 := rwv_of hr660 (by decide)
                    have hq689 : rwv w659 83 6 = g663 6 := rwv_of hr660 (by decide)
                    have hq690 : rwv w659 83 7 = g663 7 := rwv_of hr660 (by decide)
                    have hq691 : rwv w659 83 8 = g663 8 := rwv_of hr660 (by decide)
                    have hq692 : rwv w659 83 9 = g663 9 := rwv_of hr660 (by decide)
                    have hq693 : rwv w659 83 10 = g663 10 := rwv_of hr660 (by decide)
                    have hq694 : rwv w659 83 14 = g663 14 := rwv_of hr660 (by decide)
                    have hq695 : rwv w659 83 16 = g663 16 := rwv_of hr660 (by decide)
                    have hq696 : rwv w659 83 17 = g663 17 := rwv_of hr660 (by decide)
                    have h14x : g663 14 = f82_238 := by rw [he665]
                    have h16x : g663 16 = g83_252 16 := by rw [hk666 16 (by decide), hk657 16 (by decide), hk649 16 (by decide), hc641 16 (by omega), hk634 16 (by decide), hk622 16 (by decide), hk610 16 (by decide), hk598 16 (by decide), hk586 16 (by decide), hk574 16 (by decide), hk562 16 (by decide), hk550 16 (by decide), hk538 16 (by decide)]
                    have hq697 : rwv w207 83 16 = g83_252 16 := rwv_of h83_253 (by decide)
                    have h17x : g663 17 = g83_252 17 := by rw [hk666 17 (by decide), hk657 17 (by decide), hk649 17 (by decide), hc641 17 (by omega), hk634 17 (by decide), hk622 17 (by decide), hk610 17 (by decide), hk598 17 (by decide), hk586 17 (by decide), hk574 17 (by decide), hk562 17 (by decide), hk550 17 (by decide), hk538 17 (by decide)]
                    have hq698 : rwv w207 83 17 = g83_252 17 := rwv_of h83_253 (by decide)
                    have hF699 : FLA B nn w659 k_152 := FLA.mk hM_158 hc203 ((show rwv w659 83 0 = rwv w207 85 0 by omega).trans (rwv_eq hj217)) ((show rwv w659 83 1 = rwv w207 85 1 by omega).trans (rwv_eq hj217)) ((show rwv w659 83 2 = rwv w207 85 2 by omega).trans (rwv_eq hj217)) ((show rwv w659 83 3 = rwv w207 85 3 by omega).trans (rwv_eq hj217)) ((show rwv w659 83 4 = rwv w207 85 4 by omega).trans (rwv_eq hj217)) (by omega) ((show rwv w659 83 5 = rwv w207 86 5 by omega).trans (rwv_eq hj218)) ((show rwv w659 83 6 = rwv w207 86 6 by omega).trans (rwv_eq hj218)) ((show rwv w659 83 7 = rwv w207 86 7 by omega).trans (rwv_eq hj218)) ((show rwv w659 83 8 = rwv w207 86 8 by omega).trans (rwv_eq hj218)) (fun j h1 h2 => (rwv_of hr660 (by omega)).trans ((hq678 j h1 h2).trans ((rwv_of h86_262 (by omega)).symm.trans (rwv_eq hj218))))
                    have hz700 : f82_238 = k_152 := by omega
                    have hz16 := hnb.1
                    have hR681 : FRes B nn f82_238 (rwv w659 83 16) (rwv w659 83 17) := by
                      rw [hz700]
                      exact ⟨k_152, hok154, hnok, Or.inr (Or.inr ⟨hend, hc203, XM w147, rwv w147 87, (hM_158.2.2 hc203).1, (hM_158.2.2 hc203).2, Or.inr ⟨rfl, by omega, by omega, hk153, fun j hj => hnb.2 j (by omega)⟩⟩)⟩
                    exact xg_e ⟨f82_238, w659, ⟨rfl, rfl⟩, ⟨hR681, (rwv_of hr660 (by decide)).trans ((hq679 15 (by omega)).trans ((rwv_of h83_253 (by decide)).symm.trans hj216.1)), fun z => absurd z (by omega), fun _ => ⟨by rw [hz700]; exact hF699, by omega, by omega⟩, fun j h1 h2 => (rwv_of hr660 h2).trans ((hq679 j (by omega)).trans ((rwv_of h83_253 h2).symm.trans (hj216.2 j h2 (by omega) (by omega) (by omega))))⟩, xMnv.up (S := [83]) hI208 (((((((((((((xFr.of (S := [83]) hb533 (by decide)).tr (xFr.of (S := [83]) hb545 (by decide))).tr (xFr.of (S := [83]) hb557 (by decide))).tr (xFr.of (S := [83]) hb569 (by decide))).tr (xFr.of (S := [83]) hb581 (by decide))).tr (xFr.of (S := [83]) hb593 (by decide))).tr (xFr.of (S := [83]) hb605 (by decide))).tr (xFr.of (S := [83]) hb617 (by decide))).tr (xFr.of (S := [83]) hb629 (by decide))).tr (xFr.of (S := [83]) hc639 (by decide))).tr (xFr.of (S := [83]) hb644 (by decide))).tr (xFr.of (S := [83]) hb652 (by decide))).tr (xFr.of (S := [83]) hb661 (by decide))) (List.forall_mem_cons.mpr ⟨xqu83 (show cpx83 (wget w659 83) from ⟨_, hr660, hb662, hx680⟩), fun _ h => absurd h List.not_mem_nil⟩), (hF209.tr (((((((((((((xFr.of (S := [82, 83, 85, 86, 87]) hb533 (by decide)).tr (xFr.of (S := [82, 83, 85, 86, 87]) hb545 (by decide))).tr (xFr.of (S := [82, 83, 85, 86, 87]) hb557 (by decide))).tr (xFr.of (S := [82, 83, 85, 86, 87]) hb569 (by decide))).tr (xFr.of (S := [82, 83, 85, 86, 87]) hb581 (by decide))).tr (xFr.of (S := [82, 83, 85, 86, 87]) hb593 (by decide))).tr (xFr.of (S := [82, 83, 85, 86, 87]) hb605 (by decide))).tr (xFr.of (S := [82, 83, 85, 86, 87]) hb617 (by decide))).tr (xFr.of (S := [82, 83, 85, 86, 87]) hb629 (by decide))).tr (xFr.of (S := [82, 83, 85, 86, 87]) hc639 (by decide))).tr (xFr.of (S := [82, 83, 85, 86, 87]) hb644 (by decide))).tr (xFr.of (S := [82, 83, 85, 86, 87]) hb652 (by decide))).tr (xFr.of (S := [82, 83, 85, 86, 87]) hb661 (by decide))))⟩
                  · refine xg_t (xg_aload (va := (2, 82)) rfl rfl) ?_
                    refine xg_t (xg_getf (va := (2, 83)) h82_250 rfl) ?_
                    refine xg_t (xg_bip) ?_
                    refine xg_ialdB (n := 16) (B := 4294967295) h83_253 (hb254) xnm0 (by first | decide | omega) (fun u701 hu702 he703 => ?_)
                    refine xg_t (xg_ifF (u := u701) rfl xnm0 (xj_eqF (by omega))) ?_
                    refine xg_t (xg_const) ?_
                    have kb705 : KB w w207 := hj216
                    have hR704 : FRes B nn 4294967295 (rwv w207 83 16) (rwv w207 83 17) := by
                      obtain ⟨m, m1, m2, m3, m4⟩ := z2521
                      exact ⟨k_152, hok154, hnok, Or.inr (Or.inr ⟨hend, hc203, XM w147, rwv w147 87, (hM_158.2.2 hc203).1, (hM_158.2.2 hc203).2, Or.inl ⟨rfl, z1519, m, m1, m2, m3, m4⟩⟩)⟩
                    exact xg_e ⟨4294967295, w207, ⟨rfl, rfl⟩, ⟨hR704, kb705.1, fun _ => kb705, fun z => absurd rfl z, fun j h1 h2 => kb705.2 j h2 (by omega) (by omega) (by omega)⟩, hI208, hF209⟩
            exact key204 _ 0 w147 (Nat.lt_succ_self _) (by omega) (hI148) (hF149) (⟨Or.inl ⟨hM_158.1.2.2.1.1.trans hc203, hM_158.1.2.2.1.2.2.2 hc203, fun j hj => absurd hj (Nat.not_lt_zero _)⟩, hM_158.1.1, hM_158.1.2.1, kb156, rfl, rfl, rfl⟩)
          · refine xg_t (xg_const) ?_
            refine xg_t (xg_istore (l1 := [(0, (2, 82))]) rfl rfl rfl) ?_
            refine xg_t (xg_blq rfl) ?_
            refine xg_t (xg_iload (va := (0, 0)) rfl rfl) ?_
            refine xg_t (xg_aload (va := (2, 82)) rfl rfl) ?_
            refine xg_t (xg_getf (va := (2, 85)) h82_193 rfl) ?_
            refine xg_t (xg_const) ?_
            refine xoI (xqc85 hI148 : cpI 7 52 4294967295 (wget w147 85)) (fun g85_706 h85_707 hb708 => ?_)
            refine xg_ialdB (n := 4) (B := 4294967295) h85_707 (hb708) xnm0 (by first | decide | omega) (fun u709 hu710 he711 => ?_)
            by_cases hc712 : xbs 0 < xbs u709
            · have hc712u := hc712
              unfold xbs at hc712u
              have hn713 : u709 ≤ 2147483647 := by omega
              refine xg_t (xg_icF (u := 0) (v := u709) rfl xnm0 xnm0 (xjs_geF hc712)) ?_
              refine xg_t (xg_aload (va := (2, 82)) rfl rfl) ?_
              refine xg_t (xg_getf (va := (2, 83)) h82_193 rfl) ?_
              refine xg_t (xg_bip) ?_
              refine xoX83 (xqc83 hI148 : cpx83 (wget w147 83)) (fun g83_714 h83_715 hb716 hx717 => ?_)
              refine xg_ialdB (n := 16) (B := 4294967295) h83_715 (hb716) xnm0 (by first | decide | omega) (fun u718 hu719 he720 => ?_)
              have hq721 : rwv w147 83 16 = g83_714 16 := rwv_of h83_715 (by decide)
              have hz722 := hM_158.1.2.2.1.1
              refine xg_t (xg_ifT (u := u718) rfl xnm0 (xj_neT (by omega))) ?_
              refine xg_t (xg_blq rfl) ?_
              have hq723 : rwv w147 83 16 = g83_714 16 := rwv_of h83_715 (by decide)
              have hz724 := hM_158.1.2.2.1.1
              refine xg_t (xg_aload (va := (2, 82)) rfl rfl) ?_
              refine xg_t (xg_getf (va := (2, 83)) h82_193 rfl) ?_
              refine xg_t (xg_bip) ?_
              refine xg_ialdB (n := 16) (B := 4294967295) h83_715 (hb716) xnm0 (by first | decide | omega) (fun u725 hu726 he727 => ?_)
              refine xg_t (xg_ifF (u := u725) rfl xnm0 (xj_eqF (by omega))) ?_
              refine xg_t (xg_const) ?_
              have kb729 : KB w w147 := kb156
              have hR728 : FRes B nn 4294967295 (rwv w147 83 16) (rwv w147 83 17) := ⟨k_152, hok154, hnok, Or.inr (Or.inl ⟨hend, hc203, rfl, hM_158.1.2.2.1.1, (hM_158.1.2.2.1.2.1 hc203).1⟩)⟩
              exact xg_e ⟨4294967295, w147, ⟨rfl, rfl⟩, ⟨hR728, kb729.1, fun _ => kb729, fun z => absurd rfl z, fun j h1 h2 => kb729.2 j h2 (by omega) (by omega) (by omega)⟩, hI148, hF149⟩
            · have hc712u := hc712
              unfold xbs at hc712u
              refine xg_t (xg_icT (u := 0) (v := u709) rfl xnm0 xnm0 (xjs_geT hc712)) ?_
              refine xg_t (xg_blq rfl) ?_
              refine xoX83 (xqc83 hI148 : cpx83 (wget w147 83)) (fun g83_730 h83_731 hb732 hx733 => ?_)
              have hq734 : rwv w147 83 16 = g83_730 16 := rwv_of h83_731 (by decide)
              have hz735 := hM_158.1.2.2.1.1
              refine xg_t (xg_aload (va := (2, 82)) rfl rfl) ?_
              refine xg_t (xg_getf (va := (2, 83)) h82_193 rfl) ?_
              refine xg_t (xg_bip) ?_
              refine xg_ialdB (n := 16) (B := 4294967295) h83_731 (hb732) xnm0 (by first | decide | omega) (fun u736 hu737 he738 => ?_)
              refine xg_t (xg_ifF (u := u736) rfl xnm0 (xj_eqF (by omega))) ?_
              refine xg_t (xg_const) ?_
              have kb740 : KB w w147 := kb156
              have hR739 : FRes B nn 4294967295 (rwv w147 83 16) (rwv w147 83 17) := ⟨k_152, hok154, hnok, Or.inr (Or.inl ⟨hend, hc203, rfl, hM_158.1.2.2.1.1, (hM_158.1.2.2.1.2.1 hc203).1⟩)⟩
              exact xg_e ⟨4294967295, w147, ⟨rfl, rfl⟩, ⟨hR739, kb740.1, fun _ => kb740, fun z => absurd rfl z, fun j h1 h2 => kb740.2 j h2 (by omega) (by omega) (by omega)⟩, hI148, hF149⟩
        · refine xg_t (xg_ifF (u := f82_173) rfl xnm0 (xj_eqF hc201)) ?_
          refine xg_t (xg_aload (va := (2, 82)) rfl rfl) ?_
          have hn0741 : tkd B nn (lnP B nn k_152) ≠ 0 := by omega
          refine xg_cVv mX12_aLine (vs := []) (rest := []) (cn1 := 0) (sl1 := 0) rfl (mALnX (k := k_152) (hI148) (hB.kb kb156) rfl hT_157 hM_158 hk153) rfl h82_193 rfl rfl rfl rfl rfl rfl (fun w742 hq743 => ?_)
          obtain ⟨hI744, hF745, hx746⟩ := hq743
          obtain ⟨hx747, k8_748, hle749⟩ := hx746
          have kb750 := kb156.kp k8_748
          rcases hx747 with ⟨q_751, lf752, hW_753⟩ | ⟨hok754, hT_755, hM_756⟩
          · have hz757 := hW_753.1
            refine xg_t (xg_goto) ?_
            exact ih145 w742 (by omega) (hI744) ((hF149.tr (hF745.up (by decide)))) (⟨⟨k_152, hk153, hok154, Or.inr ⟨q_751, lf752, hn0741, hW_753⟩⟩, kb750⟩)
          · have hok758 : ∀ i, i < k_152 + 1 → (lnR B nn (lnP B nn i)).1 = true := fun i hi => (Nat.lt_or_eq_of_le (Nat.le_of_lt_succ hi)).elim (fun z => hok154 i z) (fun z => by rw [z]; exact hok754)
            have hl759 : k_152 + 1 ≤ 500 := by
              have z1 := lnP_ge hok758
              have z2 := lnP_le (B := B) (n := nn) (k := k_152 + 1)
              have z3 := hB.1
              omega
            have hz760 := hM_756.1.1
            have hz761 := hM_756.1.2.1
            refine xg_t (xg_goto) ?_
            exact ih145 w742 (by omega) (hI744) ((hF149.tr (hF745.up (by decide)))) (⟨⟨k_152 + 1, hl759, hok758, Or.inl ⟨hT_755, hM_756⟩⟩, kb750⟩)
      · refine xoCh82 (xqc82 hI148 : cp82 (wget w147 82)) (fun f82_762 f82_764 f82_766 f82_768 f82_770 f82_772 f82_774 f82_776 f82_778 f82_780 f82_782 f82_783 f82_784 f82_786 f82_788 f82_790 h82_792 hb763 hb765 hb767 hb769 hb771 hb773 hb775 hb777 hb779 hb781 hb785 hb787 hb789 hb791 hb793 => ?_)
        have hf794 : fld w147 82 10 = f82_778 := fld_of h82_792
        have hz795 := hW_162.1
        refine xg_t (xg_aload (va := (2, 82)) rfl rfl) ?_
        refine xg_t (xg_getf (va := (0, f82_778)) h82_792 rfl) ?_
        refine xg_t (xg_ifT (u := f82_778) rfl xnm0 (xj_neT (by omega))) ?_
        refine xg_t (xg_blq rfl) ?_
        refine xg_t (xg_const) ?_
        refine xg_t (xg_istore (l1 := [(0, (2, 82))]) rfl rfl rfl) ?_
        refine xg_t (xg_blq rfl) ?_
        refine xg_t (xg_iload (va := (0, 0)) rfl rfl) ?_
        refine xg_t (xg_aload (va := (2, 82)) rfl rfl) ?_
        refine xg_t (xg_getf (va := (2, 85)) h82_792 rfl) ?_
        refine xg_t (xg_const) ?_
        refine xoI (xqc85 hI148 : cpI 7 52 4294967295 (wget w147 85)) (fun g85_796 h85_797 hb798 => ?_)
        refine xg_ialdB (n := 4) (B := 4294967295) h85_797 (hb798) xnm0 (by first | decide | omega) (fun u799 hu800 he801 => ?_)
        by_cases hc802 : xbs 0 < xbs u799
        · have hc802u := hc802
          unfold xbs at hc802u
          have hn803 : u799 ≤ 2147483647 := by omega
          refine xg_t (xg_icF (u := 0) (v := u799) rfl xnm0 xnm0 (xjs_geF hc802)) ?_
          refine xg_t (xg_aload (va := (2, 82)) rfl rfl) ?_
          refine xg_t (xg_getf (va := (2, 83)) h82_792 rfl) ?_
          refine xg_t (xg_bip) ?_
          refine xoX83 (xqc83 hI148 : cpx83 (wget w147 83)) (fun g83_804 h83_805 hb806 hx807 => ?_)
          refine xg_ialdB (n := 16) (B := 4294967295) h83_805 (hb806) xnm0 (by first | decide | omega) (fun u808 hu809 he810 => ?_)
          have hq811 : rwv w147 83 16 = g83_804 16 := rwv_of h83_805 (by decide)
          have hz812 := hW_162.2.1
          refine xg_t (xg_ifT (u := u808) rfl xnm0 (xj_neT (by omega))) ?_
          refine xg_t (xg_blq rfl) ?_
          have hq813 : rwv w147 83 16 = g83_804 16 := rwv_of h83_805 (by decide)
          have hz814 := hW_162.2.1
          refine xg_t (xg_aload (va := (2, 82)) rfl rfl) ?_
          refine xg_t (xg_getf (va := (2, 83)) h82_792 rfl) ?_
          refine xg_t (xg_bip) ?_
          refine xg_ialdB (n := 16) (B := 4294967295) h83_805 (hb806) xnm0 (by first | decide | omega) (fun u815 hu816 he817 => ?_)
          refine xg_t (xg_ifF (u := u815) rfl xnm0 (xj_eqF (by omega))) ?_
          refine xg_t (xg_const) ?_
          have kb819 : KB w w147 := kb156
          have hR818 : FRes B nn 4294967295 (rwv w147 83 16) (rwv w147 83 17) := ⟨k_152, hok154, by rw [lf160]; exact Bool.false_ne_true, Or.inl ⟨h0_161, rfl, hW_162.2.1, by rw [lf160]; exact hW_162.2.2⟩⟩
          exact xg_e ⟨4294967295, w147, ⟨rfl, rfl⟩, ⟨hR818, kb819.1, fun _ => kb819, fun z => absurd rfl z, fun j h1 h2 => kb819.2 j h2 (by omega) (by omega) (by omega)⟩, hI148, hF149⟩
        · have hc802u := hc802
          unfold xbs at hc802u
          refine xg_t (xg_icT (u := 0) (v := u799) rfl xnm0 xnm0 (xjs_geT hc802)) ?_
          refine xg_t (xg_blq rfl) ?_
          refine xoX83 (xqc83 hI148 : cpx83 (wget w147 83)) (fun g83_820 h83_821 hb822 hx823 => ?_)
          have hq824 : rwv w147 83 16 = g83_820 16 := rwv_of h83_821 (by decide)
          have hz825 := hW_162.2.1
          refine xg_t (xg_aload (va := (2, 82)) rfl rfl) ?_
          refine xg_t (xg_getf (va := (2, 83)) h82_792 rfl) ?_
          refine xg_t (xg_bip) ?_
          refine xg_ialdB (n := 16) (B := 4294967295) h83_821 (hb822) xnm0 (by first | decide | omega) (fun u826 hu827 he828 => ?_)
          refine xg_t (xg_ifF (u := u826) rfl xnm0 (xj_eqF (by omega))) ?_
          refine xg_t (xg_const) ?_
          have kb830 : KB w w147 := kb156
          have hR829 : FRes B nn 4294967295 (rwv w147 83 16) (rwv w147 83 17) := ⟨k_152, hok154, by rw [lf160]; exact Bool.false_ne_true, Or.inl ⟨h0_161, rfl, hW_162.2.1, by rw [lf160]; exact hW_162.2.2⟩⟩
          exact xg_e ⟨4294967295, w147, ⟨rfl, rfl⟩, ⟨hR829, kb830.1, fun _ => kb830, fun z => absurd rfl z, fun j h1 h2 => kb830.2 j h2 (by omega) (by omega) (by omega)⟩, hI148, hF149⟩
  exact key144 _ w134 (Nat.lt_succ_self _) (hI136) ((((hF46.up (by decide)).tr (((((((((((xFr.of (S := [82, 83, 85, 86, 87]) hb90 (by decide)).tr (xFr.of (S := [82, 83, 85, 86, 87]) hb93 (by decide))).tr (xFr.of (S := [82, 83, 85, 86, 87]) hb96 (by decide))).tr (xFr.of (S := [82, 83, 85, 86, 87]) hb99 (by decide))).tr (xFr.of (S := [82, 83, 85, 86, 87]) hb102 (by decide))).tr (xFr.of (S := [82, 83, 85, 86, 87]) hb105 (by decide))).tr (xFr.of (S := [82, 83, 85, 86, 87]) hb108 (by decide))).tr (xFr.of (S := [82, 83, 85, 86, 87]) hb111 (by decide))).tr (xFr.of (S := [82, 83, 85, 86, 87]) hb114 (by decide))).tr (xFr.of (S := [82, 83, 85, 86, 87]) hb117 (by decide))).tr (xFr.of (S := [82, 83, 85, 86, 87]) hb120 (by decide)))).tr (hF137.up (by decide)))) (⟨⟨0, Nat.zero_le _, fun i hi => absurd hi (Nat.not_lt_zero _), Or.inl ⟨ht139, hM142⟩⟩, kb143⟩)
end XFMG
end
section
/-! the tape's bytes alike in class and model (for p4) -/
def bq (w : List (List xE)) (b k : Nat) : Prop := fld w b 1 ≤ 500 ∧ ∀ j, j < fld w b 1 → rwv w 83 (1340 * k + 400 + j) = rwk w (b + 1) j % 256
theorem bq.cp {w w' : List (List xE)} {D S k k' : Nat} (h : bq w S k) (e : tdE w' D w S) (r : ∀ j, j < 1340 → rwv w' 83 (1340 * k' + j) = rwv w 83 (1340 * k + j)) : bq w' D k' := by
  obtain ⟨h1, h2⟩ := h
  obtain ⟨⟨e1, -⟩, e2, -⟩ := e
  refine ⟨by rw [e1]; exact h1, fun j hj => ?_⟩
  rw [e1] at hj
  have a1 := r (400 + j) (by omega)
  rw [← Nat.add_assoc, ← Nat.add_assoc] at a1
  rw [a1, h2 j hj]
  exact congrArg (· % 256) (e2 j (by omega)).symm
theorem bq.kp {w w' : List (List xE)} {b k : Nat} (h : bq w b k) (hc : ∀ o, o < 25 → wget w' (b + o) = wget w (b + o)) (hr : ∀ j, 1340 * k ≤ j → j < 1340 * k + 1340 → rwv w' 83 j = rwv w 83 j) : bq w' b k := h.cp (tdE.rf.tr0 hc (fun _ _ => rfl)) (fun j hj => hr _ (by omega) (by omega))
/-- a call that leaves the tape, or cuts it -/
theorem bq.st {w w2 : List (List xE)} (h : bq w 1 0) (e1 : fld w2 1 1 ≤ fld w 1 1) (e2 : ∀ j, j < fld w2 1 1 → rwk w2 2 j = rwk w 2 j) (r : ∀ j, j < fld w2 1 1 → rwv w2 83 (400 + j) = rwv w 83 (400 + j)) : bq w2 1 0 := by
  obtain ⟨h1, h2⟩ := h
  refine ⟨by omega, fun j hj => ?_⟩
  have a := h2 j (by omega)
  rw [show 1340 * 0 + 400 + j = 400 + j by omega] at a ⊢
  rw [r j hj, a]
  exact congrArg (· % 256) (e2 j hj).symm
/-- feed -/
theorem bq.fd {w w1 w2 : List (List xE)} {S : List Nat} {a b c d e n n2 : Nat} (h : bq w 1 0) (hl : fld w 1 1 = rwv w 83 15) (hF : (n = fld w 1 1 + 20 ∧ fld w 1 1 ≤ 480 ∧ fld w1 1 1 = fld w 1 1 + 20 ∧ (∀ i, i < 20 → rwk w1 2 (fld w 1 1 + i) % 256 = fdB a b c d e i) ∧ (∀ j, j < fld w 1 1 → rwk w1 2 j = rwk w 2 j)) ∨ (n = 4294967295 ∧ ¬ fld w 1 1 ≤ 480 ∧ w1 = w)) (hR : xFr S w w1) (hS : 83 ∉ S) (hG : ((n2 = rwv w1 83 15 + 20 ∧ rwv w1 83 15 ≤ 480 ∧ rwv w2 83 15 = rwv w1 83 15 + 20 ∧ (∀ i, i < 20 → rwv w2 83 (400 + rwv w1 83 15 + i) = fdB a b c d e i)) ∨ (n2 = 4294967295 ∧ ¬ rwv w1 83 15 ≤ 480 ∧ rwv w2 83 15 = rwv w1 83 15)) ∧ ∀ j, j < 5360 → (j ≠ 15 ∧ (j < 400 + rwv w1 83 15 ∨ 900 ≤ j)) → rwv w2 83 j = rwv w1 83 j) (hR2 : xFr [83] w1 w2) : n = n2 ∧ bq w2 1 0 ∧ fld w2 1 1 = rwv w2 83 15 := by
  obtain ⟨h1, h2⟩ := h
  obtain ⟨g1, g2⟩ := hG
  have k83 : ∀ j, rwv w1 83 j = rwv w 83 j := fun j => rwv_fr hR hS
  have c1 : fld w2 1 1 = fld w1 1 1 := fld_fr hR2 (by decide)
  have c2 : ∀ j, rwk w2 2 j = rwk w1 2 j := fun j => rwv_fr hR2 (by decide)
  have k15 := k83 15
  rcases hF with ⟨f1, f2, f3, f4, f5⟩ | ⟨f1, f2, rfl⟩
  · rcases g1 with ⟨x1, x2, x3, x4⟩ | ⟨x1, x2, x3⟩
    · refine ⟨by omega, ⟨by omega, fun j hj => ?_⟩, by omega⟩
      rw [show 1340 * 0 + 400 + j = 400 + j by omega]
      show _ = rwk w2 2 j % 256
      rw [c2]
      by_cases y : j < fld w 1 1
      · have a := h2 j y
        rw [show 1340 * 0 + 400 + j = 400 + j by omega] at a
        rw [g2 (400 + j) (by omega) ⟨by omega, by omega⟩, k83, a, f5 j y]
      · have a := f4 (j - fld w 1 1) (by omega)
        have b' := x4 (j - fld w 1 1) (by omega)
        rw [show fld w 1 1 + (j - fld w 1 1) = j by omega] at a
        rw [show 400 + rwv w1 83 15 + (j - fld w 1 1) = 400 + j by omega] at b'
        rw [b', a]
    · omega
  · rcases g1 with ⟨x1, x2, x3, x4⟩ | ⟨x1, x2, x3⟩
    · omega
    · refine ⟨by omega, ⟨by omega, fun j hj => ?_⟩, by omega⟩
      have a := h2 j (by omega)
      rw [show 1340 * 0 + 400 + j = 400 + j by omega] at a ⊢
      show _ = rwk w2 2 j % 256
      rw [c2, g2 (400 + j) (by omega) ⟨by omega, by omega⟩, a]
/-- the texts that film reads on both sides -/
theorem bq.txt {w w1 : List (List xE)} {S : List Nat} (h : bq w 1 0) (hR : xFr S w w1) (hS : 83 ∉ S) : bsr w (fun j => rwk w 2 j % 256) (fld w 1 1) ∧ bsm w1 (fun j => rwk w 2 j % 256) (fld w 1 1) := by
  obtain ⟨h1, h2⟩ := h
  refine ⟨⟨h1, fun j _ => rfl⟩, h1, fun j hj => ⟨?_, by have := Nat.mod_lt (rwk w 2 j) (show 0 < 256 by decide); show rwk w 2 j % 256 ≤ 255; omega⟩⟩
  have a := h2 j hj
  rw [show 1340 * 0 + 400 + j = 400 + j by omega] at a
  exact (rwv_fr hR hS).trans a
end
section
/-! all that is told, alike in class and model, but for cracks, fault and rules (al) -/
/-- rows of numbers alike: cells c, c + 1 of the class; how many at m, the numbers from base on, of block k of the model -/
def rq (w : List (List xE)) (c m base wd lim k : Nat) : Prop := fld w c 3 = rwv w 83 (1340 * k + m) ∧ fld w c 3 ≤ lim ∧ ∀ j, j < fld w c 3 * wd → rwv w (c + 1) j = rwv w 83 (1340 * k + (base + j))
theorem rq.cp {w w' : List (List xE)} {D S m base wd lim k k' : Nat} (h : rq w S m base wd lim k) (e : rwE w' D w S wd) (hm : m < 1340) (hN : base + lim * wd ≤ 1340) (r : ∀ j, j < 1340 → rwv w' 83 (1340 * k' + j) = rwv w 83 (1340 * k + j)) : rq w' D m base wd lim k' := by
  obtain ⟨h1, h2, h3⟩ := h
  obtain ⟨e1, e2⟩ := e
  refine ⟨by rw [e1, r m hm]; exact h1, by rw [e1]; exact h2, fun j hj => ?_⟩
  rw [e1] at hj
  have hl : fld w S 3 * wd ≤ lim * wd := Nat.mul_le_mul_right wd h2
  rw [e2 j hj, h3 j hj]
  exact (r (base + j) (by omega)).symm
theorem rq.kp {w w' : List (List xE)} {c m base wd lim : Nat} (h : rq w c m base wd lim 0) (a : wget w' c = wget w c) (b : wget w' (c + 1) = wget w (c + 1)) (r0 : rwv w' 83 m = rwv w 83 m) (r : ∀ j, base ≤ j → j < base + lim * wd → rwv w' 83 j = rwv w 83 j) : rq w' c m base wd lim 0 := by
  obtain ⟨h1, h2, h3⟩ := h
  rw [Nat.mul_zero, Nat.zero_add] at h1
  have e : fld w' c 3 = fld w c 3 := fld_eq a
  refine ⟨by rw [Nat.mul_zero, Nat.zero_add, e, r0]; exact h1, by rw [e]; exact h2, fun j hj => ?_⟩
  rw [e] at hj
  have hl : fld w c 3 * wd ≤ lim * wd := Nat.mul_le_mul_right wd h2
  have q := h3 j hj
  rw [Nat.mul_zero, Nat.zero_add] at q ⊢
  rw [rwv_eq b, q, r (base + j) (by omega) (by omega)]
theorem rq.kq {w w' : List (List xE)} {c m base wd lim : Nat} (h : rq w c m base wd lim 0) (a : wget w' c = wget w c) (b : wget w' (c + 1) = wget w (c + 1)) (r0 : rwv w' 83 m = rwv w 83 m) (r : ∀ j, j < fld w c 3 * wd → rwv w' 83 (base + j) = rwv w 83 (base + j)) : rq w' c m base wd lim 0 := by
  obtain ⟨h1, h2, h3⟩ := h
  rw [Nat.mul_zero, Nat.zero_add] at h1
  have e : fld w' c 3 = fld w c 3 := fld_eq a
  refine ⟨by rw [Nat.mul_zero, Nat.zero_add, e, r0]; exact h1, by rw [e]; exact h2, fun j hj => ?_⟩
  rw [e] at hj
  have q := h3 j hj
  rw [Nat.mul_zero, Nat.zero_add] at q ⊢
  rw [rwv_eq b, q, r j hj]
theorem rq.get {w : List (List xE)} {c m base wd lim j : Nat} (h : rq w c m base wd lim 0) (hj : j < fld w c 3 * wd) : rwv w (c + 1) j = rwv w 83 (base + j) := by
  have q := h.2.2 j hj
  rw [Nat.mul_zero, Nat.zero_add] at q
  exact q
theorem rq.sz {w : List (List xE)} {c m base wd lim : Nat} (h : rq w c m base wd lim 0) : fld w c 3 = rwv w 83 m := by
  have q := h.1
  rw [Nat.mul_zero, Nat.zero_add] at q
  exact q
theorem rq.mk0 {w : List (List xE)} {c m base wd lim : Nat} (h1 : fld w c 3 = rwv w 83 m) (h2 : fld w c 3 ≤ lim) (h3 : ∀ j, j < fld w c 3 * wd → rwv w (c + 1) j = rwv w 83 (base + j)) : rq w c m base wd lim 0 := by
  refine ⟨?_, h2, fun j hj => ?_⟩
  · rw [Nat.mul_zero, Nat.zero_add]
    exact h1
  · rw [Nat.mul_zero, Nat.zero_add]
    exact h3 j hj
theorem rq.push {w w2 : List (List xE)} {c m base wd lim : Nat} (h : rq w c m base wd lim 0) (a1 : fld w2 c 3 = fld w c 3 + 1) (a2 : fld w c 3 < lim) (b1 : rwv w2 83 m = rwv w 83 m + 1) (k1 : ∀ j, j < fld w c 3 * wd → rwv w2 (c + 1) j = rwv w (c + 1) j) (k2 : ∀ j, j < fld w c 3 * wd → rwv w2 83 (base + j) = rwv w 83 (base + j)) (v : ∀ t, t < wd → rwv w2 (c + 1) (fld w c 3 * wd + t) = rwv w2 83 (base + (fld w c 3 * wd + t))) : rq w2 c m base wd lim 0 := by
  have hz := h.sz
  refine rq.mk0 (by omega) (by omega) (fun j hj => ?_)
  rw [a1, Nat.add_mul, Nat.one_mul] at hj
  by_cases y : j < fld w c 3 * wd
  · rw [k1 j y, k2 j y]
    exact h.get y
  · have q := v (j - fld w c 3 * wd) (by omega)
    rw [show fld w c 3 * wd + (j - fld w c 3 * wd) = j by omega] at q
    exact q
/-- the tape -/
def aqT (w : List (List xE)) (b k : Nat) : Prop := fld w b 1 = rwv w 83 (1340 * k + 15) ∧ bq w b k
/-- days -/
def aqD (w : List (List xE)) (b k : Nat) : Prop := fld w b 6 = rwv w 83 (1340 * k + 11) ∧ fld w b 7 = rwv w 83 (1340 * k + 12) ∧ fld w b 9 = rwv w 83 (1340 * k + 13) ∧ fld w b 6 ≤ 999
/-- the film -/
def aqF (w : List (List xE)) (b k : Nat) : Prop := (fld w (b + 2) 5 = rwv w 83 (1340 * k + 7) ∧ fld w (b + 2) 6 = rwv w 83 (1340 * k + 8) ∧ fld w (b + 2) 7 = rwv w 83 (1340 * k + 5) ∧ fld w (b + 2) 8 = rwv w 83 (1340 * k + 6) ∧ fld w (b + 2) 9 = rwv w 83 (1340 * k + 14)) ∧ rq w (b + 3) 0 20 4 6 k ∧ rq w (b + 5) 1 50 2 4 k ∧ rq w (b + 7) 2 60 2 6 k ∧ rq w (b + 9) 3 80 3 4 k ∧ rq w (b + 11) 4 100 2 20 k
/-- pictures -/
def aqP (w : List (List xE)) (b k : Nat) : Prop := fld w (b + 15) 3 = rwv w 83 (1340 * k + 10) ∧ fld w (b + 15) 3 ≤ 12 ∧ ∀ i, i < fld w (b + 15) 3 → (∀ t, t < 4 → rwv w (b + 16) (5 * i + t) = rwv w 83 (1340 * k + (300 + 6 * i + t))) ∧ rwv w (b + 16) (5 * i + 4) = rwv w 83 (1340 * k + (304 + 6 * i)) * rwv w 83 (1340 * k + (305 + 6 * i))
def al (w : List (List xE)) (b k : Nat) : Prop := aqT w b k ∧ aqD w b k ∧ aqF w b k ∧ aqP w b k ∧ rq w (b + 17) 900 950 3 4 k ∧ rq w (b + 19) 901 970 4 12 k
theorem al.cp {w w' : List (List xE)} {D S k k' : Nat} (h : al w S k) (e : tdE w' D w S) (r : ∀ j, j < 1340 → rwv w' 83 (1340 * k' + j) = rwv w 83 (1340 * k + j)) : al w' D k' := by
  obtain ⟨⟨t1, t2⟩, ⟨d1, d2, d3, d4⟩, ⟨⟨f1, f2, f3, f4, f5⟩, g1, g2, g3, g4, g5⟩, ⟨p1, p2, p3⟩, h1, h2⟩ := h
  have e0 := e
  obtain ⟨⟨e1, -, -, e6, e7, e9⟩, -, ⟨⟨x5, x6, x7, x8, x9⟩, y1, y2, y3, y4, y5⟩, -, ⟨z1, z2⟩, v1, v2, -, -⟩ := e
  refine ⟨⟨by rw [e1, r 15 (by decide)]; exact t1, t2.cp e0 r⟩, ⟨by rw [e6, r 11 (by decide)]; exact d1, by rw [e7, r 12 (by decide)]; exact d2, by rw [e9, r 13 (by decide)]; exact d3, by rw [e6]; exact d4⟩, ⟨⟨by rw [x5, r 7 (by decide)]; exact f1, by rw [x6, r 8 (by decide)]; exact f2, by rw [x7, r 5 (by decide)]; exact f3, by rw [x8, r 6 (by decide)]; exact f4, by rw [x9, r 14 (by decide)]; exact f5⟩, g1.cp y1 (by decide) (by decide) r, g2.cp y2 (by decide) (by decide) r, g3.cp y3 (by decide) (by decide) r, g4.cp y4 (by decide) (by decide) r, g5.cp y5 (by decide) (by decide) r⟩, ⟨by rw [z1, r 10 (by decide)]; exact p1, by rw [z1]; exact p2, fun i hi => ?_⟩, h1.cp v1 (by decide) (by decide) r, h2.cp v2 (by decide) (by decide) r⟩
  rw [z1] at hi
  obtain ⟨q1, q2⟩ := p3 i hi
  have z2 : ∀ j, j < fld w (S + 15) 3 * 5 → rwv w' (D + 16) j = rwv w (S + 16) j := z2
  refine ⟨fun t ht => ?_, ?_⟩
  · rw [z2 (5 * i + t) (by omega), q1 t ht]
    exact (r (300 + 6 * i + t) (by omega)).symm
  · rw [z2 (5 * i + 4) (by omega), q2, r (304 + 6 * i) (by omega), r (305 + 6 * i) (by omega)]
theorem al.kp {w w' : List (List xE)} {b k : Nat} (h : al w b k) (hc : ∀ o, o < 25 → wget w' (b + o) = wget w (b + o)) (hr : ∀ j, 1340 * k ≤ j → j < 1340 * k + 1340 → rwv w' 83 j = rwv w 83 j) : al w' b k := h.cp (tdE.rf.tr0 hc (fun _ _ => rfl)) (fun j hj => hr _ (by omega) (by omega))
/-! a piece of it kept -/
theorem keepL {L S S2 : List Nat} {w w1 w2 : List (List xE)} (hR : xFr S w w1) (hR2 : xFr S2 w1 w2) (h : ∀ c ∈ L, c ∉ S ∧ c ∉ S2) : ∀ c ∈ L, wget w2 c = wget w c := fun c hc => (hR2.1 c (h c hc).2).trans (hR.1 c (h c hc).1)
theorem aqT.st {w w2 : List (List xE)} (h : aqT w 1 0) (e : fld w2 1 1 = rwv w2 83 15) (e1 : fld w2 1 1 ≤ fld w 1 1) (e2 : ∀ j, j < fld w2 1 1 → rwk w2 2 j = rwk w 2 j) (r : ∀ j, j < fld w2 1 1 → rwv w2 83 (400 + j) = rwv w 83 (400 + j)) : aqT w2 1 0 := ⟨e, h.2.st e1 e2 r⟩
theorem aqT.kp {w w2 : List (List xE)} (h : aqT w 1 0) (e1 : fld w2 1 1 = fld w 1 1) (e2 : wget w2 2 = wget w 2) (r0 : rwv w2 83 15 = rwv w 83 15) (r : ∀ j, 400 ≤ j → j < 900 → rwv w2 83 j = rwv w 83 j) : aqT w2 1 0 := by
  have b := h.2.1
  exact h.st (by rw [e1, r0]; exact h.1) (by omega) (fun j _ => rwk_eq e2) (fun j hj => r _ (by omega) (by omega))
theorem aqT.e0 {w w2 : List (List xE)} (h : aqT w 1 0) (e1 : fld w2 1 1 = 0) (r0 : rwv w2 83 15 = 0) : aqT w2 1 0 := h.st (by omega) (by omega) (fun j hj => absurd hj (by omega)) (fun j hj => absurd hj (by omega))
theorem aqD.kp {w w2 : List (List xE)} (h : aqD w 1 0) (e6 : fld w2 1 6 = fld w 1 6) (e7 : fld w2 1 7 = fld w 1 7) (e9 : fld w2 1 9 = fld w 1 9) (r : ∀ j, 11 ≤ j → j < 14 → rwv w2 83 j = rwv w 83 j) : aqD w2 1 0 := by
  obtain ⟨h1, h2, h3, h4⟩ := h
  exact ⟨by rw [e6]; exact h1.trans (r 11 (by decide) (by decide)).symm, by rw [e7]; exact h2.trans (r 12 (by decide) (by decide)).symm, by rw [e9]; exact h3.trans (r 13 (by decide) (by decide)).symm, by rw [e6]; exact h4⟩
theorem aqF.kp {w w2 : List (List xE)} (h : aqF w 1 0) (hc : ∀ c ∈ [3, 4, 5, 6, 7, 8, 9, 10, 11, 12, 13], wget w2 c = wget w c) (r : ∀ j, (j < 9 ∨ j = 14 ∨ (20 ≤ j ∧ j < 140)) → rwv w2 83 j = rwv w 83 j) : aqF w2 1 0 := by
  obtain ⟨⟨f1, f2, f3, f4, f5⟩, g1, g2, g3, g4, g5⟩ := h
  have c3 : wget w2 (1 + 2) = wget w (1 + 2) := hc 3 (by decide)
  exact ⟨⟨(fld_eq c3).trans (f1.trans (r 7 (by omega)).symm), (fld_eq c3).trans (f2.trans (r 8 (by omega)).symm), (fld_eq c3).trans (f3.trans (r 5 (by omega)).symm), (fld_eq c3).trans (f4.trans (r 6 (by omega)).symm), (fld_eq c3).trans (f5.trans (r 14 (by omega)).symm)⟩, g1.kp (hc 4 (by decide)) (hc 5 (by decide)) (r 0 (by omega)) (fun j a b => r j (by omega)), g2.kp (hc 6 (by decide)) (hc 7 (by decide)) (r 1 (by omega)) (fun j a b => r j (by omega)), g3.kp (hc 8 (by decide)) (hc 9 (by decide)) (r 2 (by omega)) (fun j a b => r j (by omega)), g4.kp (hc 10 (by decide)) (hc 11 (by decide)) (r 3 (by omega)) (fun j a b => r j (by omega)), g5.kp (hc 12 (by decide)) (hc 13 (by decide)) (r 4 (by omega)) (fun j a b => r j (by omega))⟩
theorem aqP.kp {w w2 : List (List xE)} (h : aqP w 1 0) (a : wget w2 16 = wget w 16) (b : wget w2 17 = wget w 17) (r0 : rwv w2 83 10 = rwv w 83 10) (r : ∀ j, 300 ≤ j → j < 372 → rwv w2 83 j = rwv w 83 j) : aqP w2 1 0 := by
  obtain ⟨h1, h2, h3⟩ := h
  have e : fld w2 (1 + 15) 3 = fld w (1 + 15) 3 := fld_eq a
  have h1 : fld w (1 + 15) 3 = rwv w 83 10 := h1
  refine ⟨(show fld w2 (1 + 15) 3 = rwv w2 83 10 from by rw [e, r0]; exact h1), by rw [e]; exact h2, fun i hi => ?_⟩
  rw [e] at hi
  obtain ⟨q1, q2⟩ := h3 i hi
  refine ⟨fun t ht => ?_, ?_⟩
  · have q := q1 t ht
    rw [Nat.mul_zero, Nat.zero_add] at q ⊢
    rw [rwv_eq (show wget w2 (1 + 16) = wget w (1 + 16) from b), q, r _ (by omega) (by omega)]
  · rw [Nat.mul_zero, Nat.zero_add, Nat.zero_add] at q2 ⊢
    rw [rwv_eq (show wget w2 (1 + 16) = wget w (1 + 16) from b), q2, r _ (by omega) (by omega), r _ (by omega) (by omega)]
/-- no pictures -/
theorem aqP.e0 {w2 : List (List xE)} (a : fld w2 16 3 = 0) (r0 : rwv w2 83 10 = 0) : aqP w2 1 0 := by
  have a : fld w2 (1 + 15) 3 = 0 := a
  refine ⟨(show fld w2 (1 + 15) 3 = rwv w2 83 10 by omega), by omega, fun i hi => absurd hi (by omega)⟩
/-- a film is told: the same text in both -/
theorem aqF.film {B : Nat → Nat} {nn n : Nat} {w2 : List (List xE)} (hF : FLM B nn w2 n) (hG : FLA B nn w2 n) : aqF w2 1 0 := by
  obtain ⟨⟨f0, f1, f2, f3, f4, f9, fz⟩, fR⟩ := hF
  obtain ⟨⟨g0, g1, g2, g3, g4, g9, -⟩, gR⟩ := hG
  have l0 := lnC_lim (s := 0) fz (by decide)
  have l1 := lnC_lim (s := 1) fz (by decide)
  have l2 := lnC_lim (s := 2) fz (by decide)
  have l3 := lnC_lim (s := 3) fz (by decide)
  have l4 := lnC_lim (s := 4) fz (by decide)
  have l5 := lnC_lim (s := 5) fz (by decide)
  have l6 := lnC_lim (s := 6) fz (by decide)
  have l0 : lnC B nn 0 n ≤ 6 := l0
  have l1 : lnC B nn 1 n ≤ 4 := l1
  have l2 : lnC B nn 2 n ≤ 6 := l2
  have l3 : lnC B nn 3 n ≤ 4 := l3
  have l4 : lnC B nn 4 n ≤ 20 := l4
  have l5 : lnC B nn 5 n ≤ 1 := l5
  have l6 : lnC B nn 6 n ≤ 1 := l6
  have s5 : ∀ t, t < 2 → fld w2 3 (5 + t) = rwv w2 83 (7 + t) := fun t ht => fR.eq5 gR (s := 5) (Or.inl rfl) l5 ht
  have s6 : ∀ t, t < 2 → fld w2 3 (7 + t) = rwv w2 83 (5 + t) := fun t ht => fR.eq5 gR (s := 6) (Or.inr rfl) l6 ht
  have x0 : ∀ m t, m < lnC B nn 0 n → t < 4 → rwv w2 5 (4 * m + t) = rwv w2 83 (20 + 4 * m + t) := fun m t hm ht => fR.eq gR (s := 0) hm ht
  have x1 : ∀ m t, m < lnC B nn 1 n → t < 2 → rwv w2 7 (2 * m + t) = rwv w2 83 (50 + 2 * m + t) := fun m t hm ht => fR.eq gR (s := 1) hm ht
  have x2 : ∀ m t, m < lnC B nn 2 n → t < 2 → rwv w2 9 (2 * m + t) = rwv w2 83 (60 + 2 * m + t) := fun m t hm ht => fR.eq gR (s := 2) hm ht
  have x3 : ∀ m t, m < lnC B nn 3 n → t < 3 → rwv w2 11 (3 * m + t) = rwv w2 83 (80 + 3 * m + t) := fun m t hm ht => fR.eq gR (s := 3) hm ht
  have x4 : ∀ m t, m < lnC B nn 4 n → t < 2 → rwv w2 13 (2 * m + t) = rwv w2 83 (100 + 2 * m + t) := fun m t hm ht => fR.eq gR (s := 4) hm ht
  refine ⟨⟨s5 0 (by decide), s5 1 (by decide), s6 0 (by decide), s6 1 (by decide), (show fld w2 3 9 = rwv w2 83 14 by omega)⟩, rq.mk0 (show fld w2 4 3 = rwv w2 83 0 by omega) (show fld w2 4 3 ≤ 6 by omega) (fun j hj => ?_), rq.mk0 (show fld w2 6 3 = rwv w2 83 1 by omega) (show fld w2 6 3 ≤ 4 by omega) (fun j hj => ?_), rq.mk0 (show fld w2 8 3 = rwv w2 83 2 by omega) (show fld w2 8 3 ≤ 6 by omega) (fun j hj => ?_), rq.mk0 (show fld w2 10 3 = rwv w2 83 3 by omega) (show fld w2 10 3 ≤ 4 by omega) (fun j hj => ?_), rq.mk0 (show fld w2 12 3 = rwv w2 83 4 by omega) (show fld w2 12 3 ≤ 20 by omega) (fun j hj => ?_)⟩
  · have hj : j < fld w2 4 3 * 4 := hj
    have q := x0 (j / 4) (j % 4) (by omega) (by omega)
    rw [show 4 * (j / 4) + j % 4 = j by omega, show 20 + 4 * (j / 4) + j % 4 = 20 + j by omega] at q
    exact q
  · have hj : j < fld w2 6 3 * 2 := hj
    have q := x1 (j / 2) (j % 2) (by omega) (by omega)
    rw [show 2 * (j / 2) + j % 2 = j by omega, show 50 + 2 * (j / 2) + j % 2 = 50 + j by omega] at q
    exact q
  · have hj : j < fld w2 8 3 * 2 := hj
    have q := x2 (j / 2) (j % 2) (by omega) (by omega)
    rw [show 2 * (j / 2) + j % 2 = j by omega, show 60 + 2 * (j / 2) + j % 2 = 60 + j by omega] at q
    exact q
  · have hj : j < fld w2 10 3 * 3 := hj
    have q := x3 (j / 3) (j % 3) (by omega) (by omega)
    rw [show 3 * (j / 3) + j % 3 = j by omega, show 80 + 3 * (j / 3) + j % 3 = 80 + j by omega] at q
    exact q
  · have hj : j < fld w2 12 3 * 2 := hj
    have q := x4 (j / 2) (j % 2) (by omega) (by omega)
    rw [show 2 * (j / 2) + j % 2 = j by omega, show 100 + 2 * (j / 2) + j % 2 = 100 + j by omega] at q
    exact q
end
section
/-! the class: what rules leave; a picture told -/
section XER
variable {d : Nat} {w : List (List xE)} {bd : List (Nat × Nat)} {fc : List (Nat × Nat × Bool)} {rr : Nat × Nat}
theorem rtReadY (hI : xInv w)  : xPi (d + 9) mX6_readRules [(2, 43)] w bd fc rr (fun n w' => (n ≤ 4294967295 ∧ fld w' 1 1 = 0 ∧ fld w' 1 6 = fld w 1 6 ∧ fld w' 1 7 = fld w 1 7 ∧ fld w' 1 9 = fld w 1 9) ∧ xInv w' ∧ xFr [1, 22, 23, 24, 25, 43, 44, 45, 46, 47, 48] w w') := by
  refine xPi.of ?_
  show xTo (d + 9) mX6_readRules (0, [], [(0, (2, 43))], [], (w, bd, fc, 0, 0, rr)) (fun φ => ∃ n w', xEnd 1 [(0, n)] (w', bd, fc, 0, 0, rr) φ ∧ (n ≤ 4294967295 ∧ fld w' 1 1 = 0 ∧ fld w' 1 6 = fld w 1 6 ∧ fld w' 1 7 = fld w 1 7 ∧ fld w' 1 9 = fld w 1 9) ∧ xInv w' ∧ xFr [1, 22, 23, 24, 25, 43, 44, 45, 46, 47, 48] w w')
  refine xoC43 (xqc43 hI : cp43 (wget w 43)) (fun f43_1 f43_3 h43_5 hb2 hb4 => ?_)
  refine xoC1 (xqc1 hI : cp1 (wget w 1)) (fun f1_6 f1_8 f1_10 f1_12 f1_14 f1_16 h1_18 hb7 hb9 hb11 hb13 hb15 hb17 => ?_)
  obtain ⟨f22_19, h22_21, hb20⟩ := (xqc22 hI : cp22 (wget w 22))
  refine xoI (xqc23 hI : cpI 32 10 4294967295 (wget w 23)) (fun g23_22 h23_23 hb24 => ?_)
  obtain ⟨f24_25, h24_27, hb26⟩ := (xqc24 hI : cp24 (wget w 24))
  refine xoI (xqc25 hI : cpI 320 11 4294967295 (wget w 25)) (fun g25_28 h25_29 hb30 => ?_)
  obtain ⟨f44_31, h44_33, hb32⟩ := (xqc44 hI : cp44 (wget w 44))
  refine xoI (xqc45 hI : cpI 32 21 4294967295 (wget w 45)) (fun g45_34 h45_35 hb36 => ?_)
  obtain ⟨f46_37, h46_39, hb38⟩ := (xqc46 hI : cp46 (wget w 46))
  refine xoI (xqc47 hI : cpI 320 22 4294967295 (wget w 47)) (fun g47_40 h47_41 hb42 => ?_)
  refine xg_t (xg_blq rfl) ?_
  refine xg_t (xg_aload (va := (2, 43)) rfl rfl) ?_
  refine xg_t (xg_getf (va := (2, 44)) h43_5 rfl) ?_
  refine xg_cV mX5_clear (vs := []) (rest := []) (rs := []) (cn1 := 0) (sl1 := 0) rfl (rclear_ok h44_33) rfl h44_33 rfl rfl rfl rfl rfl rfl rfl (fun w43 hq44 => ?_)
  refine xg_t (xg_aload (va := (2, 43)) rfl rfl) ?_
  refine xg_t (xg_getf (va := (2, 46)) (hq44.2.get (by decide) h43_5) rfl) ?_
  refine xg_cV mX5_clear (vs := []) (rest := []) (rs := []) (cn1 := 0) (sl1 := 0) rfl (rclear_ok (hq44.2.get (by decide) h46_39)) rfl (hq44.2.get (by decide) h46_39) rfl rfl rfl rfl rfl rfl rfl (fun w45 hq46 => ?_)
  refine xg_t (xg_aload (va := (2, 43)) rfl rfl) ?_
  refine xg_t (xg_const) ?_
  refine xg_putI (fl1 := [(2, 1), (2, 48), (2, 44), (2, 46), (0, 0), (0, f43_3)]) (hq46.2.get (by decide) (hq44.2.get (by decide) h43_5)) rfl rfl rfl (fun w47 hk48 hb49 => ?_)
  refine xg_t (xg_aload (va := (2, 43)) rfl rfl) ?_
  refine xg_t (xg_getf (va := (2, 48)) hk48 rfl) ?_
  refine xg_t (xg_aload (va := (2, 43)) rfl rfl) ?_
  refine xg_t (xg_getf (va := (2, 1)) hk48 rfl) ?_
  refine xg_t (xg_getf (va := (0, f1_6)) (hb49.get (by decide) (hq46.2.get (by decide) (hq44.2.get (by decide) h1_18))) rfl) ?_
  refine xoC48 (xqc48 hI : cp48 (wget w 48)) (fun f48_50 f48_52 f48_54 f48_56 f48_58 h48_60 hb51 hb53 hb55 hb57 hb59 hb61 => ?_)
  refine xg_cVv mX8_start (vs := [(0, f1_6)]) (rest := []) (cn1 := 0) (sl1 := 0) rfl (tkStart48 (xInv.up (S := [44, 46, 43]) hI (((xFr.of (S := [44, 46, 43]) hq44.2 (by decide)).tr (xFr.of (S := [44, 46, 43]) hq46.2 (by decide))).tr (xFr.of (S := [44, 46, 43]) hb49 (by decide))) (List.forall_mem_cons.mpr ⟨xqu44 (show cp44 (wget w47 44) from ⟨0, (hb49.get (by decide) (hq46.2.get (by decide) hq44.1)), by decide⟩), List.forall_mem_cons.mpr ⟨xqu46 (show cp46 (wget w47 46) from ⟨0, (hb49.get (by decide) hq46.1), by decide⟩), List.forall_mem_cons.mpr ⟨xqu43 (show cp43 (wget w47 43) from ⟨0, f43_3, hk48, by decide, hb4⟩), fun _ h => absurd h List.not_mem_nil⟩⟩⟩)) (by omega)) rfl (hb49.get (by decide) (hq46.2.get (by decide) (hq44.2.get (by decide) h48_60))) rfl rfl rfl rfl rfl rfl (fun w62 hq63 => ?_)
  obtain ⟨hI64, hF65⟩ := hq63
  refine xg_t (xg_const) ?_
  refine xg_t (xg_istore (l1 := [(0, (2, 43))]) rfl rfl rfl) ?_
  refine xg_t (xg_drop (l1 := [(0, (2, 43)), (1, (0, 0))]) (List.forall_mem_cons.mpr ⟨List.mem_cons_of_mem _ (List.mem_cons_self), List.forall_mem_cons.mpr ⟨List.mem_cons_self, fun _ h => absurd h List.not_mem_nil⟩⟩)) ?_
  have key66 : ∀ (m68 : Nat) (ki : Nat) (w69 : List (List xE)), 501 - ki < m68 → ki ≤ 501 → xInv w69 → xFr [1, 22, 23, 24, 25, 43, 44, 45, 46, 47, 48] w w69 → wget w69 1 = wget w 1 → xTo (d + 9) mX6_readRules (35, [], [(0, (2, 43)), (1, (0, ki))], [], (w69, bd, fc, 0, 0, rr)) (fun φ => ∃ n w', xEnd 1 [(0, n)] (w', bd, fc, 0, 0, rr) φ ∧ (n ≤ 4294967295 ∧ fld w' 1 1 = 0 ∧ fld w' 1 6 = fld w 1 6 ∧ fld w' 1 7 = fld w 1 7 ∧ fld w' 1 9 = fld w 1 9) ∧ xInv w' ∧ xFr [1, 22, 23, 24, 25, 43, 44, 45, 46, 47, 48] w w') := by
    intro m68
    induction m68 with
    | zero => intro ki w69 hz; exact absurd hz (Nat.not_lt_zero _)
    | succ m68 ih67 =>
      intro ki w69 hm74 hn72 hI70 hF71 he73
      refine xg_t (xg_blq rfl) ?_
      refine xg_t (xg_iload (va := (0, ki)) rfl rfl) ?_
      refine xg_t (xg_sip) ?_
      by_cases hc75 : 500 < ki
      · refine xg_t (xg_icT (u := ki) (v := 500) rfl xnm0 xnm0 (xj_gtT hc75 (by omega))) ?_
        refine xg_t (xg_blq rfl) ?_
        refine xg_t (xg_aload (va := (2, 43)) rfl rfl) ?_
        refine xoC43 (xqc43 hI70 : cp43 (wget w69 43)) (fun f43_76 f43_78 h43_80 hb77 hb79 => ?_)
        refine xg_t (xg_getf (va := (2, 1)) h43_80 rfl) ?_
        refine xg_t (xg_aload (va := (2, 43)) rfl rfl) ?_
        refine xg_t (xg_getf (va := (0, f43_76)) h43_80 rfl) ?_
        refine xg_t (xg_aload (va := (2, 43)) rfl rfl) ?_
        refine xg_t (xg_getf (va := (0, f43_78)) h43_80 rfl) ?_
        have hq81 : wget w69 1 = wget w 1 := he73
        refine xoC1 (xqc1 hI70 : cp1 (wget w69 1)) (fun f1_82 f1_84 f1_86 f1_88 f1_90 f1_92 h1_94 hb83 hb85 hb87 hb89 hb91 hb93 => ?_)
        refine xg_cVv mX9_take (vs := [(0, f43_76), (0, f43_78)]) (rest := []) (cn1 := 0) (sl1 := 0) rfl (tdTakeF (hI70) (by omega) (by omega)) rfl h1_94 rfl rfl rfl rfl rfl rfl (fun w95 hq96 => ?_)
        obtain ⟨hI97, hF98, hx99⟩ := hq96
        obtain ⟨ht100, ht101, ht102, ht103, ht104, ht105⟩ := hx99
        refine xg_t (xg_aload (va := (2, 43)) rfl rfl) ?_
        refine xg_t (xg_getf (va := (0, f43_76)) (hF98.get (by decide) h43_80) rfl) ?_
        by_cases hc106 : f43_76 = 0
        · refine xg_t (xg_ifT (u := f43_76) rfl xnm0 (xj_eqT hc106)) ?_
          refine xg_t (xg_blq rfl) ?_
          refine xg_t (xg_aload (va := (2, 43)) rfl rfl) ?_
          refine xg_t (xg_getf (va := (2, 1)) (hF98.get (by decide) h43_80) rfl) ?_
          refine xoC1 (xqc1 hI97 : cp1 (wget w95 1)) (fun f1_107 f1_109 f1_111 f1_113 f1_115 f1_117 h1_119 hb108 hb110 hb112 hb114 hb116 hb118 => ?_)
          refine xg_t (xg_getf (va := (2, 22)) h1_119 rfl) ?_
          refine xg_t (xg_aload (va := (2, 43)) rfl rfl) ?_
          refine xg_t (xg_getf (va := (2, 44)) (hF98.get (by decide) h43_80) rfl) ?_
          obtain ⟨f22_120, h22_122, hb121⟩ := (xqc22 hI97 : cp22 (wget w95 22))
          obtain ⟨f44_123, h44_125, hb124⟩ := (xqc44 hI97 : cp44 (wget w95 44))
          refine xoI (xqc23 hI97 : cpI 32 10 4294967295 (wget w95 23)) (fun g23_126 h23_127 hb128 => ?_)
          refine xoI (xqc45 hI97 : cpI 32 21 4294967295 (wget w95 45)) (fun g45_129 h45_130 hb131 => ?_)
          refine xg_cVv mX5_copy (vs := [(2, 44)]) (rest := []) (cn1 := 0) (sl1 := 0) rfl (rcopyI (lim := 16) (wd := 2) (B := 4294967295) h22_122 h44_125 h23_127 h45_130 (hb128) (hb131) (by decide) (by omega) (by decide) (by decide) (by decide) (by decide) (by decide) (by decide)) rfl h22_122 rfl rfl rfl rfl rfl rfl (fun w132 hq133 => ?_)
          obtain ⟨hk134, g135, hr136, hb137, hF138⟩ := hq133
          refine xg_t (xg_aload (va := (2, 43)) rfl rfl) ?_
          refine xg_t (xg_getf (va := (2, 1)) (hF138.get (by decide) (hF98.get (by decide) h43_80)) rfl) ?_
          refine xg_t (xg_getf (va := (2, 24)) (hF138.get (by decide) h1_119) rfl) ?_
          refine xg_t (xg_aload (va := (2, 43)) rfl rfl) ?_
          refine xg_t (xg_getf (va := (2, 46)) (hF138.get (by decide) (hF98.get (by decide) h43_80)) rfl) ?_
          obtain ⟨f24_139, h24_141, hb140⟩ := (xqc24 hI97 : cp24 (wget w95 24))
          obtain ⟨f46_142, h46_144, hb143⟩ := (xqc46 hI97 : cp46 (wget w95 46))
          refine xoI (xqc25 hI97 : cpI 320 11 4294967295 (wget w95 25)) (fun g25_145 h25_146 hb147 => ?_)
          refine xoI (xqc47 hI97 : cpI 320 22 4294967295 (wget w95 47)) (fun g47_148 h47_149 hb150 => ?_)
          refine xg_cVv mX5_copy (vs := [(2, 46)]) (rest := []) (cn1 := 0) (sl1 := 0) rfl (rcopyI (lim := 64) (wd := 5) (B := 4294967295) (hF138.get (by decide) h24_141) (hF138.get (by decide) h46_144) (h25_146.fr hF138 (by decide)) (h47_149.fr hF138 (by decide)) (hb147) (hb150) (by decide) (by omega) (by decide) (by decide) (by decide) (by decide) (by decide) (by decide)) rfl (hF138.get (by decide) h24_141) rfl rfl rfl rfl rfl rfl (fun w151 hq152 => ?_)
          obtain ⟨hk153, g154, hr155, hb156, hF157⟩ := hq152
          refine xg_t (xg_aload (va := (2, 43)) rfl rfl) ?_
          refine xg_t (xg_getf (va := (2, 44)) (hF157.get (by decide) (hF138.get (by decide) (hF98.get (by decide) h43_80))) rfl) ?_
          refine xg_t (xg_getf (va := (0, f44_123)) (hF157.get (by decide) (hF138.get (by decide) h44_125)) rfl) ?_
          exact xg_e ⟨f44_123, w151, ⟨rfl, rfl⟩, ⟨by omega, ((fld_fr hF157 (by decide)).trans (fld_fr hF138 (by decide))).trans ht100, ((fld_fr hF157 (by decide)).trans (fld_fr hF138 (by decide))).trans (ht103.trans (fld_eq (j := 6) hq81)), ((fld_fr hF157 (by decide)).trans (fld_fr hF138 (by decide))).trans (ht104.trans (fld_eq (j := 7) hq81)), ((fld_fr hF157 (by decide)).trans (fld_fr hF138 (by decide))).trans (ht105.trans (fld_eq (j := 9) hq81))⟩, xInv.up (S := [22, 23, 24, 25]) hI97 ((hF138.up (T := [22, 23, 24, 25]) (by decide)).tr (hF157.up (T := [22, 23, 24, 25]) (by decide))) (List.forall_mem_cons.mpr ⟨xqu22 (show cp22 (wget w151 22) from ⟨f44_123, (hF157.get (by decide) hk134), hb124⟩), List.forall_mem_cons.mpr ⟨xqu23 (show cpI 32 10 4294967295 (wget w151 23) from ⟨_, (hr136.fr hF157 (by decide)), hb137⟩), List.forall_mem_cons.mpr ⟨xqu24 (show cp24 (wget w151 24) from ⟨f46_142, hk153, hb143⟩), List.forall_mem_cons.mpr ⟨xqu25 (show cpI 320 11 4294967295 (wget w151 25) from ⟨_, hr155, hb156⟩), fun _ h => absurd h List.not_mem_nil⟩⟩⟩⟩), ((hF71.tr (hF98.up (by decide))).tr ((hF138.up (T := [1, 22, 23, 24, 25, 43, 44, 45, 46, 47, 48]) (by decide)).tr (hF157.up (T := [1, 22, 23, 24, 25, 43, 44, 45, 46, 47, 48]) (by decide))))⟩
        · refine xg_t (xg_ifF (u := f43_76) rfl xnm0 (xj_eqF hc106)) ?_
          refine xg_t (xg_const) ?_
          exact xg_e ⟨4294967295, w95, ⟨rfl, rfl⟩, ⟨by omega, ht100, (ht103.trans (fld_eq (j := 6) hq81)), (ht104.trans (fld_eq (j := 7) hq81)), (ht105.trans (fld_eq (j := 9) hq81))⟩, hI97, (hF71.tr (hF98.up (by decide)))⟩
      · refine xg_t (xg_icF (u := ki) (v := 500) rfl xnm0 xnm0 (xj_gtF (by omega) (by omega))) ?_
        refine xg_t (xg_aload (va := (2, 43)) rfl rfl) ?_
        refine xoC43 (xqc43 hI70 : cp43 (wget w69 43)) (fun f43_158 f43_160 h43_162 hb159 hb161 => ?_)
        refine xg_t (xg_getf (va := (2, 48)) h43_162 rfl) ?_
        refine xoC48 (xqc48 hI70 : cp48 (wget w69 48)) (fun f48_163 f48_165 f48_167 f48_169 f48_171 h48_173 hb164 hb166 hb168 hb170 hb172 hb174 => ?_)
        refine xg_t (xg_getf (va := (0, f48_165)) h48_173 rfl) ?_
        by_cases hc175 : f48_165 = 0
        · refine xg_t (xg_ifT (u := f48_165) rfl xnm0 (xj_eqT hc175)) ?_
          refine xg_t (xg_blq rfl) ?_
          refine xg_t (xg_aload (va := (2, 43)) rfl rfl) ?_
          refine xg_t (xg_getf (va := (2, 1)) h43_162 rfl) ?_
          refine xg_t (xg_aload (va := (2, 43)) rfl rfl) ?_
          refine xg_t (xg_getf (va := (0, f43_158)) h43_162 rfl) ?_
          refine xg_t (xg_aload (va := (2, 43)) rfl rfl) ?_
          refine xg_t (xg_getf (va := (0, f43_160)) h43_162 rfl) ?_
          have hq176 : wget w69 1 = wget w 1 := he73
          refine xoC1 (xqc1 hI70 : cp1 (wget w69 1)) (fun f1_177 f1_179 f1_181 f1_183 f1_185 f1_187 h1_189 hb178 hb180 hb182 hb184 hb186 hb188 => ?_)
          refine xg_cVv mX9_take (vs := [(0, f43_158), (0, f43_160)]) (rest := []) (cn1 := 0) (sl1 := 0) rfl (tdTakeF (hI70) (by omega) (by omega)) rfl h1_189 rfl rfl rfl rfl rfl rfl (fun w190 hq191 => ?_)
          obtain ⟨hI192, hF193, hx194⟩ := hq191
          obtain ⟨ht195, ht196, ht197, ht198, ht199, ht200⟩ := hx194
          refine xg_t (xg_aload (va := (2, 43)) rfl rfl) ?_
          refine xg_t (xg_getf (va := (0, f43_158)) (hF193.get (by decide) h43_162) rfl) ?_
          by_cases hc201 : f43_158 = 0
          · refine xg_t (xg_ifT (u := f43_158) rfl xnm0 (xj_eqT hc201)) ?_
            refine xg_t (xg_blq rfl) ?_
            refine xg_t (xg_aload (va := (2, 43)) rfl rfl) ?_
            refine xg_t (xg_getf (va := (2, 1)) (hF193.get (by decide) h43_162) rfl) ?_
            refine xoC1 (xqc1 hI192 : cp1 (wget w190 1)) (fun f1_202 f1_204 f1_206 f1_208 f1_210 f1_212 h1_214 hb203 hb205 hb207 hb209 hb211 hb213 => ?_)
            refine xg_t (xg_getf (va := (2, 22)) h1_214 rfl) ?_
            refine xg_t (xg_aload (va := (2, 43)) rfl rfl) ?_
            refine xg_t (xg_getf (va := (2, 44)) (hF193.get (by decide) h43_162) rfl) ?_
            obtain ⟨f22_215, h22_217, hb216⟩ := (xqc22 hI192 : cp22 (wget w190 22))
            obtain ⟨f44_218, h44_220, hb219⟩ := (xqc44 hI192 : cp44 (wget w190 44))
            refine xoI (xqc23 hI192 : cpI 32 10 4294967295 (wget w190 23)) (fun g23_221 h23_222 hb223 => ?_)
            refine xoI (xqc45 hI192 : cpI 32 21 4294967295 (wget w190 45)) (fun g45_224 h45_225 hb226 => ?_)
            refine xg_cVv mX5_copy (vs := [(2, 44)]) (rest := []) (cn1 := 0) (sl1 := 0) rfl (rcopyI (lim := 16) (wd := 2) (B := 4294967295) h22_217 h44_220 h23_222 h45_225 (hb223) (hb226) (by decide) (by omega) (by decide) (by decide) (by decide) (by decide) (by decide) (by decide)) rfl h22_217 rfl rfl rfl rfl rfl rfl (fun w227 hq228 => ?_)
            obtain ⟨hk229, g230, hr231, hb232, hF233⟩ := hq228
            refine xg_t (xg_aload (va := (2, 43)) rfl rfl) ?_
            refine xg_t (xg_getf (va := (2, 1)) (hF233.get (by decide) (hF193.get (by decide) h43_162)) rfl) ?_
            refine xg_t (xg_getf (va := (2, 24)) (hF233.get (by decide) h1_214) rfl) ?_
            refine xg_t (xg_aload (va := (2, 43)) rfl rfl) ?_
            refine xg_t (xg_getf (va := (2, 46)) (hF233.get (by decide) (hF193.get (by decide) h43_162)) rfl) ?_
            obtain ⟨f24_234, h24_236, hb235⟩ := (xqc24 hI192 : cp24 (wget w190 24))
            obtain ⟨f46_237, h46_239, hb238⟩ := (xqc46 hI192 : cp46 (wget w190 46))
            refine xoI (xqc25 hI192 : cpI 320 11 4294967295 (wget w190 25)) (fun g25_240 h25_241 hb242 => ?_)
            refine xoI (xqc47 hI192 : cpI 320 22 4294967295 (wget w190 47)) (fun g47_243 h47_244 hb245 => ?_)
            refine xg_cVv mX5_copy (vs := [(2, 46)]) (rest := []) (cn1 := 0) (sl1 := 0) rfl (rcopyI (lim := 64) (wd := 5) (B := 4294967295) (hF233.get (by decide) h24_236) (hF233.get (by decide) h46_239) (h25_241.fr hF233 (by decide)) (h47_244.fr hF233 (by decide)) (hb242) (hb245) (by decide) (by omega) (by decide) (by decide) (by decide) (by decide) (by decide) (by decide)) rfl (hF233.get (by decide) h24_236) rfl rfl rfl rfl rfl rfl (fun w246 hq247 => ?_)
            obtain ⟨hk248, g249, hr250, hb251, hF252⟩ := hq247
            refine xg_t (xg_aload (va := (2, 43)) rfl rfl) ?_
            refine xg_t (xg_getf (va := (2, 44)) (hF252.get (by decide) (hF233.get (by decide) (hF193.get (by decide) h43_162))) rfl) ?_
            refine xg_t (xg_getf (va := (0, f44_218)) (hF252.get (by decide) (hF233.get (by decide) h44_220)) rfl) ?_
            exact xg_e ⟨f44_218, w246, ⟨rfl, rfl⟩, ⟨by omega, ((fld_fr hF252 (by decide)).trans (fld_fr hF233 (by decide))).trans ht195, ((fld_fr hF252 (by decide)).trans (fld_fr hF233 (by decide))).trans (ht198.trans (fld_eq (j := 6) hq176)), ((fld_fr hF252 (by decide)).trans (fld_fr hF233 (by decide))).trans (ht199.trans (fld_eq (j := 7) hq176)), ((fld_fr hF252 (by decide)).trans (fld_fr hF233 (by decide))).trans (ht200.trans (fld_eq (j := 9) hq176))⟩, xInv.up (S := [22, 23, 24, 25]) hI192 ((hF233.up (T := [22, 23, 24, 25]) (by decide)).tr (hF252.up (T := [22, 23, 24, 25]) (by decide))) (List.forall_mem_cons.mpr ⟨xqu22 (show cp22 (wget w246 22) from ⟨f44_218, (hF252.get (by decide) hk229), hb219⟩), List.forall_mem_cons.mpr ⟨xqu23 (show cpI 32 10 4294967295 (wget w246 23) from ⟨_, (hr231.fr hF252 (by decide)), hb232⟩), List.forall_mem_cons.mpr ⟨xqu24 (show cp24 (wget w246 24) from ⟨f46_237, hk248, hb238⟩), List.forall_mem_cons.mpr ⟨xqu25 (show cpI 320 11 4294967295 (wget w246 25) from ⟨_, hr250, hb251⟩), fun _ h => absurd h List.not_mem_nil⟩⟩⟩⟩), ((hF71.tr (hF193.up (by decide))).tr ((hF233.up (T := [1, 22, 23, 24, 25, 43, 44, 45, 46, 47, 48]) (by decide)).tr (hF252.up (T := [1, 22, 23, 24, 25, 43, 44, 45, 46, 47, 48]) (by decide))))⟩
          · refine xg_t (xg_ifF (u := f43_158) rfl xnm0 (xj_eqF hc201)) ?_
            refine xg_t (xg_const) ?_
            exact xg_e ⟨4294967295, w190, ⟨rfl, rfl⟩, ⟨by omega, ht195, (ht198.trans (fld_eq (j := 6) hq176)), (ht199.trans (fld_eq (j := 7) hq176)), (ht200.trans (fld_eq (j := 9) hq176))⟩, hI192, (hF71.tr (hF193.up (by decide)))⟩
        · refine xg_t (xg_ifF (u := f48_165) rfl xnm0 (xj_eqF hc175)) ?_
          refine xg_t (xg_aload (va := (2, 43)) rfl rfl) ?_
          refine xg_cVi mX6_readLine (vs := []) (rest := []) (cn1 := 0) (sl1 := 0) rfl (rtLine (hI70)) rfl h43_162 rfl rfl rfl rfl rfl rfl (fun n257 w253 hq254 => ?_)
          obtain ⟨hn258, hI255, hF256⟩ := hq254
          by_cases hc259 : n257 = 0
          · refine xg_t (xg_ifF (u := n257) rfl xnm0 (xj_neF hc259)) ?_
            refine xg_t (xg_aload (va := (2, 43)) rfl rfl) ?_
            refine xoC43 (xqc43 hI255 : cp43 (wget w253 43)) (fun f43_260 f43_262 h43_264 hb261 hb263 => ?_)
            refine xg_t (xg_getf (va := (2, 1)) h43_264 rfl) ?_
            refine xg_t (xg_const) ?_
            refine xg_t (xg_aload (va := (2, 43)) rfl rfl) ?_
            refine xg_t (xg_getf (va := (2, 48)) h43_264 rfl) ?_
            refine xoC48 (xqc48 hI255 : cp48 (wget w253 48)) (fun f48_265 f48_267 f48_269 f48_271 f48_273 h48_275 hb266 hb268 hb270 hb272 hb274 hb276 => ?_)
            refine xg_t (xg_getf (va := (0, f48_269)) h48_275 rfl) ?_
            have hq277 : wget w253 1 = wget w 1 := (hF256.1 1 (by decide)).trans he73
            refine xoC1 (xqc1 hI255 : cp1 (wget w253 1)) (fun f1_278 f1_280 f1_282 f1_284 f1_286 f1_288 h1_290 hb279 hb281 hb283 hb285 hb287 hb289 => ?_)
            refine xg_cVv mX9_take (vs := [(0, 1), (0, f48_269)]) (rest := []) (cn1 := 0) (sl1 := 0) rfl (tdTakeF (hI255) (by omega) (by omega)) rfl h1_290 rfl rfl rfl rfl rfl rfl (fun w291 hq292 => ?_)
            obtain ⟨hI293, hF294, hx295⟩ := hq292
            obtain ⟨ht296, ht297, ht298, ht299, ht300, ht301⟩ := hx295
            refine xg_t (xg_const) ?_
            exact xg_e ⟨4294967295, w291, ⟨rfl, rfl⟩, ⟨by omega, ht296, (ht299.trans (fld_eq (j := 6) hq277)), (ht300.trans (fld_eq (j := 7) hq277)), (ht301.trans (fld_eq (j := 9) hq277))⟩, hI293, ((hF71.tr (hF256.up (by decide))).tr (hF294.up (by decide)))⟩
          · refine xg_t (xg_ifT (u := n257) rfl xnm0 (xj_neT hc259)) ?_
            refine xg_t (xg_blq rfl) ?_
            refine xg_t (xg_iinc (u := ki) (z := ki + 1) (l1 := [(0, (2, 43))]) rfl rfl (by omega) rfl) ?_
            refine xg_t (xg_goto) ?_
            refine xg_t (xg_drop (l1 := [(0, (2, 43)), (1, (0, ki + 1))]) (List.forall_mem_cons.mpr ⟨List.mem_cons_of_mem _ (List.mem_cons_self), List.forall_mem_cons.mpr ⟨List.mem_cons_self, fun _ h => absurd h List.not_mem_nil⟩⟩)) ?_
            exact ih67 (ki + 1) w253 (by omega) (by omega) (hI255) ((hF71.tr (hF256.up (by decide)))) ((hF256.1 1 (by decide)).trans he73)
  exact key66 _ 0 w62 (Nat.lt_succ_self _) (by omega) (hI64) (((((xFr.of (S := [1, 22, 23, 24, 25, 43, 44, 45, 46, 47, 48]) hq44.2 (by decide)).tr (xFr.of (S := [1, 22, 23, 24, 25, 43, 44, 45, 46, 47, 48]) hq46.2 (by decide))).tr (xFr.of (S := [1, 22, 23, 24, 25, 43, 44, 45, 46, 47, 48]) hb49 (by decide))).tr (hF65.up (by decide)))) (((hF65.1 1 (by decide)).trans ((hb49.1 1 (by decide)).trans ((hq46.2.1 1 (by decide)).trans (hq44.2.1 1 (by decide))))))
theorem bsRulesY (hI : xInv w)  : xPi (d + 10) mX11_rules [(2, 0)] w bd fc rr (fun n w' => (n ≤ 4294967295 ∧ fld w' 1 1 = 0 ∧ fld w' 1 6 = fld w 1 6 ∧ fld w' 1 7 = fld w 1 7 ∧ fld w' 1 9 = fld w 1 9) ∧ xInv w' ∧ xFr [1, 22, 23, 24, 25, 43, 44, 45, 46, 47, 48] w w') := by
  refine xPi.of ?_
  show xTo (d + 10) mX11_rules (0, [], [(0, (2, 0))], [], (w, bd, fc, 0, 0, rr)) (fun φ => ∃ n w', xEnd 1 [(0, n)] (w', bd, fc, 0, 0, rr) φ ∧ (n ≤ 4294967295 ∧ fld w' 1 1 = 0 ∧ fld w' 1 6 = fld w 1 6 ∧ fld w' 1 7 = fld w 1 7 ∧ fld w' 1 9 = fld w 1 9) ∧ xInv w' ∧ xFr [1, 22, 23, 24, 25, 43, 44, 45, 46, 47, 48] w w')
  have h0_1 := (xqc0 hI : cp0 (wget w 0))
  refine xg_t (xg_blq rfl) ?_
  refine xg_t (xg_aload (va := (2, 0)) rfl rfl) ?_
  refine xg_t (xg_getf (va := (2, 43)) h0_1 rfl) ?_
  refine xoC43 (xqc43 hI : cp43 (wget w 43)) (fun f43_2 f43_4 h43_6 hb3 hb5 => ?_)
  refine xg_cVi mX6_readRules (vs := []) (rest := []) (cn1 := 0) (sl1 := 0) rfl (rtReadY (hI)) rfl h43_6 rfl rfl rfl rfl rfl rfl (fun n11 w7 hq8 => ?_)
  obtain ⟨hn12, hI9, hF10⟩ := hq8
  obtain ⟨ht13, ht14, ht15, ht16, ht17⟩ := hn12
  exact xg_e ⟨n11, w7, ⟨rfl, rfl⟩, ⟨by omega, ht14, ht15, ht16, ht17⟩, hI9, (hF10.up (by decide))⟩
theorem scPictureX {pa pb pc_ pd li ho : Nat} (hI : xInv w) (hpa : pa ≤ 4294967295) (hpb : pb ≤ 4294967295) (hpc_ : pc_ ≤ 4294967295) (hpd : pd ≤ 4294967295) (hli : li ≤ 4294967295) (hho : ho ≤ 4294967295) : xPi (d + 2) mX11_picture [(2, 0), (0, pa), (0, pb), (0, pc_), (0, pd), (0, li), (0, ho)] w bd fc rr (fun n w' => (((n = fld w 16 3 + 1 ∧ fld w 16 3 < 12 ∧ ((pa ≤ pb ∧ pb < fld w 3 7) ∧ (pc_ ≤ pd ∧ pd < fld w 3 8) ∧ (1 ≤ li ∧ li ≤ 9) ∧ (1 ≤ ho ∧ ho ≤ 999)) ∧ fld w' 16 3 = fld w 16 3 + 1 ∧ fld w' 68 4 = 0) ∨ (n = 4294967295 ∧ ¬ (fld w 16 3 < 12 ∧ ((pa ≤ pb ∧ pb < fld w 3 7) ∧ (pc_ ≤ pd ∧ pd < fld w 3 8) ∧ (1 ≤ li ∧ li ≤ 9) ∧ (1 ≤ ho ∧ ho ≤ 999))) ∧ w' = w)) ∧ (n ≠ 4294967295 → rwv w' 17 (5 * fld w 16 3) = pa ∧ rwv w' 17 (5 * fld w 16 3 + 1) = pb ∧ rwv w' 17 (5 * fld w 16 3 + 2) = pc_ ∧ rwv w' 17 (5 * fld w 16 3 + 3) = pd ∧ rwv w' 17 (5 * fld w 16 3 + 4) = li * ho) ∧ (∀ j, (j < 5 * fld w 16 3 ∨ 5 * fld w 16 3 + 5 ≤ j) → j < 60 → rwv w' 17 j = rwv w 17 j)) ∧ xInv w' ∧ xFr [16, 17, 68] w w') := by
  refine xPi.of ?_
  show xTo (d + 2) mX11_picture (0, [], [(0, (2, 0)), (1, (0, pa)), (2, (0, pb)), (3, (0, pc_)), (4, (0, pd)), (5, (0, li)), (6, (0, ho))], [], (w, bd, fc, 0, 0, rr)) (fun φ => ∃ n w', xEnd 1 [(0, n)] (w', bd, fc, 0, 0, rr) φ ∧ (((n = fld w 16 3 + 1 ∧ fld w 16 3 < 12 ∧ ((pa ≤ pb ∧ pb < fld w 3 7) ∧ (pc_ ≤ pd ∧ pd < fld w 3 8) ∧ (1 ≤ li ∧ li ≤ 9) ∧ (1 ≤ ho ∧ ho ≤ 999)) ∧ fld w' 16 3 = fld w 16 3 + 1 ∧ fld w' 68 4 = 0) ∨ (n = 4294967295 ∧ ¬ (fld w 16 3 < 12 ∧ ((pa ≤ pb ∧ pb < fld w 3 7) ∧ (pc_ ≤ pd ∧ pd < fld w 3 8) ∧ (1 ≤ li ∧ li ≤ 9) ∧ (1 ≤ ho ∧ ho ≤ 999))) ∧ w' = w)) ∧ (n ≠ 4294967295 → rwv w' 17 (5 * fld w 16 3) = pa ∧ rwv w' 17 (5 * fld w 16 3 + 1) = pb ∧ rwv w' 17 (5 * fld w 16 3 + 2) = pc_ ∧ rwv w' 17 (5 * fld w 16 3 + 3) = pd ∧ rwv w' 17 (5 * fld w 16 3 + 4) = li * ho) ∧ (∀ j, (j < 5 * fld w 16 3 ∨ 5 * fld w 16 3 + 5 ≤ j) → j < 60 → rwv w' 17 j = rwv w 17 j)) ∧ xInv w' ∧ xFr [16, 17, 68] w w')
  have h0_1 := (xqc0 hI : cp0 (wget w 0))
  refine xoC1 (xqc1 hI : cp1 (wget w 1)) (fun f1_2 f1_4 f1_6 f1_8 f1_10 f1_12 h1_14 hb3 hb5 hb7 hb9 hb11 hb13 => ?_)
  refine xoC3 (xqc3 hI : cp3 (wget w 3)) (fun f3_15 f3_17 f3_19 f3_21 f3_23 h3_25 hb16 hb18 hb20 hb22 hb24 => ?_)
  obtain ⟨f16_26, h16_28, hb27⟩ := (xqc16 hI : cp16 (wget w 16))
  refine xoI (xqc17 hI : cpI 60 7 4294967295 (wget w 17)) (fun g17_29 h17_30 hb31 => ?_)
  refine xg_t (xg_blq rfl) ?_
  refine xg_t (xg_aload (va := (2, 0)) rfl rfl) ?_
  refine xg_t (xg_getf (va := (2, 1)) h0_1 rfl) ?_
  refine xg_t (xg_getf (va := (2, 16)) h1_14 rfl) ?_
  refine xg_t (xg_astore (l1 := [(0, (2, 0)), (1, (0, pa)), (2, (0, pb)), (3, (0, pc_)), (4, (0, pd)), (5, (0, li)), (6, (0, ho))]) rfl rfl rfl) ?_
  refine xg_t (xg_iload (va := (0, pa)) rfl rfl) ?_
  by_cases hc32 : pa < 2147483648
  · refine xg_t (xg_ifF (u := pa) rfl xnm0 (xjz_ltF hc32)) ?_
    refine xg_t (xg_iload (va := (0, pa)) rfl rfl) ?_
    refine xg_t (xg_iload (va := (0, pb)) rfl rfl) ?_
    by_cases hc33 : xbs pb < xbs pa
    · have hc33u := hc33
      unfold xbs at hc33u
      have hn34 : pa ≤ 2147483647 := by omega
      refine xg_t (xg_icT (u := pa) (v := pb) rfl xnm0 xnm0 (xjs_gtT hc33)) ?_
      refine xg_t (xg_blq rfl) ?_
      refine xg_t (xg_const) ?_
      refine xg_t (xg_blq rfl) ?_
      refine xg_t (xg_istore (l1 := [(7, (2, 16)), (0, (2, 0)), (1, (0, pa)), (2, (0, pb)), (3, (0, pc_)), (4, (0, pd)), (5, (0, li)), (6, (0, ho))]) rfl rfl rfl) ?_
      refine xg_t (xg_aload (va := (2, 16)) rfl rfl) ?_
      refine xg_t (xg_cVr mX5_isFull (vs := []) (rest := []) (rs := [(0, if 12 ≤ f16_26 then 1 else 0)]) (cn1 := 0) (sl1 := 0) rfl (rfull_ok h16_28 (by decide) (by omega)) rfl h16_28 rfl rfl rfl rfl rfl rfl rfl) ?_
      by_cases hc35 : 12 ≤ f16_26
      · refine xg_t (xg_ifT (u := (if 12 ≤ f16_26 then 1 else 0)) rfl xnm0 (xj_neT (xite1 hc35))) ?_
        refine xg_t (xg_blq rfl) ?_
        refine xg_t (xg_const) ?_
        have hq36 : fld w 3 7 = f3_19 := fld_of h3_25
        have hq37 : fld w 3 8 = f3_21 := fld_of h3_25
        have hq38 : fld w 16 3 = f16_26 := fld_of h16_28
        exact xg_e ⟨4294967295, w, ⟨rfl, rfl⟩, ⟨Or.inr ⟨by omega, by omega, rfl⟩, fun h => absurd h (by omega), fun j _ _ => rfl⟩, hI, xFr.rf⟩
      · refine xg_t (xg_ifF (u := (if 12 ≤ f16_26 then 1 else 0)) rfl xnm0 (xj_neF (xite0 hc35))) ?_
        refine xg_t (xg_iload (va := (0, 0)) rfl rfl) ?_
        refine xg_t (xg_ifT (u := 0) rfl xnm0 (by decide)) ?_
        refine xg_t (xg_blq rfl) ?_
        refine xg_t (xg_const) ?_
        have hq39 : fld w 3 7 = f3_19 := fld_of h3_25
        have hq40 : fld w 3 8 = f3_21 := fld_of h3_25
        have hq41 : fld w 16 3 = f16_26 := fld_of h16_28
        exact xg_e ⟨4294967295, w, ⟨rfl, rfl⟩, ⟨Or.inr ⟨by omega, by omega, rfl⟩, fun h => absurd h (by omega), fun j _ _ => rfl⟩, hI, xFr.rf⟩
    · have hc33u := hc33
      unfold xbs at hc33u
      have hn42 : pb ≤ 2147483647 := by omega
      have hn43 : pa ≤ 2147483647 := by omega
      refine xg_t (xg_icF (u := pa) (v := pb) rfl xnm0 xnm0 (xjs_gtF hc33)) ?_
      refine xg_t (xg_iload (va := (0, pb)) rfl rfl) ?_
      refine xg_t (xg_aload (va := (2, 0)) rfl rfl) ?_
      refine xg_t (xg_getf (va := (2, 1)) h0_1 rfl) ?_
      refine xg_t (xg_getf (va := (2, 3)) h1_14 rfl) ?_
      refine xg_t (xg_getf (va := (0, f3_19)) h3_25 rfl) ?_
      by_cases hc44 : pb < f3_19
      · refine xg_t (xg_icF (u := pb) (v := f3_19) rfl xnm0 xnm0 (xj_geF hc44 (by omega))) ?_
        refine xg_t (xg_iload (va := (0, pc_)) rfl rfl) ?_
        by_cases hc45 : pc_ < 2147483648
        · refine xg_t (xg_ifF (u := pc_) rfl xnm0 (xjz_ltF hc45)) ?_
          refine xg_t (xg_iload (va := (0, pc_)) rfl rfl) ?_
          refine xg_t (xg_iload (va := (0, pd)) rfl rfl) ?_
          by_cases hc46 : xbs pd < xbs pc_
          · have hc46u := hc46
            unfold xbs at hc46u
            have hn47 : pc_ ≤ 2147483647 := by omega
            refine xg_t (xg_icT (u := pc_) (v := pd) rfl xnm0 xnm0 (xjs_gtT hc46)) ?_
            refine xg_t (xg_blq rfl) ?_
            refine xg_t (xg_const) ?_
            refine xg_t (xg_blq rfl) ?_
            refine xg_t (xg_istore (l1 := [(7, (2, 16)), (0, (2, 0)), (1, (0, pa)), (2, (0, pb)), (3, (0, pc_)), (4, (0, pd)), (5, (0, li)), (6, (0, ho))]) rfl rfl rfl) ?_
            refine xg_t (xg_aload (va := (2, 16)) rfl rfl) ?_
            refine xg_t (xg_cVr mX5_isFull (vs := []) (rest := []) (rs := [(0, if 12 ≤ f16_26 then 1 else 0)]) (cn1 := 0) (sl1 := 0) rfl (rfull_ok h16_28 (by decide) (by omega)) rfl h16_28 rfl rfl rfl rfl rfl rfl rfl) ?_
            by_cases hc48 : 12 ≤ f16_26
            · refine xg_t (xg_ifT (u := (if 12 ≤ f16_26 then 1 else 0)) rfl xnm0 (xj_neT (xite1 hc48))) ?_
              refine xg_t (xg_blq rfl) ?_
              refine xg_t (xg_const) ?_
              have hq49 : fld w 3 7 = f3_19 := fld_of h3_25
              have hq50 : fld w 3 8 = f3_21 := fld_of h3_25
              have hq51 : fld w 16 3 = f16_26 := fld_of h16_28
              exact xg_e ⟨4294967295, w, ⟨rfl, rfl⟩, ⟨Or.inr ⟨by omega, by omega, rfl⟩, fun h => absurd h (by omega), fun j _ _ => rfl⟩, hI, xFr.rf⟩
            · refine xg_t (xg_ifF (u := (if 12 ≤ f16_26 then 1 else 0)) rfl xnm0 (xj_neF (xite0 hc48))) ?_
              refine xg_t (xg_iload (va := (0, 0)) rfl rfl) ?_
              refine xg_t (xg_ifT (u := 0) rfl xnm0 (by decide)) ?_
              refine xg_t (xg_blq rfl) ?_
              refine xg_t (xg_const) ?_
              have hq52 : fld w 3 7 = f3_19 := fld_of h3_25
              have hq53 : fld w 3 8 = f3_21 := fld_of h3_25
              have hq54 : fld w 16 3 = f16_26 := fld_of h16_28
              exact xg_e ⟨4294967295, w, ⟨rfl, rfl⟩, ⟨Or.inr ⟨by omega, by omega, rfl⟩, fun h => absurd h (by omega), fun j _ _ => rfl⟩, hI, xFr.rf⟩
          · have hc46u := hc46
            unfold xbs at hc46u
            have hn55 : pd ≤ 2147483647 := by omega
            have hn56 : pc_ ≤ 2147483647 := by omega
            refine xg_t (xg_icF (u := pc_) (v := pd) rfl xnm0 xnm0 (xjs_gtF hc46)) ?_
            refine xg_t (xg_iload (va := (0, pd)) rfl rfl) ?_
            refine xg_t (xg_aload (va := (2, 0)) rfl rfl) ?_
            refine xg_t (xg_getf (va := (2, 1)) h0_1 rfl) ?_
            refine xg_t (xg_getf (va := (2, 3)) h1_14 rfl) ?_
            refine xg_t (xg_getf (va := (0, f3_21)) h3_25 rfl) ?_
            by_cases hc57 : pd < f3_21
            · refine xg_t (xg_icF (u := pd) (v := f3_21) rfl xnm0 xnm0 (xj_geF hc57 (by omega))) ?_
              refine xg_t (xg_const) ?_
              refine xg_t (xg_goto) ?_
              refine xg_t (xg_blq rfl) ?_
              refine xg_t (xg_istore (l1 := [(7, (2, 16)), (0, (2, 0)), (1, (0, pa)), (2, (0, pb)), (3, (0, pc_)), (4, (0, pd)), (5, (0, li)), (6, (0, ho))]) rfl rfl rfl) ?_
              refine xg_t (xg_aload (va := (2, 16)) rfl rfl) ?_
              refine xg_t (xg_cVr mX5_isFull (vs := []) (rest := []) (rs := [(0, if 12 ≤ f16_26 then 1 else 0)]) (cn1 := 0) (sl1 := 0) rfl (rfull_ok h16_28 (by decide) (by omega)) rfl h16_28 rfl rfl rfl rfl rfl rfl rfl) ?_
              by_cases hc58 : 12 ≤ f16_26
              · refine xg_t (xg_ifT (u := (if 12 ≤ f16_26 then 1 else 0)) rfl xnm0 (xj_neT (xite1 hc58))) ?_
                refine xg_t (xg_blq rfl) ?_
                refine xg_t (xg_const) ?_
                have hq59 : fld w 3 7 = f3_19 := fld_of h3_25
                have hq60 : fld w 3 8 = f3_21 := fld_of h3_25
                have hq61 : fld w 16 3 = f16_26 := fld_of h16_28
                exact xg_e ⟨4294967295, w, ⟨rfl, rfl⟩, ⟨Or.inr ⟨by omega, by omega, rfl⟩, fun h => absurd h (by omega), fun j _ _ => rfl⟩, hI, xFr.rf⟩
              · refine xg_t (xg_ifF (u := (if 12 ≤ f16_26 then 1 else 0)) rfl xnm0 (xj_neF (xite0 hc58))) ?_
                refine xg_t (xg_iload (va := (0, 1)) rfl rfl) ?_
                refine xg_t (xg_ifF (u := 1) rfl xnm0 (by decide)) ?_
                refine xg_t (xg_iload (va := (0, li)) rfl rfl) ?_
                refine xg_t (xg_const) ?_
                refine xg_t (xg_bip) ?_
                refine xg_t (xg_cSr mX11_isIn (vs := [(0, li), (0, 1), (0, 9)]) (rest := []) (rs := [(0, if 1 ≤ li ∧ li ≤ 9 then 1 else 0)]) (cn1 := 0) (sl1 := 0) rfl (isIn_ok (by omega) (by omega) (by omega)) rfl rfl rfl rfl rfl rfl rfl rfl) ?_
                by_cases hc62 : 1 ≤ li ∧ li ≤ 9
                · refine xg_t (xg_ifF (u := (if 1 ≤ li ∧ li ≤ 9 then 1 else 0)) rfl xnm0 (xj_eqF (xite1 hc62))) ?_
                  refine xg_t (xg_iload (va := (0, ho)) rfl rfl) ?_
                  refine xg_t (xg_const) ?_
                  refine xg_t (xg_sip) ?_
                  refine xg_t (xg_cSr mX11_isIn (vs := [(0, ho), (0, 1), (0, 999)]) (rest := []) (rs := [(0, if 1 ≤ ho ∧ ho ≤ 999 then 1 else 0)]) (cn1 := 0) (sl1 := 0) rfl (isIn_ok (by omega) (by omega) (by omega)) rfl rfl rfl rfl rfl rfl rfl rfl) ?_
                  by_cases hc63 : 1 ≤ ho ∧ ho ≤ 999
                  · refine xg_t (xg_ifT (u := (if 1 ≤ ho ∧ ho ≤ 999 then 1 else 0)) rfl xnm0 (xj_neT (xite1 hc63))) ?_
                    refine xg_t (xg_blq rfl) ?_
                    refine xg_t (xg_aload (va := (2, 16)) rfl rfl) ?_
                    refine xg_cV mX5_grow (vs := []) (rest := []) (rs := [(0, f16_26)]) (cn1 := 0) (sl1 := 0) rfl (rgrowX h16_28 (by decide) (by omega)) rfl h16_28 rfl rfl rfl rfl rfl rfl rfl (fun w64 hq65 => ?_)
                    refine xg_t (xg_istore (l1 := [(8, (0, 1)), (7, (2, 16)), (0, (2, 0)), (1, (0, pa)), (2, (0, pb)), (3, (0, pc_)), (4, (0, pd)), (5, (0, li)), (6, (0, ho))]) rfl rfl rfl) ?_
                    refine xg_t (xg_aload (va := (2, 16)) rfl rfl) ?_
                    refine xg_t (xg_iload (va := (0, f16_26)) rfl rfl) ?_
                    refine xg_t (xg_const) ?_
                    refine xg_t (xg_iload (va := (0, pa)) rfl rfl) ?_
                    refine xg_cVv mX5_put (vs := [(0, f16_26), (0, 0), (0, pa)]) (rest := []) (cn1 := 0) (sl1 := 0) rfl (rputX (lim := 12) (wd := 5) (B := 4294967295) hq65.1 (h17_30.but hq65.2 (by decide)) (hb31) (by decide) (by omega) (by decide) (by decide) (by omega) (by decide) (by omega)) rfl hq65.1 rfl rfl rfl rfl rfl rfl (fun w66 hq67 => ?_)
                    obtain ⟨g68, hr69, hb70, he72, hk73, hb71⟩ := hq67
                    refine xg_t (xg_aload (va := (2, 16)) rfl rfl) ?_
                    refine xg_t (xg_iload (va := (0, f16_26)) rfl rfl) ?_
                    refine xg_t (xg_const) ?_
                    refine xg_t (xg_iload (va := (0, pb)) rfl rfl) ?_
                    refine xg_cVv mX5_put (vs := [(0, f16_26), (0, 1), (0, pb)]) (rest := []) (cn1 := 0) (sl1 := 0) rfl (rputX (lim := 12) (wd := 5) (B := 4294967295) (hb71.get (by decide) hq65.1) hr69 (hb70) (by decide) (by omega) (by decide) (by decide) (by omega) (by decide) (by omega)) rfl (hb71.get (by decide) hq65.1) rfl rfl rfl rfl rfl rfl (fun w74 hq75 => ?_)
                    obtain ⟨g76, hr77, hb78, he80, hk81, hb79⟩ := hq75
                    refine xg_t (xg_aload (va := (2, 16)) rfl rfl) ?_
                    refine xg_t (xg_iload (va := (0, f16_26)) rfl rfl) ?_
                    refine xg_t (xg_const) ?_
                    refine xg_t (xg_iload (va := (0, pc_)) rfl rfl) ?_
                    refine xg_cVv mX5_put (vs := [(0, f16_26), (0, 2), (0, pc_)]) (rest := []) (cn1 := 0) (sl1 := 0) rfl (rputX (lim := 12) (wd := 5) (B := 4294967295) (hb79.get (by decide) (hb71.get (by decide) hq65.1)) hr77 (hb78) (by decide) (by omega) (by decide) (by decide) (by omega) (by decide) (by omega)) rfl (hb79.get (by decide) (hb71.get (by decide) hq65.1)) rfl rfl rfl rfl rfl rfl (fun w82 hq83 => ?_)
                    obtain ⟨g84, hr85, hb86, he88, hk89, hb87⟩ := hq83
                    refine xg_t (xg_aload (va := (2, 16)) rfl rfl) ?_
                    refine xg_t (xg_iload (va := (0, f16_26)) rfl rfl) ?_
                    refine xg_t (xg_const) ?_
                    refine xg_t (xg_iload (va := (0, pd)) rfl rfl) ?_
                    refine xg_cVv mX5_put (vs := [(0, f16_26), (0, 3), (0, pd)]) (rest := []) (cn1 := 0) (sl1 := 0) rfl (rputX (lim := 12) (wd := 5) (B := 4294967295) (hb87.get (by decide) (hb79.get (by decide) (hb71.get (by decide) hq65.1))) hr85 (hb86) (by decide) (by omega) (by decide) (by decide) (by omega) (by decide) (by omega)) rfl (hb87.get (by decide) (hb79.get (by decide) (hb71.get (by decide) hq65.1))) rfl rfl rfl rfl rfl rfl (fun w90 hq91 => ?_)
                    obtain ⟨g92, hr93, hb94, he96, hk97, hb95⟩ := hq91
                    refine xg_t (xg_aload (va := (2, 16)) rfl rfl) ?_
                    refine xg_t (xg_iload (va := (0, f16_26)) rfl rfl) ?_
                    refine xg_t (xg_const) ?_
                    refine xg_t (xg_iload (va := (0, li)) rfl rfl) ?_
                    refine xg_t (xg_iload (va := (0, ho)) rfl rfl) ?_
                    have hm98 : li * ho ≤ 9 * 999 := Nat.mul_le_mul (by omega) (by omega)
                    refine xg_t (xg_imul (u := li) (v := ho) (z := li * ho) xnm0 xnm0 (Nat.mod_eq_of_lt (by omega))) ?_
                    refine xg_cVv mX5_put (vs := [(0, f16_26), (0, 4), (0, li * ho)]) (rest := []) (cn1 := 0) (sl1 := 0) rfl (rputX (lim := 12) (wd := 5) (B := 4294967295) (hb95.get (by decide) (hb87.get (by decide) (hb79.get (by decide) (hb71.get (by decide) hq65.1)))) hr93 (hb94) (by decide) (by omega) (by decide) (by decide) (by omega) (by decide) (by omega)) rfl (hb95.get (by decide) (hb87.get (by decide) (hb79.get (by decide) (hb71.get (by decide) hq65.1)))) rfl rfl rfl rfl rfl rfl (fun w99 hq100 => ?_)
                    obtain ⟨g101, hr102, hb103, he105, hk106, hb104⟩ := hq100
                    refine xg_t (xg_aload (va := (2, 0)) rfl rfl) ?_
                    refine xg_t (xg_getf (va := (2, 68)) (hb104.get (by decide) (hb95.get (by decide) (hb87.get (by decide) (hb79.get (by decide) (hb71.get (by decide) (hq65.2.get (by decide) h0_1)))))) rfl) ?_
                    refine xoC68 (xqc68 hI : cp68 (wget w 68)) (fun f68_107 f68_109 h68_111 hb108 hb110 => ?_)
                    refine xg_cVv mX3_forgetAges (vs := []) (rest := []) (cn1 := 0) (sl1 := 0) rfl (lmForgetAE (xInv.up (S := [16, 17]) hI ((((((xFr.of (S := [16, 17]) hq65.2 (by decide)).tr (xFr.of (S := [16, 17]) hb71 (by decide))).tr (xFr.of (S := [16, 17]) hb79 (by decide))).tr (xFr.of (S := [16, 17]) hb87 (by decide))).tr (xFr.of (S := [16, 17]) hb95 (by decide))).tr (xFr.of (S := [16, 17]) hb104 (by decide))) (List.forall_mem_cons.mpr ⟨xqu16 (show cp16 (wget w99 16) from ⟨(f16_26 + 1), (hb104.get (by decide) (hb95.get (by decide) (hb87.get (by decide) (hb79.get (by decide) (hb71.get (by decide) hq65.1))))), by omega⟩), List.forall_mem_cons.mpr ⟨xqu17 (show cpI 60 7 4294967295 (wget w99 17) from ⟨_, hr102, hb103⟩), fun _ h => absurd h List.not_mem_nil⟩⟩))) rfl (hb104.get (by decide) (hb95.get (by decide) (hb87.get (by decide) (hb79.get (by decide) (hb71.get (by decide) (hq65.2.get (by decide) h68_111)))))) rfl rfl rfl rfl rfl rfl (fun w112 hq113 => ?_)
                    obtain ⟨hI114, hF115, hx116⟩ := hq113
                    refine xg_t (xg_aload (va := (2, 16)) rfl rfl) ?_
                    refine xg_t (xg_getf (va := (0, (f16_26 + 1))) (hF115.get (by decide) (hb104.get (by decide) (hb95.get (by decide) (hb87.get (by decide) (hb79.get (by decide) (hb71.get (by decide) hq65.1)))))) rfl) ?_
                    have hq117 : fld w 3 7 = f3_19 := fld_of h3_25
                    have hq118 : fld w112 3 7 = f3_19 := fld_of (hF115.get (by decide) (hb104.get (by decide) (hb95.get (by decide) (hb87.get (by decide) (hb79.get (by decide) (hb71.get (by decide) (hq65.2.get (by decide) h3_25)))))))
                    have hq119 : fld w 3 8 = f3_21 := fld_of h3_25
                    have hq120 : fld w112 3 8 = f3_21 := fld_of (hF115.get (by decide) (hb104.get (by decide) (hb95.get (by decide) (hb87.get (by decide) (hb79.get (by decide) (hb71.get (by decide) (hq65.2.get (by decide) h3_25)))))))
                    have hq121 : fld w 16 3 = f16_26 := fld_of h16_28
                    have hq122 : fld w112 16 3 = (f16_26 + 1) := fld_of (hF115.get (by decide) (hb104.get (by decide) (hb95.get (by decide) (hb87.get (by decide) (hb79.get (by decide) (hb71.get (by decide) hq65.1))))))
                    have hq124 : 5 * fld w 16 3 = f16_26 * 5 + 0 := by omega
                    have hq123 : rwv w112 17 (5 * fld w 16 3) = pa := by
                      rw [hq124, rwv_of (hr102.fr hF115 (by decide)) (by omega), hk106 _ (by omega), hk97 _ (by omega), hk89 _ (by omega), hk81 _ (by omega), he72]
                    have hq126 : 5 * fld w 16 3 + 1 = f16_26 * 5 + 1 := by omega
                    have hq125 : rwv w112 17 (5 * fld w 16 3 + 1) = pb := by
                      rw [hq126, rwv_of (hr102.fr hF115 (by decide)) (by omega), hk106 _ (by omega), hk97 _ (by omega), hk89 _ (by omega), he80]
                    have hq128 : 5 * fld w 16 3 + 2 = f16_26 * 5 + 2 := by omega
                    have hq127 : rwv w112 17 (5 * fld w 16 3 + 2) = pc_ := by
                      rw [hq128, rwv_of (hr102.fr hF115 (by decide)) (by omega), hk106 _ (by omega), hk97 _ (by omega), he88]
                    have hq130 : 5 * fld w 16 3 + 3 = f16_26 * 5 + 3 := by omega
                    have hq129 : rwv w112 17 (5 * fld w 16 3 + 3) = pd := by
                      rw [hq130, rwv_of (hr102.fr hF115 (by decide)) (by omega), hk106 _ (by omega), he96]
                    have hq132 : 5 * fld w 16 3 + 4 = f16_26 * 5 + 4 := by omega
                    have hq131 : rwv w112 17 (5 * fld w 16 3 + 4) = li * ho := by
                      rw [hq132, rwv_of (hr102.fr hF115 (by decide)) (by omega), he105]
                    exact xg_e ⟨(f16_26 + 1), w112, ⟨rfl, rfl⟩, ⟨Or.inl ⟨by omega, by omega, by omega, by omega, hx116⟩, fun _ => ⟨hq123, hq125, hq127, hq129, hq131⟩, fun j hj h => (rwv_of (hr102.fr hF115 (by decide)) h).trans (Eq.trans (by rw [hk106 j (by omega), hk97 j (by omega), hk89 j (by omega), hk81 j (by omega), hk73 j (by omega)]) (rwv_of h17_30 h).symm)⟩, hI114, (((((((xFr.of (S := [16, 17, 68]) hq65.2 (by decide)).tr (xFr.of (S := [16, 17, 68]) hb71 (by decide))).tr (xFr.of (S := [16, 17, 68]) hb79 (by decide))).tr (xFr.of (S := [16, 17, 68]) hb87 (by decide))).tr (xFr.of (S := [16, 17, 68]) hb95 (by decide))).tr (xFr.of (S := [16, 17, 68]) hb104 (by decide))).tr (hF115.up (by decide)))⟩
                  · refine xg_t (xg_ifF (u := (if 1 ≤ ho ∧ ho ≤ 999 then 1 else 0)) rfl xnm0 (xj_neF (xite0 hc63))) ?_
                    refine xg_t (xg_blq rfl) ?_
                    refine xg_t (xg_const) ?_
                    have hq133 : fld w 3 7 = f3_19 := fld_of h3_25
                    have hq134 : fld w 3 8 = f3_21 := fld_of h3_25
                    have hq135 : fld w 16 3 = f16_26 := fld_of h16_28
                    exact xg_e ⟨4294967295, w, ⟨rfl, rfl⟩, ⟨Or.inr ⟨by omega, by omega, rfl⟩, fun h => absurd h (by omega), fun j _ _ => rfl⟩, hI, xFr.rf⟩
                · refine xg_t (xg_ifT (u := (if 1 ≤ li ∧ li ≤ 9 then 1 else 0)) rfl xnm0 (xj_eqT (xite0 hc62))) ?_
                  refine xg_t (xg_blq rfl) ?_
                  refine xg_t (xg_const) ?_
                  have hq136 : fld w 3 7 = f3_19 := fld_of h3_25
                  have hq137 : fld w 3 8 = f3_21 := fld_of h3_25
                  have hq138 : fld w 16 3 = f16_26 := fld_of h16_28
                  exact xg_e ⟨4294967295, w, ⟨rfl, rfl⟩, ⟨Or.inr ⟨by omega, by omega, rfl⟩, fun h => absurd h (by omega), fun j _ _ => rfl⟩, hI, xFr.rf⟩
            · refine xg_t (xg_icT (u := pd) (v := f3_21) rfl xnm0 xnm0 (xj_geT (by omega) (by omega))) ?_
              refine xg_t (xg_blq rfl) ?_
              refine xg_t (xg_const) ?_
              refine xg_t (xg_blq rfl) ?_
              refine xg_t (xg_istore (l1 := [(7, (2, 16)), (0, (2, 0)), (1, (0, pa)), (2, (0, pb)), (3, (0, pc_)), (4, (0, pd)), (5, (0, li)), (6, (0, ho))]) rfl rfl rfl) ?_
              refine xg_t (xg_aload (va := (2, 16)) rfl rfl) ?_
              refine xg_t (xg_cVr mX5_isFull (vs := []) (rest := []) (rs := [(0, if 12 ≤ f16_26 then 1 else 0)]) (cn1 := 0) (sl1 := 0) rfl (rfull_ok h16_28 (by decide) (by omega)) rfl h16_28 rfl rfl rfl rfl rfl rfl rfl) ?_
              by_cases hc139 : 12 ≤ f16_26
              · refine xg_t (xg_ifT (u := (if 12 ≤ f16_26 then 1 else 0)) rfl xnm0 (xj_neT (xite1 hc139))) ?_
                refine xg_t (xg_blq rfl) ?_
                refine xg_t (xg_const) ?_
                have hq140 : fld w 3 7 = f3_19 := fld_of h3_25
                have hq141 : fld w 3 8 = f3_21 := fld_of h3_25
                have hq142 : fld w 16 3 = f16_26 := fld_of h16_28
                exact xg_e ⟨4294967295, w, ⟨rfl, rfl⟩, ⟨Or.inr ⟨by omega, by omega, rfl⟩, fun h => absurd h (by omega), fun j _ _ => rfl⟩, hI, xFr.rf⟩
              · refine xg_t (xg_ifF (u := (if 12 ≤ f16_26 then 1 else 0)) rfl xnm0 (xj_neF (xite0 hc139))) ?_
                refine xg_t (xg_iload (va := (0, 0)) rfl rfl) ?_
                refine xg_t (xg_ifT (u := 0) rfl xnm0 (by decide)) ?_
                refine xg_t (xg_blq rfl) ?_
                refine xg_t (xg_const) ?_
                have hq143 : fld w 3 7 = f3_19 := fld_of h3_25
                have hq144 : fld w 3 8 = f3_21 := fld_of h3_25
                have hq145 : fld w 16 3 = f16_26 := fld_of h16_28
                exact xg_e ⟨4294967295, w, ⟨rfl, rfl⟩, ⟨Or.inr ⟨by omega, by omega, rfl⟩, fun h => absurd h (by omega), fun j _ _ => rfl⟩, hI, xFr.rf⟩
        · refine xg_t (xg_ifT (u := pc_) rfl xnm0 (xjz_ltT (by omega) (by omega))) ?_
          refine xg_t (xg_blq rfl) ?_
          refine xg_t (xg_const) ?_
          refine xg_t (xg_blq rfl) ?_
          refine xg_t (xg_istore (l1 := [(7, (2, 16)), (0, (2, 0)), (1, (0, pa)), (2, (0, pb)), (3, (0, pc_)), (4, (0, pd)), (5, (0, li)), (6, (0, ho))]) rfl rfl rfl) ?_
          refine xg_t (xg_aload (va := (2, 16)) rfl rfl) ?_
          refine xg_t (xg_cVr mX5_isFull (vs := []) (rest := []) (rs := [(0, if 12 ≤ f16_26 then 1 else 0)]) (cn1 := 0) (sl1 := 0) rfl (rfull_ok h16_28 (by decide) (by omega)) rfl h16_28 rfl rfl rfl rfl rfl rfl rfl) ?_
          by_cases hc146 : 12 ≤ f16_26
          · refine xg_t (xg_ifT (u := (if 12 ≤ f16_26 then 1 else 0)) rfl xnm0 (xj_neT (xite1 hc146))) ?_
            refine xg_t (xg_blq rfl) ?_
            refine xg_t (xg_const) ?_
            have hq147 : fld w 3 7 = f3_19 := fld_of h3_25
            have hq148 : fld w 3 8 = f3_21 := fld_of h3_25
            have hq149 : fld w 16 3 = f16_26 := fld_of h16_28
            exact xg_e ⟨4294967295, w, ⟨rfl, rfl⟩, ⟨Or.inr ⟨by omega, by omega, rfl⟩, fun h => absurd h (by omega), fun j _ _ => rfl⟩, hI, xFr.rf⟩
          · refine xg_t (xg_ifF (u := (if 12 ≤ f16_26 then 1 else 0)) rfl xnm0 (xj_neF (xite0 hc146))) ?_
            refine xg_t (xg_iload (va := (0, 0)) rfl rfl) ?_
            refine xg_t (xg_ifT (u := 0) rfl xnm0 (by decide)) ?_
            refine xg_t (xg_blq rfl) ?_
            refine xg_t (xg_const) ?_
            have hq150 : fld w 3 7 = f3_19 := fld_of h3_25
            have hq151 : fld w 3 8 = f3_21 := fld_of h3_25
            have hq152 : fld w 16 3 = f16_26 := fld_of h16_28
            exact xg_e ⟨4294967295, w, ⟨rfl, rfl⟩, ⟨Or.inr ⟨by omega, by omega, rfl⟩, fun h => absurd h (by omega), fun j _ _ => rfl⟩, hI, xFr.rf⟩
      · refine xg_t (xg_icT (u := pb) (v := f3_19) rfl xnm0 xnm0 (xj_geT (by omega) (by omega))) ?_
        refine xg_t (xg_blq rfl) ?_
        refine xg_t (xg_const) ?_
        refine xg_t (xg_blq rfl) ?_
        refine xg_t (xg_istore (l1 := [(7, (2, 16)), (0, (2, 0)), (1, (0, pa)), (2, (0, pb)), (3, (0, pc_)), (4, (0, pd)), (5, (0, li)), (6, (0, ho))]) rfl rfl rfl) ?_
        refine xg_t (xg_aload (va := (2, 16)) rfl rfl) ?_
        refine xg_t (xg_cVr mX5_isFull (vs := []) (rest := []) (rs := [(0, if 12 ≤ f16_26 then 1 else 0)]) (cn1 := 0) (sl1 := 0) rfl (rfull_ok h16_28 (by decide) (by omega)) rfl h16_28 rfl rfl rfl rfl rfl rfl rfl) ?_
        by_cases hc153 : 12 ≤ f16_26
        · refine xg_t (xg_ifT (u := (if 12 ≤ f16_26 then 1 else 0)) rfl xnm0 (xj_neT (xite1 hc153))) ?_
          refine xg_t (xg_blq rfl) ?_
          refine xg_t (xg_const) ?_
          have hq154 : fld w 3 7 = f3_19 := fld_of h3_25
          have hq155 : fld w 3 8 = f3_21 := fld_of h3_25
          have hq156 : fld w 16 3 = f16_26 := fld_of h16_28
          exact xg_e ⟨4294967295, w, ⟨rfl, rfl⟩, ⟨Or.inr ⟨by omega, by omega, rfl⟩, fun h => absurd h (by omega), fun j _ _ => rfl⟩, hI, xFr.rf⟩
        · refine xg_t (xg_ifF (u := (if 12 ≤ f16_26 then 1 else 0)) rfl xnm0 (xj_neF (xite0 hc153))) ?_
          refine xg_t (xg_iload (va := (0, 0)) rfl rfl) ?_
          refine xg_t (xg_ifT (u := 0) rfl xnm0 (by decide)) ?_
          refine xg_t (xg_blq rfl) ?_
          refine xg_t (xg_const) ?_
          have hq157 : fld w 3 7 = f3_19 := fld_of h3_25
          have hq158 : fld w 3 8 = f3_21 := fld_of h3_25
          have hq159 : fld w 16 3 = f16_26 := fld_of h16_28
          exact xg_e ⟨4294967295, w, ⟨rfl, rfl⟩, ⟨Or.inr ⟨by omega, by omega, rfl⟩, fun h => absurd h (by omega), fun j _ _ => rfl⟩, hI, xFr.rf⟩
  · refine xg_t (xg_ifT (u := pa) rfl xnm0 (xjz_ltT (by omega) (by omega))) ?_
    refine xg_t (xg_blq rfl) ?_
    refine xg_t (xg_const) ?_
    refine xg_t (xg_blq rfl) ?_
    refine xg_t (xg_istore (l1 := [(7, (2, 16)), (0, (2, 0)), (1, (0, pa)), (2, (0, pb)), (3, (0, pc_)), (4, (0, pd)), (5, (0, li)), (6, (0, ho))]) rfl rfl rfl) ?_
    refine xg_t (xg_aload (va := (2, 16)) rfl rfl) ?_
    refine xg_t (xg_cVr mX5_isFull (vs := []) (rest := []) (rs := [(0, if 12 ≤ f16_26 then 1 else 0)]) (cn1 := 0) (sl1 := 0) rfl (rfull_ok h16_28 (by decide) (by omega)) rfl h16_28 rfl rfl rfl rfl rfl rfl rfl) ?_
    by_cases hc160 : 12 ≤ f16_26
    · refine xg_t (xg_ifT (u := (if 12 ≤ f16_26 then 1 else 0)) rfl xnm0 (xj_neT (xite1 hc160))) ?_
      refine xg_t (xg_blq rfl) ?_
      refine xg_t (xg_const) ?_
      have hq161 : fld w 3 7 = f3_19 := fld_of h3_25
      have hq162 : fld w 3 8 = f3_21 := fld_of h3_25
      have hq163 : fld w 16 3 = f16_26 := fld_of h16_28
      exact xg_e ⟨4294967295, w, ⟨rfl, rfl⟩, ⟨Or.inr ⟨by omega, by omega, rfl⟩, fun h => absurd h (by omega), fun j _ _ => rfl⟩, hI, xFr.rf⟩
    · refine xg_t (xg_ifF (u := (if 12 ≤ f16_26 then 1 else 0)) rfl xnm0 (xj_neF (xite0 hc160))) ?_
      refine xg_t (xg_iload (va := (0, 0)) rfl rfl) ?_
      refine xg_t (xg_ifT (u := 0) rfl xnm0 (by decide)) ?_
      refine xg_t (xg_blq rfl) ?_
      refine xg_t (xg_const) ?_
      have hq164 : fld w 3 7 = f3_19 := fld_of h3_25
      have hq165 : fld w 3 8 = f3_21 := fld_of h3_25
      have hq166 : fld w 16 3 = f16_26 := fld_of h16_28
      exact xg_e ⟨4294967295, w, ⟨rfl, rfl⟩, ⟨Or.inr ⟨by omega, by omega, rfl⟩, fun h => absurd h (by omega), fun j _ _ => rfl⟩, hI, xFr.rf⟩
end XER
end
