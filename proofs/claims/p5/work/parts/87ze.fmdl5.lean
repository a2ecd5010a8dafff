/-! the model: the whole text of a film -/
section XFMF
variable {B : Nat → Nat} {n k : Nat} {w w' : List (List xE)}
theorem MST.data (h : MST B n w k) (h0 : (flA B n k).1 = 0) : DATA w := by
  obtain ⟨-, hm, hR⟩ := h
  obtain ⟨hR1, -⟩ := hR h0
  have hl : ∀ s, 1 ≤ lim s → lnC B n s k ≤ lim s := fun s h => lnC_lim h0 h
  have l0 : lnC B n 0 k ≤ 6 := hl 0 (by decide)
  have l1 : lnC B n 1 k ≤ 4 := hl 1 (by decide)
  have l2 : lnC B n 2 k ≤ 6 := hl 2 (by decide)
  have l3 : lnC B n 3 k ≤ 4 := hl 3 (by decide)
  have l4 : lnC B n 4 k ≤ 20 := hl 4 (by decide)
  have m0 := hm 0 (by decide)
  have m1 := hm 1 (by decide)
  have m2 := hm 2 (by decide)
  have m3 := hm 3 (by decide)
  have m4 := hm 4 (by decide)
  have two : ∀ s, s = 5 ∨ s = 6 → (1 ≤ XM w s 0 0 ∧ XM w s 0 0 ≤ grt0 s) ∧ (1 ≤ XM w s 0 1 ∧ XM w s 0 1 ≤ grt1 s) := by
    intro s h5
    by_cases e : lnC B n s k = 0
    · obtain ⟨a, b⟩ := hR1.2 s h5 e
      rw [a, b]
      rcases h5 with rfl | rfl <;> decide
    · obtain ⟨i, i1, i2, i3⟩ := lnC_hit (B := B) (n := n) (s := s) (m := 0) k (by omega)
      have a := hR1.1 i i1 0 (by rw [i2]; rcases h5 with rfl | rfl <;> decide)
      have b := hR1.1 i i1 1 (by rw [i2]; rcases h5 with rfl | rfl <;> decide)
      rw [i2, i3] at a b
      obtain ⟨-, c, d, -⟩ := flt_v i2 (flA_all h0 i i1)
      rw [a, b]
      rcases h5 with rfl | rfl
      · exact ⟨c, d⟩
      · exact ⟨c, d⟩
  obtain ⟨⟨a1, a2⟩, a3, a4⟩ := two 5 (Or.inl rfl)
  obtain ⟨⟨b1, b2⟩, b3, b4⟩ := two 6 (Or.inr rfl)
  refine ⟨by omega, by omega, by omega, by omega, by omega, ⟨b1, b2⟩, ⟨b3, b4⟩, ⟨a1, a2⟩, ⟨a3, a4⟩, fun q t hq ht => ?_, fun q hq => ?_⟩
  · obtain ⟨i, i1, i2, i3⟩ := lnC_hit (B := B) (n := n) (s := 0) (m := q) k (by omega)
    have a := hR1.1 i i1 t (by rw [i2]; show t < 4; omega)
    rw [i2, i3] at a
    have a : rwv w 86 (20 + 4 * q + t) = vln B n (lnP B n i) t := a
    obtain ⟨-, c, d, e⟩ := flt_v i2 (flA_all h0 i i1)
    rw [a]
    rcases (show t = 0 ∨ t = 1 ∨ t = 2 by omega) with rfl | rfl | rfl
    · exact c
    · exact d
    · exact e rfl
  · obtain ⟨i, i1, i2, i3⟩ := lnC_hit (B := B) (n := n) (s := 1) (m := q) k (by omega)
    have a := hR1.1 i i1 1 (by rw [i2]; decide)
    rw [i2, i3] at a
    have a : rwv w 86 (50 + 2 * q + 1) = vln B n (lnP B n i) 1 := a
    rw [show 51 + 2 * q = 50 + 2 * q + 1 by omega, a]
    exact (flt_v i2 (flA_all h0 i i1)).2.2.1
/-- all, as told -/
noncomputable def XA (w : List (List xE)) : Nat → Nat → Nat → Nat := fun s m t => if s = 0 then rwv w 83 (20 + 4 * m + t) else if s = 1 then rwv w 83 (50 + 2 * m + t) else if s = 2 then rwv w 83 (60 + 2 * m + t) else if s = 3 then rwv w 83 (80 + 3 * m + t) else if s = 4 then rwv w 83 (100 + 2 * m + t) else if s = 5 then rwv w 83 (7 + t) else if s = 6 then rwv w 83 (5 + t) else 0
def FLA (B : Nat → Nat) (n : Nat) (w : List (List xE)) (k : Nat) : Prop := (rwv w 83 0 = lnC B n 0 k ∧ rwv w 83 1 = lnC B n 1 k ∧ rwv w 83 2 = lnC B n 2 k ∧ rwv w 83 3 = lnC B n 3 k ∧ rwv w 83 4 = lnC B n 4 k ∧ rwv w 83 14 = k ∧ (flA B n k).1 = 0) ∧ RCN B n k (XA w)
theorem FLA.mk {wd : List (List xE)} (h : MST B n wd k) (h0 : (flA B n k).1 = 0) (c0 : rwv w 83 0 = rwv wd 85 0) (c1 : rwv w 83 1 = rwv wd 85 1) (c2 : rwv w 83 2 = rwv wd 85 2) (c3 : rwv w 83 3 = rwv wd 85 3) (c4 : rwv w 83 4 = rwv wd 85 4) (c14 : rwv w 83 14 = k) (d5 : rwv w 83 5 = rwv wd 86 5) (d6 : rwv w 83 6 = rwv wd 86 6) (d7 : rwv w 83 7 = rwv wd 86 7) (d8 : rwv w 83 8 = rwv wd 86 8) (r : ∀ j, 20 ≤ j → j < 140 → rwv w 83 j = rwv wd 86 j) : FLA B n w k := by
  obtain ⟨-, hm, hR⟩ := h
  obtain ⟨hR1, -⟩ := hR h0
  have hl : ∀ s, 1 ≤ lim s → lnC B n s k ≤ lim s := fun s h => lnC_lim h0 h
  refine ⟨⟨c0.trans (hm 0 (by decide)), c1.trans (hm 1 (by decide)), c2.trans (hm 2 (by decide)), c3.trans (hm 3 (by decide)), c4.trans (hm 4 (by decide)), c14, h0⟩, hR1.cg (fun s m t hm' ht => ?_) (fun s h5 => ?_)⟩
  · unfold XA XM
    by_cases e0 : s = 0
    · subst e0
      have q : lnC B n 0 k ≤ 6 := hl 0 (by decide)
      have ht : t < 4 := ht
      rw [if_pos rfl, if_pos rfl]
      exact r _ (by omega) (by omega)
    · rw [if_neg e0, if_neg e0]
      by_cases e1 : s = 1
      · subst e1
        have q : lnC B n 1 k ≤ 4 := hl 1 (by decide)
        have ht : t < 2 := ht
        rw [if_pos rfl, if_pos rfl]
        exact r _ (by omega) (by omega)
      · rw [if_neg e1, if_neg e1]
        by_cases e2 : s = 2
        · subst e2
          have q : lnC B n 2 k ≤ 6 := hl 2 (by decide)
          have ht : t < 2 := ht
          rw [if_pos rfl, if_pos rfl]
          exact r _ (by omega) (by omega)
        · rw [if_neg e2, if_neg e2]
          by_cases e3 : s = 3
          · subst e3
            have q : lnC B n 3 k ≤ 4 := hl 3 (by decide)
            have ht : t < 3 := ht
            rw [if_pos rfl, if_pos rfl]
            exact r _ (by omega) (by omega)
          · rw [if_neg e3, if_neg e3]
            by_cases e4 : s = 4
            · subst e4
              have q : lnC B n 4 k ≤ 20 := hl 4 (by decide)
              have ht : t < 2 := ht
              rw [if_pos rfl, if_pos rfl]
              exact r _ (by omega) (by omega)
            · rw [if_neg e4, if_neg e4]
              by_cases e5 : s = 5
              · subst e5
                have ht : t < 2 := ht
                rw [if_pos rfl, if_pos rfl]
                rcases (show t = 0 ∨ t = 1 by omega) with rfl | rfl
                · exact d7
                · exact d8
              · rw [if_neg e5, if_neg e5]
                by_cases e6 : s = 6
                · subst e6
                  have ht : t < 2 := ht
                  rw [if_pos rfl, if_pos rfl]
                  rcases (show t = 0 ∨ t = 1 by omega) with rfl | rfl
                  · exact d5
                  · exact d6
                · rw [if_neg e6, if_neg e6]
  · rcases h5 with rfl | rfl
    · exact ⟨d7, d8⟩
    · exact ⟨d5, d6⟩
theorem MST.zero (h10 : fld w 82 10 = 0) (h14 : fld w 82 14 = 0) (hF : rwv w 83 16 = 0) (hF2 : rwv w 83 17 = 4294967295) (hm : ∀ s, s < 7 → rwv w 85 s = 0) (d5 : rwv w 86 5 = 1) (d6 : rwv w 86 6 = 1) (d7 : rwv w 86 7 = 1) (d8 : rwv w 86 8 = 1) : MST B n w 0 := by
  refine ⟨⟨h10, h14, ⟨hF, fun z => absurd rfl z, Nat.zero_le _, fun _ => hF2⟩, fun z => absurd rfl z⟩, hm, fun _ => ⟨RCN.zero (fun s h5 => ?_), fun i hi => absurd hi (Nat.not_lt_zero _)⟩⟩
  rcases h5 with rfl | rfl
  · exact ⟨d7, d8⟩
  · exact ⟨d5, d6⟩
/-- but for the tape's length, the fault and its place -/
def KB (w w' : List (List xE)) : Prop := rwv w' 83 15 = 0 ∧ ∀ j, j < 5360 → j ≠ 15 → j ≠ 16 → j ≠ 17 → rwv w' 83 j = rwv w 83 j
theorem KB.kp {w1 w2 w3 : List (List xE)} (h : KB w1 w2) (k : K83 w2 w3) : KB w1 w3 := ⟨(k 15 (by decide) (by decide) (by decide)).trans h.1, fun j a b c d => (k j a c d).trans (h.2 j a b c d)⟩
theorem bsm.kb {nn : Nat} {w w' : List (List xE)} (h : bsm w B nn) (e : KB w w') : bsm w' B nn := h.fr (fun j h4 h9 => e.2 j (by omega) (by omega) (by omega) (by omega))
end XFMF
section XFMG
variable {d : Nat} {w : List (List xE)} {bd : List (Nat × Nat)} {fc : List (Nat × Nat × Bool)} {rr : Nat × Nat}
set_option maxHeartbeats 60000000 in
theorem mALnX {B : Nat → Nat} {nn k p0 : Nat} (hI : xMnv w) (hB : bsm w B nn) (hp0 : p0 = lnP B nn k) (hT : TKM 0 B nn w p0) (hS : MST B nn w k) (hk5 : k ≤ 500) : xPq (d + 7) mX12_aLine [(2, 82)] w bd fc rr [] (fun w' => xMnv w' ∧ xFr [82, 83, 85, 86, 87] w w' ∧ (((∃ q, lnR B nn p0 = (false, q) ∧ WRG w' (tq B nn q)) ∨ ((lnR B nn p0).1 = true ∧ TKM 0 B nn w' (lnP B nn (k + 1)) ∧ MST B nn w' (k + 1))) ∧ K83 w w' ∧ fld w 82 14 ≤ fld w' 82 14)) := by
  refine xPq.of ?_
  show xTo (d + 7) mX12_aLine (0, [], [(0, (2, 82))], [], (w, bd, fc, 0, 0, rr)) (fun φ => ∃ w', xEnd 0 [] (w', bd, fc, 0, 0, rr) φ ∧ xMnv w' ∧ xFr [82, 83, 85, 86, 87] w w' ∧ (((∃ q, lnR B nn p0 = (false, q) ∧ WRG w' (tq B nn q)) ∨ ((lnR B nn p0).1 = true ∧ TKM 0 B nn w' (lnP B nn (k + 1)) ∧ MST B nn w' (k + 1))) ∧ K83 w w' ∧ fld w 82 14 ≤ fld w' 82 14))
  obtain ⟨f82_1, f82_3, f82_5, f82_7, f82_9, f82_11, f82_13, f82_15, f82_17, f82_19, f82_21, f82_22, f82_23, f82_25, f82_27, f82_29, h82_31, hb2, hb4, hb6, hb8, hb10, hb12, hb14, hb16, hb18, hb20, hb24, hb26, hb28, hb30, hb32⟩ := (hI 82 (by decide) (by decide) : cp82 (wget w 82))
  replace hb4 := xHid.of hb4
  replace hb10 := xHid.of hb10
  replace hb14 := xHid.of hb14
  replace hb16 := xHid.of hb16
  replace hb20 := xHid.of hb20
  replace hb24 := xHid.of hb24
  replace hb26 := xHid.of hb26
  replace hb28 := xHid.of hb28
  replace hb30 := xHid.of hb30
  obtain ⟨⟨z10, z14, zF, zp⟩, hm, hR⟩ := id hS
  have hf33 : fld w 82 6 = f82_9 := fld_of h82_31
  have hf34 : fld w 82 7 = f82_11 := fld_of h82_31
  have hf35 : fld w 82 9 = f82_15 := fld_of h82_31
  have hf36 : fld w 82 10 = f82_17 := fld_of h82_31
  have hf37 : fld w 82 14 = f82_19 := fld_of h82_31
  obtain ⟨⟨ht38, ht39, ht40, ht41, ht42, ht43⟩, ht44, ht45, ht46⟩ := id hT
  have hmk := mkd_of (ir := 0) (B := B) (n := nn) (p := p0)
  have hwx : wix 0 (twk B nn p0) = wixF (twk B nn p0) := rfl
  refine xg_t (xg_blk (b := [(0, 1, 0, 0, 0, 0), (1, 3, 1, 12, 9, 165), (4, 1, 15, 1, 0, 0), (5, 1, 0, 0, 0, 0), (6, 3, 1, 12, 6, 148), (9, 1, 15, 2, 0, 0), (10, 1, 0, 0, 0, 0), (11, 3, 1, 12, 10, 180), (14, 3, 7, 38, 1, 0), (17, 1, 0, 0, 0, 0), (18, 3, 1, 12, 7, 151), (21, 1, 3, 3, 0, 0), (22, 3, 6, 38, 1, 0), (25, 1, 0, 0, 0, 0), (26, 3, 1, 12, 9, 165), (29, 1, 3, 0, 0, 0), (30, 2, 4, 6, 0, 0), (32, 3, 13, 161, 98, 105), (35, 3, 7, 43, 1, 0)]) rfl) ?_
  refine xg_t (xg_aload (va := (2, 82)) rfl rfl) ?_
  refine xg_t (xg_getf (va := (0, f82_15)) h82_31 rfl) ?_
  have hn47 : f82_15 ≤ 4294967295 := hb16
  refine xg_t (xg_istore (l1 := [(0, (2, 82))]) rfl rfl rfl) ?_
  refine xg_t (xg_aload (va := (2, 82)) rfl rfl) ?_
  refine xg_t (xg_getf (va := (0, f82_9)) h82_31 rfl) ?_
  have hn48 : f82_9 ≤ 4294967295 := hb10
  refine xg_t (xg_istore (l1 := [(1, (0, f82_15)), (0, (2, 82))]) rfl rfl rfl) ?_
  refine xg_t (xg_aload (va := (2, 82)) rfl rfl) ?_
  refine xg_t (xg_getf (va := (0, f82_17)) h82_31 rfl) ?_
  refine xg_t (xg_ifF (u := f82_17) rfl xnm0 (xj_neF (by omega))) ?_
  refine xg_t (xg_aload (va := (2, 82)) rfl rfl) ?_
  refine xg_t (xg_getf (va := (0, f82_11)) h82_31 rfl) ?_
  refine xg_t (xg_const) ?_
  by_cases hc49 : f82_11 = 3
  · refine xg_t (xg_icF (u := f82_11) (v := 3) rfl xnm0 xnm0 (xj_neF hc49)) ?_
    refine xg_t (xg_aload (va := (2, 82)) rfl rfl) ?_
    refine xg_t (xg_getf (va := (0, f82_15)) h82_31 rfl) ?_
    refine xg_t (xg_const) ?_
    refine xg_t (xg_bip) ?_
    refine xg_t (xg_cSr mX12_isIn (vs := [(0, f82_15), (0, 0), (0, 6)]) (rest := []) (rs := [(0, if 0 ≤ f82_15 ∧ f82_15 ≤ 6 then 1 else 0)]) (cn1 := 0) (sl1 := 0) rfl (mIsIn (by omega) (by omega) (by omega)) rfl rfl rfl rfl rfl rfl rfl rfl) ?_
    by_cases hc50 : 0 ≤ f82_15 ∧ f82_15 ≤ 6
    · refine xg_t (xg_ifT (u := (if 0 ≤ f82_15 ∧ f82_15 ≤ 6 then 1 else 0)) rfl xnm0 (xj_neT (xite1 hc50))) ?_
      have hk1 : tkd B nn p0 = 1 := by omega
      have hk2 := ht45 hk1
      have hsl : slt B nn (lnP B nn k) = f82_15 := by
        rw [← hp0]
        unfold slt
        rw [srt_wix, if_pos (by omega)]
        omega
      have hat_ : f82_9 = tq B nn p0 := by omega
      rcases (show f82_15 = 0 ∨ f82_15 = 1 ∨ f82_15 = 2 ∨ f82_15 = 3 ∨ f82_15 = 4 ∨ f82_15 = 5 ∨ f82_15 = 6 by omega) with h_ | h_ | h_ | h_ | h_ | h_ | h_
      · rw [h_] at hsl ⊢
        exact mALnX0 hI hB hp0 hT hS hk5 hsl hat_
      · rw [h_] at hsl ⊢
        exact mALnX1 hI hB hp0 hT hS hk5 hsl hat_
      · rw [h_] at hsl ⊢
        exact mALnX2 hI hB hp0 hT hS hk5 hsl hat_
      · rw [h_] at hsl ⊢
        exact mALnX3 hI hB hp0 hT hS hk5 hsl hat_
      · rw [h_] at hsl ⊢
        exact mALnX4 hI hB hp0 hT hS hk5 hsl hat_
      · rw [h_] at hsl ⊢
        exact mALnX5 hI hB hp0 hT hS hk5 hsl hat_
      · rw [h_] at hsl ⊢
        exact mALnX6 hI hB hp0 hT hS hk5 hsl hat_
    · refine xg_t (xg_ifF (u := (if 0 ≤ f82_15 ∧ f82_15 ≤ 6 then 1 else 0)) rfl xnm0 (xj_neF (xite0 hc50))) ?_
      refine xg_t (xg_blk (b := [(38, 1, 0, 0, 0, 0), (39, 3, 13, 140, 96, 183), (42, 1, 12, 0, 0, 0)]) rfl) ?_
      refine xg_t (xg_aload (va := (2, 82)) rfl rfl) ?_
      refine xg_cVv mX12_ends (vs := []) (rest := []) (cn1 := 0) (sl1 := 0) rfl (mEndsX (hI) z10) rfl h82_31 rfl rfl rfl rfl rfl rfl (fun w51 hq52 => ?_)
      obtain ⟨hI53, hF54, hx55⟩ := hq52
      obtain ⟨hv56, hv57, hv58, hv59, hv60⟩ := hx55
      have h761 : slt B nn p0 = 7 := by
        unfold slt
        rw [srt_wix]
        by_cases y : tkd B nn p0 = 1
        · have y2 := ht45 y
          rw [if_neg (by omega)]
        · rw [twk_0 y]
          rfl
      exact xg_e ⟨w51, ⟨rfl, rfl⟩, hI53, (hF54.up (by decide)), ⟨Or.inl ⟨p0, lnR_7 h761, ⟨hv56, hv57, by omega⟩⟩, hv60, by omega⟩⟩
  · refine xg_t (xg_icT (u := f82_11) (v := 3) rfl xnm0 xnm0 (xj_neT hc49)) ?_
    refine xg_t (xg_blk (b := [(38, 1, 0, 0, 0, 0), (39, 3, 13, 140, 96, 183), (42, 1, 12, 0, 0, 0)]) rfl) ?_
    refine xg_t (xg_aload (va := (2, 82)) rfl rfl) ?_
    refine xg_cVv mX12_ends (vs := []) (rest := []) (cn1 := 0) (sl1 := 0) rfl (mEndsX (hI) z10) rfl h82_31 rfl rfl rfl rfl rfl rfl (fun w62 hq63 => ?_)
    obtain ⟨hI64, hF65, hx66⟩ := hq63
    obtain ⟨hv67, hv68, hv69, hv70, hv71⟩ := hx66
    have h772 : slt B nn p0 = 7 := by
      unfold slt
      rw [srt_wix]
      by_cases y : tkd B nn p0 = 1
      · have y2 := ht45 y
        rw [if_neg (by omega)]
      · rw [twk_0 y]
        rfl
    exact xg_e ⟨w62, ⟨rfl, rfl⟩, hI64, (hF65.up (by decide)), ⟨Or.inl ⟨p0, lnR_7 h772, ⟨hv67, hv68, by omega⟩⟩, hv71, by omega⟩⟩
theorem mBegX0 (hI : xMnv w)  : xPq d mX12_begins [(2, 82), (0, 0)] w bd fc rr [] (fun w' => xMnv w' ∧ xFr [82, 83] w w' ∧ (fld w' 82 2 = 0 ∧ fld w' 82 4 = rwv w 83 15 ∧ fld w' 82 5 = 0 ∧ fld w' 82 10 = 0 ∧ fld w' 82 14 = 0 ∧ rwv w' 83 16 = 0 ∧ rwv w' 83 17 = 4294967295 ∧ KB w w')) := by
  refine xPq.of ?_
  show xTo d mX12_begins (0, [], [(0, (2, 82)), (1, (0, 0))], [], (w, bd, fc, 0, 0, rr)) (fun φ => ∃ w', xEnd 0 [] (w', bd, fc, 0, 0, rr) φ ∧ xMnv w' ∧ xFr [82, 83] w w' ∧ (fld w' 82 2 = 0 ∧ fld w' 82 4 = rwv w 83 15 ∧ fld w' 82 5 = 0 ∧ fld w' 82 10 = 0 ∧ fld w' 82 14 = 0 ∧ rwv w' 83 16 = 0 ∧ rwv w' 83 17 = 4294967295 ∧ KB w w'))
  obtain ⟨f82_1, f82_3, f82_5, f82_7, f82_9, f82_11, f82_13, f82_15, f82_17, f82_19, f82_21, f82_22, f82_23, f82_25, f82_27, f82_29, h82_31, hb2, hb4, hb6, hb8, hb10, hb12, hb14, hb16, hb18, hb20, hb24, hb26, hb28, hb30, hb32⟩ := (hI 82 (by decide) (by decide) : cp82 (wget w 82))
  replace hb4 := xHid.of hb4
  replace hb10 := xHid.of hb10
  replace hb14 := xHid.of hb14
  replace hb16 := xHid.of hb16
  replace hb20 := xHid.of hb20
  replace hb24 := xHid.of hb24
  replace hb26 := xHid.of hb26
  replace hb28 := xHid.of hb28
  replace hb30 := xHid.of hb30
  obtain ⟨g83_33, h83_34, hb35, hx36⟩ := (hI 83 (by decide) (by decide) : cpx83 (wget w 83))
  have h83_34 : xRow w 83 5360 50 g83_33 := h83_34
  refine xg_t (xg_blk (b := [(0, 1, 0, 0, 0, 0), (1, 1, 2, 1, 0, 0), (2, 3, 59, 12, 2, 137), (5, 1, 0, 0, 0, 0), (6, 1, 0, 0, 0, 0), (7, 3, 1, 12, 0, 7), (10, 2, 4, 15, 0, 0), (12, 1, 10, 0, 0, 0), (13, 3, 14, 12, 4, 109), (16, 1, 0, 0, 0, 0), (17, 3, 1, 12, 0, 7), (20, 2, 4, 15, 0, 0), (22, 1, 3, 0, 0, 0), (23, 1, 17, 0, 0, 0), (24, 1, 0, 0, 0, 0), (25, 1, 3, 0, 0, 0), (26, 3, 14, 12, 5, 141), (29, 1, 0, 0, 0, 0), (30, 3, 1, 12, 0, 7), (33, 2, 4, 16, 0, 0), (35, 1, 3, 0, 0, 0), (36, 1, 17, 0, 0, 0), (37, 1, 0, 0, 0, 0), (38, 3, 1, 12, 0, 7), (41, 2, 4, 17, 0, 0), (43, 1, 3, 4294967295, 0, 0), (44, 1, 17, 0, 0, 0), (45, 1, 0, 0, 0, 0), (46, 1, 3, 0, 0, 0), (47, 3, 59, 12, 10, 180), (50, 1, 0, 0, 0, 0), (51, 1, 3, 0, 0, 0), (52, 3, 14, 12, 14, 212), (55, 1, 12, 0, 0, 0)]) rfl) ?_
  refine xg_t (xg_aload (va := (2, 82)) rfl rfl) ?_
  refine xg_t (xg_iload (va := (0, 0)) rfl rfl) ?_
  refine xg_putZ (fl1 := [(2, 83), (2, 84), (0, 0), (0, f82_3), (0, f82_5), (0, f82_7), (0, f82_9), (0, f82_11), (0, f82_13), (0, f82_15), (0, f82_17), (2, 85), (2, 86), (2, 87), (0, f82_19), (2, 88), (2, 89), (2, 90), (2, 91), (2, 92), (2, 93), (2, 94), (4, f82_21), (4, f82_22), (0, f82_23), (2, 95), (2, 96), (2, 97), (2, 98), (2, 99), (2, 100), (2, 101), (2, 102), (0, f82_25), (2, 103), (2, 104), (2, 105), (2, 106), (2, 107), (2, 108), (2, 109), (0, f82_27), (0, f82_29), (2, 110), (2, 111), (2, 112), (2, 113)]) h82_31 rfl rfl rfl (fun w37 hk38 hb39 => ?_)
  refine xg_t (xg_aload (va := (2, 82)) rfl rfl) ?_
  refine xg_t (xg_aload (va := (2, 82)) rfl rfl) ?_
  refine xg_t (xg_getf (va := (2, 83)) hk38 rfl) ?_
  refine xg_t (xg_bip) ?_
  refine xg_ialdB (n := 15) (B := 4294967295) (h83_34.but hb39 (by decide)) (hb35) xnm0 (by omega) (fun u40 hu41 he42 => ?_)
  have hl43 : u40 ≤ 500 := by rw [← he42]; exact hx36.l15
  have hq44 : rwv w 83 15 = u40 := (rwv_of h83_34 (by decide)).trans he42
  refine xg_putI (fl1 := [(2, 83), (2, 84), (0, 0), (0, f82_3), (0, u40), (0, f82_7), (0, f82_9), (0, f82_11), (0, f82_13), (0, f82_15), (0, f82_17), (2, 85), (2, 86), (2, 87), (0, f82_19), (2, 88), (2, 89), (2, 90), (2, 91), (2, 92), (2, 93), (2, 94), (4, f82_21), (4, f82_22), (0, f82_23), (2, 95), (2, 96), (2, 97), (2, 98), (2, 99), (2, 100), (2, 101), (2, 102), (0, f82_25), (2, 103), (2, 104), (2, 105), (2, 106), (2, 107), (2, 108), (2, 109), (0, f82_27), (0, f82_29), (2, 110), (2, 111), (2, 112), (2, 113)]) hk38 rfl rfl rfl (fun w45 hk46 hb47 => ?_)
  refine xg_t (xg_aload (va := (2, 82)) rfl rfl) ?_
  refine xg_t (xg_getf (va := (2, 83)) hk46 rfl) ?_
  refine xg_t (xg_bip) ?_
  refine xg_t (xg_const) ?_
  refine xg_iastK (n := 15) (u := 0) ((h83_34.but hb39 (by decide)).but hb47 (by decide)) xnm0 xnm0 rfl (by omega) (fun w48 hr49 hb50 => ?_)
  have hx51 : okA (fun j => if j = 15 then 0 else g83_33 j) := hx36.upd (by omega) (by omega) (by omega) (fun _ => by omega) (by omega) (fun _ => by omega) (fun _ => by omega) (fun _ => by omega) (fun _ => by omega) (by omega) (fun _ _ => by omega)
  have hb52 : ∀ j, (fun j => if j = 15 then 0 else g83_33 j) j ≤ 4294967295 := xrb (by omega) (hb35)
  obtain ⟨g53, hg54⟩ : ∃ g : Nat → Nat, g = (fun j => if j = 15 then 0 else g83_33 j) := ⟨_, rfl⟩
  rw [← hg54] at hr49
  have he55 : g53 15 = 0 := by rw [hg54]; exact if_pos rfl
  have hk56 : ∀ j, j ≠ 15 → g53 j = g83_33 j := fun j hj => by rw [hg54]; exact if_neg hj
  rw [← hg54] at hx51
  rw [← hg54] at hb52
  refine xg_t (xg_aload (va := (2, 82)) rfl rfl) ?_
  refine xg_t (xg_const) ?_
  refine xg_putI (fl1 := [(2, 83), (2, 84), (0, 0), (0, f82_3), (0, u40), (0, 0), (0, f82_9), (0, f82_11), (0, f82_13), (0, f82_15), (0, f82_17), (2, 85), (2, 86), (2, 87), (0, f82_19), (2, 88), (2, 89), (2, 90), (2, 91), (2, 92), (2, 93), (2, 94), (4, f82_21), (4, f82_22), (0, f82_23), (2, 95), (2, 96), (2, 97), (2, 98), (2, 99), (2, 100), (2, 101), (2, 102), (0, f82_25), (2, 103), (2, 104), (2, 105), (2, 106), (2, 107), (2, 108), (2, 109), (0, f82_27), (0, f82_29), (2, 110), (2, 111), (2, 112), (2, 113)]) (hb50.get (by decide) hk46) rfl rfl rfl (fun w57 hk58 hb59 => ?_)
  refine xg_t (xg_aload (va := (2, 82)) rfl rfl) ?_
  refine xg_t (xg_getf (va := (2, 83)) hk58 rfl) ?_
  refine xg_t (xg_bip) ?_
  refine xg_t (xg_const) ?_
  refine xg_iastK (n := 16) (u := 0) (hr49.but hb59 (by decide)) xnm0 xnm0 rfl (by omega) (fun w60 hr61 hb62 => ?_)
  have hx63 : okA (fun j => if j = 16 then 0 else g53 j) := hx51.upd (by omega) (by omega) (by omega) (fun _ => by omega) (by omega) (fun _ => by omega) (fun _ => by omega) (fun _ => by omega) (fun _ => by omega) (by omega) (fun _ _ => by omega)
  have hb64 : ∀ j, (fun j => if j = 16 then 0 else g53 j) j ≤ 4294967295 := xrb (by omega) (hb52)
  obtain ⟨g65, hg66⟩ : ∃ g : Nat → Nat, g = (fun j => if j = 16 then 0 else g53 j) := ⟨_, rfl⟩
  rw [← hg66] at hr61
  have he67 : g65 16 = 0 := by rw [hg66]; exact if_pos rfl
  have hk68 : ∀ j, j ≠ 16 → g65 j = g53 j := fun j hj => by rw [hg66]; exact if_neg hj
  rw [← hg66] at hx63
  rw [← hg66] at hb64
  refine xg_t (xg_aload (va := (2, 82)) rfl rfl) ?_
  refine xg_t (xg_getf (va := (2, 83)) (hb62.get (by decide) hk58) rfl) ?_
  refine xg_t (xg_bip) ?_
  refine xg_t (xg_const) ?_
  refine xg_iastK (n := 17) (u := 4294967295) hr61 xnm0 xnm0 rfl (by omega) (fun w69 hr70 hb71 => ?_)
  have hx72 : okA (fun j => if j = 17 then 4294967295 else g65 j) := hx63.upd (by omega) (by omega) (by omega) (fun _ => by omega) (by omega) (fun _ => by omega) (fun _ => by omega) (fun _ => by omega) (fun _ => by omega) (by omega) (fun _ _ => by omega)
  have hb73 : ∀ j, (fun j => if j = 17 then 4294967295 else g65 j) j ≤ 4294967295 := xrb (by omega) (hb64)
  obtain ⟨g74, hg75⟩ : ∃ g : Nat → Nat, g = (fun j => if j = 17 then 4294967295 else g65 j) := ⟨_, rfl⟩
  rw [← hg75] at hr70
  have he76 : g74 17 = 4294967295 := by rw [hg75]; exact if_pos rfl
  have hk77 : ∀ j, j ≠ 17 → g74 j = g65 j := fun j hj => by rw [hg75]; exact if_neg hj
  rw [← hg75] at hx72
  rw [← hg75] at hb73
  refine xg_t (xg_aload (va := (2, 82)) rfl rfl) ?_
  refine xg_t (xg_const) ?_
  refine xg_putZ (fl1 := [(2, 83), (2, 84), (0, 0), (0, f82_3), (0, u40), (0, 0), (0, f82_9), (0, f82_11), (0, f82_13), (0, f82_15), (0, 0), (2, 85), (2, 86), (2, 87), (0, f82_19), (2, 88), (2, 89), (2, 90), (2, 91), (2, 92), (2, 93), (2, 94), (4, f82_21), (4, f82_22), (0, f82_23), (2, 95), (2, 96), (2, 97), (2, 98), (2, 99), (2, 100), (2, 101), (2, 102), (0, f82_25), (2, 103), (2, 104), (2, 105), (2, 106), (2, 107), (2, 108), (2, 109), (0, f82_27), (0, f82_29), (2, 110), (2, 111), (2, 112), (2, 113)]) (hb71.get (by decide) (hb62.get (by decide) hk58)) rfl rfl rfl (fun w78 hk79 hb80 => ?_)
  refine xg_t (xg_aload (va := (2, 82)) rfl rfl) ?_
  refine xg_t (xg_const) ?_
  refine xg_putI (fl1 := [(2, 83), (2, 84), (0, 0), (0, f82_3), (0, u40), (0, 0), (0, f82_9), (0, f82_11), (0, f82_13), (0, f82_15), (0, 0), (2, 85), (2, 86), (2, 87), (0, 0), (2, 88), (2, 89), (2, 90), (2, 91), (2, 92), (2, 93), (2, 94), (4, f82_21), (4, f82_22), (0, f82_23), (2, 95), (2, 96), (2, 97), (2, 98), (2, 99), (2, 100), (2, 101), (2, 102), (0, f82_25), (2, 103), (2, 104), (2, 105), (2, 106), (2, 107), (2, 108), (2, 109), (0, f82_27), (0, f82_29), (2, 110), (2, 111), (2, 112), (2, 113)]) hk79 rfl rfl rfl (fun w81 hk82 hb83 => ?_)
  have hf84 : fld w81 82 2 = 0 := fld_of hk82
  have hf85 : fld w81 82 4 = u40 := fld_of hk82
  have hf86 : fld w81 82 5 = 0 := fld_of hk82
  have hf87 : fld w81 82 10 = 0 := fld_of hk82
  have hf88 : fld w81 82 14 = 0 := fld_of hk82
  have hq89 : rwv w81 83 15 = 0 := (rwv_of ((hr70.but hb80 (by decide)).but hb83 (by decide)) (by decide)).trans (by rw [hk77 15 (by decide), hk68 15 (by decide), he55])
  have hq90 : rwv w81 83 16 = 0 := (rwv_of ((hr70.but hb80 (by decide)).but hb83 (by decide)) (by decide)).trans (by rw [hk77 16 (by decide), he67])
  have hq91 : rwv w81 83 17 = 4294967295 := (rwv_of ((hr70.but hb80 (by decide)).but hb83 (by decide)) (by decide)).trans (by rw [he76])
  exact xg_e ⟨w81, ⟨rfl, rfl⟩, xMnv.up (S := [82, 83]) hI ((((((((xFr.of (S := [82, 83]) hb39 (by decide)).tr (xFr.of (S := [82, 83]) hb47 (by decide))).tr (xFr.of (S := [82, 83]) hb50 (by decide))).tr (xFr.of (S := [82, 83]) hb59 (by decide))).tr (xFr.of (S := [82, 83]) hb62 (by decide))).tr (xFr.of (S := [82, 83]) hb71 (by decide))).tr (xFr.of (S := [82, 83]) hb80 (by decide))).tr (xFr.of (S := [82, 83]) hb83 (by decide))) (List.forall_mem_cons.mpr ⟨(show cp82 (wget w81 82) from ⟨0, f82_3, u40, 0, f82_9, f82_11, f82_13, f82_15, 0, 0, f82_21, f82_22, f82_23, f82_25, f82_27, f82_29, hk82, by omega, hb4, by omega, by omega, hb10, by omega, hb14, hb16, by omega, by omega, hb24, hb26, hb28, hb30, by omega⟩), List.forall_mem_cons.mpr ⟨(show cpx83 (wget w81 83) from ⟨_, ((hr70.but hb80 (by decide)).but hb83 (by decide)), hb73, hx72⟩), fun _ h => absurd h List.not_mem_nil⟩⟩), ((((((((xFr.of (S := [82, 83]) hb39 (by decide)).tr (xFr.of (S := [82, 83]) hb47 (by decide))).tr (xFr.of (S := [82, 83]) hb50 (by decide))).tr (xFr.of (S := [82, 83]) hb59 (by decide))).tr (xFr.of (S := [82, 83]) hb62 (by decide))).tr (xFr.of (S := [82, 83]) hb71 (by decide))).tr (xFr.of (S := [82, 83]) hb80 (by decide))).tr (xFr.of (S := [82, 83]) hb83 (by decide))), ⟨hf84, by omega, hf86, hf87, hf88, hq90, hq91, ⟨hq89, fun j a b c d => (rwv_of ((hr70.but hb80 (by decide)).but hb83 (by decide)) a).trans (Eq.trans (by rw [hk77 j (by omega), hk68 j (by omega), hk56 j (by omega)]) (rwv_of h83_34 a).symm)⟩⟩⟩
theorem mBegX1 (hI : xMnv w)  : xPq d mX12_begins [(2, 82), (0, 1)] w bd fc rr [] (fun w' => xMnv w' ∧ xFr [82, 83] w w' ∧ (fld w' 82 2 = 1 ∧ fld w' 82 4 = rwv w 83 15 ∧ fld w' 82 5 = 0 ∧ fld w' 82 10 = 0 ∧ fld w' 82 14 = 0 ∧ rwv w' 83 16 = 0 ∧ rwv w' 83 17 = 4294967295 ∧ KB w w')) := by
  refine xPq.of ?_
  show xTo d mX12_begins (0, [], [(0, (2, 82)), (1, (0, 1))], [], (w, bd, fc, 0, 0, rr)) (fun φ => ∃ w', xEnd 0 [] (w', bd, fc, 0, 0, rr) φ ∧ xMnv w' ∧ xFr [82, 83] w w' ∧ (fld w' 82 2 = 1 ∧ fld w' 82 4 = rwv w 83 15 ∧ fld w' 82 5 = 0 ∧ fld w' 82 10 = 0 ∧ fld w' 82 14 = 0 ∧ rwv w' 83 16 = 0 ∧ rwv w' 83 17 = 4294967295 ∧ KB w w'))
  obtain ⟨f82_1, f82_3, f82_5, f82_7, f82_9, f82_11, f82_13, f82_15, f82_17, f82_19, f82_21, f82_22, f82_23, f82_25, f82_27, f82_29, h82_31, hb2, hb4, hb6, hb8, hb10, hb12, hb14, hb16, hb18, hb20, hb24, hb26, hb28, hb30, hb32⟩ := (hI 82 (by decide) (by decide) : cp82 (wget w 82))
  replace hb4 := xHid.of hb4
  replace hb10 := xHid.of hb10
  replace hb14 := xHid.of hb14
  replace hb16 := xHid.of hb16
  replace hb20 := xHid.of hb20
  replace hb24 := xHid.of hb24
  replace hb26 := xHid.of hb26
  replace hb28 := xHid.of hb28
  replace hb30 := xHid.of hb30
  obtain ⟨g83_33, h83_34, hb35, hx36⟩ := (hI 83 (by decide) (by decide) : cpx83 (wget w 83))
  have h83_34 : xRow w 83 5360 50 g83_33 := h83_34
  refine xg_t (xg_blk (b := [(0, 1, 0, 0, 0, 0), (1, 1, 2, 1, 0, 0), (2, 3, 59, 12, 2, 137), (5, 1, 0, 0, 0, 0), (6, 1, 0, 0, 0, 0), (7, 3, 1, 12, 0, 7), (10, 2, 4, 15, 0, 0), (12, 1, 10, 0, 0, 0), (13, 3, 14, 12, 4, 109), (16, 1, 0, 0, 0, 0), (17, 3, 1, 12, 0, 7), (20, 2, 4, 15, 0, 0), (22, 1, 3, 0, 0, 0), (23, 1, 17, 0, 0, 0), (24, 1, 0, 0, 0, 0), (25, 1, 3, 0, 0, 0), (26, 3, 14, 12, 5, 141), (29, 1, 0, 0, 0, 0), (30, 3, 1, 12, 0, 7), (33, 2, 4, 16, 0, 0), (35, 1, 3, 0, 0, 0), (36, 1, 17, 0, 0, 0), (37, 1, 0, 0, 0, 0), (38, 3, 1, 12, 0, 7), (41, 2, 4, 17, 0, 0), (43, 1, 3, 4294967295, 0, 0), (44, 1, 17, 0, 0, 0), (45, 1, 0, 0, 0, 0), (46, 1, 3, 0, 0, 0), (47, 3, 59, 12, 10, 180), (50, 1, 0, 0, 0, 0), (51, 1, 3, 0, 0, 0), (52, 3, 14, 12, 14, 212), (55, 1, 12, 0, 0, 0)]) rfl) ?_
  refine xg_t (xg_aload (va := (2, 82)) rfl rfl) ?_
  refine xg_t (xg_iload (va := (0, 1)) rfl rfl) ?_
  refine xg_putZ (fl1 := [(2, 83), (2, 84), (0, 1), (0, f82_3), (0, f82_5), (0, f82_7), (0, f82_9), (0, f82_11), (0, f82_13), (0, f82_15), (0, f82_17), (2, 85), (2, 86), (2, 87), (0, f82_19), (2, 88), (2, 89), (2, 90), (2, 91), (2, 92), (2, 93), (2, 94), (4, f82_21), (4, f82_22), (0, f82_23), (2, 95), (2, 96), (2, 97), (2, 98), (2, 99), (2, 100), (2, 101), (2, 102), (0, f82_25), (2, 103), (2, 104), (2, 105), (2, 106), (2, 107), (2, 108), (2, 109), (0, f82_27), (0, f82_29), (2, 110), (2, 111), (2, 112), (2, 113)]) h82_31 rfl rfl rfl (fun w37 hk38 hb39 => ?_)
  refine xg_t (xg_aload (va := (2, 82)) rfl rfl) ?_
  refine xg_t (xg_aload (va := (2, 82)) rfl rfl) ?_
  refine xg_t (xg_getf (va := (2, 83)) hk38 rfl) ?_
  refine xg_t (xg_bip) ?_
  refine xg_ialdB (n := 15) (B := 4294967295) (h83_34.but hb39 (by decide)) (hb35) xnm0 (by omega) (fun u40 hu41 he42 => ?_)
  have hl43 : u40 ≤ 500 := by rw [← he42]; exact hx36.l15
  have hq44 : rwv w 83 15 = u40 := (rwv_of h83_34 (by decide)).trans he42
  refine xg_putI (fl1 := [(2, 83), (2, 84), (0, 1), (0, f82_3), (0, u40), (0, f82_7), (0, f82_9), (0, f82_11), (0, f82_13), (0, f82_15), (0, f82_17), (2, 85), (2, 86), (2, 87), (0, f82_19), (2, 88), (2, 89), (2, 90), (2, 91), (2, 92), (2, 93), (2, 94), (4, f82_21), (4, f82_22), (0, f82_23), (2, 95), (2, 96), (2, 97), (2, 98), (2, 99), (2, 100), (2, 101), (2, 102), (0, f82_25), (2, 103), (2, 104), (2, 105), (2, 106), (2, 107), (2, 108), (2, 109), (0, f82_27), (0, f82_29), (2, 110), (2, 111), (2, 112), (2, 113)]) hk38 rfl rfl rfl (fun w45 hk46 hb47 => ?_)
  refine xg_t (xg_aload (va := (2, 82)) rfl rfl) ?_
  refine xg_t (xg_getf (va := (2, 83)) hk46 rfl) ?_
  refine xg_t (xg_bip) ?_
  refine xg_t (xg_const) ?_
  refine xg_iastK (n := 15) (u := 0) ((h83_34.but hb39 (by decide)).but hb47 (by decide)) xnm0 xnm0 rfl (by omega) (fun w48 hr49 hb50 => ?_)
  have hx51 : okA (fun j => if j = 15 then 0 else g83_33 j) := hx36.upd (by omega) (by omega) (by omega) (fun _ => by omega) (by omega) (fun _ => by omega) (fun _ => by omega) (fun _ => by omega) (fun _ => by omega) (by omega) (fun _ _ => by omega)
  have hb52 : ∀ j, (fun j => if j = 15 then 0 else g83_33 j) j ≤ 4294967295 := xrb (by omega) (hb35)
  obtain ⟨g53, hg54⟩ : ∃ g : Nat → Nat, g = (fun j => if j = 15 then 0 else g83_33 j) := ⟨_, rfl⟩
  rw [← hg54] at hr49
  have he55 : g53 15 = 0 := by rw [hg54]; exact if_pos rfl
  have hk56 : ∀ j, j ≠ 15 → g53 j = g83_33 j := fun j hj => by rw [hg54]; exact if_neg hj
  rw [← hg54] at hx51
  rw [← hg54] at hb52
  refine xg_t (xg_aload (va := (2, 82)) rfl rfl) ?_
  refine xg_t (xg_const) ?_
  refine xg_putI (fl1 := [(2, 83), (2, 84), (0, 1), (0, f82_3), (0, u40), (0, 0), (0, f82_9), (0, f82_11), (0, f82_13), (0, f82_15), (0, f82_17), (2, 85), (2, 86), (2, 87), (0, f82_19), (2, 88), (2, 89), (2, 90), (2, 91), (2, 92), (2, 93), (2, 94), (4, f82_21), (4, f82_22), (0, f82_23), (2, 95), (2, 96), (2, 97), (2, 98), (2, 99), (2, 100), (2, 101), (2, 102), (0, f82_25), (2, 103), (2, 104), (2, 105), (2, 106), (2, 107), (2, 108), (2, 109), (0, f82_27), (0, f82_29), (2, 110), (2, 111), (2, 112), (2, 113)]) (hb50.get (by decide) hk46) rfl rfl rfl (fun w57 hk58 hb59 => ?_)
  refine xg_t (xg_aload (va := (2, 82)) rfl rfl) ?_
  refine xg_t (xg_getf (va := (2, 83)) hk58 rfl) ?_
  refine xg_t (xg_bip) ?_
  refine xg_t (xg_const) ?_
  refine xg_iastK (n := 16) (u := 0) (hr49.but hb59 (by decide)) xnm0 xnm0 rfl (by omega) (fun w60 hr61 hb62 => ?_)
  have hx63 : okA (fun j => if j = 16 then 0 else g53 j) := hx51.upd (by omega) (by omega) (by omega) (fun _ => by omega) (by omega) (fun _ => by omega) (fun _ => by omega) (fun _ => by omega) (fun _ => by omega) (by omega) (fun _ _ => by omega)
  have hb64 : ∀ j, (fun j => if j = 16 then 0 else g53 j) j ≤ 4294967295 := xrb (by omega) (hb52)
  obtain ⟨g65, hg66⟩ : ∃ g : Nat → Nat, g = (fun j => if j = 16 then 0 else g53 j) := ⟨_, rfl⟩
  rw [← hg66] at hr61
  have he67 : g65 16 = 0 := by rw [hg66]; exact if_pos rfl
  have hk68 : ∀ j, j ≠ 16 → g65 j = g53 j := fun j hj => by rw [hg66]; exact if_neg hj
  rw [← hg66] at hx63
  rw [← hg66] at hb64
  refine xg_t (xg_aload (va := (2, 82)) rfl rfl) ?_
  refine xg_t (xg_getf (va := (2, 83)) (hb62.get (by decide) hk58) rfl) ?_
  refine xg_t (xg_bip) ?_
  refine xg_t (xg_const) ?_
  refine xg_iastK (n := 17) (u := 4294967295) hr61 xnm0 xnm0 rfl (by omega) (fun w69 hr70 hb71 => ?_)
  have hx72 : okA (fun j => if j = 17 then 4294967295 else g65 j) := hx63.upd (by omega) (by omega) (by omega) (fun _ => by omega) (by omega) (fun _ => by omega) (fun _ => by omega) (fun _ => by omega) (fun _ => by omega) (by omega) (fun _ _ => by omega)
  have hb73 : ∀ j, (fun j => if j = 17 then 4294967295 else g65 j) j ≤ 4294967295 := xrb (by omega) (hb64)
  obtain ⟨g74, hg75⟩ : ∃ g : Nat → Nat, g = (fun j => if j = 17 then 4294967295 else g65 j) := ⟨_, rfl⟩
  rw [← hg75] at hr70
  have he76 : g74 17 = 4294967295 := by rw [hg75]; exact if_pos rfl
  have hk77 : ∀ j, j ≠ 17 → g74 j = g65 j := fun j hj => by rw [hg75]; exact if_neg hj
  rw [← hg75] at hx72
  rw [← hg75] at hb73
  refine xg_t (xg_aload (va := (2, 82)) rfl rfl) ?_
  refine xg_t (xg_const) ?_
  refine xg_putZ (fl1 := [(2, 83), (2, 84), (0, 1), (0, f82_3), (0, u40), (0, 0), (0, f82_9), (0, f82_11), (0, f82_13), (0, f82_15), (0, 0), (2, 85), (2, 86), (2, 87), (0, f82_19), (2, 88), (2, 89), (2, 90), (2, 91), (2, 92), (2, 93), (2, 94), (4, f82_21), (4, f82_22), (0, f82_23), (2, 95), (2, 96), (2, 97), (2, 98), (2, 99), (2, 100), (2, 101), (2, 102), (0, f82_25), (2, 103), (2, 104), (2, 105), (2, 106), (2, 107), (2, 108), (2, 109), (0, f82_27), (0, f82_29), (2, 110), (2, 111), (2, 112), (2, 113)]) (hb71.get (by decide) (hb62.get (by decide) hk58)) rfl rfl rfl (fun w78 hk79 hb80 => ?_)
  refine xg_t (xg_aload (va := (2, 82)) rfl rfl) ?_
  refine xg_t (xg_const) ?_
  refine xg_putI (fl1 := [(2, 83), (2, 84), (0, 1), (0, f82_3), (0, u40), (0, 0), (0, f82_9), (0, f82_11), (0, f82_13), (0, f82_15), (0, 0), (2, 85), (2, 86), (2, 87), (0, 0), (2, 88), (2, 89), (2, 90), (2, 91), (2, 92), (2, 93), (2, 94), (4, f82_21), (4, f82_22), (0, f82_23), (2, 95), (2, 96), (2, 97), (2, 98), (2, 99), (2, 100), (2, 101), (2, 102), (0, f82_25), (2, 103), (2, 104), (2, 105), (2, 106), (2, 107), (2, 108), (2, 109), (0, f82_27), (0, f82_29), (2, 110), (2, 111), (2, 112), (2, 113)]) hk79 rfl rfl rfl (fun w81 hk82 hb83 => ?_)
  have hf84 : fld w81 82 2 = 1 := fld_of hk82
  have hf85 : fld w81 82 4 = u40 := fld_of hk82
  have hf86 : fld w81 82 5 = 0 := fld_of hk82
  have hf87 : fld w81 82 10 = 0 := fld_of hk82
  have hf88 : fld w81 82 14 = 0 := fld_of hk82
  have hq89 : rwv w81 83 15 = 0 := (rwv_of ((hr70.but hb80 (by decide)).but hb83 (by decide)) (by decide)).trans (by rw [hk77 15 (by decide), hk68 15 (by decide), he55])
  have hq90 : rwv w81 83 16 = 0 := (rwv_of ((hr70.but hb80 (by decide)).but hb83 (by decide)) (by decide)).trans (by rw [hk77 16 (by decide), he67])
  have hq91 : rwv w81 83 17 = 4294967295 := (rwv_of ((hr70.but hb80 (by decide)).but hb83 (by decide)) (by decide)).trans (by rw [he76])
  exact xg_e ⟨w81, ⟨rfl, rfl⟩, xMnv.up (S := [82, 83]) hI ((((((((xFr.of (S := [82, 83]) hb39 (by decide)).tr (xFr.of (S := [82, 83]) hb47 (by decide))).tr (xFr.of (S := [82, 83]) hb50 (by decide))).tr (xFr.of (S := [82, 83]) hb59 (by decide))).tr (xFr.of (S := [82, 83]) hb62 (by decide))).tr (xFr.of (S := [82, 83]) hb71 (by decide))).tr (xFr.of (S := [82, 83]) hb80 (by decide))).tr (xFr.of (S := [82, 83]) hb83 (by decide))) (List.forall_mem_cons.mpr ⟨(show cp82 (wget w81 82) from ⟨1, f82_3, u40, 0, f82_9, f82_11, f82_13, f82_15, 0, 0, f82_21, f82_22, f82_23, f82_25, f82_27, f82_29, hk82, by omega, hb4, by omega, by omega, hb10, by omega, hb14, hb16, by omega, by omega, hb24, hb26, hb28, hb30, by omega⟩), List.forall_mem_cons.mpr ⟨(show cpx83 (wget w81 83) from ⟨_, ((hr70.but hb80 (by decide)).but hb83 (by decide)), hb73, hx72⟩), fun _ h => absurd h List.not_mem_nil⟩⟩), ((((((((xFr.of (S := [82, 83]) hb39 (by decide)).tr (xFr.of (S := [82, 83]) hb47 (by decide))).tr (xFr.of (S := [82, 83]) hb50 (by decide))).tr (xFr.of (S := [82, 83]) hb59 (by decide))).tr (xFr.of (S := [82, 83]) hb62 (by decide))).tr (xFr.of (S := [82, 83]) hb71 (by decide))).tr (xFr.of (S := [82, 83]) hb80 (by decide))).tr (xFr.of (S := [82, 83]) hb83 (by decide))), ⟨hf84, by omega, hf86, hf87, hf88, hq90, hq91, ⟨hq89, fun j a b c d => (rwv_of ((hr70.but hb80 (by decide)).but hb83 (by decide)) a).trans (Eq.trans (by rw [hk77 j (by omega), hk68 j (by omega), hk56 j (by omega)]) (rwv_of h83_34 a).symm)⟩⟩⟩
theorem fl9M {B : Nat → Nat} {n k m t : Nat} {w : List (List xE)} (h : MST B n w k) (h0 : (flA B n k).1 = 0) (hm : m < lnC B n 4 k) (ht : t < 2) : rwv w 86 (100 + 2 * m + t) ≤ 9 := by
  obtain ⟨i, i1, i2, i3⟩ := lnC_hit (B := B) (n := n) (s := 4) k hm
  have q := (h.2.2 h0).1.1 i i1 t (by rw [i2]; exact ht)
  rw [i2, i3] at q
  have q : rwv w 86 (100 + 2 * m + t) = vln B n (lnP B n i) t := q
  obtain ⟨-, ⟨-, a⟩, ⟨-, b⟩, -⟩ := flt_v i2 (flA_all h0 i i1)
  have a : vln B n (lnP B n i) 0 ≤ 9 := a
  have b : vln B n (lnP B n i) 1 ≤ 9 := b
  rw [q]
  rcases (show t = 0 ∨ t = 1 by omega) with rfl | rfl
  · exact a
  · exact b
set_option maxHeartbeats 60000000 in
theorem mFilmF {B : Nat → Nat} {nn : Nat} (hI : xMnv w) (hB : bsm w B nn) (hnn : rwv w 83 15 = nn) : xPi (d + 8) mX12_film [(2, 82)] w bd fc rr (fun n w' => (FRes B nn n (rwv w' 83 16) (rwv w' 83 17) ∧ rwv w' 83 15 = 0 ∧ (n = 4294967295 → KB w w') ∧ (n ≠ 4294967295 → FLA B nn w' n ∧ rwv w' 83 9 = 0 ∧ rwv w' 83 10 = 0) ∧ (∀ j, (140 ≤ j ∨ j = 11 ∨ j = 12 ∨ j = 13) → j < 5360 → rwv w' 83 j = rwv w 83 j)) ∧ xMnv w' ∧ xFr [82, 83, 85, 86, 87] w w') := by
  refine xPi.of ?_
  show xTo (d + 8) mX12_film (0, [], [(0, (2, 82))], [], (w, bd, fc, 0, 0, rr)) (fun φ => ∃ n w', xEnd 1 [(0, n)] (w', bd, fc, 0, 0, rr) φ ∧ (FRes B nn n (rwv w' 83 16) (rwv w' 83 17) ∧ rwv w' 83 15 = 0 ∧ (n = 4294967295 → KB w w') ∧ (n ≠ 4294967295 → FLA B nn w' n ∧ rwv w' 83 9 = 0 ∧ rwv w' 83 10 = 0) ∧ (∀ j, (140 ≤ j ∨ j = 11 ∨ j = 12 ∨ j = 13) → j < 5360 → rwv w' 83 j = rwv w 83 j)) ∧ xMnv w' ∧ xFr [82, 83, 85, 86, 87] w w')
  obtain ⟨f82_1, f82_3, f82_5, f82_7, f82_9, f82_11, f82_13, f82_15, f82_17, f82_19, f82_21, f82_22, f82_23, f82_25, f82_27, f82_29, h82_31, hb2, hb4, hb6, hb8, hb10, hb12, hb14, hb16, hb18, hb20, hb24, hb26, hb28, hb30, hb32⟩ := (hI 82 (by decide) (by decide) : cp82 (wget w 82))
  replace hb4 := xHid.of hb4
  replace hb10 := xHid.of hb10
  replace hb14 := xHid.of hb14
  replace hb16 := xHid.of hb16
  replace hb20 := xHid.of hb20
  replace hb24 := xHid.of hb24
  replace hb26 := xHid.of hb26
  replace hb28 := xHid.of hb28
  replace hb30 := xHid.of hb30
  obtain ⟨g83_33, h83_34, hb35, hx36⟩ := (hI 83 (by decide) (by decide) : cpx83 (wget w 83))
  have h83_34 : xRow w 83 5360 50 g83_33 := h83_34
  obtain ⟨g85_37, h85_38, hb39⟩ := (hI 85 (by decide) (by decide) : cpI 7 52 4294967295 (wget w 85))
  have h85_38 : xRow w 85 7 52 g85_37 := h85_38
  obtain ⟨g86_40, h86_41, hb42⟩ := (hI 86 (by decide) (by decide) : cpI 140 53 4294967295 (wget w 86))
  have h86_41 : xRow w 86 140 53 g86_40 := h86_41
  refine xg_t (xg_blk (b := [(0, 1, 0, 0, 0, 0), (1, 1, 3, 0, 0, 0), (2, 3, 13, 121, 96, 215), (5, 1, 3, 0, 0, 0), (6, 1, 15, 1, 0, 0)]) rfl) ?_
  refine xg_t (xg_aload (va := (2, 82)) rfl rfl) ?_
  refine xg_t (xg_const) ?_
  refine xg_cVv mX12_begins (vs := [(0, 0)]) (rest := []) (cn1 := 0) (sl1 := 0) rfl (mBegX0 (hI)) rfl h82_31 rfl rfl rfl rfl rfl rfl (fun w43 hq44 => ?_)
  obtain ⟨hI45, hF46, hx47⟩ := hq44
  obtain ⟨hg48, hg49, hg50, hg51, hg52, hg53, hg54, hg55⟩ := hx47
  refine xg_t (xg_const) ?_
  refine xg_t (xg_istore (l1 := [(0, (2, 82))]) rfl rfl rfl) ?_
  refine xg_t (xg_blk (b := [(7, 1, 2, 1, 0, 0), (8, 2, 4, 7, 0, 0), (10, 3, 6, 26, 3, 0), (13, 1, 0, 0, 0, 0), (14, 3, 1, 12, 11, 17), (17, 1, 2, 1, 0, 0), (18, 1, 3, 0, 0, 0), (19, 1, 17, 0, 0, 0), (20, 3, 9, 1, 1, 0), (23, 3, 8, 7, 0, 0)]) rfl) ?_
  refine xg_t (xg_iload (va := (0, 0)) rfl rfl) ?_
  refine xg_t (xg_bip) ?_
  refine xg_t (xg_icF (u := 0) (v := 7) rfl xnm0 xnm0 (by decide)) ?_
  refine xg_t (xg_aload (va := (2, 82)) rfl rfl) ?_
  obtain ⟨f82_56, f82_58, f82_60, f82_62, f82_64, f82_66, f82_68, f82_70, f82_72, f82_74, f82_76, f82_77, f82_78, f82_80, f82_82, f82_84, h82_86, hb57, hb59, hb61, hb63, hb65, hb67, hb69, hb71, hb73, hb75, hb79, hb81, hb83, hb85, hb87⟩ := (hI45 82 (by decide) (by decide) : cp82 (wget w43 82))
  replace hb59 := xHid.of hb59
  replace hb65 := xHid.of hb65
  replace hb69 := xHid.of hb69
  replace hb71 := xHid.of hb71
  replace hb75 := xHid.of hb75
  replace hb79 := xHid.of hb79
  replace hb81 := xHid.of hb81
  replace hb83 := xHid.of hb83
  replace hb85 := xHid.of hb85
  refine xg_t (xg_getf (va := (2, 85)) h82_86 rfl) ?_
  refine xg_t (xg_iload (va := (0, 0)) rfl rfl) ?_
  refine xg_t (xg_const) ?_
  refine xg_iastK (n := 0) (u := 0) (h85_38.fr hF46 (by decide)) xnm0 xnm0 rfl (by omega) (fun w88 hr89 hb90 => ?_)
  refine xg_t (xg_iinc (u := 0) (z := 1) (l1 := [(0, (2, 82))]) rfl rfl (by decide) rfl) ?_
  refine xg_t (xg_goto) ?_
  refine xg_t (xg_blk (b := [(7, 1, 2, 1, 0, 0), (8, 2, 4, 7, 0, 0), (10, 3, 6, 26, 3, 0), (13, 1, 0, 0, 0, 0), (14, 3, 1, 12, 11, 17), (17, 1, 2, 1, 0, 0), (18, 1, 3, 0, 0, 0), (19, 1, 17, 0, 0, 0), (20, 3, 9, 1, 1, 0), (23, 3, 8, 7, 0, 0)]) rfl) ?_
  refine xg_t (xg_iload (va := (0, 1)) rfl rfl) ?_
  refine xg_t (xg_bip) ?_
  refine xg_t (xg_icF (u := 1) (v := 7) rfl xnm0 xnm0 (by decide)) ?_
  refine xg_t (xg_aload (va := (2, 82)) rfl rfl) ?_
  refine xg_t (xg_getf (va := (2, 85)) (hb90.get (by decide) h82_86) rfl) ?_
  refine xg_t (xg_iload (va := (0, 1)) rfl rfl) ?_
  refine xg_t (xg_const) ?_
  refine xg_iastK (n := 1) (u := 0) hr89 xnm0 xnm0 rfl (by omega) (fun w91 hr92 hb93 => ?_)
  refine xg_t (xg_iinc (u := 1) (z := 2) (l1 := [(0, (2, 82))]) rfl rfl (by decide) rfl) ?_
  refine xg_t (xg_goto) ?_
  refine xg_t (xg_blk (b := [(7, 1, 2, 1, 0, 0), (8, 2, 4, 7, 0, 0), (10, 3, 6, 26, 3, 0), (13, 1, 0, 0, 0, 0), (14, 3, 1, 12, 11, 17), (17, 1, 2, 1, 0, 0), (18, 1, 3, 0, 0, 0), (19, 1, 17, 0, 0, 0), (20, 3, 9, 1, 1, 0), (23, 3, 8, 7, 0, 0)]) rfl) ?_
  refine xg_t (xg_iload (va := (0, 2)) rfl rfl) ?_
  refine xg_t (xg_bip) ?_
  refine xg_t (xg_icF (u := 2) (v := 7) rfl xnm0 xnm0 (by decide)) ?_
  refine xg_t (xg_aload (va := (2, 82)) rfl rfl) ?_
  refine xg_t (xg_getf (va := (2, 85)) (hb93.get (by decide) (hb90.get (by decide) h82_86)) rfl) ?_
  refine xg_t (xg_iload (va := (0, 2)) rfl rfl) ?_
  refine xg_t (xg_const) ?_
  refine xg_iastK (n := 2) (u := 0) hr92 xnm0 xnm0 rfl (by omega) (fun w94 hr95 hb96 => ?_)
  refine xg_t (xg_iinc (u := 2) (z := 3) (l1 := [(0, (2, 82))]) rfl rfl (by decide) rfl) ?_
  refine xg_t (xg_goto) ?_
  refine xg_t (xg_blk (b := [(7, 1, 2, 1, 0, 0), (8, 2, 4, 7, 0, 0), (10, 3, 6, 26, 3, 0), (13, 1, 0, 0, 0, 0), (14, 3, 1, 12, 11, 17), (17, 1, 2, 1, 0, 0), (18, 1, 3, 0, 0, 0), (19, 1, 17, 0, 0, 0), (20, 3, 9, 1, 1, 0), (23, 3, 8, 7, 0, 0)]) rfl) ?_
  refine xg_t (xg_iload (va := (0, 3)) rfl rfl) ?_
  refine xg_t (xg_bip) ?_
  refine xg_t (xg_icF (u := 3) (v := 7) rfl xnm0 xnm0 (by decide)) ?_
  refine xg_t (xg_aload (va := (2, 82)) rfl rfl) ?_
  refine xg_t (xg_getf (va := (2, 85)) (hb96.get (by decide) (hb93.get (by decide) (hb90.get (by decide) h82_86))) rfl) ?_
  refine xg_t (xg_iload (va := (0, 3)) rfl rfl) ?_
  refine xg_t (xg_const) ?_
  refine xg_iastK (n := 3) (u := 0) hr95 xnm0 xnm0 rfl (by omega) (fun w97 hr98 hb99 => ?_)
  refine xg_t (xg_iinc (u := 3) (z := 4) (l1 := [(0, (2, 82))]) rfl rfl (by decide) rfl) ?_
  refine xg_t (xg_goto) ?_
  refine xg_t (xg_blk (b := [(7, 1, 2, 1, 0, 0), (8, 2, 4, 7, 0, 0), (10, 3, 6, 26, 3, 0), (13, 1, 0, 0, 0, 0), (14, 3, 1, 12, 11, 17), (17, 1, 2, 1, 0, 0), (18, 1, 3, 0, 0, 0), (19, 1, 17, 0, 0, 0), (20, 3, 9, 1, 1, 0), (23, 3, 8, 7, 0, 0)]) rfl) ?_
  refine xg_t (xg_iload (va := (0, 4)) rfl rfl) ?_
  refine xg_t (xg_bip) ?_
  refine xg_t (xg_icF (u := 4) (v := 7) rfl xnm0 xnm0 (by decide)) ?_
  refine xg_t (xg_aload (va := (2, 82)) rfl rfl) ?_
  refine xg_t (xg_getf (va := (2, 85)) (hb99.get (by decide) (hb96.get (by decide) (hb93.get (by decide) (hb90.get (by decide) h82_86)))) rfl) ?_
  refine xg_t (xg_iload (va := (0, 4)) rfl rfl) ?_
  refine xg_t (xg_const) ?_
  refine xg_iastK (n := 4) (u := 0) hr98 xnm0 xnm0 rfl (by omega) (fun w100 hr101 hb102 => ?_)
  refine xg_t (xg_iinc (u := 4) (z := 5) (l1 := [(0, (2, 82))]) rfl rfl (by decide) rfl) ?_
  refine xg_t (xg_goto) ?_
  refine xg_t (xg_blk (b := [(7, 1, 2, 1, 0, 0), (8, 2, 4, 7, 0, 0), (10, 3, 6, 26, 3, 0), (13, 1, 0, 0, 0, 0), (14, 3, 1, 12, 11, 17), (17, 1, 2, 1, 0, 0), (18, 1, 3, 0, 0, 0), (19, 1, 17, 0, 0, 0), (20, 3, 9, 1, 1, 0), (23, 3, 8, 7, 0, 0)]) rfl) ?_
  refine xg_t (xg_iload (va := (0, 5)) rfl rfl) ?_
  refine xg_t (xg_bip) ?_
  refine xg_t (xg_icF (u := 5) (v := 7) rfl xnm0 xnm0 (by decide)) ?_
  refine xg_t (xg_aload (va := (2, 82)) rfl rfl) ?_
  refine xg_t (xg_getf (va := (2, 85)) (hb102.get (by decide) (hb99.get (by decide) (hb96.get (by decide) (hb93.get (by decide) (hb90.get (by decide) h82_86))))) rfl) ?_
  refine xg_t (xg_iload (va := (0, 5)) rfl rfl) ?_
  refine xg_t (xg_const) ?_
  refine xg_iastK (n := 5) (u := 0) hr101 xnm0 xnm0 rfl (by omega) (fun w103 hr104 hb105 => ?_)
  refine xg_t (xg_iinc (u := 5) (z := 6) (l1 := [(0, (2, 82))]) rfl rfl (by decide) rfl) ?_
  refine xg_t (xg_goto) ?_
  refine xg_t (xg_blk (b := [(7, 1, 2, 1, 0, 0), (8, 2, 4, 7, 0, 0), (10, 3, 6, 26, 3, 0), (13, 1, 0, 0, 0, 0), (14, 3, 1, 12, 11, 17), (17, 1, 2, 1, 0, 0), (18, 1, 3, 0, 0, 0), (19, 1, 17, 0, 0, 0), (20, 3, 9, 1, 1, 0), (23, 3, 8, 7, 0, 0)]) rfl) ?_
  refine xg_t (xg_iload (va := (0, 6)) rfl rfl) ?_
  refine xg_t (xg_bip) ?_
  refine xg_t (xg_icF (u := 6) (v := 7) rfl xnm0 xnm0 (by decide)) ?_
  refine xg_t (xg_aload (va := (2, 82)) rfl rfl) ?_
  refine xg_t (xg_getf (va := (2, 85)) (hb105.get (by decide) (hb102.get (by decide) (hb99.get (by decide) (hb96.get (by decide) (hb93.get (by decide) (hb90.get (by decide) h82_86)))))) rfl) ?_
  refine xg_t (xg_iload (va := (0, 6)) rfl rfl) ?_
  refine xg_t (xg_const) ?_
  refine xg_iastK (n := 6) (u := 0) hr104 xnm0 xnm0 rfl (by omega) (fun w106 hr107 hb108 => ?_)
  refine xg_t (xg_iinc (u := 6) (z := 7) (l1 := [(0, (2, 82))]) rfl rfl (by decide) rfl) ?_
  refine xg_t (xg_goto) ?_
  refine xg_t (xg_blk (b := [(7, 1, 2, 1, 0, 0), (8, 2, 4, 7, 0, 0), (10, 3, 6, 26, 3, 0), (13, 1, 0, 0, 0, 0), (14, 3, 1, 12, 11, 17), (17, 1, 2, 1, 0, 0), (18, 1, 3, 0, 0, 0), (19, 1, 17, 0, 0, 0), (20, 3, 9, 1, 1, 0), (23, 3, 8, 7, 0, 0)]) rfl) ?_
  refine xg_t (xg_iload (va := (0, 7)) rfl rfl) ?_
  refine xg_t (xg_bip) ?_
  refine xg_t (xg_icT (u := 7) (v := 7) rfl xnm0 xnm0 (by decide)) ?_
  refine xg_t (xg_blk (b := [(26, 1, 0, 0, 0, 0), (27, 3, 1, 12, 12, 20), (30, 1, 3, 5, 0, 0), (31, 1, 3, 1, 0, 0), (32, 1, 17, 0, 0, 0), (33, 1, 0, 0, 0, 0), (34, 3, 1, 12, 12, 20), (37, 2, 4, 6, 0, 0), (39, 1, 3, 1, 0, 0), (40, 1, 17, 0, 0, 0), (41, 1, 0, 0, 0, 0), (42, 3, 1, 12, 12, 20), (45, 2, 4, 7, 0, 0), (47, 1, 3, 1, 0, 0), (48, 1, 17, 0, 0, 0), (49, 1, 0, 0, 0, 0), (50, 3, 1, 12, 12, 20), (53, 2, 4, 8, 0, 0), (55, 1, 3, 1, 0, 0), (56, 1, 17, 0, 0, 0), (57, 1, 0, 0, 0, 0), (58, 3, 13, 110, 96, 190)]) rfl) ?_
  refine xg_t (xg_aload (va := (2, 82)) rfl rfl) ?_
  refine xg_t (xg_getf (va := (2, 86)) (hb108.get (by decide) (hb105.get (by decide) (hb102.get (by decide) (hb99.get (by decide) (hb96.get (by decide) (hb93.get (by decide) (hb90.get (by decide) h82_86))))))) rfl) ?_
  refine xg_t (xg_const) ?_
  refine xg_t (xg_const) ?_
  refine xg_iastK (n := 5) (u := 1) ((((((((h86_41.fr hF46 (by decide)).but hb90 (by decide)).but hb93 (by decide)).but hb96 (by decide)).but hb99 (by decide)).but hb102 (by decide)).but hb105 (by decide)).but hb108 (by decide)) xnm0 xnm0 rfl (by omega) (fun w109 hr110 hb111 => ?_)
  refine xg_t (xg_aload (va := (2, 82)) rfl rfl) ?_
  refine xg_t (xg_getf (va := (2, 86)) (hb111.get (by decide) (hb108.get (by decide) (hb105.get (by decide) (hb102.get (by decide) (hb99.get (by decide) (hb96.get (by decide) (hb93.get (by decide) (hb90.get (by decide) h82_86)))))))) rfl) ?_
  refine xg_t (xg_bip) ?_
  refine xg_t (xg_const) ?_
  refine xg_iastK (n := 6) (u := 1) hr110 xnm0 xnm0 rfl (by omega) (fun w112 hr113 hb114 => ?_)
  refine xg_t (xg_aload (va := (2, 82)) rfl rfl) ?_
  refine xg_t (xg_getf (va := (2, 86)) (hb114.get (by decide) (hb111.get (by decide) (hb108.get (by decide) (hb105.get (by decide) (hb102.get (by decide) (hb99.get (by decide) (hb96.get (by decide) (hb93.get (by decide) (hb90.get (by decide) h82_86))))))))) rfl) ?_
  refine xg_t (xg_bip) ?_
  refine xg_t (xg_const) ?_
  refine xg_iastK (n := 7) (u := 1) hr113 xnm0 xnm0 rfl (by omega) (fun w115 hr116 hb117 => ?_)
  refine xg_t (xg_aload (va := (2, 82)) rfl rfl) ?_
  refine xg_t (xg_getf (va := (2, 86)) (hb117.get (by decide) (hb114.get (by decide) (hb111.get (by decide) (hb108.get (by decide) (hb105.get (by decide) (hb102.get (by decide) (hb99.get (by decide) (hb96.get (by decide) (hb93.get (by decide) (hb90.get (by decide) h82_86)))))))))) rfl) ?_
  refine xg_t (xg_bip) ?_
  refine xg_t (xg_const) ?_
  refine xg_iastK (n := 8) (u := 1) hr116 xnm0 xnm0 rfl (by omega) (fun w118 hr119 hb120 => ?_)
  refine xg_t (xg_aload (va := (2, 82)) rfl rfl) ?_
  have hm121 : ∀ s, s < 7 → rwv w118 85 s = 0 := fun s hs => (rwv_of ((((hr107.but hb111 (by decide)).but hb114 (by decide)).but hb117 (by decide)).but hb120 (by decide)) hs).trans (by rcases (show s = 0 ∨ s = 1 ∨ s = 2 ∨ s = 3 ∨ s = 4 ∨ s = 5 ∨ s = 6 by omega) with rfl | rfl | rfl | rfl | rfl | rfl | rfl <;> rfl)
  have hd122 : rwv w118 86 5 = 1 := (rwv_of hr119 (by decide)).trans rfl
  have hd123 : rwv w118 86 6 = 1 := (rwv_of hr119 (by decide)).trans rfl
  have hd124 : rwv w118 86 7 = 1 := (rwv_of hr119 (by decide)).trans rfl
  have hd125 : rwv w118 86 8 = 1 := (rwv_of hr119 (by decide)).trans rfl
  have hz126 := ((fld_eq (j := 2) ((hb120.1 82 (by decide)).trans ((hb117.1 82 (by decide)).trans ((hb114.1 82 (by decide)).trans ((hb111.1 82 (by decide)).trans ((hb108.1 82 (by decide)).trans ((hb105.1 82 (by decide)).trans ((hb102.1 82 (by decide)).trans ((hb99.1 82 (by decide)).trans ((hb96.1 82 (by decide)).trans ((hb93.1 82 (by decide)).trans (hb90.1 82 (by decide))))))))))))).trans hg48)
  have hz127 := ((fld_eq (j := 4) ((hb120.1 82 (by decide)).trans ((hb117.1 82 (by decide)).trans ((hb114.1 82 (by decide)).trans ((hb111.1 82 (by decide)).trans ((hb108.1 82 (by decide)).trans ((hb105.1 82 (by decide)).trans ((hb102.1 82 (by decide)).trans ((hb99.1 82 (by decide)).trans ((hb96.1 82 (by decide)).trans ((hb93.1 82 (by decide)).trans (hb90.1 82 (by decide))))))))))))).trans hg49)
  have hz128 := ((fld_eq (j := 5) ((hb120.1 82 (by decide)).trans ((hb117.1 82 (by decide)).trans ((hb114.1 82 (by decide)).trans ((hb111.1 82 (by decide)).trans ((hb108.1 82 (by decide)).trans ((hb105.1 82 (by decide)).trans ((hb102.1 82 (by decide)).trans ((hb99.1 82 (by decide)).trans ((hb96.1 82 (by decide)).trans ((hb93.1 82 (by decide)).trans (hb90.1 82 (by decide))))))))))))).trans hg50)
  have hz129 := ((fld_eq (j := 10) ((hb120.1 82 (by decide)).trans ((hb117.1 82 (by decide)).trans ((hb114.1 82 (by decide)).trans ((hb111.1 82 (by decide)).trans ((hb108.1 82 (by decide)).trans ((hb105.1 82 (by decide)).trans ((hb102.1 82 (by decide)).trans ((hb99.1 82 (by decide)).trans ((hb96.1 82 (by decide)).trans ((hb93.1 82 (by decide)).trans (hb90.1 82 (by decide))))))))))))).trans hg51)
  have hz130 := ((fld_eq (j := 14) ((hb120.1 82 (by decide)).trans ((hb117.1 82 (by decide)).trans ((hb114.1 82 (by decide)).trans ((hb111.1 82 (by decide)).trans ((hb108.1 82 (by decide)).trans ((hb105.1 82 (by decide)).trans ((hb102.1 82 (by decide)).trans ((hb99.1 82 (by decide)).trans ((hb96.1 82 (by decide)).trans ((hb93.1 82 (by decide)).trans (hb90.1 82 (by decide))))))))))))).trans hg52)
  have hz131 : rwv w118 83 16 = 0 := (rwv_eq ((hb120.1 83 (by decide)).trans ((hb117.1 83 (by decide)).trans ((hb114.1 83 (by decide)).trans ((hb111.1 83 (by decide)).trans ((hb108.1 83 (by decide)).trans ((hb105.1 83 (by decide)).trans ((hb102.1 83 (by decide)).trans ((hb99.1 83 (by decide)).trans ((hb96.1 83 (by decide)).trans ((hb93.1 83 (by decide)).trans (hb90.1 83 (by decide))))))))))))).trans hg53
  have hz132 : rwv w118 83 17 = 4294967295 := (rwv_eq ((hb120.1 83 (by decide)).trans ((hb117.1 83 (by decide)).trans ((hb114.1 83 (by decide)).trans ((hb111.1 83 (by decide)).trans ((hb108.1 83 (by decide)).trans ((hb105.1 83 (by decide)).trans ((hb102.1 83 (by decide)).trans ((hb99.1 83 (by decide)).trans ((hb96.1 83 (by decide)).trans ((hb93.1 83 (by decide)).trans (hb90.1 83 (by decide))))))))))))).trans hg54
  have kb133 : KB w w118 := hg55.kp (fun j _ _ _ => rwv_eq ((hb120.1 83 (by decide)).trans ((hb117.1 83 (by decide)).trans ((hb114.1 83 (by decide)).trans ((hb111.1 83 (by decide)).trans ((hb108.1 83 (by decide)).trans ((hb105.1 83 (by decide)).trans ((hb102.1 83 (by decide)).trans ((hb99.1 83 (by decide)).trans ((hb96.1 83 (by decide)).trans ((hb93.1 83 (by decide)).trans (hb90.1 83 (by decide)))))))))))))
  refine xg_cVv mX12_advance (vs := []) (rest := []) (cn1 := 0) (sl1 := 0) rfl (mAdvX (ir := 0) (nn := nn) (xMnv.up (S := [85, 86]) hI45 (((((((((((xFr.of (S := [85, 86]) hb90 (by decide)).tr (xFr.of (S := [85, 86]) hb93 (by decide))).tr (xFr.of (S := [85, 86]) hb96 (by decide))).tr (xFr.of (S := [85, 86]) hb99 (by decide))).tr (xFr.of (S := [85, 86]) hb102 (by decide))).tr (xFr.of (S := [85, 86]) hb105 (by decide))).tr (xFr.of (S := [85, 86]) hb108 (by decide))).tr (xFr.of (S := [85, 86]) hb111 (by decide))).tr (xFr.of (S := [85, 86]) hb114 (by decide))).tr (xFr.of (S := [85, 86]) hb117 (by decide))).tr (xFr.of (S := [85, 86]) hb120 (by decide))) (List.forall_mem_cons.mpr ⟨(show cpI 7 52 4294967295 (wget w118 85) from ⟨_, ((((hr107.but hb111 (by decide)).but hb114 (by decide)).but hb117 (by decide)).but hb120 (by decide)), xrb (by omega) (xrb (by omega) (xrb (by omega) (xrb (by omega) (xrb (by omega) (xrb (by omega) (xrb (by omega) (hb39)))))))⟩), List.forall_mem_cons.mpr ⟨(show cpI 140 53 4294967295 (wget w118 86) from ⟨_, hr119, xrb (by omega) (xrb (by omega) (xrb (by omega) (xrb (by omega) (hb42))))⟩), fun _ h => absurd h List.not_mem_nil⟩⟩)) (hB.kb kb133) hz126 (hz127.trans hnn) (by omega)) rfl (hb120.get (by decide) (hb117.get (by decide) (hb114.get (by decide) (hb111.get (by decide) (hb108.get (by decide) (hb105.get (by decide) (hb102.get (by decide) (hb99.get (by decide) (hb96.get (by decide) (hb93.get (by decide) (hb90.get (by decide) h82_86))))))))))) rfl rfl rfl rfl rfl rfl (fun w134 hq135 => ?_)
  obtain ⟨hI136, hF137, hx138⟩ := hq135
  obtain ⟨ht139, ht140, ht141⟩ := hx138
  rw [hz128] at ht139
  have hM142 : MST B nn w134 0 := MST.zero (ht140.trans hz129) (ht141.trans hz130) ((rwv_fr hF137 (by decide)).trans hz131) ((rwv_fr hF137 (by decide)).trans hz132) (fun s hs => (rwv_fr hF137 (by decide)).trans (hm121 s hs)) ((rwv_fr hF137 (by decide)).trans hd122) ((rwv_fr hF137 (by decide)).trans hd123) ((rwv_fr hF137 (by decide)).trans hd124) ((rwv_fr hF137 (by decide)).trans hd125)
  have kb143 : KB w w134 := kb133.kp (K83.fr hF137 (by decide))
  refine xg_t (xg_drop (l1 := [(0, (2, 82))]) (List.forall_mem_cons.mpr ⟨List.mem_cons_of_mem _ (List.mem_cons_self), fun _ h => absurd h List.not_mem_nil⟩)) ?_
  have key144 : ∀ (m146 : Nat) (w147 : List (List xE)), 2 * (501 - fld w147 82 14) + (1 - fld w147 82 10) < m146 → xMnv w147 → xFr [82, 83, 85, 86, 87] w w147 → ((∃ k, k ≤ 500 ∧ (∀ i, i < k → (lnR B nn (lnP B nn i)).1 = true) ∧ ((TKM 0 B nn w147 (lnP B nn k) ∧ MST B nn w147 k) ∨ (∃ q, lnR B nn (lnP B nn k) = (false, q) ∧ tkd B nn (lnP B nn k) ≠ 0 ∧ WRG w147 (tq B nn q)))) ∧ KB w w147) → xTo (d + 8) mX12_film (61, [], [(0, (2, 82))], [], (w147, bd, fc, 0, 0, rr)) (fun φ => ∃ n w', xEnd 1 [(0, n)] (w', bd, fc, 0, 0, rr) φ ∧ (FRes B nn n (rwv w' 83 16) (rwv w' 83 17) ∧ rwv w' 83 15 = 0 ∧ (n = 4294967295 → KB w w') ∧ (n ≠ 4294967295 → FLA B nn w' n ∧ rwv w' 83 9 = 0 ∧ rwv w' 83 10 = 0) ∧ (∀ j, (140 ≤ j ∨ j = 11 ∨ j = 12 ∨ j = 13) → j < 5360 → rwv w' 83 j = rwv w 83 j)) ∧ xMnv w' ∧ xFr [82, 83, 85, 86, 87] w w') := by
    intro m146
    induction m146 with
    | zero => intro w147 hz; exact absurd hz (Nat.not_lt_zero _)
    | succ m146 ih145 =>
      intro w147 hm151 hI148 hF149 he150
      obtain ⟨⟨k_152, hk153, hok154, hx155⟩, kb156⟩ := he150
      refine xg_t (xg_blk (b := [(61, 1, 0, 0, 0, 0), (62, 3, 1, 12, 10, 180), (65, 3, 7, 82, 1, 0), (68, 1, 0, 0, 0, 0), (69, 3, 1, 12, 7, 151), (72, 3, 7, 82, 0, 0), (75, 1, 0, 0, 0, 0), (76, 3, 13, 107, 96, 219), (79, 3, 8, 61, 0, 0)]) rfl) ?_
      rcases hx155 with ⟨hT_157, hM_158⟩ | ⟨q_159, lf160, h0_161, hW_162⟩
      · obtain ⟨f82_163, f82_165, f82_167, f82_169, f82_171, f82_173, f82_175, f82_177, f82_179, f82_181, f82_183, f82_184, f82_185, f82_187, f82_189, f82_191, h82_193, hb164, hb166, hb168, hb170, hb172, hb174, hb176, hb178, hb180, hb182, hb186, hb188, hb190, hb192, hb194⟩ := (hI148 82 (by decide) (by decide) : cp82 (wget w147 82))
        replace hb166 := xHid.of hb166
        replace hb172 := xHid.of hb172
        replace hb176 := xHid.of hb176
        replace hb178 := xHid.of hb178
        replace hb182 := xHid.of hb182
        replace hb186 := xHid.of hb186
        replace hb188 := xHid.of hb188
        replace hb190 := xHid.of hb190
        replace hb192 := xHid.of hb192
        have hf195 : fld w147 82 7 = f82_173 := fld_of h82_193
        have hf196 : fld w147 82 10 = f82_179 := fld_of h82_193
        have hf197 : fld w147 82 14 = f82_181 := fld_of h82_193
        have hz198 := hM_158.1.1
        have hz199 := hM_158.1.2.1
        have hz200 := hT_157.1.2.2.2.2.1
        have hmk := (mkd_of (ir := 0) (B := B) (n := nn) (p := lnP B nn k_152)).1
        refine xg_t (xg_aload (va := (2, 82)) rfl rfl) ?_
        refine xg_t (xg_getf (va := (0, f82_179)) h82_193 rfl) ?_
        refine xg_t (xg_ifF (u := f82_179) rfl xnm0 (xj_neF (by omega))) ?_
        refine xg_t (xg_aload (va := (2, 82)) rfl rfl) ?_
        refine xg_t (xg_getf (va := (0, f82_173)) h82_193 rfl) ?_
        by_cases hc201 : f82_173 = 0
        · refine xg_t (xg_ifT (u := f82_173) rfl xnm0 (xj_eqT hc201)) ?_
          refine xg_t (xg_blk (b := [(82, 1, 3, 0, 0, 0), (83, 1, 15, 1, 0, 0)]) rfl) ?_
          have hend : tkd B nn (lnP B nn k_152) = 0 := by omega
          have hnok : ¬ (lnR B nn (lnP B nn k_152)).1 = true := by rw [lnR_0 hend]; exact Bool.false_ne_true
          by_cases hc203 : (flA B nn k_152).1 = 0
          · refine xg_t (xg_const) ?_
            refine xg_t (xg_istore (l1 := [(0, (2, 82))]) rfl rfl rfl) ?_
            refine xg_t (xg_drop (l1 := [(0, (2, 82)), (1, (0, 0))]) (List.forall_mem_cons.mpr ⟨List.mem_cons_of_mem _ (List.mem_cons_self), List.forall_mem_cons.mpr ⟨List.mem_cons_self, fun _ h => absurd h List.not_mem_nil⟩⟩)) ?_
            have key204 : ∀ (m206 : Nat) (kf : Nat) (w207 : List (List xE)), 20 - kf < m206 → kf ≤ 20 → xMnv w207 → xFr [82, 83, 85, 86, 87] w w207 → (((rwv w207 83 16 = 0 ∧ rwv w207 83 17 = 4294967295 ∧ (∀ j, j < kf → ¬ bsX (XM w147) j)) ∨ (rwv w207 83 16 = 4 ∧ ∃ m, m < lnC B nn 4 k_152 ∧ bsX (XM w147) m ∧ (∀ j, j < m → ¬ bsX (XM w147) j) ∧ rwv w207 83 17 = rwv w147 87 m)) ∧ fld w207 82 10 = 0 ∧ fld w207 82 14 = k_152 ∧ KB w w207 ∧ wget w207 85 = wget w147 85 ∧ wget w207 86 = wget w147 86 ∧ wget w207 87 = wget w147 87) → xTo (d + 8) mX12_film (84, [], [(0, (2, 82)), (1, (0, kf))], [], (w207, bd, fc, 0, 0, rr)) (fun φ => ∃ n w', xEnd 1 [(0, n)] (w', bd, fc, 0, 0, rr) φ ∧ (FRes B nn n (rwv w' 83 16) (rwv w' 83 17) ∧ rwv w' 83 15 = 0 ∧ (n = 4294967295 → KB w w') ∧ (n ≠ 4294967295 → FLA B nn w' n ∧ rwv w' 83 9 = 0 ∧ rwv w' 83 10 = 0) ∧ (∀ j, (140 ≤ j ∨ j = 11 ∨ j = 12 ∨ j = 13) → j < 5360 → rwv w' 83 j = rwv w 83 j)) ∧ xMnv w' ∧ xFr [82, 83, 85, 86, 87] w w') := by
              intro m206
              induction m206 with
              | zero => intro kf w207 hz; exact absurd hz (Nat.not_lt_zero _)
              | succ m206 ih205 =>
                intro kf w207 hm212 hn210 hI208 hF209 he211
                obtain ⟨hj213, hj214, hj215, hj216, hj217, hj218, hj219⟩ := he211
                obtain ⟨f82_220, f82_222, f82_224, f82_226, f82_228, f82_230, f82_232, f82_234, f82_236, f82_238, f82_240, f82_241, f82_242, f82_244, f82_246, f82_248, h82_250, hb221, hb223, hb225, hb227, hb229, hb231, hb233, hb235, hb237, hb239, hb243, hb245, hb247, hb249, hb251⟩ := (hI208 82 (by decide) (by decide) : cp82 (wget w207 82))
                replace hb223 := xHid.of hb223
                replace hb229 := xHid.of hb229
                replace hb233 := xHid.of hb233
                replace hb235 := xHid.of hb235
                replace hb239 := xHid.of hb239
                replace hb243 := xHid.of hb243
                replace hb245 := xHid.of hb245
                replace hb247 := xHid.of hb247
                replace hb249 := xHid.of hb249
                obtain ⟨g83_252, h83_253, hb254, hx255⟩ := (hI208 83 (by decide) (by decide) : cpx83 (wget w207 83))
                have h83_253 : xRow w207 83 5360 50 g83_252 := h83_253
                have hf256 : fld w207 82 10 = f82_236 := fld_of h82_250
                have hf257 : fld w207 82 14 = f82_238 := fld_of h82_250
                obtain ⟨g85_258, h85_259, hb260⟩ := (hI208 85 (by decide) (by decide) : cpI 7 52 4294967295 (wget w207 85))
                have h85_259 : xRow w207 85 7 52 g85_258 := h85_259
                obtain ⟨g86_261, h86_262, hb263⟩ := (hI208 86 (by decide) (by decide) : cpI 140 53 4294967295 (wget w207 86))
                have h86_262 : xRow w207 86 140 53 g86_261 := h86_262
                obtain ⟨g87_264, h87_265, hb266⟩ := (hI208 87 (by decide) (by decide) : cpI 20 54 4294967295 (wget w207 87))
                have h87_265 : xRow w207 87 20 54 g87_264 := h87_265
                have hm267 : g85_258 4 = lnC B nn 4 k_152 := (rwv_of h85_259 (by decide)).symm.trans ((rwv_eq hj217).trans (hM_158.2.1 4 (by decide)))
                have hc4 : lnC B nn 4 k_152 ≤ 20 := lnC_lim hc203 (by decide)
                refine xg_t (xg_blk (b := [(84, 1, 2, 1, 0, 0), (85, 1, 0, 0, 0, 0), (86, 3, 1, 12, 11, 17), (89, 1, 3, 4, 0, 0), (90, 1, 10, 0, 0, 0), (91, 3, 6, 165, 3, 0), (94, 1, 0, 0, 0, 0), (95, 3, 1, 12, 0, 7), (98, 2, 4, 16, 0, 0), (100, 1, 10, 0, 0, 0), (101, 3, 7, 165, 1, 0), (104, 1, 0, 0, 0, 0), (105, 3, 1, 12, 12, 20), (108, 2, 4, 100, 0, 0), (110, 1, 3, 2, 0, 0), (111, 1, 2, 1, 0, 0), (112, 1, 16, 0, 0, 0), (113, 1, 11, 0, 0, 0), (114, 1, 10, 0, 0, 0), (115, 1, 0, 0, 0, 0), (116, 3, 1, 12, 12, 20), (119, 2, 4, 7, 0, 0), (121, 1, 10, 0, 0, 0), (122, 3, 6, 148, 3, 0), (125, 1, 0, 0, 0, 0), (126, 3, 1, 12, 12, 20), (129, 2, 4, 100, 0, 0), (131, 1, 3, 2, 0, 0), (132, 1, 2, 1, 0, 0), (133, 1, 16, 0, 0, 0), (134, 1, 11, 0, 0, 0), (135, 1, 3, 1, 0, 0), (136, 1, 11, 0, 0, 0), (137, 1, 10, 0, 0, 0), (138, 1, 0, 0, 0, 0), (139, 3, 1, 12, 12, 20), (142, 2, 4, 8, 0, 0), (144, 1, 10, 0, 0, 0), (145, 3, 6, 159, 2, 0)]) rfl) ?_
                refine xg_t (xg_iload (va := (0, kf)) rfl rfl) ?_
                refine xg_t (xg_aload (va := (2, 82)) rfl rfl) ?_
                refine xg_t (xg_getf (va := (2, 85)) h82_250 rfl) ?_
                refine xg_t (xg_const) ?_
                refine xg_ialdB (n := 4) (B := 4294967295) h85_259 (hb260) xnm0 (by omega) (fun u268 hu269 he270 => ?_)
                by_cases hc271 : xbs kf < xbs u268
                · have hc271u := hc271
                  unfold xbs at hc271u
                  have hn272 : kf ≤ 20 := by omega
                  have hn273 : u268 ≤ 2147483647 := by omega
                  refine xg_t (xg_icF (u := kf) (v := u268) rfl xnm0 xnm0 (xjs_geF hc271)) ?_
                  refine xg_t (xg_aload (va := (2, 82)) rfl rfl) ?_
                  refine xg_t (xg_getf (va := (2, 83)) h82_250 rfl) ?_
                  refine xg_t (xg_bip) ?_
                  refine xg_ialdB (n := 16) (B := 4294967295) h83_253 (hb254) xnm0 (by omega) (fun u274 hu275 he276 => ?_)
                  have hq277 : rwv w207 83 16 = u274 := (rwv_of h83_253 (by decide)).trans he276
                  by_cases hc278 : u274 = 0
                  · refine xg_t (xg_ifF (u := u274) rfl xnm0 (xj_neF hc278)) ?_
                    have hnb : rwv w207 83 16 = 0 ∧ ∀ j, j < kf → ¬ bsX (XM w147) j := by
                      rcases hj213 with ⟨z1, -, z2⟩ | ⟨z1, z2⟩
                      · exact ⟨z1, z2⟩
                      · omega
                    have hnb2 : rwv w207 83 17 = 4294967295 := by
                      rcases hj213 with ⟨-, z1, -⟩ | ⟨z1, z2⟩
                      · exact z1
                      · omega
                    have hl279 : kf ≤ 19 := by omega
                    refine xg_t (xg_aload (va := (2, 82)) rfl rfl) ?_
                    refine xg_t (xg_getf (va := (2, 86)) h82_250 rfl) ?_
                    refine xg_t (xg_bip) ?_
                    refine xg_t (xg_const) ?_
                    refine xg_t (xg_iload (va := (0, kf)) rfl rfl) ?_
                    refine xg_t (xg_imul (u := 2) (v := kf) (z := 2 * kf) xnm0 xnm0 (by omega)) ?_
                    refine xg_t (xg_iadd (u := 100) (v := 2 * kf) (z := 100 + (2 * kf)) xnm0 xnm0 (by omega)) ?_
                    refine xg_ialdB (n := 100 + (2 * kf)) (B := 4294967295) h86_262 (hb263) xnm0 (by omega) (fun u280 hu281 he282 => ?_)
                    have hq283 : rwv w147 86 (100 + (2 * kf)) = u280 := (rwv_eq hj218).symm.trans ((rwv_of h86_262 (by omega)).trans he282)
                    have hq284 : u280 ≤ 9 := by
                      rw [← hq283]
                      exact fl9M (m := kf) (t := 0) hM_158 hc203 (by omega) (by omega)
                    refine xg_t (xg_aload (va := (2, 82)) rfl rfl) ?_
                    refine xg_t (xg_getf (va := (2, 86)) h82_250 rfl) ?_
                    refine xg_t (xg_bip) ?_
                    refine xg_ialdB (n := 7) (B := 4294967295) h86_262 (hb263) xnm0 (by omega) (fun u285 hu286 he287 => ?_)
                    have hq288 : rwv w147 86 (7) = u285 := (rwv_eq hj218).symm.trans ((rwv_of h86_262 (by omega)).trans he287)
                    have hq289 : u285 ≤ 10 := by
                      have q := hM_158.data hc203
                      obtain ⟨-, -, -, -, -, -, -, q7, q8, -, -⟩ := q
                      omega
                    by_cases hc290 : u280 < u285
                    · refine xg_t (xg_icF (u := u280) (v := u285) rfl xnm0 xnm0 (xj_geF hc290 (by omega))) ?_
                      refine xg_t (xg_aload (va := (2, 82)) rfl rfl) ?_
                      refine xg_t (xg_getf (va := (2, 86)) h82_250 rfl) ?_
                      refine xg_t (xg_bip) ?_
                      refine xg_t (xg_const) ?_
                      refine xg_t (xg_iload (va := (0, kf)) rfl rfl) ?_
                      refine xg_t (xg_imul (u := 2) (v := kf) (z := 2 * kf) xnm0 xnm0 (by omega)) ?_
                      refine xg_t (xg_iadd (u := 100) (v := 2 * kf) (z := 100 + (2 * kf)) xnm0 xnm0 (by omega)) ?_
                      refine xg_t (xg_const) ?_
                      refine xg_t (xg_iadd (u := 100 + (2 * kf)) (v := 1) (z := (100 + (2 * kf)) + 1) xnm0 xnm0 (by omega)) ?_
                      refine xg_ialdB (n := (100 + (2 * kf)) + 1) (B := 4294967295) h86_262 (hb263) xnm0 (by omega) (fun u291 hu292 he293 => ?_)
                      have hq294 : rwv w147 86 ((100 + (2 * kf)) + 1) = u291 := (rwv_eq hj218).symm.trans ((rwv_of h86_262 (by omega)).trans he293)
                      have hq295 : u291 ≤ 9 := by
                        rw [← hq294]
                        exact fl9M (m := kf) (t := 1) hM_158 hc203 (by omega) (by omega)
                      refine xg_t (xg_aload (va := (2, 82)) rfl rfl) ?_
                      refine xg_t (xg_getf (va := (2, 86)) h82_250 rfl) ?_
                      refine xg_t (xg_bip) ?_
                      refine xg_ialdB (n := 8) (B := 4294967295) h86_262 (hb263) xnm0 (by omega) (fun u296 hu297 he298 => ?_)
                      have hq299 : rwv w147 86 (8) = u296 := (rwv_eq hj218).symm.trans ((rwv_of h86_262 (by omega)).trans he298)
                      have hq300 : u296 ≤ 10 := by
                        have q := hM_158.data hc203
                        obtain ⟨-, -, -, -, -, -, -, q7, q8, -, -⟩ := q
                        omega
                      by_cases hc301 : u291 < u296
                      · refine xg_t (xg_icT (u := u291) (v := u296) rfl xnm0 xnm0 (xj_ltT hc301 (by omega))) ?_
                        refine xg_t (xg_blk (b := [(159, 3, 9, 1, 1, 0), (162, 3, 8, 84, 0, 0)]) rfl) ?_
                        refine xg_t (xg_iinc (u := kf) (z := kf + 1) (l1 := [(0, (2, 82))]) rfl rfl (by omega) rfl) ?_
                        refine xg_t (xg_goto) ?_
                        refine xg_t (xg_drop (l1 := [(0, (2, 82)), (1, (0, kf + 1))]) (List.forall_mem_cons.mpr ⟨List.mem_cons_of_mem _ (List.mem_cons_self), List.forall_mem_cons.mpr ⟨List.mem_cons_self, fun _ h => absurd h List.not_mem_nil⟩⟩)) ?_
                        have nb_302 : ¬ bsX (XM w147) kf := fun y => by
                          have y : rwv w147 86 (7 + 0) ≤ rwv w147 86 (100 + 2 * kf + 0) ∨ rwv w147 86 (7 + 1) ≤ rwv w147 86 (100 + 2 * kf + 1) := y
                          simp only [Nat.add_zero, Nat.reduceAdd] at y
                          omega
                        exact ih205 (kf + 1) w207 (by omega) (by omega) (hI208) (hF209) (⟨Or.inl ⟨hnb.1, hnb2, fun j hj => (Nat.lt_or_eq_of_le (Nat.le_of_lt_succ hj)).elim (fun z => hnb.2 j z) (fun z => by rw [z]; exact nb_302)⟩, hj214, hj215, hj216.kp K83.rf, hj217, hj218, hj219⟩)
                      · refine xg_t (xg_icF (u := u291) (v := u296) rfl xnm0 xnm0 (xj_ltF (by omega) (by omega))) ?_
                        refine xg_t (xg_blk (b := [(148, 1, 0, 0, 0, 0), (149, 1, 3, 4, 0, 0), (150, 1, 0, 0, 0, 0), (151, 3, 1, 12, 13, 23), (154, 1, 2, 1, 0, 0), (155, 1, 10, 0, 0, 0), (156, 3, 13, 115, 96, 186)]) rfl) ?_
                        refine xg_t (xg_aload (va := (2, 82)) rfl rfl) ?_
                        refine xg_t (xg_const) ?_
                        refine xg_t (xg_aload (va := (2, 82)) rfl rfl) ?_
                        refine xg_t (xg_getf (va := (2, 87)) h82_250 rfl) ?_
                        refine xg_t (xg_iload (va := (0, kf)) rfl rfl) ?_
                        refine xg_ialdB (n := kf) (B := 4294967295) h87_265 (hb266) xnm0 (by omega) (fun u303 hu304 he305 => ?_)
                        have hq306 : rwv w147 87 kf = u303 := (rwv_eq hj219).symm.trans ((rwv_of h87_265 (by omega)).trans he305)
                        have hq307 : u303 ≤ 500 := by
                          rw [← hq306]
                          obtain ⟨i, i1, i2, i3⟩ := lnC_hit (B := B) (n := nn) (s := 4) (m := kf) k_152 (by omega)
                          have z := (hM_158.2.2 hc203).2 i i1 i2
                          rw [i3] at z
                          rw [z]
                          have z2 := tq_le (B := B) (n := nn) (p := lnP B nn i) lnP_le
                          have z3 := hB.1
                          omega
                        refine xg_cVv mX12_also (vs := [(0, 4), (0, u303)]) (rest := []) (cn1 := 0) (sl1 := 0) rfl (mAlsoX (fp := (0, 0)) (hI208) (by omega) (by omega) (by omega) hj214 ⟨hnb.1, fun z => absurd rfl z, Nat.zero_le _, fun _ => hnb2⟩) rfl h82_250 rfl rfl rfl rfl rfl rfl (fun w308 hq309 => ?_)
                        obtain ⟨hI310, hF311, hx312⟩ := hq309
                        obtain ⟨hv313, hv314⟩ := hx312
                        rw [alo_n (fun z => z.1 rfl)] at hv313
                        refine xg_t (xg_blk (b := [(159, 3, 9, 1, 1, 0), (162, 3, 8, 84, 0, 0)]) rfl) ?_
                        refine xg_t (xg_iinc (u := kf) (z := kf + 1) (l1 := [(0, (2, 82))]) rfl rfl (by omega) rfl) ?_
                        refine xg_t (xg_goto) ?_
                        refine xg_t (xg_drop (l1 := [(0, (2, 82)), (1, (0, kf + 1))]) (List.forall_mem_cons.mpr ⟨List.mem_cons_of_mem _ (List.mem_cons_self), List.forall_mem_cons.mpr ⟨List.mem_cons_self, fun _ h => absurd h List.not_mem_nil⟩⟩)) ?_
                        have hb_315 : bsX (XM w147) kf := by
                          have e : rwv w147 86 (7 + 0) ≤ rwv w147 86 (100 + 2 * kf + 0) ∨ rwv w147 86 (7 + 1) ≤ rwv w147 86 (100 + 2 * kf + 1) := by
                            simp only [Nat.add_zero, Nat.reduceAdd]
                            omega
                          exact e
                        exact ih205 (kf + 1) w308 (by omega) (by omega) (hI310) ((hF209.tr (hF311.up (by decide)))) (⟨Or.inr ⟨hv313.1, kf, by omega, hb_315, hnb.2, (hv313.2.1 (Nat.succ_ne_zero 3)).1.trans hq306.symm⟩, (fld_eq (j := 10) (hF311.1 82 (by decide))).trans hj214, (fld_eq (j := 14) (hF311.1 82 (by decide))).trans hj215, hj216.kp hv314, (hF311.1 85 (by decide)).trans hj217, (hF311.1 86 (by decide)).trans hj218, (hF311.1 87 (by decide)).trans hj219⟩)
                    · refine xg_t (xg_icT (u := u280) (v := u285) rfl xnm0 xnm0 (xj_geT (by omega) (by omega))) ?_
                      refine xg_t (xg_blk (b := [(148, 1, 0, 0, 0, 0), (149, 1, 3, 4, 0, 0), (150, 1, 0, 0, 0, 0), (151, 3, 1, 12, 13, 23), (154, 1, 2, 1, 0, 0), (155, 1, 10, 0, 0, 0), (156, 3, 13, 115, 96, 186)]) rfl) ?_
                      refine xg_t (xg_aload (va := (2, 82)) rfl rfl) ?_
                      refine xg_t (xg_const) ?_
                      refine xg_t (xg_aload (va := (2, 82)) rfl rfl) ?_
                      refine xg_t (xg_getf (va := (2, 87)) h82_250 rfl) ?_
                      refine xg_t (xg_iload (va := (0, kf)) rfl rfl) ?_
                      refine xg_ialdB (n := kf) (B := 4294967295) h87_265 (hb266) xnm0 (by omega) (fun u316 hu317 he318 => ?_)
                      have hq319 : rwv w147 87 kf = u316 := (rwv_eq hj219).symm.trans ((rwv_of h87_265 (by omega)).trans he318)
                      have hq320 : u316 ≤ 500 := by
                        rw [← hq319]
                        obtain ⟨i, i1, i2, i3⟩ := lnC_hit (B := B) (n := nn) (s := 4) (m := kf) k_152 (by omega)
                        have z := (hM_158.2.2 hc203).2 i i1 i2
                        rw [i3] at z
                        rw [z]
                        have z2 := tq_le (B := B) (n := nn) (p := lnP B nn i) lnP_le
                        have z3 := hB.1
                        omega
                      refine xg_cVv mX12_also (vs := [(0, 4), (0, u316)]) (rest := []) (cn1 := 0) (sl1 := 0) rfl (mAlsoX (fp := (0, 0)) (hI208) (by omega) (by omega) (by omega) hj214 ⟨hnb.1, fun z => absurd rfl z, Nat.zero_le _, fun _ => hnb2⟩) rfl h82_250 rfl rfl rfl rfl rfl rfl (fun w321 hq322 => ?_)
                      obtain ⟨hI323, hF324, hx325⟩ := hq322
                      obtain ⟨hv326, hv327⟩ := hx325
                      rw [alo_n (fun z => z.1 rfl)] at hv326
                      refine xg_t (xg_blk (b := [(159, 3, 9, 1, 1, 0), (162, 3, 8, 84, 0, 0)]) rfl) ?_
                      refine xg_t (xg_iinc (u := kf) (z := kf + 1) (l1 := [(0, (2, 82))]) rfl rfl (by omega) rfl) ?_
                      refine xg_t (xg_goto) ?_
                      refine xg_t (xg_drop (l1 := [(0, (2, 82)), (1, (0, kf + 1))]) (List.forall_mem_cons.mpr ⟨List.mem_cons_of_mem _ (List.mem_cons_self), List.forall_mem_cons.mpr ⟨List.mem_cons_self, fun _ h => absurd h List.not_mem_nil⟩⟩)) ?_
                      have hb_328 : bsX (XM w147) kf := by
                        have e : rwv w147 86 (7 + 0) ≤ rwv w147 86 (100 + 2 * kf + 0) ∨ rwv w147 86 (7 + 1) ≤ rwv w147 86 (100 + 2 * kf + 1) := by
                          simp only [Nat.add_zero, Nat.reduceAdd]
                          omega
                        exact e
                      exact ih205 (kf + 1) w321 (by omega) (by omega) (hI323) ((hF209.tr (hF324.up (by decide)))) (⟨Or.inr ⟨hv326.1, kf, by omega, hb_328, hnb.2, (hv326.2.1 (Nat.succ_ne_zero 3)).1.trans hq319.symm⟩, (fld_eq (j := 10) (hF324.1 82 (by decide))).trans hj214, (fld_eq (j := 14) (hF324.1 82 (by decide))).trans hj215, hj216.kp hv327, (hF324.1 85 (by decide)).trans hj217, (hF324.1 86 (by decide)).trans hj218, (hF324.1 87 (by decide)).trans hj219⟩)
                  · refine xg_t (xg_ifT (u := u274) rfl xnm0 (xj_neT hc278)) ?_
                    refine xg_t (xg_blk (b := [(165, 1, 0, 0, 0, 0), (166, 3, 1, 12, 0, 7), (169, 2, 4, 16, 0, 0), (171, 1, 10, 0, 0, 0), (172, 3, 7, 177, 0, 0), (175, 1, 3, 4294967295, 0, 0), (176, 1, 12, 0, 1, 0)]) rfl) ?_
                    have hq329 : rwv w207 83 16 = g83_252 16 := rwv_of h83_253 (by decide)
                    rcases hj213 with ⟨z1330, z3331, z2332⟩ | ⟨z1330, z2332⟩
                    · have hnb : rwv w207 83 16 = 0 ∧ ∀ j, j < kf → ¬ bsX (XM w147) j := ⟨z1330, z2332⟩
                      have hnb2 := z3331
                      refine xg_t (xg_aload (va := (2, 82)) rfl rfl) ?_
                      refine xg_t (xg_getf (va := (2, 83)) h82_250 rfl) ?_
                      refine xg_t (xg_bip) ?_
                      refine xg_ialdB (n := 16) (B := 4294967295) h83_253 (hb254) xnm0 (by omega) (fun u333 hu334 he335 => ?_)
                      refine xg_t (xg_ifT (u := u333) rfl xnm0 (xj_eqT (by omega))) ?_
                      refine xg_t (xg_blk (b := [(177, 1, 3, 0, 0, 0), (178, 1, 15, 1, 0, 0)]) rfl) ?_
                      have hMx : MST B nn w147 k_152 := hM_158
                      have hDE := hMx.data hc203
                      have hDD : DATA w207 := by
                        unfold DATA
                        simp only [fun j => rwv_eq (j := j) hj217, fun j => rwv_eq (j := j) hj218]
                        exact hDE
                      have hdt := hDD.toDt h85_259 h86_262
                      have hf337 : fld w207 82 14 = f82_238 := fld_of h82_250
                      refine xg_t (xg_const) ?_
                      refine xg_t (xg_istore (l1 := [(0, (2, 82))]) rfl rfl rfl) ?_
                      refine xg_t (xg_blk (b := [(179, 1, 2, 1, 0, 0), (180, 1, 3, 5, 0, 0), (181, 3, 6, 202, 3, 0), (184, 1, 0, 0, 0, 0), (185, 3, 1, 12, 0, 7), (188, 1, 2, 1, 0, 0), (189, 1, 0, 0, 0, 0), (190, 3, 1, 12, 11, 17), (193, 1, 2, 1, 0, 0), (194, 1, 10, 0, 0, 0), (195, 1, 17, 0, 0, 0), (196, 3, 9, 1, 1, 0), (199, 3, 8, 179, 0, 0)]) rfl) ?_
                      refine xg_t (xg_iload (va := (0, 0)) rfl rfl) ?_
                      refine xg_t (xg_const) ?_
                      refine xg_t (xg_icF (u := 0) (v := 5) rfl xnm0 xnm0 (by decide)) ?_
                      refine xg_t (xg_aload (va := (2, 82)) rfl rfl) ?_
                      refine xg_t (xg_getf (va := (2, 83)) h82_250 rfl) ?_
                      refine xg_t (xg_iload (va := (0, 0)) rfl rfl) ?_
                      refine xg_t (xg_aload (va := (2, 82)) rfl rfl) ?_
                      refine xg_t (xg_getf (va := (2, 85)) h82_250 rfl) ?_
                      refine xg_t (xg_iload (va := (0, 0)) rfl rfl) ?_
                      refine xg_ialdB (n := 0) (B := 4294967295) h85_259 (hb260) xnm0 (by omega) (fun u338 hu339 he340 => ?_)
                      have hq341 : rwv w207 85 0 = u338 := (rwv_of h85_259 (by decide)).trans he340
                      refine xg_iastK (n := 0) (u := u338) h83_253 xnm0 xnm0 rfl (by omega) (fun w342 hr343 hb344 => ?_)
                      have hb345 : ∀ j, (fun j => if j = 0 then u338 else g83_252 j) j ≤ 4294967295 := xrb (by omega) (hb254)
                      obtain ⟨g346, hg347⟩ : ∃ g : Nat → Nat, g = (fun j => if j = 0 then u338 else g83_252 j) := ⟨_, rfl⟩
                      rw [← hg347] at hr343
                      have he348 : g346 0 = u338 := by rw [hg347]; exact if_pos rfl
                      have hk349 : ∀ j, j ≠ 0 → g346 j = g83_252 j := fun j hj => by rw [hg347]; exact if_neg hj
                      rw [← hg347] at hb345
                      refine xg_t (xg_iinc (u := 0) (z := 1) (l1 := [(0, (2, 82))]) rfl rfl (by decide) rfl) ?_
                      refine xg_t (xg_goto) ?_
                      refine xg_t (xg_blk (b := [(179, 1, 2, 1, 0, 0), (180, 1, 3, 5, 0, 0), (181, 3, 6, 202, 3, 0), (184, 1, 0, 0, 0, 0), (185, 3, 1, 12, 0, 7), (188, 1, 2, 1, 0, 0), (189, 1, 0, 0, 0, 0), (190, 3, 1, 12, 11, 17), (193, 1, 2, 1, 0, 0), (194, 1, 10, 0, 0, 0), (195, 1, 17, 0, 0, 0), (196, 3, 9, 1, 1, 0), (199, 3, 8, 179, 0, 0)]) rfl) ?_
                      refine xg_t (xg_iload (va := (0, 1)) rfl rfl) ?_
                      refine xg_t (xg_const) ?_
                      refine xg_t (xg_icF (u := 1) (v := 5) rfl xnm0 xnm0 (by decide)) ?_
                      refine xg_t (xg_aload (va := (2, 82)) rfl rfl) ?_
                      refine xg_t (xg_getf (va := (2, 83)) (hb344.get (by decide) h82_250) rfl) ?_
                      refine xg_t (xg_iload (va := (0, 1)) rfl rfl) ?_
                      refine xg_t (xg_aload (va := (2, 82)) rfl rfl) ?_
                      refine xg_t (xg_getf (va := (2, 85)) (hb344.get (by decide) h82_250) rfl) ?_
                      refine xg_t (xg_iload (va := (0, 1)) rfl rfl) ?_
                      refine xg_ialdB (n := 1) (B := 4294967295) (h85_259.but hb344 (by decide)) (hb260) xnm0 (by omega) (fun u350 hu351 he352 => ?_)
                      have hq353 : rwv w207 85 1 = u350 := (rwv_of h85_259 (by decide)).trans he352
                      refine xg_iastK (n := 1) (u := u350) hr343 xnm0 xnm0 rfl (by omega) (fun w354 hr355 hb356 => ?_)
                      have hb357 : ∀ j, (fun j => if j = 1 then u350 else g346 j) j ≤ 4294967295 := xrb (by omega) (hb345)
                      obtain ⟨g358, hg359⟩ : ∃ g : Nat → Nat, g = (fun j => if j = 1 then u350 else g346 j) := ⟨_, rfl⟩
                      rw [← hg359] at hr355
                      have he360 : g358 1 = u350 := by rw [hg359]; exact if_pos rfl
                      have hk361 : ∀ j, j ≠ 1 → g358 j = g346 j := fun j hj => by rw [hg359]; exact if_neg hj
                      rw [← hg359] at hb357
                      refine xg_t (xg_iinc (u := 1) (z := 2) (l1 := [(0, (2, 82))]) rfl rfl (by decide) rfl) ?_
                      refine xg_t (xg_goto) ?_
                      refine xg_t (xg_blk (b := [(179, 1, 2, 1, 0, 0), (180, 1, 3, 5, 0, 0), (181, 3, 6, 202, 3, 0), (184, 1, 0, 0, 0, 0), (185, 3, 1, 12, 0, 7), (188, 1, 2, 1, 0, 0), (189, 1, 0, 0, 0, 0), (190, 3, 1, 12, 11, 17), (193, 1, 2, 1, 0, 0), (194, 1, 10, 0, 0, 0), (195, 1, 17, 0, 0, 0), (196, 3, 9, 1, 1, 0), (199, 3, 8, 179, 0, 0)]) rfl) ?_
                      refine xg_t (xg_iload (va := (0, 2)) rfl rfl) ?_
                      refine xg_t (xg_const) ?_
                      refine xg_t (xg_icF (u := 2) (v := 5) rfl xnm0 xnm0 (by decide)) ?_
                      refine xg_t (xg_aload (va := (2, 82)) rfl rfl) ?_
                      refine xg_t (xg_getf (va := (2, 83)) (hb356.get (by decide) (hb344.get (by decide) h82_250)) rfl) ?_
                      refine xg_t (xg_iload (va := (0, 2)) rfl rfl) ?_
                      refine xg_t (xg_aload (va := (2, 82)) rfl rfl) ?_
                      refine xg_t (xg_getf (va := (2, 85)) (hb356.get (by decide) (hb344.get (by decide) h82_250)) rfl) ?_
                      refine xg_t (xg_iload (va := (0, 2)) rfl rfl) ?_
                      refine xg_ialdB (n := 2) (B := 4294967295) ((h85_259.but hb344 (by decide)).but hb356 (by decide)) (hb260) xnm0 (by omega) (fun u362 hu363 he364 => ?_)
                      have hq365 : rwv w207 85 2 = u362 := (rwv_of h85_259 (by decide)).trans he364
                      refine xg_iastK (n := 2) (u := u362) hr355 xnm0 xnm0 rfl (by omega) (fun w366 hr367 hb368 => ?_)
                      have hb369 : ∀ j, (fun j => if j = 2 then u362 else g358 j) j ≤ 4294967295 := xrb (by omega) (hb357)
                      obtain ⟨g370, hg371⟩ : ∃ g : Nat → Nat, g = (fun j => if j = 2 then u362 else g358 j) := ⟨_, rfl⟩
                      rw [← hg371] at hr367
                      have he372 : g370 2 = u362 := by rw [hg371]; exact if_pos rfl
                      have hk373 : ∀ j, j ≠ 2 → g370 j = g358 j := fun j hj => by rw [hg371]; exact if_neg hj
                      rw [← hg371] at hb369
                      refine xg_t (xg_iinc (u := 2) (z := 3) (l1 := [(0, (2, 82))]) rfl rfl (by decide) rfl) ?_
                      refine xg_t (xg_goto) ?_
                      refine xg_t (xg_blk (b := [(179, 1, 2, 1, 0, 0), (180, 1, 3, 5, 0, 0), (181, 3, 6, 202, 3, 0), (184, 1, 0, 0, 0, 0), (185, 3, 1, 12, 0, 7), (188, 1, 2, 1, 0, 0), (189, 1, 0, 0, 0, 0), (190, 3, 1, 12, 11, 17), (193, 1, 2, 1, 0, 0), (194, 1, 10, 0, 0, 0), (195, 1, 17, 0, 0, 0), (196, 3, 9, 1, 1, 0), (199, 3, 8, 179, 0, 0)]) rfl) ?_
                      refine xg_t (xg_iload (va := (0, 3)) rfl rfl) ?_
                      refine xg_t (xg_const) ?_
                      refine xg_t (xg_icF (u := 3) (v := 5) rfl xnm0 xnm0 (by decide)) ?_
                      refine xg_t (xg_aload (va := (2, 82)) rfl rfl) ?_
                      refine xg_t (xg_getf (va := (2, 83)) (hb368.get (by decide) (hb356.get (by decide) (hb344.get (by decide) h82_250))) rfl) ?_
                      refine xg_t (xg_iload (va := (0, 3)) rfl rfl) ?_
                      refine xg_t (xg_aload (va := (2, 82)) rfl rfl) ?_
                      refine xg_t (xg_getf (va := (2, 85)) (hb368.get (by decide) (hb356.get (by decide) (hb344.get (by decide) h82_250))) rfl) ?_
                      refine xg_t (xg_iload (va := (0, 3)) rfl rfl) ?_
                      refine xg_ialdB (n := 3) (B := 4294967295) (((h85_259.but hb344 (by decide)).but hb356 (by decide)).but hb368 (by decide)) (hb260) xnm0 (by omega) (fun u374 hu375 he376 => ?_)
                      have hq377 : rwv w207 85 3 = u374 := (rwv_of h85_259 (by decide)).trans he376
                      refine xg_iastK (n := 3) (u := u374) hr367 xnm0 xnm0 rfl (by omega) (fun w378 hr379 hb380 => ?_)
                      have hb381 : ∀ j, (fun j => if j = 3 then u374 else g370 j) j ≤ 4294967295 := xrb (by omega) (hb369)
                      obtain ⟨g382, hg383⟩ : ∃ g : Nat → Nat, g = (fun j => if j = 3 then u374 else g370 j) := ⟨_, rfl⟩
                      rw [← hg383] at hr379
                      have he384 : g382 3 = u374 := by rw [hg383]; exact if_pos rfl
                      have hk385 : ∀ j, j ≠ 3 → g382 j = g370 j := fun j hj => by rw [hg383]; exact if_neg hj
                      rw [← hg383] at hb381
                      refine xg_t (xg_iinc (u := 3) (z := 4) (l1 := [(0, (2, 82))]) rfl rfl (by decide) rfl) ?_
                      refine xg_t (xg_goto) ?_
                      refine xg_t (xg_blk (b := [(179, 1, 2, 1, 0, 0), (180, 1, 3, 5, 0, 0), (181, 3, 6, 202, 3, 0), (184, 1, 0, 0, 0, 0), (185, 3, 1, 12, 0, 7), (188, 1, 2, 1, 0, 0), (189, 1, 0, 0, 0, 0), (190, 3, 1, 12, 11, 17), (193, 1, 2, 1, 0, 0), (194, 1, 10, 0, 0, 0), (195, 1, 17, 0, 0, 0), (196, 3, 9, 1, 1, 0), (199, 3, 8, 179, 0, 0)]) rfl) ?_
                      refine xg_t (xg_iload (va := (0, 4)) rfl rfl) ?_
                      refine xg_t (xg_const) ?_
                      refine xg_t (xg_icF (u := 4) (v := 5) rfl xnm0 xnm0 (by decide)) ?_
                      refine xg_t (xg_aload (va := (2, 82)) rfl rfl) ?_
                      refine xg_t (xg_getf (va := (2, 83)) (hb380.get (by decide) (hb368.get (by decide) (hb356.get (by decide) (hb344.get (by decide) h82_250)))) rfl) ?_
                      refine xg_t (xg_iload (va := (0, 4)) rfl rfl) ?_
                      refine xg_t (xg_aload (va := (2, 82)) rfl rfl) ?_
                      refine xg_t (xg_getf (va := (2, 85)) (hb380.get (by decide) (hb368.get (by decide) (hb356.get (by decide) (hb344.get (by decide) h82_250)))) rfl) ?_
                      refine xg_t (xg_iload (va := (0, 4)) rfl rfl) ?_
                      refine xg_ialdB (n := 4) (B := 4294967295) ((((h85_259.but hb344 (by decide)).but hb356 (by decide)).but hb368 (by decide)).but hb380 (by decide)) (hb260) xnm0 (by omega) (fun u386 hu387 he388 => ?_)
                      have hq389 : rwv w207 85 4 = u386 := (rwv_of h85_259 (by decide)).trans he388
                      refine xg_iastK (n := 4) (u := u386) hr379 xnm0 xnm0 rfl (by omega) (fun w390 hr391 hb392 => ?_)
                      have hb393 : ∀ j, (fun j => if j = 4 then u386 else g382 j) j ≤ 4294967295 := xrb (by omega) (hb381)
                      obtain ⟨g394, hg395⟩ : ∃ g : Nat → Nat, g = (fun j => if j = 4 then u386 else g382 j) := ⟨_, rfl⟩
                      rw [← hg395] at hr391
                      have he396 : g394 4 = u386 := by rw [hg395]; exact if_pos rfl
                      have hk397 : ∀ j, j ≠ 4 → g394 j = g382 j := fun j hj => by rw [hg395]; exact if_neg hj
                      rw [← hg395] at hb393
                      refine xg_t (xg_iinc (u := 4) (z := 5) (l1 := [(0, (2, 82))]) rfl rfl (by decide) rfl) ?_
                      refine xg_t (xg_goto) ?_
                      refine xg_t (xg_blk (b := [(179, 1, 2, 1, 0, 0), (180, 1, 3, 5, 0, 0), (181, 3, 6, 202, 3, 0), (184, 1, 0, 0, 0, 0), (185, 3, 1, 12, 0, 7), (188, 1, 2, 1, 0, 0), (189, 1, 0, 0, 0, 0), (190, 3, 1, 12, 11, 17), (193, 1, 2, 1, 0, 0), (194, 1, 10, 0, 0, 0), (195, 1, 17, 0, 0, 0), (196, 3, 9, 1, 1, 0), (199, 3, 8, 179, 0, 0)]) rfl) ?_
                      refine xg_t (xg_iload (va := (0, 5)) rfl rfl) ?_
                      refine xg_t (xg_const) ?_
                      refine xg_t (xg_icT (u := 5) (v := 5) rfl xnm0 xnm0 (by decide)) ?_
                      refine xg_t (xg_blk (b := [(202, 1, 3, 5, 0, 0), (203, 1, 15, 1, 0, 0)]) rfl) ?_
                      refine xg_t (xg_const) ?_
                      refine xg_t (xg_istore (l1 := [(0, (2, 82))]) rfl rfl rfl) ?_
                      refine xg_t (xg_blk (b := [(204, 1, 2, 1, 0, 0), (205, 2, 4, 8, 0, 0), (207, 3, 6, 228, 4, 0), (210, 1, 0, 0, 0, 0), (211, 3, 1, 12, 0, 7), (214, 1, 2, 1, 0, 0), (215, 1, 0, 0, 0, 0), (216, 3, 1, 12, 12, 20), (219, 1, 2, 1, 0, 0), (220, 1, 10, 0, 0, 0), (221, 1, 17, 0, 0, 0), (222, 3, 9, 1, 1, 0), (225, 3, 8, 204, 0, 0)]) rfl) ?_
                      refine xg_t (xg_iload (va := (0, 5)) rfl rfl) ?_
                      refine xg_t (xg_bip) ?_
                      refine xg_t (xg_icF (u := 5) (v := 8) rfl xnm0 xnm0 (by decide)) ?_
                      refine xg_t (xg_aload (va := (2, 82)) rfl rfl) ?_
                      refine xg_t (xg_getf (va := (2, 83)) (hb392.get (by decide) (hb380.get (by decide) (hb368.get (by decide) (hb356.get (by decide) (hb344.get (by decide) h82_250))))) rfl) ?_
                      refine xg_t (xg_iload (va := (0, 5)) rfl rfl) ?_
                      refine xg_t (xg_aload (va := (2, 82)) rfl rfl) ?_
                      refine xg_t (xg_getf (va := (2, 86)) (hb392.get (by decide) (hb380.get (by decide) (hb368.get (by decide) (hb356.get (by decide) (hb344.get (by decide) h82_250))))) rfl) ?_
                      refine xg_t (xg_iload (va := (0, 5)) rfl rfl) ?_
                      refine xg_ialdB (n := 5) (B := 4294967295) (((((h86_262.but hb344 (by decide)).but hb356 (by decide)).but hb368 (by decide)).but hb380 (by decide)).but hb392 (by decide)) (hb263) xnm0 (by omega) (fun u398 hu399 he400 => ?_)
                      have hq401 : rwv w207 86 5 = u398 := (rwv_of h86_262 (by decide)).trans he400
                      refine xg_iastK (n := 5) (u := u398) hr391 xnm0 xnm0 rfl (by omega) (fun w402 hr403 hb404 => ?_)
                      have hb405 : ∀ j, (fun j => if j = 5 then u398 else g394 j) j ≤ 4294967295 := xrb (by omega) (hb393)
                      obtain ⟨g406, hg407⟩ : ∃ g : Nat → Nat, g = (fun j => if j = 5 then u398 else g394 j) := ⟨_, rfl⟩
                      rw [← hg407] at hr403
                      have he408 : g406 5 = u398 := by rw [hg407]; exact if_pos rfl
                      have hk409 : ∀ j, j ≠ 5 → g406 j = g394 j := fun j hj => by rw [hg407]; exact if_neg hj
                      rw [← hg407] at hb405
                      refine xg_t (xg_iinc (u := 5) (z := 6) (l1 := [(0, (2, 82))]) rfl rfl (by decide) rfl) ?_
                      refine xg_t (xg_goto) ?_
                      refine xg_t (xg_blk (b := [(204, 1, 2, 1, 0, 0), (205, 2, 4, 8, 0, 0), (207, 3, 6, 228, 4, 0), (210, 1, 0, 0, 0, 0), (211, 3, 1, 12, 0, 7), (214, 1, 2, 1, 0, 0), (215, 1, 0, 0, 0, 0), (216, 3, 1, 12, 12, 20), (219, 1, 2, 1, 0, 0), (220, 1, 10, 0, 0, 0), (221, 1, 17, 0, 0, 0), (222, 3, 9, 1, 1, 0), (225, 3, 8, 204, 0, 0)]) rfl) ?_
                      refine xg_t (xg_iload (va := (0, 6)) rfl rfl) ?_
                      refine xg_t (xg_bip) ?_
                      refine xg_t (xg_icF (u := 6) (v := 8) rfl xnm0 xnm0 (by decide)) ?_
                      refine xg_t (xg_aload (va := (2, 82)) rfl rfl) ?_
                      refine xg_t (xg_getf (va := (2, 83)) (hb404.get (by decide) (hb392.get (by decide) (hb380.get (by decide) (hb368.get (by decide) (hb356.get (by decide) (hb344.get (by decide) h82_250)))))) rfl) ?_
                      refine xg_t (xg_iload (va := (0, 6)) rfl rfl) ?_
                      refine xg_t (xg_aload (va := (2, 82)) rfl rfl) ?_
                      refine xg_t (xg_getf (va := (2, 86)) (hb404.get (by decide) (hb392.get (by decide) (hb380.get (by decide) (hb368.get (by decide) (hb356.get (by decide) (hb344.get (by decide) h82_250)))))) rfl) ?_
                      refine xg_t (xg_iload (va := (0, 6)) rfl rfl) ?_
                      refine xg_ialdB (n := 6) (B := 4294967295) ((((((h86_262.but hb344 (by decide)).but hb356 (by decide)).but hb368 (by decide)).but hb380 (by decide)).but hb392 (by decide)).but hb404 (by decide)) (hb263) xnm0 (by omega) (fun u410 hu411 he412 => ?_)
                      have hq413 : rwv w207 86 6 = u410 := (rwv_of h86_262 (by decide)).trans he412
                      refine xg_iastK (n := 6) (u := u410) hr403 xnm0 xnm0 rfl (by omega) (fun w414 hr415 hb416 => ?_)
                      have hb417 : ∀ j, (fun j => if j = 6 then u410 else g406 j) j ≤ 4294967295 := xrb (by omega) (hb405)
                      obtain ⟨g418, hg419⟩ : ∃ g : Nat → Nat, g = (fun j => if j = 6 then u410 else g406 j) := ⟨_, rfl⟩
                      rw [← hg419] at hr415
                      have he420 : g418 6 = u410 := by rw [hg419]; exact if_pos rfl
                      have hk421 : ∀ j, j ≠ 6 → g418 j = g406 j := fun j hj => by rw [hg419]; exact if_neg hj
                      rw [← hg419] at hb417
                      refine xg_t (xg_iinc (u := 6) (z := 7) (l1 := [(0, (2, 82))]) rfl rfl (by decide) rfl) ?_
                      refine xg_t (xg_goto) ?_
                      refine xg_t (xg_blk (b := [(204, 1, 2, 1, 0, 0), (205, 2, 4, 8, 0, 0), (207, 3, 6, 228, 4, 0), (210, 1, 0, 0, 0, 0), (211, 3, 1, 12, 0, 7), (214, 1, 2, 1, 0, 0), (215, 1, 0, 0, 0, 0), (216, 3, 1, 12, 12, 20), (219, 1, 2, 1, 0, 0), (220, 1, 10, 0, 0, 0), (221, 1, 17, 0, 0, 0), (222, 3, 9, 1, 1, 0), (225, 3, 8, 204, 0, 0)]) rfl) ?_
                      refine xg_t (xg_iload (va := (0, 7)) rfl rfl) ?_
                      refine xg_t (xg_bip) ?_
                      refine xg_t (xg_icF (u := 7) (v := 8) rfl xnm0 xnm0 (by decide)) ?_
                      refine xg_t (xg_aload (va := (2, 82)) rfl rfl) ?_
                      refine xg_t (xg_getf (va := (2, 83)) (hb416.get (by decide) (hb404.get (by decide) (hb392.get (by decide) (hb380.get (by decide) (hb368.get (by decide) (hb356.get (by decide) (hb344.get (by decide) h82_250))))))) rfl) ?_
                      refine xg_t (xg_iload (va := (0, 7)) rfl rfl) ?_
                      refine xg_t (xg_aload (va := (2, 82)) rfl rfl) ?_
                      refine xg_t (xg_getf (va := (2, 86)) (hb416.get (by decide) (hb404.get (by decide) (hb392.get (by decide) (hb380.get (by decide) (hb368.get (by decide) (hb356.get (by decide) (hb344.get (by decide) h82_250))))))) rfl) ?_
                      refine xg_t (xg_iload (va := (0, 7)) rfl rfl) ?_
                      refine xg_ialdB (n := 7) (B := 4294967295) (((((((h86_262.but hb344 (by decide)).but hb356 (by decide)).but hb368 (by decide)).but hb380 (by decide)).but hb392 (by decide)).but hb404 (by decide)).but hb416 (by decide)) (hb263) xnm0 (by omega) (fun u422 hu423 he424 => ?_)
                      have hq425 : rwv w207 86 7 = u422 := (rwv_of h86_262 (by decide)).trans he424
                      refine xg_iastK (n := 7) (u := u422) hr415 xnm0 xnm0 rfl (by omega) (fun w426 hr427 hb428 => ?_)
                      have hb429 : ∀ j, (fun j => if j = 7 then u422 else g418 j) j ≤ 4294967295 := xrb (by omega) (hb417)
                      obtain ⟨g430, hg431⟩ : ∃ g : Nat → Nat, g = (fun j => if j = 7 then u422 else g418 j) := ⟨_, rfl⟩
                      rw [← hg431] at hr427
                      have he432 : g430 7 = u422 := by rw [hg431]; exact if_pos rfl
                      have hk433 : ∀ j, j ≠ 7 → g430 j = g418 j := fun j hj => by rw [hg431]; exact if_neg hj
                      rw [← hg431] at hb429
                      refine xg_t (xg_iinc (u := 7) (z := 8) (l1 := [(0, (2, 82))]) rfl rfl (by decide) rfl) ?_
                      refine xg_t (xg_goto) ?_
                      refine xg_t (xg_blk (b := [(204, 1, 2, 1, 0, 0), (205, 2, 4, 8, 0, 0), (207, 3, 6, 228, 4, 0), (210, 1, 0, 0, 0, 0), (211, 3, 1, 12, 0, 7), (214, 1, 2, 1, 0, 0), (215, 1, 0, 0, 0, 0), (216, 3, 1, 12, 12, 20), (219, 1, 2, 1, 0, 0), (220, 1, 10, 0, 0, 0), (221, 1, 17, 0, 0, 0), (222, 3, 9, 1, 1, 0), (225, 3, 8, 204, 0, 0)]) rfl) ?_
                      refine xg_t (xg_iload (va := (0, 8)) rfl rfl) ?_
                      refine xg_t (xg_bip) ?_
                      refine xg_t (xg_icF (u := 8) (v := 8) rfl xnm0 xnm0 (by decide)) ?_
                      refine xg_t (xg_aload (va := (2, 82)) rfl rfl) ?_
                      refine xg_t (xg_getf (va := (2, 83)) (hb428.get (by decide) (hb416.get (by decide) (hb404.get (by decide) (hb392.get (by decide) (hb380.get (by decide) (hb368.get (by decide) (hb356.get (by decide) (hb344.get (by decide) h82_250)))))))) rfl) ?_
                      refine xg_t (xg_iload (va := (0, 8)) rfl rfl) ?_
                      refine xg_t (xg_aload (va := (2, 82)) rfl rfl) ?_
                      refine xg_t (xg_getf (va := (2, 86)) (hb428.get (by decide) (hb416.get (by decide) (hb404.get (by decide) (hb392.get (by decide) (hb380.get (by decide) (hb368.get (by decide) (hb356.get (by decide) (hb344.get (by decide) h82_250)))))))) rfl) ?_
                      refine xg_t (xg_iload (va := (0, 8)) rfl rfl) ?_
                      refine xg_ialdB (n := 8) (B := 4294967295) ((((((((h86_262.but hb344 (by decide)).but hb356 (by decide)).but hb368 (by decide)).but hb380 (by decide)).but hb392 (by decide)).but hb404 (by decide)).but hb416 (by decide)).but hb428 (by decide)) (hb263) xnm0 (by omega) (fun u434 hu435 he436 => ?_)
                      have hq437 : rwv w207 86 8 = u434 := (rwv_of h86_262 (by decide)).trans he436
                      refine xg_iastK (n := 8) (u := u434) hr427 xnm0 xnm0 rfl (by omega) (fun w438 hr439 hb440 => ?_)
                      have hb441 : ∀ j, (fun j => if j = 8 then u434 else g430 j) j ≤ 4294967295 := xrb (by omega) (hb429)
                      obtain ⟨g442, hg443⟩ : ∃ g : Nat → Nat, g = (fun j => if j = 8 then u434 else g430 j) := ⟨_, rfl⟩
                      rw [← hg443] at hr439
                      have he444 : g442 8 = u434 := by rw [hg443]; exact if_pos rfl
                      have hk445 : ∀ j, j ≠ 8 → g442 j = g430 j := fun j hj => by rw [hg443]; exact if_neg hj
                      rw [← hg443] at hb441
                      refine xg_t (xg_iinc (u := 8) (z := 9) (l1 := [(0, (2, 82))]) rfl rfl (by decide) rfl) ?_
                      refine xg_t (xg_goto) ?_
                      refine xg_t (xg_blk (b := [(204, 1, 2, 1, 0, 0), (205, 2, 4, 8, 0, 0), (207, 3, 6, 228, 4, 0), (210, 1, 0, 0, 0, 0), (211, 3, 1, 12, 0, 7), (214, 1, 2, 1, 0, 0), (215, 1, 0, 0, 0, 0), (216, 3, 1, 12, 12, 20), (219, 1, 2, 1, 0, 0), (220, 1, 10, 0, 0, 0), (221, 1, 17, 0, 0, 0), (222, 3, 9, 1, 1, 0), (225, 3, 8, 204, 0, 0)]) rfl) ?_
                      refine xg_t (xg_iload (va := (0, 9)) rfl rfl) ?_
                      refine xg_t (xg_bip) ?_
                      refine xg_t (xg_icT (u := 9) (v := 8) rfl xnm0 xnm0 (by decide)) ?_
                      refine xg_t (xg_blk (b := [(228, 2, 4, 20, 0, 0), (230, 1, 15, 1, 0, 0)]) rfl) ?_
                      refine xg_t (xg_bip) ?_
                      refine xg_t (xg_istore (l1 := [(0, (2, 82))]) rfl rfl rfl) ?_
                      refine xg_t (xg_drop (l1 := [(0, (2, 82)), (1, (0, 20))]) (List.forall_mem_cons.mpr ⟨List.mem_cons_of_mem _ (List.mem_cons_self), List.forall_mem_cons.mpr ⟨List.mem_cons_self, fun _ h => absurd h List.not_mem_nil⟩⟩)) ?_
                      refine cpFilm 120 20 w438 g442 (by decide) hr439 hb441 (((((((((h86_262.but hb344 (by decide)).but hb356 (by decide)).but hb368 (by decide)).but hb380 (by decide)).but hb392 (by decide)).but hb404 (by decide)).but hb416 (by decide)).but hb428 (by decide)).but hb440 (by decide)) hb263 (hb440.get (by decide) (hb428.get (by decide) (hb416.get (by decide) (hb404.get (by decide) (hb392.get (by decide) (hb380.get (by decide) (hb368.get (by decide) (hb356.get (by decide) (hb344.get (by decide) h82_250))))))))) (fun w446 g447 hc448 hc449 hc450 hc451 hc452 => ?_)
                      refine xg_t (xg_blk (b := [(256, 1, 0, 0, 0, 0), (257, 3, 1, 12, 0, 7), (260, 2, 4, 9, 0, 0), (262, 1, 3, 0, 0, 0), (263, 1, 17, 0, 0, 0), (264, 1, 0, 0, 0, 0), (265, 3, 1, 12, 0, 7), (268, 2, 4, 10, 0, 0), (270, 1, 3, 0, 0, 0), (271, 1, 17, 0, 0, 0), (272, 1, 0, 0, 0, 0), (273, 3, 1, 12, 0, 7), (276, 2, 4, 14, 0, 0), (278, 1, 0, 0, 0, 0), (279, 3, 1, 12, 14, 212), (282, 1, 17, 0, 0, 0), (283, 1, 0, 0, 0, 0), (284, 3, 1, 12, 14, 212), (287, 1, 12, 0, 1, 0)]) rfl) ?_
                      refine xg_t (xg_aload (va := (2, 82)) rfl rfl) ?_
                      refine xg_t (xg_getf (va := (2, 83)) (hc450.get (by decide) (hb440.get (by decide) (hb428.get (by decide) (hb416.get (by decide) (hb404.get (by decide) (hb392.get (by decide) (hb380.get (by decide) (hb368.get (by decide) (hb356.get (by decide) (hb344.get (by decide) h82_250)))))))))) rfl) ?_
                      refine xg_t (xg_bip) ?_
                      refine xg_t (xg_const) ?_
                      refine xg_iastK (n := 9) (u := 0) hc448 xnm0 xnm0 rfl (by omega) (fun w453 hr454 hb455 => ?_)
                      have hb456 : ∀ j, (fun j => if j = 9 then 0 else g447 j) j ≤ 4294967295 := xrb (by omega) (hc449)
                      obtain ⟨g457, hg458⟩ : ∃ g : Nat → Nat, g = (fun j => if j = 9 then 0 else g447 j) := ⟨_, rfl⟩
                      rw [← hg458] at hr454
                      have he459 : g457 9 = 0 := by rw [hg458]; exact if_pos rfl
                      have hk460 : ∀ j, j ≠ 9 → g457 j = g447 j := fun j hj => by rw [hg458]; exact if_neg hj
                      rw [← hg458] at hb456
                      refine xg_t (xg_aload (va := (2, 82)) rfl rfl) ?_
                      refine xg_t (xg_getf (va := (2, 83)) (hb455.get (by decide) (hc450.get (by decide) (hb440.get (by decide) (hb428.get (by decide) (hb416.get (by decide) (hb404.get (by decide) (hb392.get (by decide) (hb380.get (by decide) (hb368.get (by decide) (hb356.get (by decide) (hb344.get (by decide) h82_250))))))))))) rfl) ?_
                      refine xg_t (xg_bip) ?_
                      refine xg_t (xg_const) ?_
                      refine xg_iastK (n := 10) (u := 0) hr454 xnm0 xnm0 rfl (by omega) (fun w461 hr462 hb463 => ?_)
                      have hb464 : ∀ j, (fun j => if j = 10 then 0 else g457 j) j ≤ 4294967295 := xrb (by omega) (hb456)
                      obtain ⟨g465, hg466⟩ : ∃ g : Nat → Nat, g = (fun j => if j = 10 then 0 else g457 j) := ⟨_, rfl⟩
                      rw [← hg466] at hr462
                      have he467 : g465 10 = 0 := by rw [hg466]; exact if_pos rfl
                      have hk468 : ∀ j, j ≠ 10 → g465 j = g457 j := fun j hj => by rw [hg466]; exact if_neg hj
                      rw [← hg466] at hb464
                      refine xg_t (xg_aload (va := (2, 82)) rfl rfl) ?_
                      refine xg_t (xg_getf (va := (2, 83)) (hb463.get (by decide) (hb455.get (by decide) (hc450.get (by decide) (hb440.get (by decide) (hb428.get (by decide) (hb416.get (by decide) (hb404.get (by decide) (hb392.get (by decide) (hb380.get (by decide) (hb368.get (by decide) (hb356.get (by decide) (hb344.get (by decide) h82_250)))))))))))) rfl) ?_
                      refine xg_t (xg_bip) ?_
                      refine xg_t (xg_aload (va := (2, 82)) rfl rfl) ?_
                      refine xg_t (xg_getf (va := (0, f82_238)) (hb463.get (by decide) (hb455.get (by decide) (hc450.get (by decide) (hb440.get (by decide) (hb428.get (by decide) (hb416.get (by decide) (hb404.get (by decide) (hb392.get (by decide) (hb380.get (by decide) (hb368.get (by decide) (hb356.get (by decide) (hb344.get (by decide) h82_250)))))))))))) rfl) ?_
                      have hn469 : f82_238 ≤ 4294967295 := hb239
                      refine xg_iastK (n := 14) (u := f82_238) hr462 xnm0 xnm0 rfl (by omega) (fun w470 hr471 hb472 => ?_)
                      have hb473 : ∀ j, (fun j => if j = 14 then f82_238 else g465 j) j ≤ 4294967295 := xrb (by omega) (hb464)
                      obtain ⟨g474, hg475⟩ : ∃ g : Nat → Nat, g = (fun j => if j = 14 then f82_238 else g465 j) := ⟨_, rfl⟩
                      rw [← hg475] at hr471
                      have he476 : g474 14 = f82_238 := by rw [hg475]; exact if_pos rfl
                      have hk477 : ∀ j, j ≠ 14 → g474 j = g465 j := fun j hj => by rw [hg475]; exact if_neg hj
                      rw [← hg475] at hb473
                      have hq478 : g474 0 = u338 := by rw [hk477 0 (by omega), hk468 0 (by omega), hk460 0 (by omega), hc452 0 (by omega), hk445 0 (by omega), hk433 0 (by omega), hk421 0 (by omega), hk409 0 (by omega), hk397 0 (by omega), hk385 0 (by omega), hk373 0 (by omega), hk361 0 (by omega), he348]
                      have hq479 : g474 1 = u350 := by rw [hk477 1 (by omega), hk468 1 (by omega), hk460 1 (by omega), hc452 1 (by omega), hk445 1 (by omega), hk433 1 (by omega), hk421 1 (by omega), hk409 1 (by omega), hk397 1 (by omega), hk385 1 (by omega), hk373 1 (by omega), he360]
                      have hq480 : g474 2 = u362 := by rw [hk477 2 (by omega), hk468 2 (by omega), hk460 2 (by omega), hc452 2 (by omega), hk445 2 (by omega), hk433 2 (by omega), hk421 2 (by omega), hk409 2 (by omega), hk397 2 (by omega), hk385 2 (by omega), he372]
                      have hq481 : g474 3 = u374 := by rw [hk477 3 (by omega), hk468 3 (by omega), hk460 3 (by omega), hc452 3 (by omega), hk445 3 (by omega), hk433 3 (by omega), hk421 3 (by omega), hk409 3 (by omega), hk397 3 (by omega), he384]
                      have hq482 : g474 4 = u386 := by rw [hk477 4 (by omega), hk468 4 (by omega), hk460 4 (by omega), hc452 4 (by omega), hk445 4 (by omega), hk433 4 (by omega), hk421 4 (by omega), hk409 4 (by omega), he396]
                      have hq483 : g474 5 = u398 := by rw [hk477 5 (by omega), hk468 5 (by omega), hk460 5 (by omega), hc452 5 (by omega), hk445 5 (by omega), hk433 5 (by omega), hk421 5 (by omega), he408]
                      have hq484 : g474 6 = u410 := by rw [hk477 6 (by omega), hk468 6 (by omega), hk460 6 (by omega), hc452 6 (by omega), hk445 6 (by omega), hk433 6 (by omega), he420]
                      have hq485 : g474 7 = u422 := by rw [hk477 7 (by omega), hk468 7 (by omega), hk460 7 (by omega), hc452 7 (by omega), hk445 7 (by omega), he432]
                      have hq486 : g474 8 = u434 := by rw [hk477 8 (by omega), hk468 8 (by omega), hk460 8 (by omega), hc452 8 (by omega), he444]
                      have hq487 : g474 9 = 0 := by rw [hk477 9 (by omega), hk468 9 (by omega), he459]
                      have hq488 : g474 10 = 0 := by rw [hk477 10 (by omega), he467]
                      have hq489 : ∀ j, 20 ≤ j → j < 140 → g474 j = g86_261 j := fun j h1 h2 => by rw [hk477 j (by omega), hk468 j (by omega), hk460 j (by omega)]; exact hc451 j h1 h2
                      have hq490 : ∀ j, 140 ≤ j ∨ j = 11 ∨ j = 12 ∨ j = 13 ∨ j = 15 → g474 j = g83_252 j := fun j hj => by rw [hk477 j (by omega), hk468 j (by omega), hk460 j (by omega), hc452 j (by omega), hk445 j (by omega), hk433 j (by omega), hk421 j (by omega), hk409 j (by omega), hk397 j (by omega), hk385 j (by omega), hk373 j (by omega), hk361 j (by omega), hk349 j (by omega)]
                      have hx491 : okA g474 := film_ok hx255 hdt (by omega) (by omega) (by omega) (by omega) (by omega) (by omega) (by omega) (by omega) (by omega) (by omega) (by omega) hq489 (fun j hj => hq490 j (by omega))
                      refine xg_t (xg_aload (va := (2, 82)) rfl rfl) ?_
                      refine xg_t (xg_getf (va := (0, f82_238)) (hb472.get (by decide) (hb463.get (by decide) (hb455.get (by decide) (hc450.get (by decide) (hb440.get (by decide) (hb428.get (by decide) (hb416.get (by decide) (hb404.get (by decide) (hb392.get (by decide) (hb380.get (by decide) (hb368.get (by decide) (hb356.get (by decide) (hb344.get (by decide) h82_250))))))))))))) rfl) ?_
                      have hq494 : rwv w470 83 0 = g474 0 := rwv_of hr471 (by decide)
                      have hq495 : rwv w470 83 1 = g474 1 := rwv_of hr471 (by decide)
                      have hq496 : rwv w470 83 2 = g474 2 := rwv_of hr471 (by decide)
                      have hq497 : rwv w470 83 3 = g474 3 := rwv_of hr471 (by decide)
                      have hq498 : rwv w470 83 4 = g474 4 := rwv_of hr471 (by decide)
                      have hq499 : rwv w470 83 5 = g474 5 := rwv_of hr471 (by decide)
                      have hq500 : rwv w470 83 6 = g474 6 := rwv_of hr471 (by decide)
                      have hq501 : rwv w470 83 7 = g474 7 := rwv_of hr471 (by decide)
                      have hq502 : rwv w470 83 8 = g474 8 := rwv_of hr471 (by decide)
                      have hq503 : rwv w470 83 9 = g474 9 := rwv_of hr471 (by decide)
                      have hq504 : rwv w470 83 10 = g474 10 := rwv_of hr471 (by decide)
                      have hq505 : rwv w470 83 14 = g474 14 := rwv_of hr471 (by decide)
                      have hq506 : rwv w470 83 16 = g474 16 := rwv_of hr471 (by decide)
                      have hq507 : rwv w470 83 17 = g474 17 := rwv_of hr471 (by decide)
                      have h14x : g474 14 = f82_238 := by rw [he476]
                      have h16x : g474 16 = g83_252 16 := by rw [hk477 16 (by decide), hk468 16 (by decide), hk460 16 (by decide), hc452 16 (by omega), hk445 16 (by decide), hk433 16 (by decide), hk421 16 (by decide), hk409 16 (by decide), hk397 16 (by decide), hk385 16 (by decide), hk373 16 (by decide), hk361 16 (by decide), hk349 16 (by decide)]
                      have hq508 : rwv w207 83 16 = g83_252 16 := rwv_of h83_253 (by decide)
                      have h17x : g474 17 = g83_252 17 := by rw [hk477 17 (by decide), hk468 17 (by decide), hk460 17 (by decide), hc452 17 (by omega), hk445 17 (by decide), hk433 17 (by decide), hk421 17 (by decide), hk409 17 (by decide), hk397 17 (by decide), hk385 17 (by decide), hk373 17 (by decide), hk361 17 (by decide), hk349 17 (by decide)]
                      have hq509 : rwv w207 83 17 = g83_252 17 := rwv_of h83_253 (by decide)
                      have hF510 : FLA B nn w470 k_152 := FLA.mk hM_158 hc203 ((show rwv w470 83 0 = rwv w207 85 0 by omega).trans (rwv_eq hj217)) ((show rwv w470 83 1 = rwv w207 85 1 by omega).trans (rwv_eq hj217)) ((show rwv w470 83 2 = rwv w207 85 2 by omega).trans (rwv_eq hj217)) ((show rwv w470 83 3 = rwv w207 85 3 by omega).trans (rwv_eq hj217)) ((show rwv w470 83 4 = rwv w207 85 4 by omega).trans (rwv_eq hj217)) (by omega) ((show rwv w470 83 5 = rwv w207 86 5 by omega).trans (rwv_eq hj218)) ((show rwv w470 83 6 = rwv w207 86 6 by omega).trans (rwv_eq hj218)) ((show rwv w470 83 7 = rwv w207 86 7 by omega).trans (rwv_eq hj218)) ((show rwv w470 83 8 = rwv w207 86 8 by omega).trans (rwv_eq hj218)) (fun j h1 h2 => (rwv_of hr471 (by omega)).trans ((hq489 j h1 h2).trans ((rwv_of h86_262 (by omega)).symm.trans (rwv_eq hj218))))
                      have hz511 : f82_238 = k_152 := by omega
                      have hz16 := hnb.1
                      have hR492 : FRes B nn f82_238 (rwv w470 83 16) (rwv w470 83 17) := by
                        rw [hz511]
                        exact ⟨k_152, hok154, hnok, Or.inr (Or.inr ⟨hend, hc203, XM w147, rwv w147 87, (hM_158.2.2 hc203).1, (hM_158.2.2 hc203).2, Or.inr ⟨rfl, by omega, by omega, hk153, fun j hj => hnb.2 j (by omega)⟩⟩)⟩
                      exact xg_e ⟨f82_238, w470, ⟨rfl, rfl⟩, ⟨hR492, (rwv_of hr471 (by decide)).trans ((hq490 15 (by omega)).trans ((rwv_of h83_253 (by decide)).symm.trans hj216.1)), fun z => absurd z (by omega), fun _ => ⟨by rw [hz511]; exact hF510, by omega, by omega⟩, fun j h1 h2 => (rwv_of hr471 h2).trans ((hq490 j (by omega)).trans ((rwv_of h83_253 h2).symm.trans (hj216.2 j h2 (by omega) (by omega) (by omega))))⟩, xMnv.up (S := [83]) hI208 (((((((((((((xFr.of (S := [83]) hb344 (by decide)).tr (xFr.of (S := [83]) hb356 (by decide))).tr (xFr.of (S := [83]) hb368 (by decide))).tr (xFr.of (S := [83]) hb380 (by decide))).tr (xFr.of (S := [83]) hb392 (by decide))).tr (xFr.of (S := [83]) hb404 (by decide))).tr (xFr.of (S := [83]) hb416 (by decide))).tr (xFr.of (S := [83]) hb428 (by decide))).tr (xFr.of (S := [83]) hb440 (by decide))).tr (xFr.of (S := [83]) hc450 (by decide))).tr (xFr.of (S := [83]) hb455 (by decide))).tr (xFr.of (S := [83]) hb463 (by decide))).tr (xFr.of (S := [83]) hb472 (by decide))) (List.forall_mem_cons.mpr ⟨(show cpx83 (wget w470 83) from ⟨_, hr471, hb473, hx491⟩), fun _ h => absurd h List.not_mem_nil⟩), (hF209.tr (((((((((((((xFr.of (S := [82, 83, 85, 86, 87]) hb344 (by decide)).tr (xFr.of (S := [82, 83, 85, 86, 87]) hb356 (by decide))).tr (xFr.of (S := [82, 83, 85, 86, 87]) hb368 (by decide))).tr (xFr.of (S := [82, 83, 85, 86, 87]) hb380 (by decide))).tr (xFr.of (S := [82, 83, 85, 86, 87]) hb392 (by decide))).tr (xFr.of (S := [82, 83, 85, 86, 87]) hb404 (by decide))).tr (xFr.of (S := [82, 83, 85, 86, 87]) hb416 (by decide))).tr (xFr.of (S := [82, 83, 85, 86, 87]) hb428 (by decide))).tr (xFr.of (S := [82, 83, 85, 86, 87]) hb440 (by decide))).tr (xFr.of (S := [82, 83, 85, 86, 87]) hc450 (by decide))).tr (xFr.of (S := [82, 83, 85, 86, 87]) hb455 (by decide))).tr (xFr.of (S := [82, 83, 85, 86, 87]) hb463 (by decide))).tr (xFr.of (S := [82, 83, 85, 86, 87]) hb472 (by decide))))⟩
                    · refine xg_t (xg_aload (va := (2, 82)) rfl rfl) ?_
                      refine xg_t (xg_getf (va := (2, 83)) h82_250 rfl) ?_
                      refine xg_t (xg_bip) ?_
                      refine xg_ialdB (n := 16) (B := 4294967295) h83_253 (hb254) xnm0 (by omega) (fun u512 hu513 he514 => ?_)
                      refine xg_t (xg_ifF (u := u512) rfl xnm0 (xj_eqF (by omega))) ?_
                      refine xg_t (xg_const) ?_
                      have kb516 : KB w w207 := hj216
                      have hR515 : FRes B nn 4294967295 (rwv w207 83 16) (rwv w207 83 17) := by
                        obtain ⟨m, m1, m2, m3, m4⟩ := z2332
                        exact ⟨k_152, hok154, hnok, Or.inr (Or.inr ⟨hend, hc203, XM w147, rwv w147 87, (hM_158.2.2 hc203).1, (hM_158.2.2 hc203).2, Or.inl ⟨rfl, z1330, m, m1, m2, m3, m4⟩⟩)⟩
                      exact xg_e ⟨4294967295, w207, ⟨rfl, rfl⟩, ⟨hR515, kb516.1, fun _ => kb516, fun z => absurd rfl z, fun j h1 h2 => kb516.2 j h2 (by omega) (by omega) (by omega)⟩, hI208, hF209⟩
                · have hc271u := hc271
                  unfold xbs at hc271u
                  have hn517 : kf ≤ 20 := by omega
                  refine xg_t (xg_icT (u := kf) (v := u268) rfl xnm0 xnm0 (xjs_geT hc271)) ?_
                  refine xg_t (xg_blk (b := [(165, 1, 0, 0, 0, 0), (166, 3, 1, 12, 0, 7), (169, 2, 4, 16, 0, 0), (171, 1, 10, 0, 0, 0), (172, 3, 7, 177, 0, 0), (175, 1, 3, 4294967295, 0, 0), (176, 1, 12, 0, 1, 0)]) rfl) ?_
                  have hq518 : rwv w207 83 16 = g83_252 16 := rwv_of h83_253 (by decide)
                  rcases hj213 with ⟨z1519, z3520, z2521⟩ | ⟨z1519, z2521⟩
                  · have hnb : rwv w207 83 16 = 0 ∧ ∀ j, j < kf → ¬ bsX (XM w147) j := ⟨z1519, z2521⟩
                    have hnb2 := z3520
                    refine xg_t (xg_aload (va := (2, 82)) rfl rfl) ?_
                    refine xg_t (xg_getf (va := (2, 83)) h82_250 rfl) ?_
                    refine xg_t (xg_bip) ?_
                    refine xg_ialdB (n := 16) (B := 4294967295) h83_253 (hb254) xnm0 (by omega) (fun u522 hu523 he524 => ?_)
                    refine xg_t (xg_ifT (u := u522) rfl xnm0 (xj_eqT (by omega))) ?_
                    refine xg_t (xg_blk (b := [(177, 1, 3, 0, 0, 0), (178, 1, 15, 1, 0, 0)]) rfl) ?_
                    have hMx : MST B nn w147 k_152 := hM_158
                    have hDE := hMx.data hc203
                    have hDD : DATA w207 := by
                      unfold DATA
                      simp only [fun j => rwv_eq (j := j) hj217, fun j => rwv_eq (j := j) hj218]
                      exact hDE
                    have hdt := hDD.toDt h85_259 h86_262
                    have hf526 : fld w207 82 14 = f82_238 := fld_of h82_250
                    refine xg_t (xg_const) ?_
                    refine xg_t (xg_istore (l1 := [(0, (2, 82))]) rfl rfl rfl) ?_
                    refine xg_t (xg_blk (b := [(179, 1, 2, 1, 0, 0), (180, 1, 3, 5, 0, 0), (181, 3, 6, 202, 3, 0), (184, 1, 0, 0, 0, 0), (185, 3, 1, 12, 0, 7), (188, 1, 2, 1, 0, 0), (189, 1, 0, 0, 0, 0), (190, 3, 1, 12, 11, 17), (193, 1, 2, 1, 0, 0), (194, 1, 10, 0, 0, 0), (195, 1, 17, 0, 0, 0), (196, 3, 9, 1, 1, 0), (199, 3, 8, 179, 0, 0)]) rfl) ?_
                    refine xg_t (xg_iload (va := (0, 0)) rfl rfl) ?_
                    refine xg_t (xg_const) ?_
                    refine xg_t (xg_icF (u := 0) (v := 5) rfl xnm0 xnm0 (by decide)) ?_
                    refine xg_t (xg_aload (va := (2, 82)) rfl rfl) ?_
                    refine xg_t (xg_getf (va := (2, 83)) h82_250 rfl) ?_
                    refine xg_t (xg_iload (va := (0, 0)) rfl rfl) ?_
                    refine xg_t (xg_aload (va := (2, 82)) rfl rfl) ?_
                    refine xg_t (xg_getf (va := (2, 85)) h82_250 rfl) ?_
                    refine xg_t (xg_iload (va := (0, 0)) rfl rfl) ?_
                    refine xg_ialdB (n := 0) (B := 4294967295) h85_259 (hb260) xnm0 (by omega) (fun u527 hu528 he529 => ?_)
                    have hq530 : rwv w207 85 0 = u527 := (rwv_of h85_259 (by decide)).trans he529
                    refine xg_iastK (n := 0) (u := u527) h83_253 xnm0 xnm0 rfl (by omega) (fun w531 hr532 hb533 => ?_)
                    have hb534 : ∀ j, (fun j => if j = 0 then u527 else g83_252 j) j ≤ 4294967295 := xrb (by omega) (hb254)
                    obtain ⟨g535, hg536⟩ : ∃ g : Nat → Nat, g = (fun j => if j = 0 then u527 else g83_252 j) := ⟨_, rfl⟩
                    rw [← hg536] at hr532
                    have he537 : g535 0 = u527 := by rw [hg536]; exact if_pos rfl
                    have hk538 : ∀ j, j ≠ 0 → g535 j = g83_252 j := fun j hj => by rw [hg536]; exact if_neg hj
                    rw [← hg536] at hb534
                    refine xg_t (xg_iinc (u := 0) (z := 1) (l1 := [(0, (2, 82))]) rfl rfl (by decide) rfl) ?_
                    refine xg_t (xg_goto) ?_
                    refine xg_t (xg_blk (b := [(179, 1, 2, 1, 0, 0), (180, 1, 3, 5, 0, 0), (181, 3, 6, 202, 3, 0), (184, 1, 0, 0, 0, 0), (185, 3, 1, 12, 0, 7), (188, 1, 2, 1, 0, 0), (189, 1, 0, 0, 0, 0), (190, 3, 1, 12, 11, 17), (193, 1, 2, 1, 0, 0), (194, 1, 10, 0, 0, 0), (195, 1, 17, 0, 0, 0), (196, 3, 9, 1, 1, 0), (199, 3, 8, 179, 0, 0)]) rfl) ?_
                    refine xg_t (xg_iload (va := (0, 1)) rfl rfl) ?_
                    refine xg_t (xg_const) ?_
                    refine xg_t (xg_icF (u := 1) (v := 5) rfl xnm0 xnm0 (by decide)) ?_
                    refine xg_t (xg_aload (va := (2, 82)) rfl rfl) ?_
                    refine xg_t (xg_getf (va := (2, 83)) (hb533.get (by decide) h82_250) rfl) ?_
                    refine xg_t (xg_iload (va := (0, 1)) rfl rfl) ?_
                    refine xg_t (xg_aload (va := (2, 82)) rfl rfl) ?_
                    refine xg_t (xg_getf (va := (2, 85)) (hb533.get (by decide) h82_250) rfl) ?_
                    refine xg_t (xg_iload (va := (0, 1)) rfl rfl) ?_
                    refine xg_ialdB (n := 1) (B := 4294967295) (h85_259.but hb533 (by decide)) (hb260) xnm0 (by omega) (fun u539 hu540 he541 => ?_)
                    have hq542 : rwv w207 85 1 = u539 := (rwv_of h85_259 (by decide)).trans he541
                    refine xg_iastK (n := 1) (u := u539) hr532 xnm0 xnm0 rfl (by omega) (fun w543 hr544 hb545 => ?_)
                    have hb546 : ∀ j, (fun j => if j = 1 then u539 else g535 j) j ≤ 4294967295 := xrb (by omega) (hb534)
                    obtain ⟨g547, hg548⟩ : ∃ g : Nat → Nat, g = (fun j => if j = 1 then u539 else g535 j) := ⟨_, rfl⟩
                    rw [← hg548] at hr544
                    have he549 : g547 1 = u539 := by rw [hg548]; exact if_pos rfl
                    have hk550 : ∀ j, j ≠ 1 → g547 j = g535 j := fun j hj => by rw [hg548]; exact if_neg hj
                    rw [← hg548] at hb546
                    refine xg_t (xg_iinc (u := 1) (z := 2) (l1 := [(0, (2, 82))]) rfl rfl (by decide) rfl) ?_
                    refine xg_t (xg_goto) ?_
                    refine xg_t (xg_blk (b := [(179, 1, 2, 1, 0, 0), (180, 1, 3, 5, 0, 0), (181, 3, 6, 202, 3, 0), (184, 1, 0, 0, 0, 0), (185, 3, 1, 12, 0, 7), (188, 1, 2, 1, 0, 0), (189, 1, 0, 0, 0, 0), (190, 3, 1, 12, 11, 17), (193, 1, 2, 1, 0, 0), (194, 1, 10, 0, 0, 0), (195, 1, 17, 0, 0, 0), (196, 3, 9, 1, 1, 0), (199, 3, 8, 179, 0, 0)]) rfl) ?_
                    refine xg_t (xg_iload (va := (0, 2)) rfl rfl) ?_
                    refine xg_t (xg_const) ?_
                    refine xg_t (xg_icF (u := 2) (v := 5) rfl xnm0 xnm0 (by decide)) ?_
                    refine xg_t (xg_aload (va := (2, 82)) rfl rfl) ?_
                    refine xg_t (xg_getf (va := (2, 83)) (hb545.get (by decide) (hb533.get (by decide) h82_250)) rfl) ?_
                    refine xg_t (xg_iload (va := (0, 2)) rfl rfl) ?_
                    refine xg_t (xg_aload (va := (2, 82)) rfl rfl) ?_
                    refine xg_t (xg_getf (va := (2, 85)) (hb545.get (by decide) (hb533.get (by decide) h82_250)) rfl) ?_
                    refine xg_t (xg_iload (va := (0, 2)) rfl rfl) ?_
                    refine xg_ialdB (n := 2) (B := 4294967295) ((h85_259.but hb533 (by decide)).but hb545 (by decide)) (hb260) xnm0 (by omega) (fun u551 hu552 he553 => ?_)
                    have hq554 : rwv w207 85 2 = u551 := (rwv_of h85_259 (by decide)).trans he553
                    refine xg_iastK (n := 2) (u := u551) hr544 xnm0 xnm0 rfl (by omega) (fun w555 hr556 hb557 => ?_)
                    have hb558 : ∀ j, (fun j => if j = 2 then u551 else g547 j) j ≤ 4294967295 := xrb (by omega) (hb546)
                    obtain ⟨g559, hg560⟩ : ∃ g : Nat → Nat, g = (fun j => if j = 2 then u551 else g547 j) := ⟨_, rfl⟩
                    rw [← hg560] at hr556
                    have he561 : g559 2 = u551 := by rw [hg560]; exact if_pos rfl
                    have hk562 : ∀ j, j ≠ 2 → g559 j = g547 j := fun j hj => by rw [hg560]; exact if_neg hj
                    rw [← hg560] at hb558
                    refine xg_t (xg_iinc (u := 2) (z := 3) (l1 := [(0, (2, 82))]) rfl rfl (by decide) rfl) ?_
                    refine xg_t (xg_goto) ?_
                    refine xg_t (xg_blk (b := [(179, 1, 2, 1, 0, 0), (180, 1, 3, 5, 0, 0), (181, 3, 6, 202, 3, 0), (184, 1, 0, 0, 0, 0), (185, 3, 1, 12, 0, 7), (188, 1, 2, 1, 0, 0), (189, 1, 0, 0, 0, 0), (190, 3, 1, 12, 11, 17), (193, 1, 2, 1, 0, 0), (194, 1, 10, 0, 0, 0), (195, 1, 17, 0, 0, 0), (196, 3, 9, 1, 1, 0), (199, 3, 8, 179, 0, 0)]) rfl) ?_
                    refine xg_t (xg_iload (va := (0, 3)) rfl rfl) ?_
                    refine xg_t (xg_const) ?_
                    refine xg_t (xg_icF (u := 3) (v := 5) rfl xnm0 xnm0 (by decide)) ?_
                    refine xg_t (xg_aload (va := (2, 82)) rfl rfl) ?_
                    refine xg_t (xg_getf (va := (2, 83)) (hb557.get (by decide) (hb545.get (by decide) (hb533.get (by decide) h82_250))) rfl) ?_
                    refine xg_t (xg_iload (va := (0, 3)) rfl rfl) ?_
                    refine xg_t (xg_aload (va := (2, 82)) rfl rfl) ?_
                    refine xg_t (xg_getf (va := (2, 85)) (hb557.get (by decide) (hb545.get (by decide) (hb533.get (by decide) h82_250))) rfl) ?_
                    refine xg_t (xg_iload (va := (0, 3)) rfl rfl) ?_
                    refine xg_ialdB (n := 3) (B := 4294967295) (((h85_259.but hb533 (by decide)).but hb545 (by decide)).but hb557 (by decide)) (hb260) xnm0 (by omega) (fun u563 hu564 he565 => ?_)
                    have hq566 : rwv w207 85 3 = u563 := (rwv_of h85_259 (by decide)).trans he565
                    refine xg_iastK (n := 3) (u := u563) hr556 xnm0 xnm0 rfl (by omega) (fun w567 hr568 hb569 => ?_)
                    have hb570 : ∀ j, (fun j => if j = 3 then u563 else g559 j) j ≤ 4294967295 := xrb (by omega) (hb558)
                    obtain ⟨g571, hg572⟩ : ∃ g : Nat → Nat, g = (fun j => if j = 3 then u563 else g559 j) := ⟨_, rfl⟩
                    rw [← hg572] at hr568
                    have he573 : g571 3 = u563 := by rw [hg572]; exact if_pos rfl
                    have hk574 : ∀ j, j ≠ 3 → g571 j = g559 j := fun j hj => by rw [hg572]; exact if_neg hj
                    rw [← hg572] at hb570
                    refine xg_t (xg_iinc (u := 3) (z := 4) (l1 := [(0, (2, 82))]) rfl rfl (by decide) rfl) ?_
                    refine xg_t (xg_goto) ?_
                    refine xg_t (xg_blk (b := [(179, 1, 2, 1, 0, 0), (180, 1, 3, 5, 0, 0), (181, 3, 6, 202, 3, 0), (184, 1, 0, 0, 0, 0), (185, 3, 1, 12, 0, 7), (188, 1, 2, 1, 0, 0), (189, 1, 0, 0, 0, 0), (190, 3, 1, 12, 11, 17), (193, 1, 2, 1, 0, 0), (194, 1, 10, 0, 0, 0), (195, 1, 17, 0, 0, 0), (196, 3, 9, 1, 1, 0), (199, 3, 8, 179, 0, 0)]) rfl) ?_
                    refine xg_t (xg_iload (va := (0, 4)) rfl rfl) ?_
                    refine xg_t (xg_const) ?_
                    refine xg_t (xg_icF (u := 4) (v := 5) rfl xnm0 xnm0 (by decide)) ?_
                    refine xg_t (xg_aload (va := (2, 82)) rfl rfl) ?_
                    refine xg_t (xg_getf (va := (2, 83)) (hb569.get (by decide) (hb557.get (by decide) (hb545.get (by decide) (hb533.get (by decide) h82_250)))) rfl) ?_
                    refine xg_t (xg_iload (va := (0, 4)) rfl rfl) ?_
                    refine xg_t (xg_aload (va := (2, 82)) rfl rfl) ?_
                    refine xg_t (xg_getf (va := (2, 85)) (hb569.get (by decide) (hb557.get (by decide) (hb545.get (by decide) (hb533.get (by decide) h82_250)))) rfl) ?_
                    refine xg_t (xg_iload (va := (0, 4)) rfl rfl) ?_
                    refine xg_ialdB (n := 4) (B := 4294967295) ((((h85_259.but hb533 (by decide)).but hb545 (by decide)).but hb557 (by decide)).but hb569 (by decide)) (hb260) xnm0 (by omega) (fun u575 hu576 he577 => ?_)
                    have hq578 : rwv w207 85 4 = u575 := (rwv_of h85_259 (by decide)).trans he577
                    refine xg_iastK (n := 4) (u := u575) hr568 xnm0 xnm0 rfl (by omega) (fun w579 hr580 hb581 => ?_)
                    have hb582 : ∀ j, (fun j => if j = 4 then u575 else g571 j) j ≤ 4294967295 := xrb (by omega) (hb570)
                    obtain ⟨g583, hg584⟩ : ∃ g : Nat → Nat, g = (fun j => if j = 4 then u575 else g571 j) := ⟨_, rfl⟩
                    rw [← hg584] at hr580
                    have he585 : g583 4 = u575 := by rw [hg584]; exact if_pos rfl
                    have hk586 : ∀ j, j ≠ 4 → g583 j = g571 j := fun j hj => by rw [hg584]; exact if_neg hj
                    rw [← hg584] at hb582
                    refine xg_t (xg_iinc (u := 4) (z := 5) (l1 := [(0, (2, 82))]) rfl rfl (by decide) rfl) ?_
                    refine xg_t (xg_goto) ?_
                    refine xg_t (xg_blk (b := [(179, 1, 2, 1, 0, 0), (180, 1, 3, 5, 0, 0), (181, 3, 6, 202, 3, 0), (184, 1, 0, 0, 0, 0), (185, 3, 1, 12, 0, 7), (188, 1, 2, 1, 0, 0), (189, 1, 0, 0, 0, 0), (190, 3, 1, 12, 11, 17), (193, 1, 2, 1, 0, 0), (194, 1, 10, 0, 0, 0), (195, 1, 17, 0, 0, 0), (196, 3, 9, 1, 1, 0), (199, 3, 8, 179, 0, 0)]) rfl) ?_
                    refine xg_t (xg_iload (va := (0, 5)) rfl rfl) ?_
                    refine xg_t (xg_const) ?_
                    refine xg_t (xg_icT (u := 5) (v := 5) rfl xnm0 xnm0 (by decide)) ?_
                    refine xg_t (xg_blk (b := [(202, 1, 3, 5, 0, 0), (203, 1, 15, 1, 0, 0)]) rfl) ?_
                    refine xg_t (xg_const) ?_
                    refine xg_t (xg_istore (l1 := [(0, (2, 82))]) rfl rfl rfl) ?_
                    refine xg_t (xg_blk (b := [(204, 1, 2, 1, 0, 0), (205, 2, 4, 8, 0, 0), (207, 3, 6, 228, 4, 0), (210, 1, 0, 0, 0, 0), (211, 3, 1, 12, 0, 7), (214, 1, 2, 1, 0, 0), (215, 1, 0, 0, 0, 0), (216, 3, 1, 12, 12, 20), (219, 1, 2, 1, 0, 0), (220, 1, 10, 0, 0, 0), (221, 1, 17, 0, 0, 0), (222, 3, 9, 1, 1, 0), (225, 3, 8, 204, 0, 0)]) rfl) ?_
                    refine xg_t (xg_iload (va := (0, 5)) rfl rfl) ?_
                    refine xg_t (xg_bip) ?_
                    refine xg_t (xg_icF (u := 5) (v := 8) rfl xnm0 xnm0 (by decide)) ?_
                    refine xg_t (xg_aload (va := (2, 82)) rfl rfl) ?_
                    refine xg_t (xg_getf (va := (2, 83)) (hb581.get (by decide) (hb569.get (by decide) (hb557.get (by decide) (hb545.get (by decide) (hb533.get (by decide) h82_250))))) rfl) ?_
                    refine xg_t (xg_iload (va := (0, 5)) rfl rfl) ?_
                    refine xg_t (xg_aload (va := (2, 82)) rfl rfl) ?_
                    refine xg_t (xg_getf (va := (2, 86)) (hb581.get (by decide) (hb569.get (by decide) (hb557.get (by decide) (hb545.get (by decide) (hb533.get (by decide) h82_250))))) rfl) ?_
                    refine xg_t (xg_iload (va := (0, 5)) rfl rfl) ?_
                    refine xg_ialdB (n := 5) (B := 4294967295) (((((h86_262.but hb533 (by decide)).but hb545 (by decide)).but hb557 (by decide)).but hb569 (by decide)).but hb581 (by decide)) (hb263) xnm0 (by omega) (fun u587 hu588 he589 => ?_)
                    have hq590 : rwv w207 86 5 = u587 := (rwv_of h86_262 (by decide)).trans he589
                    refine xg_iastK (n := 5) (u := u587) hr580 xnm0 xnm0 rfl (by omega) (fun w591 hr592 hb593 => ?_)
                    have hb594 : ∀ j, (fun j => if j = 5 then u587 else g583 j) j ≤ 4294967295 := xrb (by omega) (hb582)
                    obtain ⟨g595, hg596⟩ : ∃ g : Nat → Nat, g = (fun j => if j = 5 then u587 else g583 j) := ⟨_, rfl⟩
                    rw [← hg596] at hr592
                    have he597 : g595 5 = u587 := by rw [hg596]; exact if_pos rfl
                    have hk598 : ∀ j, j ≠ 5 → g595 j = g583 j := fun j hj => by rw [hg596]; exact if_neg hj
                    rw [← hg596] at hb594
                    refine xg_t (xg_iinc (u := 5) (z := 6) (l1 := [(0, (2, 82))]) rfl rfl (by decide) rfl) ?_
                    refine xg_t (xg_goto) ?_
                    refine xg_t (xg_blk (b := [(204, 1, 2, 1, 0, 0), (205, 2, 4, 8, 0, 0), (207, 3, 6, 228, 4, 0), (210, 1, 0, 0, 0, 0), (211, 3, 1, 12, 0, 7), (214, 1, 2, 1, 0, 0), (215, 1, 0, 0, 0, 0), (216, 3, 1, 12, 12, 20), (219, 1, 2, 1, 0, 0), (220, 1, 10, 0, 0, 0), (221, 1, 17, 0, 0, 0), (222, 3, 9, 1, 1, 0), (225, 3, 8, 204, 0, 0)]) rfl) ?_
                    refine xg_t (xg_iload (va := (0, 6)) rfl rfl) ?_
                    refine xg_t (xg_bip) ?_
                    refine xg_t (xg_icF (u := 6) (v := 8) rfl xnm0 xnm0 (by decide)) ?_
                    refine xg_t (xg_aload (va := (2, 82)) rfl rfl) ?_
                    refine xg_t (xg_getf (va := (2, 83)) (hb593.get (by decide) (hb581.get (by decide) (hb569.get (by decide) (hb557.get (by decide) (hb545.get (by decide) (hb533.get (by decide) h82_250)))))) rfl) ?_
                    refine xg_t (xg_iload (va := (0, 6)) rfl rfl) ?_
                    refine xg_t (xg_aload (va := (2, 82)) rfl rfl) ?_
                    refine xg_t (xg_getf (va := (2, 86)) (hb593.get (by decide) (hb581.get (by decide) (hb569.get (by decide) (hb557.get (by decide) (hb545.get (by decide) (hb533.get (by decide) h82_250)))))) rfl) ?_
                    refine xg_t (xg_iload (va := (0, 6)) rfl rfl) ?_
                    refine xg_ialdB (n := 6) (B := 4294967295) ((((((h86_262.but hb533 (by decide)).but hb545 (by decide)).but hb557 (by decide)).but hb569 (by decide)).but hb581 (by decide)).but hb593 (by decide)) (hb263) xnm0 (by omega) (fun u599 hu600 he601 => ?_)
                    have hq602 : rwv w207 86 6 = u599 := (rwv_of h86_262 (by decide)).trans he601
                    refine xg_iastK (n := 6) (u := u599) hr592 xnm0 xnm0 rfl (by omega) (fun w603 hr604 hb605 => ?_)
                    have hb606 : ∀ j, (fun j => if j = 6 then u599 else g595 j) j ≤ 4294967295 := xrb (by omega) (hb594)
                    obtain ⟨g607, hg608⟩ : ∃ g : Nat → Nat, g = (fun j => if j = 6 then u599 else g595 j) := ⟨_, rfl⟩
                    rw [← hg608] at hr604
                    have he609 : g607 6 = u599 := by rw [hg608]; exact if_pos rfl
                    have hk610 : ∀ j, j ≠ 6 → g607 j = g595 j := fun j hj => by rw [hg608]; exact if_neg hj
                    rw [← hg608] at hb606
                    refine xg_t (xg_iinc (u := 6) (z := 7) (l1 := [(0, (2, 82))]) rfl rfl (by decide) rfl) ?_
                    refine xg_t (xg_goto) ?_
                    refine xg_t (xg_blk (b := [(204, 1, 2, 1, 0, 0), (205, 2, 4, 8, 0, 0), (207, 3, 6, 228, 4, 0), (210, 1, 0, 0, 0, 0), (211, 3, 1, 12, 0, 7), (214, 1, 2, 1, 0, 0), (215, 1, 0, 0, 0, 0), (216, 3, 1, 12, 12, 20), (219, 1, 2, 1, 0, 0), (220, 1, 10, 0, 0, 0), (221, 1, 17, 0, 0, 0), (222, 3, 9, 1, 1, 0), (225, 3, 8, 204, 0, 0)]) rfl) ?_
                    refine xg_t (xg_iload (va := (0, 7)) rfl rfl) ?_
                    refine xg_t (xg_bip) ?_
                    refine xg_t (xg_icF (u := 7) (v := 8) rfl xnm0 xnm0 (by decide)) ?_
                    refine xg_t (xg_aload (va := (2, 82)) rfl rfl) ?_
                    refine xg_t (xg_getf (va := (2, 83)) (hb605.get (by decide) (hb593.get (by decide) (hb581.get (by decide) (hb569.get (by decide) (hb557.get (by decide) (hb545.get (by decide) (hb533.get (by decide) h82_250))))))) rfl) ?_
                    refine xg_t (xg_iload (va := (0, 7)) rfl rfl) ?_
                    refine xg_t (xg_aload (va := (2, 82)) rfl rfl) ?_
                    refine xg_t (xg_getf (va := (2, 86)) (hb605.get (by decide) (hb593.get (by decide) (hb581.get (by decide) (hb569.get (by decide) (hb557.get (by decide) (hb545.get (by decide) (hb533.get (by decide) h82_250))))))) rfl) ?_
                    refine xg_t (xg_iload (va := (0, 7)) rfl rfl) ?_
                    refine xg_ialdB (n := 7) (B := 4294967295) (((((((h86_262.but hb533 (by decide)).but hb545 (by decide)).but hb557 (by decide)).but hb569 (by decide)).but hb581 (by decide)).but hb593 (by decide)).but hb605 (by decide)) (hb263) xnm0 (by omega) (fun u611 hu612 he613 => ?_)
                    have hq614 : rwv w207 86 7 = u611 := (rwv_of h86_262 (by decide)).trans he613
                    refine xg_iastK (n := 7) (u := u611) hr604 xnm0 xnm0 rfl (by omega) (fun w615 hr616 hb617 => ?_)
                    have hb618 : ∀ j, (fun j => if j = 7 then u611 else g607 j) j ≤ 4294967295 := xrb (by omega) (hb606)
                    obtain ⟨g619, hg620⟩ : ∃ g : Nat → Nat, g = (fun j => if j = 7 then u611 else g607 j) := ⟨_, rfl⟩
                    rw [← hg620] at hr616
                    have he621 : g619 7 = u611 := by rw [hg620]; exact if_pos rfl
                    have hk622 : ∀ j, j ≠ 7 → g619 j = g607 j := fun j hj => by rw [hg620]; exact if_neg hj
                    rw [← hg620] at hb618
                    refine xg_t (xg_iinc (u := 7) (z := 8) (l1 := [(0, (2, 82))]) rfl rfl (by decide) rfl) ?_
                    refine xg_t (xg_goto) ?_
                    refine xg_t (xg_blk (b := [(204, 1, 2, 1, 0, 0), (205, 2, 4, 8, 0, 0), (207, 3, 6, 228, 4, 0), (210, 1, 0, 0, 0, 0), (211, 3, 1, 12, 0, 7), (214, 1, 2, 1, 0, 0), (215, 1, 0, 0, 0, 0), (216, 3, 1, 12, 12, 20), (219, 1, 2, 1, 0, 0), (220, 1, 10, 0, 0, 0), (221, 1, 17, 0, 0, 0), (222, 3, 9, 1, 1, 0), (225, 3, 8, 204, 0, 0)]) rfl) ?_
                    refine xg_t (xg_iload (va := (0, 8)) rfl rfl) ?_
                    refine xg_t (xg_bip) ?_
                    refine xg_t (xg_icF (u := 8) (v := 8) rfl xnm0 xnm0 (by decide)) ?_
                    refine xg_t (xg_aload (va := (2, 82)) rfl rfl) ?_
                    refine xg_t (xg_getf (va := (2, 83)) (hb617.get (by decide) (hb605.get (by decide) (hb593.get (by decide) (hb581.get (by decide) (hb569.get (by decide) (hb557.get (by decide) (hb545.get (by decide) (hb533.get (by decide) h82_250)))))))) rfl) ?_
                    refine xg_t (xg_iload (va := (0, 8)) rfl rfl) ?_
                    refine xg_t (xg_aload (va := (2, 82)) rfl rfl) ?_
                    refine xg_t (xg_getf (va := (2, 86)) (hb617.get (by decide) (hb605.get (by decide) (hb593.get (by decide) (hb581.get (by decide) (hb569.get (by decide) (hb557.get (by decide) (hb545.get (by decide) (hb533.get (by decide) h82_250)))))))) rfl) ?_
                    refine xg_t (xg_iload (va := (0, 8)) rfl rfl) ?_
                    refine xg_ialdB (n := 8) (B := 4294967295) ((((((((h86_262.but hb533 (by decide)).but hb545 (by decide)).but hb557 (by decide)).but hb569 (by decide)).but hb581 (by decide)).but hb593 (by decide)).but hb605 (by decide)).but hb617 (by decide)) (hb263) xnm0 (by omega) (fun u623 hu624 he625 => ?_)
                    have hq626 : rwv w207 86 8 = u623 := (rwv_of h86_262 (by decide)).trans he625
                    refine xg_iastK (n := 8) (u := u623) hr616 xnm0 xnm0 rfl (by omega) (fun w627 hr628 hb629 => ?_)
                    have hb630 : ∀ j, (fun j => if j = 8 then u623 else g619 j) j ≤ 4294967295 := xrb (by omega) (hb618)
                    obtain ⟨g631, hg632⟩ : ∃ g : Nat → Nat, g = (fun j => if j = 8 then u623 else g619 j) := ⟨_, rfl⟩
                    rw [← hg632] at hr628
                    have he633 : g631 8 = u623 := by rw [hg632]; exact if_pos rfl
                    have hk634 : ∀ j, j ≠ 8 → g631 j = g619 j := fun j hj => by rw [hg632]; exact if_neg hj
                    rw [← hg632] at hb630
                    refine xg_t (xg_iinc (u := 8) (z := 9) (l1 := [(0, (2, 82))]) rfl rfl (by decide) rfl) ?_
                    refine xg_t (xg_goto) ?_
                    refine xg_t (xg_blk (b := [(204, 1, 2, 1, 0, 0), (205, 2, 4, 8, 0, 0), (207, 3, 6, 228, 4, 0), (210, 1, 0, 0, 0, 0), (211, 3, 1, 12, 0, 7), (214, 1, 2, 1, 0, 0), (215, 1, 0, 0, 0, 0), (216, 3, 1, 12, 12, 20), (219, 1, 2, 1, 0, 0), (220, 1, 10, 0, 0, 0), (221, 1, 17, 0, 0, 0), (222, 3, 9, 1, 1, 0), (225, 3, 8, 204, 0, 0)]) rfl) ?_
                    refine xg_t (xg_iload (va := (0, 9)) rfl rfl) ?_
                    refine xg_t (xg_bip) ?_
                    refine xg_t (xg_icT (u := 9) (v := 8) rfl xnm0 xnm0 (by decide)) ?_
                    refine xg_t (xg_blk (b := [(228, 2, 4, 20, 0, 0), (230, 1, 15, 1, 0, 0)]) rfl) ?_
                    refine xg_t (xg_bip) ?_
                    refine xg_t (xg_istore (l1 := [(0, (2, 82))]) rfl rfl rfl) ?_
                    refine xg_t (xg_drop (l1 := [(0, (2, 82)), (1, (0, 20))]) (List.forall_mem_cons.mpr ⟨List.mem_cons_of_mem _ (List.mem_cons_self), List.forall_mem_cons.mpr ⟨List.mem_cons_self, fun _ h => absurd h List.not_mem_nil⟩⟩)) ?_
                    refine cpFilm 120 20 w627 g631 (by decide) hr628 hb630 (((((((((h86_262.but hb533 (by decide)).but hb545 (by decide)).but hb557 (by decide)).but hb569 (by decide)).but hb581 (by decide)).but hb593 (by decide)).but hb605 (by decide)).but hb617 (by decide)).but hb629 (by decide)) hb263 (hb629.get (by decide) (hb617.get (by decide) (hb605.get (by decide) (hb593.get (by decide) (hb581.get (by decide) (hb569.get (by decide) (hb557.get (by decide) (hb545.get (by decide) (hb533.get (by decide) h82_250))))))))) (fun w635 g636 hc637 hc638 hc639 hc640 hc641 => ?_)
                    refine xg_t (xg_blk (b := [(256, 1, 0, 0, 0, 0), (257, 3, 1, 12, 0, 7), (260, 2, 4, 9, 0, 0), (262, 1, 3, 0, 0, 0), (263, 1, 17, 0, 0, 0), (264, 1, 0, 0, 0, 0), (265, 3, 1, 12, 0, 7), (268, 2, 4, 10, 0, 0), (270, 1, 3, 0, 0, 0), (271, 1, 17, 0, 0, 0), (272, 1, 0, 0, 0, 0), (273, 3, 1, 12, 0, 7), (276, 2, 4, 14, 0, 0), (278, 1, 0, 0, 0, 0), (279, 3, 1, 12, 14, 212), (282, 1, 17, 0, 0, 0), (283, 1, 0, 0, 0, 0), (284, 3, 1, 12, 14, 212), (287, 1, 12, 0, 1, 0)]) rfl) ?_
                    refine xg_t (xg_aload (va := (2, 82)) rfl rfl) ?_
                    refine xg_t (xg_getf (va := (2, 83)) (hc639.get (by decide) (hb629.get (by decide) (hb617.get (by decide) (hb605.get (by decide) (hb593.get (by decide) (hb581.get (by decide) (hb569.get (by decide) (hb557.get (by decide) (hb545.get (by decide) (hb533.get (by decide) h82_250)))))))))) rfl) ?_
                    refine xg_t (xg_bip) ?_
                    refine xg_t (xg_const) ?_
                    refine xg_iastK (n := 9) (u := 0) hc637 xnm0 xnm0 rfl (by omega) (fun w642 hr643 hb644 => ?_)
                    have hb645 : ∀ j, (fun j => if j = 9 then 0 else g636 j) j ≤ 4294967295 := xrb (by omega) (hc638)
                    obtain ⟨g646, hg647⟩ : ∃ g : Nat → Nat, g = (fun j => if j = 9 then 0 else g636 j) := ⟨_, rfl⟩
                    rw [← hg647] at hr643
                    have he648 : g646 9 = 0 := by rw [hg647]; exact if_pos rfl
                    have hk649 : ∀ j, j ≠ 9 → g646 j = g636 j := fun j hj => by rw [hg647]; exact if_neg hj
                    rw [← hg647] at hb645
                    refine xg_t (xg_aload (va := (2, 82)) rfl rfl) ?_
                    refine xg_t (xg_getf (va := (2, 83)) (hb644.get (by decide) (hc639.get (by decide) (hb629.get (by decide) (hb617.get (by decide) (hb605.get (by decide) (hb593.get (by decide) (hb581.get (by decide) (hb569.get (by decide) (hb557.get (by decide) (hb545.get (by decide) (hb533.get (by decide) h82_250))))))))))) rfl) ?_
                    refine xg_t (xg_bip) ?_
                    refine xg_t (xg_const) ?_
                    refine xg_iastK (n := 10) (u := 0) hr643 xnm0 xnm0 rfl (by omega) (fun w650 hr651 hb652 => ?_)
                    have hb653 : ∀ j, (fun j => if j = 10 then 0 else g646 j) j ≤ 4294967295 := xrb (by omega) (hb645)
                    obtain ⟨g654, hg655⟩ : ∃ g : Nat → Nat, g = (fun j => if j = 10 then 0 else g646 j) := ⟨_, rfl⟩
                    rw [← hg655] at hr651
                    have he656 : g654 10 = 0 := by rw [hg655]; exact if_pos rfl
                    have hk657 : ∀ j, j ≠ 10 → g654 j = g646 j := fun j hj => by rw [hg655]; exact if_neg hj
                    rw [← hg655] at hb653
                    refine xg_t (xg_aload (va := (2, 82)) rfl rfl) ?_
                    refine xg_t (xg_getf (va := (2, 83)) (hb652.get (by decide) (hb644.get (by decide) (hc639.get (by decide) (hb629.get (by decide) (hb617.get (by decide) (hb605.get (by decide) (hb593.get (by decide) (hb581.get (by decide) (hb569.get (by decide) (hb557.get (by decide) (hb545.get (by decide) (hb533.get (by decide) h82_250)))))))))))) rfl) ?_
                    refine xg_t (xg_bip) ?_
                    refine xg_t (xg_aload (va := (2, 82)) rfl rfl) ?_
                    refine xg_t (xg_getf (va := (0, f82_238)) (hb652.get (by decide) (hb644.get (by decide) (hc639.get (by decide) (hb629.get (by decide) (hb617.get (by decide) (hb605.get (by decide) (hb593.get (by decide) (hb581.get (by decide) (hb569.get (by decide) (hb557.get (by decide) (hb545.get (by decide) (hb533.get (by decide) h82_250)))))))))))) rfl) ?_
                    have hn658 : f82_238 ≤ 4294967295 := hb239
                    refine xg_iastK (n := 14) (u := f82_238) hr651 xnm0 xnm0 rfl (by omega) (fun w659 hr660 hb661 => ?_)
                    have hb662 : ∀ j, (fun j => if j = 14 then f82_238 else g654 j) j ≤ 4294967295 := xrb (by omega) (hb653)
                    obtain ⟨g663, hg664⟩ : ∃ g : Nat → Nat, g = (fun j => if j = 14 then f82_238 else g654 j) := ⟨_, rfl⟩
                    rw [← hg664] at hr660
                    have he665 : g663 14 = f82_238 := by rw [hg664]; exact if_pos rfl
                    have hk666 : ∀ j, j ≠ 14 → g663 j = g654 j := fun j hj => by rw [hg664]; exact if_neg hj
                    rw [← hg664] at hb662
                    have hq667 : g663 0 = u527 := by rw [hk666 0 (by omega), hk657 0 (by omega), hk649 0 (by omega), hc641 0 (by omega), hk634 0 (by omega), hk622 0 (by omega), hk610 0 (by omega), hk598 0 (by omega), hk586 0 (by omega), hk574 0 (by omega), hk562 0 (by omega), hk550 0 (by omega), he537]
                    have hq668 : g663 1 = u539 := by rw [hk666 1 (by omega), hk657 1 (by omega), hk649 1 (by omega), hc641 1 (by omega), hk634 1 (by omega), hk622 1 (by omega), hk610 1 (by omega), hk598 1 (by omega), hk586 1 (by omega), hk574 1 (by omega), hk562 1 (by omega), he549]
                    have hq669 : g663 2 = u551 := by rw [hk666 2 (by omega), hk657 2 (by omega), hk649 2 (by omega), hc641 2 (by omega), hk634 2 (by omega), hk622 2 (by omega), hk610 2 (by omega), hk598 2 (by omega), hk586 2 (by omega), hk574 2 (by omega), he561]
                    have hq670 : g663 3 = u563 := by rw [hk666 3 (by omega), hk657 3 (by omega), hk649 3 (by omega), hc641 3 (by omega), hk634 3 (by omega), hk622 3 (by omega), hk610 3 (by omega), hk598 3 (by omega), hk586 3 (by omega), he573]
                    have hq671 : g663 4 = u575 := by rw [hk666 4 (by omega), hk657 4 (by omega), hk649 4 (by omega), hc641 4 (by omega), hk634 4 (by omega), hk622 4 (by omega), hk610 4 (by omega), hk598 4 (by omega), he585]
                    have hq672 : g663 5 = u587 := by rw [hk666 5 (by omega), hk657 5 (by omega), hk649 5 (by omega), hc641 5 (by omega), hk634 5 (by omega), hk622 5 (by omega), hk610 5 (by omega), he597]
                    have hq673 : g663 6 = u599 := by rw [hk666 6 (by omega), hk657 6 (by omega), hk649 6 (by omega), hc641 6 (by omega), hk634 6 (by omega), hk622 6 (by omega), he609]
                    have hq674 : g663 7 = u611 := by rw [hk666 7 (by omega), hk657 7 (by omega), hk649 7 (by omega), hc641 7 (by omega), hk634 7 (by omega), he621]
                    have hq675 : g663 8 = u623 := by rw [hk666 8 (by omega), hk657 8 (by omega), hk649 8 (by omega), hc641 8 (by omega), he633]
                    have hq676 : g663 9 = 0 := by rw [hk666 9 (by omega), hk657 9 (by omega), he648]
                    have hq677 : g663 10 = 0 := by rw [hk666 10 (by omega), he656]
                    have hq678 : ∀ j, 20 ≤ j → j < 140 → g663 j = g86_261 j := fun j h1 h2 => by rw [hk666 j (by omega), hk657 j (by omega), hk649 j (by omega)]; exact hc640 j h1 h2
                    have hq679 : ∀ j, 140 ≤ j ∨ j = 11 ∨ j = 12 ∨ j = 13 ∨ j = 15 → g663 j = g83_252 j := fun j hj => by rw [hk666 j (by omega), hk657 j (by omega), hk649 j (by omega), hc641 j (by omega), hk634 j (by omega), hk622 j (by omega), hk610 j (by omega), hk598 j (by omega), hk586 j (by omega), hk574 j (by omega), hk562 j (by omega), hk550 j (by omega), hk538 j (by omega)]
                    have hx680 : okA g663 := film_ok hx255 hdt (by omega) (by omega) (by omega) (by omega) (by omega) (by omega) (by omega) (by omega) (by omega) (by omega) (by omega) hq678 (fun j hj => hq679 j (by omega))
                    refine xg_t (xg_aload (va := (2, 82)) rfl rfl) ?_
                    refine xg_t (xg_getf (va := (0, f82_238)) (hb661.get (by decide) (hb652.get (by decide) (hb644.get (by decide) (hc639.get (by decide) (hb629.get (by decide) (hb617.get (by decide) (hb605.get (by decide) (hb593.get (by decide) (hb581.get (by decide) (hb569.get (by decide) (hb557.get (by decide) (hb545.get (by decide) (hb533.get (by decide) h82_250))))))))))))) rfl) ?_
                    have hq683 : rwv w659 83 0 = g663 0 := rwv_of hr660 (by decide)
                    have hq684 : rwv w659 83 1 = g663 1 := rwv_of hr660 (by decide)
                    have hq685 : rwv w659 83 2 = g663 2 := rwv_of hr660 (by decide)
                    have hq686 : rwv w659 83 3 = g663 3 := rwv_of hr660 (by decide)
                    have hq687 : rwv w659 83 4 = g663 4 := rwv_of hr660 (by decide)
                    have hq688 : rwv w659 83 5 = g663 5 := rwv_of hr660 (by decide)
                    have hq689 : rwv w659 83 6 = g663 6 := rwv_of hr660 (by decide)
                    have hq690 : rwv w659 83 7 = g663 7 := rwv_of hr660 (by decide)
                    have hq691 : rwv w659 83 8 = g663 8 := rwv_of hr660 (by decide)
                    have hq692 : rwv w659 83 9 = g663 9 := rwv_of hr660 (by decide)
                    have hq693 : rwv w659 83 10 = g663 10 := rwv_of hr660 (by decide)
                    have hq694 : rwv w659 83 14 = g663 14 := rwv_of hr660 (by decide)
                    have hq695 : rwv w659 83 16 = g663 16 := rwv_of hr660 (by decide)
                    have hq696 : rwv w659 83 17 = g663 17 := rwv_of hr660 (by decide)
                    have h14x : g663 14 = f82_238 := by rw [he665]
                    have h16x : g663 16 = g83_252 16 := by rw [hk666 16 (by decide), hk657 16 (by decide), hk649 16 (by decide), hc641 16 (by omega), hk634 16 (by decide), hk622 16 (by decide), hk610 16 (by decide), hk598 16 (by decide), hk586 16 (by decide), hk574 16 (by decide), hk562 16 (by decide), hk550 16 (by decide), hk538 16 (by decide)]
                    have hq697 : rwv w207 83 16 = g83_252 16 := rwv_of h83_253 (by decide)
                    have h17x : g663 17 = g83_252 17 := by rw [hk666 17 (by decide), hk657 17 (by decide), hk649 17 (by decide), hc641 17 (by omega), hk634 17 (by decide), hk622 17 (by decide), hk610 17 (by decide), hk598 17 (by decide), hk586 17 (by decide), hk574 17 (by decide), hk562 17 (by decide), hk550 17 (by decide), hk538 17 (by decide)]
                    have hq698 : rwv w207 83 17 = g83_252 17 := rwv_of h83_253 (by decide)
                    have hF699 : FLA B nn w659 k_152 := FLA.mk hM_158 hc203 ((show rwv w659 83 0 = rwv w207 85 0 by omega).trans (rwv_eq hj217)) ((show rwv w659 83 1 = rwv w207 85 1 by omega).trans (rwv_eq hj217)) ((show rwv w659 83 2 = rwv w207 85 2 by omega).trans (rwv_eq hj217)) ((show rwv w659 83 3 = rwv w207 85 3 by omega).trans (rwv_eq hj217)) ((show rwv w659 83 4 = rwv w207 85 4 by omega).trans (rwv_eq hj217)) (by omega) ((show rwv w659 83 5 = rwv w207 86 5 by omega).trans (rwv_eq hj218)) ((show rwv w659 83 6 = rwv w207 86 6 by omega).trans (rwv_eq hj218)) ((show rwv w659 83 7 = rwv w207 86 7 by omega).trans (rwv_eq hj218)) ((show rwv w659 83 8 = rwv w207 86 8 by omega).trans (rwv_eq hj218)) (fun j h1 h2 => (rwv_of hr660 (by omega)).trans ((hq678 j h1 h2).trans ((rwv_of h86_262 (by omega)).symm.trans (rwv_eq hj218))))
                    have hz700 : f82_238 = k_152 := by omega
                    have hz16 := hnb.1
                    have hR681 : FRes B nn f82_238 (rwv w659 83 16) (rwv w659 83 17) := by
                      rw [hz700]
                      exact ⟨k_152, hok154, hnok, Or.inr (Or.inr ⟨hend, hc203, XM w147, rwv w147 87, (hM_158.2.2 hc203).1, (hM_158.2.2 hc203).2, Or.inr ⟨rfl, by omega, by omega, hk153, fun j hj => hnb.2 j (by omega)⟩⟩)⟩
                    exact xg_e ⟨f82_238, w659, ⟨rfl, rfl⟩, ⟨hR681, (rwv_of hr660 (by decide)).trans ((hq679 15 (by omega)).trans ((rwv_of h83_253 (by decide)).symm.trans hj216.1)), fun z => absurd z (by omega), fun _ => ⟨by rw [hz700]; exact hF699, by omega, by omega⟩, fun j h1 h2 => (rwv_of hr660 h2).trans ((hq679 j (by omega)).trans ((rwv_of h83_253 h2).symm.trans (hj216.2 j h2 (by omega) (by omega) (by omega))))⟩, xMnv.up (S := [83]) hI208 (((((((((((((xFr.of (S := [83]) hb533 (by decide)).tr (xFr.of (S := [83]) hb545 (by decide))).tr (xFr.of (S := [83]) hb557 (by decide))).tr (xFr.of (S := [83]) hb569 (by decide))).tr (xFr.of (S := [83]) hb581 (by decide))).tr (xFr.of (S := [83]) hb593 (by decide))).tr (xFr.of (S := [83]) hb605 (by decide))).tr (xFr.of (S := [83]) hb617 (by decide))).tr (xFr.of (S := [83]) hb629 (by decide))).tr (xFr.of (S := [83]) hc639 (by decide))).tr (xFr.of (S := [83]) hb644 (by decide))).tr (xFr.of (S := [83]) hb652 (by decide))).tr (xFr.of (S := [83]) hb661 (by decide))) (List.forall_mem_cons.mpr ⟨(show cpx83 (wget w659 83) from ⟨_, hr660, hb662, hx680⟩), fun _ h => absurd h List.not_mem_nil⟩), (hF209.tr (((((((((((((xFr.of (S := [82, 83, 85, 86, 87]) hb533 (by decide)).tr (xFr.of (S := [82, 83, 85, 86, 87]) hb545 (by decide))).tr (xFr.of (S := [82, 83, 85, 86, 87]) hb557 (by decide))).tr (xFr.of (S := [82, 83, 85, 86, 87]) hb569 (by decide))).tr (xFr.of (S := [82, 83, 85, 86, 87]) hb581 (by decide))).tr (xFr.of (S := [82, 83, 85, 86, 87]) hb593 (by decide))).tr (xFr.of (S := [82, 83, 85, 86, 87]) hb605 (by decide))).tr (xFr.of (S := [82, 83, 85, 86, 87]) hb617 (by decide))).tr (xFr.of (S := [82, 83, 85, 86, 87]) hb629 (by decide))).tr (xFr.of (S := [82, 83, 85, 86, 87]) hc639 (by decide))).tr (xFr.of (S := [82, 83, 85, 86, 87]) hb644 (by decide))).tr (xFr.of (S := [82, 83, 85, 86, 87]) hb652 (by decide))).tr (xFr.of (S := [82, 83, 85, 86, 87]) hb661 (by decide))))⟩
                  · refine xg_t (xg_aload (va := (2, 82)) rfl rfl) ?_
                    refine xg_t (xg_getf (va := (2, 83)) h82_250 rfl) ?_
                    refine xg_t (xg_bip) ?_
                    refine xg_ialdB (n := 16) (B := 4294967295) h83_253 (hb254) xnm0 (by omega) (fun u701 hu702 he703 => ?_)
                    refine xg_t (xg_ifF (u := u701) rfl xnm0 (xj_eqF (by omega))) ?_
                    refine xg_t (xg_const) ?_
                    have kb705 : KB w w207 := hj216
                    have hR704 : FRes B nn 4294967295 (rwv w207 83 16) (rwv w207 83 17) := by
                      obtain ⟨m, m1, m2, m3, m4⟩ := z2521
                      exact ⟨k_152, hok154, hnok, Or.inr (Or.inr ⟨hend, hc203, XM w147, rwv w147 87, (hM_158.2.2 hc203).1, (hM_158.2.2 hc203).2, Or.inl ⟨rfl, z1519, m, m1, m2, m3, m4⟩⟩)⟩
                    exact xg_e ⟨4294967295, w207, ⟨rfl, rfl⟩, ⟨hR704, kb705.1, fun _ => kb705, fun z => absurd rfl z, fun j h1 h2 => kb705.2 j h2 (by omega) (by omega) (by omega)⟩, hI208, hF209⟩
            exact key204 _ 0 w147 (Nat.lt_succ_self _) (by omega) (hI148) (hF149) (⟨Or.inl ⟨hM_158.1.2.2.1.1.trans hc203, hM_158.1.2.2.1.2.2.2 hc203, fun j hj => absurd hj (Nat.not_lt_zero _)⟩, hM_158.1.1, hM_158.1.2.1, kb156, rfl, rfl, rfl⟩)
          · refine xg_t (xg_const) ?_
            refine xg_t (xg_istore (l1 := [(0, (2, 82))]) rfl rfl rfl) ?_
            refine xg_t (xg_blk (b := [(84, 1, 2, 1, 0, 0), (85, 1, 0, 0, 0, 0), (86, 3, 1, 12, 11, 17), (89, 1, 3, 4, 0, 0), (90, 1, 10, 0, 0, 0), (91, 3, 6, 165, 3, 0), (94, 1, 0, 0, 0, 0), (95, 3, 1, 12, 0, 7), (98, 2, 4, 16, 0, 0), (100, 1, 10, 0, 0, 0), (101, 3, 7, 165, 1, 0), (104, 1, 0, 0, 0, 0), (105, 3, 1, 12, 12, 20), (108, 2, 4, 100, 0, 0), (110, 1, 3, 2, 0, 0), (111, 1, 2, 1, 0, 0), (112, 1, 16, 0, 0, 0), (113, 1, 11, 0, 0, 0), (114, 1, 10, 0, 0, 0), (115, 1, 0, 0, 0, 0), (116, 3, 1, 12, 12, 20), (119, 2, 4, 7, 0, 0), (121, 1, 10, 0, 0, 0), (122, 3, 6, 148, 3, 0), (125, 1, 0, 0, 0, 0), (126, 3, 1, 12, 12, 20), (129, 2, 4, 100, 0, 0), (131, 1, 3, 2, 0, 0), (132, 1, 2, 1, 0, 0), (133, 1, 16, 0, 0, 0), (134, 1, 11, 0, 0, 0), (135, 1, 3, 1, 0, 0), (136, 1, 11, 0, 0, 0), (137, 1, 10, 0, 0, 0), (138, 1, 0, 0, 0, 0), (139, 3, 1, 12, 12, 20), (142, 2, 4, 8, 0, 0), (144, 1, 10, 0, 0, 0), (145, 3, 6, 159, 2, 0)]) rfl) ?_
            refine xg_t (xg_iload (va := (0, 0)) rfl rfl) ?_
            refine xg_t (xg_aload (va := (2, 82)) rfl rfl) ?_
            refine xg_t (xg_getf (va := (2, 85)) h82_193 rfl) ?_
            refine xg_t (xg_const) ?_
            obtain ⟨g85_706, h85_707, hb708⟩ := (hI148 85 (by decide) (by decide) : cpI 7 52 4294967295 (wget w147 85))
            have h85_707 : xRow w147 85 7 52 g85_706 := h85_707
            refine xg_ialdB (n := 4) (B := 4294967295) h85_707 (hb708) xnm0 (by omega) (fun u709 hu710 he711 => ?_)
            by_cases hc712 : xbs 0 < xbs u709
            · have hc712u := hc712
              unfold xbs at hc712u
              have hn713 : u709 ≤ 2147483647 := by omega
              refine xg_t (xg_icF (u := 0) (v := u709) rfl xnm0 xnm0 (xjs_geF hc712)) ?_
              refine xg_t (xg_aload (va := (2, 82)) rfl rfl) ?_
              refine xg_t (xg_getf (va := (2, 83)) h82_193 rfl) ?_
              refine xg_t (xg_bip) ?_
              obtain ⟨g83_714, h83_715, hb716, hx717⟩ := (hI148 83 (by decide) (by decide) : cpx83 (wget w147 83))
              have h83_715 : xRow w147 83 5360 50 g83_714 := h83_715
              refine xg_ialdB (n := 16) (B := 4294967295) h83_715 (hb716) xnm0 (by omega) (fun u718 hu719 he720 => ?_)
              have hq721 : rwv w147 83 16 = g83_714 16 := rwv_of h83_715 (by decide)
              have hz722 := hM_158.1.2.2.1.1
              refine xg_t (xg_ifT (u := u718) rfl xnm0 (xj_neT (by omega))) ?_
              refine xg_t (xg_blk (b := [(165, 1, 0, 0, 0, 0), (166, 3, 1, 12, 0, 7), (169, 2, 4, 16, 0, 0), (171, 1, 10, 0, 0, 0), (172, 3, 7, 177, 0, 0), (175, 1, 3, 4294967295, 0, 0), (176, 1, 12, 0, 1, 0)]) rfl) ?_
              have hq723 : rwv w147 83 16 = g83_714 16 := rwv_of h83_715 (by decide)
              have hz724 := hM_158.1.2.2.1.1
              refine xg_t (xg_aload (va := (2, 82)) rfl rfl) ?_
              refine xg_t (xg_getf (va := (2, 83)) h82_193 rfl) ?_
              refine xg_t (xg_bip) ?_
              refine xg_ialdB (n := 16) (B := 4294967295) h83_715 (hb716) xnm0 (by omega) (fun u725 hu726 he727 => ?_)
              refine xg_t (xg_ifF (u := u725) rfl xnm0 (xj_eqF (by omega))) ?_
              refine xg_t (xg_const) ?_
              have kb729 : KB w w147 := kb156
              have hR728 : FRes B nn 4294967295 (rwv w147 83 16) (rwv w147 83 17) := ⟨k_152, hok154, hnok, Or.inr (Or.inl ⟨hend, hc203, rfl, hM_158.1.2.2.1.1, (hM_158.1.2.2.1.2.1 hc203).1⟩)⟩
              exact xg_e ⟨4294967295, w147, ⟨rfl, rfl⟩, ⟨hR728, kb729.1, fun _ => kb729, fun z => absurd rfl z, fun j h1 h2 => kb729.2 j h2 (by omega) (by omega) (by omega)⟩, hI148, hF149⟩
            · have hc712u := hc712
              unfold xbs at hc712u
              refine xg_t (xg_icT (u := 0) (v := u709) rfl xnm0 xnm0 (xjs_geT hc712)) ?_
              refine xg_t (xg_blk (b := [(165, 1, 0, 0, 0, 0), (166, 3, 1, 12, 0, 7), (169, 2, 4, 16, 0, 0), (171, 1, 10, 0, 0, 0), (172, 3, 7, 177, 0, 0), (175, 1, 3, 4294967295, 0, 0), (176, 1, 12, 0, 1, 0)]) rfl) ?_
              obtain ⟨g83_730, h83_731, hb732, hx733⟩ := (hI148 83 (by decide) (by decide) : cpx83 (wget w147 83))
              have h83_731 : xRow w147 83 5360 50 g83_730 := h83_731
              have hq734 : rwv w147 83 16 = g83_730 16 := rwv_of h83_731 (by decide)
              have hz735 := hM_158.1.2.2.1.1
              refine xg_t (xg_aload (va := (2, 82)) rfl rfl) ?_
              refine xg_t (xg_getf (va := (2, 83)) h82_193 rfl) ?_
              refine xg_t (xg_bip) ?_
              refine xg_ialdB (n := 16) (B := 4294967295) h83_731 (hb732) xnm0 (by omega) (fun u736 hu737 he738 => ?_)
              refine xg_t (xg_ifF (u := u736) rfl xnm0 (xj_eqF (by omega))) ?_
              refine xg_t (xg_const) ?_
              have kb740 : KB w w147 := kb156
              have hR739 : FRes B nn 4294967295 (rwv w147 83 16) (rwv w147 83 17) := ⟨k_152, hok154, hnok, Or.inr (Or.inl ⟨hend, hc203, rfl, hM_158.1.2.2.1.1, (hM_158.1.2.2.1.2.1 hc203).1⟩)⟩
              exact xg_e ⟨4294967295, w147, ⟨rfl, rfl⟩, ⟨hR739, kb740.1, fun _ => kb740, fun z => absurd rfl z, fun j h1 h2 => kb740.2 j h2 (by omega) (by omega) (by omega)⟩, hI148, hF149⟩
        · refine xg_t (xg_ifF (u := f82_173) rfl xnm0 (xj_eqF hc201)) ?_
          refine xg_t (xg_aload (va := (2, 82)) rfl rfl) ?_
          have hn0741 : tkd B nn (lnP B nn k_152) ≠ 0 := by omega
          refine xg_cVv mX12_aLine (vs := []) (rest := []) (cn1 := 0) (sl1 := 0) rfl (mALnX (k := k_152) (hI148) (hB.kb kb156) rfl hT_157 hM_158 hk153) rfl h82_193 rfl rfl rfl rfl rfl rfl (fun w742 hq743 => ?_)
          obtain ⟨hI744, hF745, hx746⟩ := hq743
          obtain ⟨hx747, k8_748, hle749⟩ := hx746
          have kb750 := kb156.kp k8_748
          rcases hx747 with ⟨q_751, lf752, hW_753⟩ | ⟨hok754, hT_755, hM_756⟩
          · have hz757 := hW_753.1
            refine xg_t (xg_goto) ?_
            exact ih145 w742 (by omega) (hI744) ((hF149.tr (hF745.up (by decide)))) (⟨⟨k_152, hk153, hok154, Or.inr ⟨q_751, lf752, hn0741, hW_753⟩⟩, kb750⟩)
          · have hok758 : ∀ i, i < k_152 + 1 → (lnR B nn (lnP B nn i)).1 = true := fun i hi => (Nat.lt_or_eq_of_le (Nat.le_of_lt_succ hi)).elim (fun z => hok154 i z) (fun z => by rw [z]; exact hok754)
            have hl759 : k_152 + 1 ≤ 500 := by
              have z1 := lnP_ge hok758
              have z2 := lnP_le (B := B) (n := nn) (k := k_152 + 1)
              have z3 := hB.1
              omega
            have hz760 := hM_756.1.1
            have hz761 := hM_756.1.2.1
            refine xg_t (xg_goto) ?_
            exact ih145 w742 (by omega) (hI744) ((hF149.tr (hF745.up (by decide)))) (⟨⟨k_152 + 1, hl759, hok758, Or.inl ⟨hT_755, hM_756⟩⟩, kb750⟩)
      · obtain ⟨f82_762, f82_764, f82_766, f82_768, f82_770, f82_772, f82_774, f82_776, f82_778, f82_780, f82_782, f82_783, f82_784, f82_786, f82_788, f82_790, h82_792, hb763, hb765, hb767, hb769, hb771, hb773, hb775, hb777, hb779, hb781, hb785, hb787, hb789, hb791, hb793⟩ := (hI148 82 (by decide) (by decide) : cp82 (wget w147 82))
        replace hb765 := xHid.of hb765
        replace hb771 := xHid.of hb771
        replace hb775 := xHid.of hb775
        replace hb777 := xHid.of hb777
        replace hb781 := xHid.of hb781
        replace hb785 := xHid.of hb785
        replace hb787 := xHid.of hb787
        replace hb789 := xHid.of hb789
        replace hb791 := xHid.of hb791
        have hf794 : fld w147 82 10 = f82_778 := fld_of h82_792
        have hz795 := hW_162.1
        refine xg_t (xg_aload (va := (2, 82)) rfl rfl) ?_
        refine xg_t (xg_getf (va := (0, f82_778)) h82_792 rfl) ?_
        refine xg_t (xg_ifT (u := f82_778) rfl xnm0 (xj_neT (by omega))) ?_
        refine xg_t (xg_blk (b := [(82, 1, 3, 0, 0, 0), (83, 1, 15, 1, 0, 0)]) rfl) ?_
        refine xg_t (xg_const) ?_
        refine xg_t (xg_istore (l1 := [(0, (2, 82))]) rfl rfl rfl) ?_
        refine xg_t (xg_blk (b := [(84, 1, 2, 1, 0, 0), (85, 1, 0, 0, 0, 0), (86, 3, 1, 12, 11, 17), (89, 1, 3, 4, 0, 0), (90, 1, 10, 0, 0, 0), (91, 3, 6, 165, 3, 0), (94, 1, 0, 0, 0, 0), (95, 3, 1, 12, 0, 7), (98, 2, 4, 16, 0, 0), (100, 1, 10, 0, 0, 0), (101, 3, 7, 165, 1, 0), (104, 1, 0, 0, 0, 0), (105, 3, 1, 12, 12, 20), (108, 2, 4, 100, 0, 0), (110, 1, 3, 2, 0, 0), (111, 1, 2, 1, 0, 0), (112, 1, 16, 0, 0, 0), (113, 1, 11, 0, 0, 0), (114, 1, 10, 0, 0, 0), (115, 1, 0, 0, 0, 0), (116, 3, 1, 12, 12, 20), (119, 2, 4, 7, 0, 0), (121, 1, 10, 0, 0, 0), (122, 3, 6, 148, 3, 0), (125, 1, 0, 0, 0, 0), (126, 3, 1, 12, 12, 20), (129, 2, 4, 100, 0, 0), (131, 1, 3, 2, 0, 0), (132, 1, 2, 1, 0, 0), (133, 1, 16, 0, 0, 0), (134, 1, 11, 0, 0, 0), (135, 1, 3, 1, 0, 0), (136, 1, 11, 0, 0, 0), (137, 1, 10, 0, 0, 0), (138, 1, 0, 0, 0, 0), (139, 3, 1, 12, 12, 20), (142, 2, 4, 8, 0, 0), (144, 1, 10, 0, 0, 0), (145, 3, 6, 159, 2, 0)]) rfl) ?_
        refine xg_t (xg_iload (va := (0, 0)) rfl rfl) ?_
        refine xg_t (xg_aload (va := (2, 82)) rfl rfl) ?_
        refine xg_t (xg_getf (va := (2, 85)) h82_792 rfl) ?_
        refine xg_t (xg_const) ?_
        obtain ⟨g85_796, h85_797, hb798⟩ := (hI148 85 (by decide) (by decide) : cpI 7 52 4294967295 (wget w147 85))
        have h85_797 : xRow w147 85 7 52 g85_796 := h85_797
        refine xg_ialdB (n := 4) (B := 4294967295) h85_797 (hb798) xnm0 (by omega) (fun u799 hu800 he801 => ?_)
        by_cases hc802 : xbs 0 < xbs u799
        · have hc802u := hc802
          unfold xbs at hc802u
          have hn803 : u799 ≤ 2147483647 := by omega
          refine xg_t (xg_icF (u := 0) (v := u799) rfl xnm0 xnm0 (xjs_geF hc802)) ?_
          refine xg_t (xg_aload (va := (2, 82)) rfl rfl) ?_
          refine xg_t (xg_getf (va := (2, 83)) h82_792 rfl) ?_
          refine xg_t (xg_bip) ?_
          obtain ⟨g83_804, h83_805, hb806, hx807⟩ := (hI148 83 (by decide) (by decide) : cpx83 (wget w147 83))
          have h83_805 : xRow w147 83 5360 50 g83_804 := h83_805
          refine xg_ialdB (n := 16) (B := 4294967295) h83_805 (hb806) xnm0 (by omega) (fun u808 hu809 he810 => ?_)
          have hq811 : rwv w147 83 16 = g83_804 16 := rwv_of h83_805 (by decide)
          have hz812 := hW_162.2.1
          refine xg_t (xg_ifT (u := u808) rfl xnm0 (xj_neT (by omega))) ?_
          refine xg_t (xg_blk (b := [(165, 1, 0, 0, 0, 0), (166, 3, 1, 12, 0, 7), (169, 2, 4, 16, 0, 0), (171, 1, 10, 0, 0, 0), (172, 3, 7, 177, 0, 0), (175, 1, 3, 4294967295, 0, 0), (176, 1, 12, 0, 1, 0)]) rfl) ?_
          have hq813 : rwv w147 83 16 = g83_804 16 := rwv_of h83_805 (by decide)
          have hz814 := hW_162.2.1
          refine xg_t (xg_aload (va := (2, 82)) rfl rfl) ?_
          refine xg_t (xg_getf (va := (2, 83)) h82_792 rfl) ?_
          refine xg_t (xg_bip) ?_
          refine xg_ialdB (n := 16) (B := 4294967295) h83_805 (hb806) xnm0 (by omega) (fun u815 hu816 he817 => ?_)
          refine xg_t (xg_ifF (u := u815) rfl xnm0 (xj_eqF (by omega))) ?_
          refine xg_t (xg_const) ?_
          have kb819 : KB w w147 := kb156
          have hR818 : FRes B nn 4294967295 (rwv w147 83 16) (rwv w147 83 17) := ⟨k_152, hok154, by rw [lf160]; exact Bool.false_ne_true, Or.inl ⟨h0_161, rfl, hW_162.2.1, by rw [lf160]; exact hW_162.2.2⟩⟩
          exact xg_e ⟨4294967295, w147, ⟨rfl, rfl⟩, ⟨hR818, kb819.1, fun _ => kb819, fun z => absurd rfl z, fun j h1 h2 => kb819.2 j h2 (by omega) (by omega) (by omega)⟩, hI148, hF149⟩
        · have hc802u := hc802
          unfold xbs at hc802u
          refine xg_t (xg_icT (u := 0) (v := u799) rfl xnm0 xnm0 (xjs_geT hc802)) ?_
          refine xg_t (xg_blk (b := [(165, 1, 0, 0, 0, 0), (166, 3, 1, 12, 0, 7), (169, 2, 4, 16, 0, 0), (171, 1, 10, 0, 0, 0), (172, 3, 7, 177, 0, 0), (175, 1, 3, 4294967295, 0, 0), (176, 1, 12, 0, 1, 0)]) rfl) ?_
          obtain ⟨g83_820, h83_821, hb822, hx823⟩ := (hI148 83 (by decide) (by decide) : cpx83 (wget w147 83))
          have h83_821 : xRow w147 83 5360 50 g83_820 := h83_821
          have hq824 : rwv w147 83 16 = g83_820 16 := rwv_of h83_821 (by decide)
          have hz825 := hW_162.2.1
          refine xg_t (xg_aload (va := (2, 82)) rfl rfl) ?_
          refine xg_t (xg_getf (va := (2, 83)) h82_792 rfl) ?_
          refine xg_t (xg_bip) ?_
          refine xg_ialdB (n := 16) (B := 4294967295) h83_821 (hb822) xnm0 (by omega) (fun u826 hu827 he828 => ?_)
          refine xg_t (xg_ifF (u := u826) rfl xnm0 (xj_eqF (by omega))) ?_
          refine xg_t (xg_const) ?_
          have kb830 : KB w w147 := kb156
          have hR829 : FRes B nn 4294967295 (rwv w147 83 16) (rwv w147 83 17) := ⟨k_152, hok154, by rw [lf160]; exact Bool.false_ne_true, Or.inl ⟨h0_161, rfl, hW_162.2.1, by rw [lf160]; exact hW_162.2.2⟩⟩
          exact xg_e ⟨4294967295, w147, ⟨rfl, rfl⟩, ⟨hR829, kb830.1, fun _ => kb830, fun z => absurd rfl z, fun j h1 h2 => kb830.2 j h2 (by omega) (by omega) (by omega)⟩, hI148, hF149⟩
  exact key144 _ w134 (Nat.lt_succ_self _) (hI136) ((((hF46.up (by decide)).tr (((((((((((xFr.of (S := [82, 83, 85, 86, 87]) hb90 (by decide)).tr (xFr.of (S := [82, 83, 85, 86, 87]) hb93 (by decide))).tr (xFr.of (S := [82, 83, 85, 86, 87]) hb96 (by decide))).tr (xFr.of (S := [82, 83, 85, 86, 87]) hb99 (by decide))).tr (xFr.of (S := [82, 83, 85, 86, 87]) hb102 (by decide))).tr (xFr.of (S := [82, 83, 85, 86, 87]) hb105 (by decide))).tr (xFr.of (S := [82, 83, 85, 86, 87]) hb108 (by decide))).tr (xFr.of (S := [82, 83, 85, 86, 87]) hb111 (by decide))).tr (xFr.of (S := [82, 83, 85, 86, 87]) hb114 (by decide))).tr (xFr.of (S := [82, 83, 85, 86, 87]) hb117 (by decide))).tr (xFr.of (S := [82, 83, 85, 86, 87]) hb120 (by decide)))).tr (hF137.up (by decide)))) (⟨⟨0, Nat.zero_le _, fun i hi => absurd hi (Nat.not_lt_zero _), Or.inl ⟨ht139, hM142⟩⟩, kb143⟩)
end XFMG
