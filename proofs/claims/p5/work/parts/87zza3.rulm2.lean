/-! the model: rules, the whole text -/
section XRMC
variable {d : Nat} {w : List (List xE)} {bd : List (Nat × Nat)} {fc : List (Nat × Nat × Bool)} {rr : Nat × Nat}
set_option maxHeartbeats 60000000 in
theorem mRuleX {B : Nat → Nat} {nn p : Nat} {fp : Nat × Nat} {k : Nat} (hI : xMnv w) (hB : bsm w B nn) (hT : TKM 1 B nn w p) (h10 : fld w 82 10 = 0) (hf : FP w fp) (hi : fpi fp p) (hln : fld w 82 14 = k) (hk5 : k ≤ 500) : xPq (d + 7) mX12_aRule [(2, 82)] w bd fc rr [] (fun w' => xMnv w' ∧ xFr [82, 83, 112, 113] w w' ∧ ((((rlR B nn k p fp).1 = true ∧ TKM 1 B nn w' (rlR B nn k p fp).2.1 ∧ fld w' 82 10 = 0 ∧ fld w' 82 14 = k + 1 ∧ FP w' (rlR B nn k p fp).2.2 ∧ ((rlR B nn k p fp).2.2.1 = 0 → RD w → RD w')) ∨ ((rlR B nn k p fp).1 = false ∧ WRG w' (tq B nn (rlR B nn k p fp).2.1) ∧ (fld w' 82 14 = k ∨ fld w' 82 14 = k + 1))) ∧ K83 w w')) := by
  refine xPq.of ?_
  show xTo (d + 7) mX12_aRule (0, [], [(0, (2, 82))], [], (w, bd, fc, 0, 0, rr)) (fun φ => ∃ w', xEnd 0 [] (w', bd, fc, 0, 0, rr) φ ∧ xMnv w' ∧ xFr [82, 83, 112, 113] w w' ∧ ((((rlR B nn k p fp).1 = true ∧ TKM 1 B nn w' (rlR B nn k p fp).2.1 ∧ fld w' 82 10 = 0 ∧ fld w' 82 14 = k + 1 ∧ FP w' (rlR B nn k p fp).2.2 ∧ ((rlR B nn k p fp).2.2.1 = 0 → RD w → RD w')) ∨ ((rlR B nn k p fp).1 = false ∧ WRG w' (tq B nn (rlR B nn k p fp).2.1) ∧ (fld w' 82 14 = k ∨ fld w' 82 14 = k + 1))) ∧ K83 w w'))
  obtain ⟨f82_1, f82_3, f82_5, f82_7, f82_9, f82_11, f82_13, f82_15, f82_17, f82_19, f82_21, f82_22, f82_23, f82_25, f82_27, f82_29, h82_31, hb2, hb4, hb6, hb8, hb10, hb12, hb14, hb16, hb18, hb20, hb24, hb26, hb28, hb30, hb32⟩ := (hI 82 (by decide) (by decide) : cp82 (wget w 82))
  replace hb4 := xHid.of hb4
  replace hb10 := xHid.of hb10
  replace hb14 := xHid.of hb14
  replace hb16 := xHid.of hb16
  replace hb20 := xHid.of hb20
  replace hb24 := xHid.of hb24
  replace hb26 := xHid.of hb26
  replace hb28 := xHid.of hb28
  replace hb30 := xHid.of hb30
  obtain ⟨g83_33, h83_34, hb35, hx36⟩ := (hI 83 (by decide) (by decide) : cpx83 (wget w 83))
  have h83_34 : xRow w 83 5360 50 g83_33 := h83_34
  obtain ⟨⟨ht37, ht38, ht39, ht40, ht41, ht42⟩, -⟩ := id hT
  have hf43 : fld w 82 3 = f82_3 := fld_of h82_31
  have hf44 : fld w 82 6 = f82_9 := fld_of h82_31
  have hf45 : fld w 82 7 = f82_11 := fld_of h82_31
  have hf46 : fld w 82 8 = f82_13 := fld_of h82_31
  have hf47 : fld w 82 9 = f82_15 := fld_of h82_31
  have hf48 : fld w 82 10 = f82_17 := fld_of h82_31
  have hf49 : fld w 82 14 = f82_19 := fld_of h82_31
  have hcs50 := hT.cs
  obtain ⟨g112_51, h112_52, hb53⟩ := (hI 112 (by decide) (by decide) : cpI 320 79 4294967295 (wget w 112))
  have h112_52 : xRow w 112 320 79 g112_51 := h112_52
  obtain ⟨g113_54, h113_55, hb56⟩ := (hI 113 (by decide) (by decide) : cpI 4 80 4294967295 (wget w 113))
  have h113_55 : xRow w 113 4 80 g113_54 := h113_55
  have hl57 : f82_19 ≤ 500 := by omega
  have hBn := hB.1
  have hpn := hT.1.2.2.2.2.2
  refine xg_t (xg_blk (b := [(0, 1, 0, 0, 0, 0), (1, 3, 1, 12, 14, 212), (4, 2, 4, 16, 0, 0), (6, 3, 6, 18, 2, 0), (9, 1, 0, 0, 0, 0), (10, 1, 3, 3, 0, 0), (11, 1, 0, 0, 0, 0), (12, 3, 1, 12, 6, 148), (15, 3, 13, 115, 96, 186)]) rfl) ?_
  refine xg_t (xg_aload (va := (2, 82)) rfl rfl) ?_
  refine xg_t (xg_getf (va := (0, f82_19)) h82_31 rfl) ?_
  have hn58 := id hb20
  unfold xHid at hn58
  refine xg_t (xg_bip) ?_
  by_cases hc59 : f82_19 < 16
  · refine xg_t (xg_icT (u := f82_19) (v := 16) rfl xnm0 xnm0 (xj_ltT hc59 (by omega))) ?_
    refine xg_t (xg_blk (b := [(18, 1, 3, 0, 0, 0), (19, 1, 15, 1, 0, 0), (20, 1, 0, 0, 0, 0), (21, 2, 4, 50, 0, 0), (23, 3, 13, 227, 96, 415), (26, 3, 7, 107, 0, 0), (29, 1, 3, 1, 0, 0), (30, 1, 15, 2, 0, 0)]) rfl) ?_
    obtain ⟨g_60, hg61⟩ : ∃ x, x = rlg B nn k p fp := ⟨_, rfl⟩
    have hF_62 : FP w g_60 := by
      rw [hg61, rlg_n (by omega)]
      exact hf
    have hig63 : fpi g_60 (tf B nn p) := by rw [hg61]; exact hi.rlgi tfp tf_ge
    refine xg_t (xg_const) ?_
    refine xg_t (xg_istore (l1 := [(0, (2, 82))]) rfl rfl rfl) ?_
    refine xg_t (xg_aload (va := (2, 82)) rfl rfl) ?_
    refine xg_t (xg_bip) ?_
    have hk64 := (rfl : fld w 82 14 = fld w 82 14)
    refine xg_cVi mX12_takes (vs := [(0, 50)]) (rest := []) (cn1 := 0) (sl1 := 0) rfl (mTakesX (hI) (by omega) hB hT h10) rfl h82_31 rfl rfl rfl rfl rfl rfl (fun n69 w65 hq66 => ?_)
    obtain ⟨hn70, hI67, hF68⟩ := hq66
    obtain ⟨hz71, hz72, hz73⟩ := hn70
    have k14_76 := hz73.trans hk64
    rcases hz71 with ⟨rfl, hx74, hx75⟩ | ⟨rfl, hx74, hx75⟩
    · obtain ⟨p_77, hp78⟩ : ∃ x, x = tf B nn p := ⟨_, rfl⟩
      rw [← hp78] at hx75
      refine xg_t (xg_ifF (u := 1) rfl xnm0 (by decide)) ?_
      refine xg_t (xg_const) ?_
      refine xg_t (xg_istore (l1 := [(1, (0, 0)), (0, (2, 82))]) rfl rfl rfl) ?_
      refine xg_t (xg_drop (l1 := [(0, (2, 82)), (1, (0, 0)), (2, (0, 1))]) (List.forall_mem_cons.mpr ⟨List.mem_cons_of_mem _ (List.mem_cons_of_mem _ (List.mem_cons_self)), List.forall_mem_cons.mpr ⟨List.mem_cons_of_mem _ (List.mem_cons_self), List.forall_mem_cons.mpr ⟨List.mem_cons_self, fun _ h => absurd h List.not_mem_nil⟩⟩⟩)) ?_
      have hig85 : fpi g_60 p_77 := by rw [hp78]; exact hig63
      have key79 : ∀ (m81 : Nat) (kr mo : Nat) (w82 : List (List xE)), 2 * (502 - kr) + mo < m81 → kr ≤ 502 → mo ≤ 1 → xMnv w82 → xFr [82, 83, 112, 113] w w82 → ((mo = 1 ∧ ∃ (q : Nat) (f : Nat × Nat), TKM 1 B nn w82 q ∧ fld w82 82 10 = 0 ∧ FP w82 f ∧ fpi f q ∧ kr ≤ q ∧ (f.1 = 0 → kr ≤ 4) ∧ rs B nn kr q f = (rs B nn 0 p_77 g_60)) ∨ (mo = 0 ∧ ∃ (q : Nat) (f : Nat × Nat), TKM 1 B nn w82 q ∧ fld w82 82 10 = 0 ∧ FP w82 f ∧ (f.1 = 0 → kr ≤ 4) ∧ (tkd B nn q = 3 ∧ B (tq B nn q) = 58 → (rs B nn 0 p_77 g_60) = (true, tf B nn q, f)) ∧ (¬ (tkd B nn q = 3 ∧ B (tq B nn q) = 58) → (rs B nn 0 p_77 g_60) = (false, q, f))) ∨ (mo = 0 ∧ ∃ (q : Nat) (f : Nat × Nat), WRG w82 (tq B nn q) ∧ (rs B nn 0 p_77 g_60) = (false, q, f))) ∧ K83 w w82 ∧ RO2 w w82 k ∧ fld w82 82 14 = fld w 82 14 → xTo (d + 7) mX12_aRule (31, [], [(0, (2, 82)), (1, (0, kr)), (2, (0, mo))], [], (w82, bd, fc, 0, 0, rr)) (fun φ => ∃ w', xEnd 0 [] (w', bd, fc, 0, 0, rr) φ ∧ xMnv w' ∧ xFr [82, 83, 112, 113] w w' ∧ ((((rlR B nn k p fp).1 = true ∧ TKM 1 B nn w' (rlR B nn k p fp).2.1 ∧ fld w' 82 10 = 0 ∧ fld w' 82 14 = k + 1 ∧ FP w' (rlR B nn k p fp).2.2 ∧ ((rlR B nn k p fp).2.2.1 = 0 → RD w → RD w')) ∨ ((rlR B nn k p fp).1 = false ∧ WRG w' (tq B nn (rlR B nn k p fp).2.1) ∧ (fld w' 82 14 = k ∨ fld w' 82 14 = k + 1))) ∧ K83 w w')) := by
        intro m81
        induction m81 with
        | zero => intro kr mo w82 hz; exact absurd hz (Nat.not_lt_zero _)
        | succ m81 ih80 =>
          intro kr mo w82 hm89 hn86 hn87 hI83 hF84 he88
          obtain ⟨hX90, hK91, hro92, h14_93⟩ := he88
          obtain ⟨g112_94, h112_95, hb96⟩ := (hI83 112 (by decide) (by decide) : cpI 320 79 4294967295 (wget w82 112))
          have h112_95 : xRow w82 112 320 79 g112_94 := h112_95
          obtain ⟨g113_97, h113_98, hb99⟩ := (hI83 113 (by decide) (by decide) : cpI 4 80 4294967295 (wget w82 113))
          have h113_98 : xRow w82 113 4 80 g113_97 := h113_98
          refine xg_t (xg_blk (b := [(31, 1, 2, 2, 0, 0), (32, 3, 7, 101, 0, 0), (35, 1, 2, 1, 0, 0), (36, 1, 3, 3, 0, 0), (37, 3, 6, 49, 5, 0), (40, 1, 0, 0, 0, 0), (41, 1, 3, 3, 0, 0), (42, 1, 0, 0, 0, 0), (43, 3, 1, 12, 6, 148), (46, 3, 13, 115, 96, 186)]) rfl) ?_
          rcases hX90 with ⟨rfl, q_100, f_101, hT_102, k10_103, hF_104, hfi105, hkq106, hk4107, heq108⟩ | ⟨rfl, q_109, f_110, hT_111, k10_112, hF_113, hk4114, he1115, he2116⟩ | ⟨rfl, q_117, f_118, hW_119, heq120⟩
          · have hqn121 := hT_102.1.2.2.2.2.2
            have hl122 : kr ≤ 500 := by omega
            refine xg_t (xg_iload (va := (0, 1)) rfl rfl) ?_
            refine xg_t (xg_ifF (u := 1) rfl xnm0 (by decide)) ?_
            obtain ⟨⟨ht123, ht124, ht125, ht126, ht127, ht128⟩, -⟩ := id hT_102
            obtain ⟨f82_129, f82_131, f82_133, f82_135, f82_137, f82_139, f82_141, f82_143, f82_145, f82_147, f82_149, f82_150, f82_151, f82_153, f82_155, f82_157, h82_159, hb130, hb132, hb134, hb136, hb138, hb140, hb142, hb144, hb146, hb148, hb152, hb154, hb156, hb158, hb160⟩ := (hI83 82 (by decide) (by decide) : cp82 (wget w82 82))
            replace hb132 := xHid.of hb132
            replace hb138 := xHid.of hb138
            replace hb142 := xHid.of hb142
            replace hb144 := xHid.of hb144
            replace hb148 := xHid.of hb148
            replace hb152 := xHid.of hb152
            replace hb154 := xHid.of hb154
            replace hb156 := xHid.of hb156
            replace hb158 := xHid.of hb158
            have hf161 : fld w82 82 3 = f82_131 := fld_of h82_159
            have hf162 : fld w82 82 6 = f82_137 := fld_of h82_159
            have hf163 : fld w82 82 7 = f82_139 := fld_of h82_159
            have hf164 : fld w82 82 8 = f82_141 := fld_of h82_159
            have hf165 : fld w82 82 9 = f82_143 := fld_of h82_159
            have hf166 : fld w82 82 10 = f82_145 := fld_of h82_159
            have hf167 : fld w82 82 14 = f82_147 := fld_of h82_159
            have hcs168 := hT_102.cs
            have hw0169 : fld w82 82 10 = 0 := k10_103
            refine xg_t (xg_iload (va := (0, kr)) rfl rfl) ?_
            refine xg_t (xg_const) ?_
            by_cases hc170 : 3 < kr
            · refine xg_t (xg_icF (u := kr) (v := 3) rfl xnm0 xnm0 (xj_leF hc170 (by omega))) ?_
              refine xg_t (xg_aload (va := (2, 82)) rfl rfl) ?_
              refine xg_t (xg_const) ?_
              refine xg_t (xg_aload (va := (2, 82)) rfl rfl) ?_
              refine xg_t (xg_getf (va := (0, f82_137)) h82_159 rfl) ?_
              have hn171 : f82_137 ≤ 4294967295 := hb138
              have hq172 : tq B nn q_100 ≤ nn := tq_le hT_102.1.2.2.2.2.2
              refine xg_cVv mX12_also (vs := [(0, 3), (0, f82_137)]) (rest := []) (cn1 := 0) (sl1 := 0) rfl (mAlsoX (hI83) (by omega) (by omega) (by omega) k10_103 hF_104) rfl h82_159 rfl rfl rfl rfl rfl rfl (fun w173 hq174 => ?_)
              obtain ⟨hI175, hF176, hx177⟩ := hq174
              obtain ⟨hv178, hv179⟩ := hx177
              have hF_180 : FP w173 (rnt f_101 (tq B nn q_100)) := by
                have q := hv178
                rw [show f82_137 = tq B nn q_100 by omega, hfi105.aloi tq_ge] at q
                exact q
              refine xg_t (xg_blk (b := [(49, 1, 0, 0, 0, 0), (50, 3, 13, 109, 96, 421), (53, 1, 3, 0, 0, 0), (54, 1, 15, 3, 0, 0)]) rfl) ?_
              obtain ⟨g_181, hg182⟩ : ∃ x, x = rg B nn kr q_100 f_101 := ⟨_, rfl⟩
              have hF_183 : FP w173 g_181 := by
                rw [hg182, rg_y (by omega)]
                exact hF_180
              have hk4184 : g_181.1 = 0 → kr + 1 ≤ 4 := fun z => by
                by_cases y : 4 ≤ kr
                · exact absurd z (by rw [hg182, rg_y y]; exact rnt_nz)
                · omega
              refine xg_t (xg_aload (va := (2, 82)) rfl rfl) ?_
              have hk185 := ((fld_eq (j := 14) (hF176.1 82 (by decide))).trans h14_93)
              refine xg_cVv mX12_aTest (vs := []) (rest := []) (cn1 := 0) (sl1 := 0) rfl (mATestX (hI175) (hB.fr (fun j h4 h9 => (hK91.tr hv179) j (by omega) (by omega) (by omega))) (hT_102.fr (hF176.1 82 (by decide))) ((fld_eq (j := 10) (hF176.1 82 (by decide))).trans k10_103)) rfl (hF176.get (by decide) h82_159) rfl rfl rfl rfl rfl rfl (fun w186 hq187 => ?_)
              obtain ⟨hI188, hF189, hx190⟩ := hq187
              obtain ⟨hn191, hn192, hn193⟩ := hx190
              have hk198 := hn192.trans hk185
              obtain ⟨r_199, hr200⟩ : ∃ x, x = (rtR B nn q_100).2 := ⟨_, rfl⟩
              rw [← hr200] at hn191
              obtain ⟨g113_201, h113_202, hb203⟩ := (hI188 113 (by decide) (by decide) : cpI 4 80 4294967295 (wget w186 113))
              have h113_202 : xRow w186 113 4 80 g113_201 := h113_202
              rcases hn191 with ⟨hy194, hT_195, k10_196, he197⟩ | ⟨hy194, hT_195⟩
              · refine xg_t (xg_const) ?_
                refine xg_t (xg_istore (l1 := [(0, (2, 82)), (1, (0, kr)), (2, (0, 1))]) rfl rfl rfl) ?_
                refine xg_t (xg_blk (b := [(55, 1, 2, 3, 0, 0), (56, 1, 3, 4, 0, 0), (57, 3, 6, 88, 3, 0), (60, 1, 2, 1, 0, 0), (61, 1, 3, 4, 0, 0), (62, 3, 6, 88, 3, 0), (65, 1, 0, 0, 0, 0), (66, 1, 3, 1, 0, 0), (67, 1, 3, 4, 0, 0), (68, 1, 2, 1, 0, 0), (69, 1, 16, 0, 0, 0), (70, 1, 11, 0, 0, 0), (71, 1, 2, 3, 0, 0), (72, 1, 11, 0, 0, 0), (73, 1, 0, 0, 0, 0), (74, 3, 1, 12, 46, 102), (77, 1, 2, 3, 0, 0), (78, 1, 10, 0, 0, 0), (79, 3, 13, 214, 96, 424), (82, 3, 9, 3, 1, 0), (85, 3, 8, 55, 0, 0)]) rfl) ?_
                refine xg_t (xg_iload (va := (0, 0)) rfl rfl) ?_
                refine xg_t (xg_const) ?_
                refine xg_t (xg_icF (u := 0) (v := 4) rfl xnm0 xnm0 (by decide)) ?_
                refine xg_t (xg_iload (va := (0, kr)) rfl rfl) ?_
                refine xg_t (xg_const) ?_
                refine xg_t (xg_icT (u := kr) (v := 4) rfl xnm0 xnm0 (xj_geT (by omega) (by omega))) ?_
                refine xg_t (xg_blk (b := [(88, 3, 9, 1, 1, 0), (91, 1, 0, 0, 0, 0), (92, 2, 4, 51, 0, 0), (94, 3, 13, 227, 96, 415), (97, 1, 15, 2, 0, 0), (98, 3, 8, 31, 0, 0)]) rfl) ?_
                refine xg_t (xg_iinc (u := kr) (z := kr + 1) (l1 := [(3, (0, 0)), (0, (2, 82)), (2, (0, 1))]) rfl rfl (by omega) rfl) ?_
                refine xg_t (xg_aload (va := (2, 82)) rfl rfl) ?_
                refine xg_t (xg_bip) ?_
                have hk204 := hk198
                obtain ⟨f82_205, f82_207, f82_209, f82_211, f82_213, f82_215, f82_217, f82_219, f82_221, f82_223, f82_225, f82_226, f82_227, f82_229, f82_231, f82_233, h82_235, hb206, hb208, hb210, hb212, hb214, hb216, hb218, hb220, hb222, hb224, hb228, hb230, hb232, hb234, hb236⟩ := (hI188 82 (by decide) (by decide) : cp82 (wget w186 82))
                replace hb208 := xHid.of hb208
                replace hb214 := xHid.of hb214
                replace hb218 := xHid.of hb218
                replace hb220 := xHid.of hb220
                replace hb224 := xHid.of hb224
                replace hb228 := xHid.of hb228
                replace hb230 := xHid.of hb230
                replace hb232 := xHid.of hb232
                replace hb234 := xHid.of hb234
                refine xg_cVi mX12_takes (vs := [(0, 51)]) (rest := []) (cn1 := 0) (sl1 := 0) rfl (mTakesX (hI188) (by omega) (hB.fr (fun j h4 h9 => ((hK91.tr hv179).tr hn193) j (by omega) (by omega) (by omega))) hT_195 k10_196) rfl h82_235 rfl rfl rfl rfl rfl rfl (fun n241 w237 hq238 => ?_)
                obtain ⟨hn242, hI239, hF240⟩ := hq238
                obtain ⟨hz243, hz244, hz245⟩ := hn242
                have k14_248 := hz245.trans hk204
                rcases hz243 with ⟨rfl, hx246, hx247⟩ | ⟨rfl, hx246, hx247⟩
                · obtain ⟨p_249, hp250⟩ : ∃ x, x = tf B nn r_199 := ⟨_, rfl⟩
                  rw [← hp250] at hx247
                  refine xg_t (xg_istore (l1 := [(1, (0, kr + 1)), (3, (0, 0)), (0, (2, 82))]) rfl rfl rfl) ?_
                  refine xg_t (xg_goto) ?_
                  refine xg_t (xg_drop (l1 := [(0, (2, 82)), (1, (0, kr + 1)), (2, (0, 1))]) (List.forall_mem_cons.mpr ⟨List.mem_cons_of_mem _ (List.mem_cons_of_mem _ (List.mem_cons_of_mem _ (List.mem_cons_self))), List.forall_mem_cons.mpr ⟨List.mem_cons_of_mem _ (List.mem_cons_self), List.forall_mem_cons.mpr ⟨List.mem_cons_self, fun _ h => absurd h List.not_mem_nil⟩⟩⟩)) ?_
                  have hle252 := rtR_and (B := B) (n := nn) (p := q_100) hqn121 (by rw [← hr200]; exact hx246)
                  rw [← hr200, ← hp250] at hle252
                  have hfi251 : fpi g_181 p_249 := by
                    rw [hg182, hp250, hr200]
                    exact hfi105.rgi (Nat.le_of_lt (rtR_and (B := B) (n := nn) hqn121 (by rw [← hr200]; exact hx246)).1) (rtR_q hqn121)
                  exact ih80 (kr + 1) 1 w237 (by omega) (by omega) (by omega) (hI239) ((((hF84.tr (hF176.up (by decide))).tr (hF189.up (by decide))).tr (hF240.up (by decide)))) (⟨Or.inl ⟨rfl, p_249, g_181, hx247, hz244, (hF_183.k83 (rwv_eq ((hF240.1 83 (by decide)).trans he197)) (rwv_eq ((hF240.1 83 (by decide)).trans he197))), hfi251, by omega, hk4184, by rw [← heq108, rs_and hqn121 hy194 (by rw [← hr200]; exact hx246), ← hr200, ← hp250, ← hg182]⟩, (((hK91.tr hv179).tr hn193).tr (K83.fr hF240 (by decide))), (RO2.fr (RO2.fr (RO2.fr hro92 hF176 (by decide)) hF189 (by decide)) hF240 (by decide)), k14_248⟩)
                · refine xg_t (xg_istore (l1 := [(1, (0, kr + 1)), (3, (0, 0)), (0, (2, 82))]) rfl rfl rfl) ?_
                  refine xg_t (xg_goto) ?_
                  refine xg_t (xg_drop (l1 := [(0, (2, 82)), (1, (0, kr + 1)), (2, (0, 0))]) (List.forall_mem_cons.mpr ⟨List.mem_cons_of_mem _ (List.mem_cons_of_mem _ (List.mem_cons_of_mem _ (List.mem_cons_self))), List.forall_mem_cons.mpr ⟨List.mem_cons_of_mem _ (List.mem_cons_self), List.forall_mem_cons.mpr ⟨List.mem_cons_self, fun _ h => absurd h List.not_mem_nil⟩⟩⟩)) ?_
                  exact ih80 (kr + 1) 0 w237 (by omega) (by omega) (by omega) (hI239) ((((hF84.tr (hF176.up (by decide))).tr (hF189.up (by decide))).tr (hF240.up (by decide)))) (⟨Or.inr (Or.inl ⟨rfl, r_199, g_181, hx247, hz244, (hF_183.k83 (rwv_eq ((hF240.1 83 (by decide)).trans he197)) (rwv_eq ((hF240.1 83 (by decide)).trans he197))), hk4184, fun z => by rw [← heq108, rs_col hy194 (by rw [← hr200]; exact z), ← hr200, ← hg182], fun z => by rw [← heq108, rs_bad hy194 (by rw [← hr200]; exact hx246) (by rw [← hr200]; exact z), ← hr200, ← hg182]⟩), (((hK91.tr hv179).tr hn193).tr (K83.fr hF240 (by decide))), (RO2.fr (RO2.fr (RO2.fr hro92 hF176 (by decide)) hF189 (by decide)) hF240 (by decide)), k14_248⟩)
              · refine xg_t (xg_const) ?_
                refine xg_t (xg_istore (l1 := [(0, (2, 82)), (1, (0, kr)), (2, (0, 1))]) rfl rfl rfl) ?_
                refine xg_t (xg_blk (b := [(55, 1, 2, 3, 0, 0), (56, 1, 3, 4, 0, 0), (57, 3, 6, 88, 3, 0), (60, 1, 2, 1, 0, 0), (61, 1, 3, 4, 0, 0), (62, 3, 6, 88, 3, 0), (65, 1, 0, 0, 0, 0), (66, 1, 3, 1, 0, 0), (67, 1, 3, 4, 0, 0), (68, 1, 2, 1, 0, 0), (69, 1, 16, 0, 0, 0), (70, 1, 11, 0, 0, 0), (71, 1, 2, 3, 0, 0), (72, 1, 11, 0, 0, 0), (73, 1, 0, 0, 0, 0), (74, 3, 1, 12, 46, 102), (77, 1, 2, 3, 0, 0), (78, 1, 10, 0, 0, 0), (79, 3, 13, 214, 96, 424), (82, 3, 9, 3, 1, 0), (85, 3, 8, 55, 0, 0)]) rfl) ?_
                refine xg_t (xg_iload (va := (0, 0)) rfl rfl) ?_
                refine xg_t (xg_const) ?_
                refine xg_t (xg_icF (u := 0) (v := 4) rfl xnm0 xnm0 (by decide)) ?_
                refine xg_t (xg_iload (va := (0, kr)) rfl rfl) ?_
                refine xg_t (xg_const) ?_
                refine xg_t (xg_icT (u := kr) (v := 4) rfl xnm0 xnm0 (xj_geT (by omega) (by omega))) ?_
                refine xg_t (xg_blk (b := [(88, 3, 9, 1, 1, 0), (91, 1, 0, 0, 0, 0), (92, 2, 4, 51, 0, 0), (94, 3, 13, 227, 96, 415), (97, 1, 15, 2, 0, 0), (98, 3, 8, 31, 0, 0)]) rfl) ?_
                refine xg_t (xg_iinc (u := kr) (z := kr + 1) (l1 := [(3, (0, 0)), (0, (2, 82)), (2, (0, 1))]) rfl rfl (by omega) rfl) ?_
                refine xg_t (xg_aload (va := (2, 82)) rfl rfl) ?_
                refine xg_t (xg_bip) ?_
                obtain ⟨f82_253, f82_255, f82_257, f82_259, f82_261, f82_263, f82_265, f82_267, f82_269, f82_271, f82_273, f82_274, f82_275, f82_277, f82_279, f82_281, h82_283, hb254, hb256, hb258, hb260, hb262, hb264, hb266, hb268, hb270, hb272, hb276, hb278, hb280, hb282, hb284⟩ := (hI188 82 (by decide) (by decide) : cp82 (wget w186 82))
                replace hb256 := xHid.of hb256
                replace hb262 := xHid.of hb262
                replace hb266 := xHid.of hb266
                replace hb268 := xHid.of hb268
                replace hb272 := xHid.of hb272
                replace hb276 := xHid.of hb276
                replace hb278 := xHid.of hb278
                replace hb280 := xHid.of hb280
                replace hb282 := xHid.of hb282
                refine xg_cVi mX12_takes (vs := [(0, 51)]) (rest := []) (cn1 := 0) (sl1 := 0) rfl (mTakesW (hI188) (by omega) (by have q := hT_195.1; omega)) rfl h82_283 rfl rfl rfl rfl rfl rfl (fun n289 w285 hq286 => ?_)
                obtain ⟨hn290, hI287, hF288⟩ := hq286
                subst hn290
                refine xg_t (xg_istore (l1 := [(1, (0, kr + 1)), (3, (0, 0)), (0, (2, 82))]) rfl rfl rfl) ?_
                refine xg_t (xg_goto) ?_
                refine xg_t (xg_drop (l1 := [(0, (2, 82)), (1, (0, kr + 1)), (2, (0, 0))]) (List.forall_mem_cons.mpr ⟨List.mem_cons_of_mem _ (List.mem_cons_of_mem _ (List.mem_cons_of_mem _ (List.mem_cons_self))), List.forall_mem_cons.mpr ⟨List.mem_cons_of_mem _ (List.mem_cons_self), List.forall_mem_cons.mpr ⟨List.mem_cons_self, fun _ h => absurd h List.not_mem_nil⟩⟩⟩)) ?_
                have hW_291 : WRG w285 (tq B nn r_199) := ⟨(fld_eq (j := 10) (hF288.1 82 (by decide))).trans hT_195.1, (rwv_eq (hF288.1 83 (by decide))).trans hT_195.2.1, (rwv_eq (hF288.1 83 (by decide))).trans hT_195.2.2⟩
                exact ih80 (kr + 1) 0 w285 (by omega) (by omega) (by omega) (hI287) ((((hF84.tr (hF176.up (by decide))).tr (hF189.up (by decide))).tr (hF288.up (by decide)))) (⟨Or.inr (Or.inr ⟨rfl, r_199, g_181, hW_291, by rw [← heq108, rs_no hy194, ← hr200, ← hg182]⟩), (((hK91.tr hv179).tr hn193).tr (K83.fr hF288 (by decide))), (RO2.fr (RO2.fr (RO2.fr hro92 hF176 (by decide)) hF189 (by decide)) hF288 (by decide)), ((fld_eq (j := 14) (hF288.1 82 (by decide))).trans hk198)⟩)
            · refine xg_t (xg_icT (u := kr) (v := 3) rfl xnm0 xnm0 (xj_leT (by omega) (by omega))) ?_
              refine xg_t (xg_blk (b := [(49, 1, 0, 0, 0, 0), (50, 3, 13, 109, 96, 421), (53, 1, 3, 0, 0, 0), (54, 1, 15, 3, 0, 0)]) rfl) ?_
              obtain ⟨g_292, hg293⟩ : ∃ x, x = rg B nn kr q_100 f_101 := ⟨_, rfl⟩
              have hF_294 : FP w82 g_292 := by
                rw [hg293, rg_n (by omega)]
                exact hF_104
              have hk4295 : g_292.1 = 0 → kr + 1 ≤ 4 := fun z => by
                by_cases y : 4 ≤ kr
                · exact absurd z (by rw [hg293, rg_y y]; exact rnt_nz)
                · omega
              refine xg_t (xg_aload (va := (2, 82)) rfl rfl) ?_
              have hk296 := h14_93
              refine xg_cVv mX12_aTest (vs := []) (rest := []) (cn1 := 0) (sl1 := 0) rfl (mATestX (hI83) (hB.fr (fun j h4 h9 => hK91 j (by omega) (by omega) (by omega))) hT_102 k10_103) rfl h82_159 rfl rfl rfl rfl rfl rfl (fun w297 hq298 => ?_)
              obtain ⟨hI299, hF300, hx301⟩ := hq298
              obtain ⟨hn302, hn303, hn304⟩ := hx301
              have hk309 := hn303.trans hk296
              obtain ⟨r_310, hr311⟩ : ∃ x, x = (rtR B nn q_100).2 := ⟨_, rfl⟩
              rw [← hr311] at hn302
              obtain ⟨g113_312, h113_313, hb314⟩ := (hI299 113 (by decide) (by decide) : cpI 4 80 4294967295 (wget w297 113))
              have h113_313 : xRow w297 113 4 80 g113_312 := h113_313
              rcases hn302 with ⟨hy305, hT_306, k10_307, he308⟩ | ⟨hy305, hT_306⟩
              · refine xg_t (xg_const) ?_
                refine xg_t (xg_istore (l1 := [(0, (2, 82)), (1, (0, kr)), (2, (0, 1))]) rfl rfl rfl) ?_
                refine xg_t (xg_blk (b := [(55, 1, 2, 3, 0, 0), (56, 1, 3, 4, 0, 0), (57, 3, 6, 88, 3, 0), (60, 1, 2, 1, 0, 0), (61, 1, 3, 4, 0, 0), (62, 3, 6, 88, 3, 0), (65, 1, 0, 0, 0, 0), (66, 1, 3, 1, 0, 0), (67, 1, 3, 4, 0, 0), (68, 1, 2, 1, 0, 0), (69, 1, 16, 0, 0, 0), (70, 1, 11, 0, 0, 0), (71, 1, 2, 3, 0, 0), (72, 1, 11, 0, 0, 0), (73, 1, 0, 0, 0, 0), (74, 3, 1, 12, 46, 102), (77, 1, 2, 3, 0, 0), (78, 1, 10, 0, 0, 0), (79, 3, 13, 214, 96, 424), (82, 3, 9, 3, 1, 0), (85, 3, 8, 55, 0, 0)]) rfl) ?_
                refine xg_t (xg_iload (va := (0, 0)) rfl rfl) ?_
                refine xg_t (xg_const) ?_
                refine xg_t (xg_icF (u := 0) (v := 4) rfl xnm0 xnm0 (by decide)) ?_
                refine xg_t (xg_iload (va := (0, kr)) rfl rfl) ?_
                refine xg_t (xg_const) ?_
                refine xg_t (xg_icF (u := kr) (v := 4) rfl xnm0 xnm0 (xj_geF (by omega) (by omega))) ?_
                refine xg_t (xg_aload (va := (2, 82)) rfl rfl) ?_
                refine xg_t (xg_const) ?_
                refine xg_t (xg_const) ?_
                refine xg_t (xg_iload (va := (0, kr)) rfl rfl) ?_
                refine xg_t (xg_imul (u := 4) (v := kr) (z := 4 * kr) xnm0 xnm0 (by omega)) ?_
                refine xg_t (xg_iadd (u := 1) (v := 4 * kr) (z := 1 + (4 * kr)) xnm0 xnm0 (by omega)) ?_
                refine xg_t (xg_iload (va := (0, 0)) rfl rfl) ?_
                refine xg_t (xg_iadd (u := 1 + (4 * kr)) (v := 0) (z := (1 + (4 * kr)) + 0) xnm0 xnm0 (by omega)) ?_
                refine xg_t (xg_aload (va := (2, 82)) rfl rfl) ?_
                obtain ⟨f82_315, f82_317, f82_319, f82_321, f82_323, f82_325, f82_327, f82_329, f82_331, f82_333, f82_335, f82_336, f82_337, f82_339, f82_341, f82_343, h82_345, hb316, hb318, hb320, hb322, hb324, hb326, hb328, hb330, hb332, hb334, hb338, hb340, hb342, hb344, hb346⟩ := (hI299 82 (by decide) (by decide) : cp82 (wget w297 82))
                replace hb318 := xHid.of hb318
                replace hb324 := xHid.of hb324
                replace hb328 := xHid.of hb328
                replace hb330 := xHid.of hb330
                replace hb334 := xHid.of hb334
                replace hb338 := xHid.of hb338
                replace hb340 := xHid.of hb340
                replace hb342 := xHid.of hb342
                replace hb344 := xHid.of hb344
                refine xg_t (xg_getf (va := (2, 113)) h82_345 rfl) ?_
                refine xg_t (xg_iload (va := (0, 0)) rfl rfl) ?_
                refine xg_ialdB (n := 0) (B := 4294967295) h113_313 (hb314) xnm0 (by omega) (fun u347 hu348 he349 => ?_)
                have hl350 : fld w297 82 14 = k := hk309.trans hln
                refine xg_cVv mX12_rulePuts (vs := [(0, (1 + (4 * kr)) + 0), (0, u347)]) (rest := []) (cn1 := 0) (sl1 := 0) rfl (mRulePuts (hI299) (by omega) (by omega) (by omega)) rfl h82_345 rfl rfl rfl rfl rfl rfl (fun w351 hq352 => ?_)
                obtain ⟨hI353, hF354, hx355⟩ := hq352
                have hro356 : RO2 w w351 k := fun l hl hn => ((hx355 (20 * l) (by omega)).2 (by omega)).trans ((RO2.fr hro92 hF300 (by decide)) l hl hn)
                clear hx355
                obtain ⟨g112_357, h112_358, hb359⟩ := (hI353 112 (by decide) (by decide) : cpI 320 79 4294967295 (wget w351 112))
                have h112_358 : xRow w351 112 320 79 g112_357 := h112_358
                refine xg_t (xg_iinc (u := 0) (z := 1) (l1 := [(0, (2, 82)), (1, (0, kr)), (2, (0, 1))]) rfl rfl (by decide) rfl) ?_
                refine xg_t (xg_goto) ?_
                refine xg_t (xg_blk (b := [(55, 1, 2, 3, 0, 0), (56, 1, 3, 4, 0, 0), (57, 3, 6, 88, 3, 0), (60, 1, 2, 1, 0, 0), (61, 1, 3, 4, 0, 0), (62, 3, 6, 88, 3, 0), (65, 1, 0, 0, 0, 0), (66, 1, 3, 1, 0, 0), (67, 1, 3, 4, 0, 0), (68, 1, 2, 1, 0, 0), (69, 1, 16, 0, 0, 0), (70, 1, 11, 0, 0, 0), (71, 1, 2, 3, 0, 0), (72, 1, 11, 0, 0, 0), (73, 1, 0, 0, 0, 0), (74, 3, 1, 12, 46, 102), (77, 1, 2, 3, 0, 0), (78, 1, 10, 0, 0, 0), (79, 3, 13, 214, 96, 424), (82, 3, 9, 3, 1, 0), (85, 3, 8, 55, 0, 0)]) rfl) ?_
                refine xg_t (xg_iload (va := (0, 1)) rfl rfl) ?_
                refine xg_t (xg_const) ?_
                refine xg_t (xg_icF (u := 1) (v := 4) rfl xnm0 xnm0 (by decide)) ?_
                refine xg_t (xg_iload (va := (0, kr)) rfl rfl) ?_
                refine xg_t (xg_const) ?_
                refine xg_t (xg_icF (u := kr) (v := 4) rfl xnm0 xnm0 (xj_geF (by omega) (by omega))) ?_
                refine xg_t (xg_aload (va := (2, 82)) rfl rfl) ?_
                refine xg_t (xg_const) ?_
                refine xg_t (xg_const) ?_
                refine xg_t (xg_iload (va := (0, kr)) rfl rfl) ?_
                refine xg_t (xg_imul (u := 4) (v := kr) (z := 4 * kr) xnm0 xnm0 (by omega)) ?_
                refine xg_t (xg_iadd (u := 1) (v := 4 * kr) (z := 1 + (4 * kr)) xnm0 xnm0 (by omega)) ?_
                refine xg_t (xg_iload (va := (0, 1)) rfl rfl) ?_
                refine xg_t (xg_iadd (u := 1 + (4 * kr)) (v := 1) (z := (1 + (4 * kr)) + 1) xnm0 xnm0 (by omega)) ?_
                refine xg_t (xg_aload (va := (2, 82)) rfl rfl) ?_
                refine xg_t (xg_getf (va := (2, 113)) (hF354.get (by decide) h82_345) rfl) ?_
                refine xg_t (xg_iload (va := (0, 1)) rfl rfl) ?_
                refine xg_ialdB (n := 1) (B := 4294967295) (h113_313.fr hF354 (by decide)) (hb314) xnm0 (by omega) (fun u360 hu361 he362 => ?_)
                have hl363 : fld w351 82 14 = k := ((fld_eq (j := 14) (hF354.1 82 (by decide))).trans hk309).trans hln
                refine xg_cVv mX12_rulePuts (vs := [(0, (1 + (4 * kr)) + 1), (0, u360)]) (rest := []) (cn1 := 0) (sl1 := 0) rfl (mRulePuts (hI353) (by omega) (by omega) (by omega)) rfl (hF354.get (by decide) h82_345) rfl rfl rfl rfl rfl rfl (fun w364 hq365 => ?_)
                obtain ⟨hI366, hF367, hx368⟩ := hq365
                have hro369 : RO2 w w364 k := fun l hl hn => ((hx368 (20 * l) (by omega)).2 (by omega)).trans (hro356 l hl hn)
                clear hx368
                obtain ⟨g112_370, h112_371, hb372⟩ := (hI366 112 (by decide) (by decide) : cpI 320 79 4294967295 (wget w364 112))
                have h112_371 : xRow w364 112 320 79 g112_370 := h112_371
                refine xg_t (xg_iinc (u := 1) (z := 2) (l1 := [(0, (2, 82)), (1, (0, kr)), (2, (0, 1))]) rfl rfl (by decide) rfl) ?_
                refine xg_t (xg_goto) ?_
                refine xg_t (xg_blk (b := [(55, 1, 2, 3, 0, 0), (56, 1, 3, 4, 0, 0), (57, 3, 6, 88, 3, 0), (60, 1, 2, 1, 0, 0), (61, 1, 3, 4, 0, 0), (62, 3, 6, 88, 3, 0), (65, 1, 0, 0, 0, 0), (66, 1, 3, 1, 0, 0), (67, 1, 3, 4, 0, 0), (68, 1, 2, 1, 0, 0), (69, 1, 16, 0, 0, 0), (70, 1, 11, 0, 0, 0), (71, 1, 2, 3, 0, 0), (72, 1, 11, 0, 0, 0), (73, 1, 0, 0, 0, 0), (74, 3, 1, 12, 46, 102), (77, 1, 2, 3, 0, 0), (78, 1, 10, 0, 0, 0), (79, 3, 13, 214, 96, 424), (82, 3, 9, 3, 1, 0), (85, 3, 8, 55, 0, 0)]) rfl) ?_
                refine xg_t (xg_iload (va := (0, 2)) rfl rfl) ?_
                refine xg_t (xg_const) ?_
                refine xg_t (xg_icF (u := 2) (v := 4) rfl xnm0 xnm0 (by decide)) ?_
                refine xg_t (xg_iload (va := (0, kr)) rfl rfl) ?_
                refine xg_t (xg_const) ?_
                refine xg_t (xg_icF (u := kr) (v := 4) rfl xnm0 xnm0 (xj_geF (by omega) (by omega))) ?_
                refine xg_t (xg_aload (va := (2, 82)) rfl rfl) ?_
                refine xg_t (xg_const) ?_
                refine xg_t (xg_const) ?_
                refine xg_t (xg_iload (va := (0, kr)) rfl rfl) ?_
                refine xg_t (xg_imul (u := 4) (v := kr) (z := 4 * kr) xnm0 xnm0 (by omega)) ?_
                refine xg_t (xg_iadd (u := 1) (v := 4 * kr) (z := 1 + (4 * kr)) xnm0 xnm0 (by omega)) ?_
                refine xg_t (xg_iload (va := (0, 2)) rfl rfl) ?_
                refine xg_t (xg_iadd (u := 1 + (4 * kr)) (v := 2) (z := (1 + (4 * kr)) + 2) xnm0 xnm0 (by omega)) ?_
                refine xg_t (xg_aload (va := (2, 82)) rfl rfl) ?_
                refine xg_t (xg_getf (va := (2, 113)) (hF367.get (by decide) (hF354.get (by decide) h82_345)) rfl) ?_
                refine xg_t (xg_iload (va := (0, 2)) rfl rfl) ?_
                refine xg_ialdB (n := 2) (B := 4294967295) ((h113_313.fr hF354 (by decide)).fr hF367 (by decide)) (hb314) xnm0 (by omega) (fun u373 hu374 he375 => ?_)
                have hl376 : fld w364 82 14 = k := ((fld_eq (j := 14) ((hF367.1 82 (by decide)).trans (hF354.1 82 (by decide)))).trans hk309).trans hln
                refine xg_cVv mX12_rulePuts (vs := [(0, (1 + (4 * kr)) + 2), (0, u373)]) (rest := []) (cn1 := 0) (sl1 := 0) rfl (mRulePuts (hI366) (by omega) (by omega) (by omega)) rfl (hF367.get (by decide) (hF354.get (by decide) h82_345)) rfl rfl rfl rfl rfl rfl (fun w377 hq378 => ?_)
                obtain ⟨hI379, hF380, hx381⟩ := hq378
                have hro382 : RO2 w w377 k := fun l hl hn => ((hx381 (20 * l) (by omega)).2 (by omega)).trans (hro369 l hl hn)
                clear hx381
                obtain ⟨g112_383, h112_384, hb385⟩ := (hI379 112 (by decide) (by decide) : cpI 320 79 4294967295 (wget w377 112))
                have h112_384 : xRow w377 112 320 79 g112_383 := h112_384
                refine xg_t (xg_iinc (u := 2) (z := 3) (l1 := [(0, (2, 82)), (1, (0, kr)), (2, (0, 1))]) rfl rfl (by decide) rfl) ?_
                refine xg_t (xg_goto) ?_
                refine xg_t (xg_blk (b := [(55, 1, 2, 3, 0, 0), (56, 1, 3, 4, 0, 0), (57, 3, 6, 88, 3, 0), (60, 1, 2, 1, 0, 0), (61, 1, 3, 4, 0, 0), (62, 3, 6, 88, 3, 0), (65, 1, 0, 0, 0, 0), (66, 1, 3, 1, 0, 0), (67, 1, 3, 4, 0, 0), (68, 1, 2, 1, 0, 0), (69, 1, 16, 0, 0, 0), (70, 1, 11, 0, 0, 0), (71, 1, 2, 3, 0, 0), (72, 1, 11, 0, 0, 0), (73, 1, 0, 0, 0, 0), (74, 3, 1, 12, 46, 102), (77, 1, 2, 3, 0, 0), (78, 1, 10, 0, 0, 0), (79, 3, 13, 214, 96, 424), (82, 3, 9, 3, 1, 0), (85, 3, 8, 55, 0, 0)]) rfl) ?_
                refine xg_t (xg_iload (va := (0, 3)) rfl rfl) ?_
                refine xg_t (xg_const) ?_
                refine xg_t (xg_icF (u := 3) (v := 4) rfl xnm0 xnm0 (by decide)) ?_
                refine xg_t (xg_iload (va := (0, kr)) rfl rfl) ?_
                refine xg_t (xg_const) ?_
                refine xg_t (xg_icF (u := kr) (v := 4) rfl xnm0 xnm0 (xj_geF (by omega) (by omega))) ?_
                refine xg_t (xg_aload (va := (2, 82)) rfl rfl) ?_
                refine xg_t (xg_const) ?_
                refine xg_t (xg_const) ?_
                refine xg_t (xg_iload (va := (0, kr)) rfl rfl) ?_
                refine xg_t (xg_imul (u := 4) (v := kr) (z := 4 * kr) xnm0 xnm0 (by omega)) ?_
                refine xg_t (xg_iadd (u := 1) (v := 4 * kr) (z := 1 + (4 * kr)) xnm0 xnm0 (by omega)) ?_
                refine xg_t (xg_iload (va := (0, 3)) rfl rfl) ?_
                refine xg_t (xg_iadd (u := 1 + (4 * kr)) (v := 3) (z := (1 + (4 * kr)) + 3) xnm0 xnm0 (by omega)) ?_
                refine xg_t (xg_aload (va := (2, 82)) rfl rfl) ?_
                refine xg_t (xg_getf (va := (2, 113)) (hF380.get (by decide) (hF367.get (by decide) (hF354.get (by decide) h82_345))) rfl) ?_
                refine xg_t (xg_iload (va := (0, 3)) rfl rfl) ?_
                refine xg_ialdB (n := 3) (B := 4294967295) (((h113_313.fr hF354 (by decide)).fr hF367 (by decide)).fr hF380 (by decide)) (hb314) xnm0 (by omega) (fun u386 hu387 he388 => ?_)
                have hl389 : fld w377 82 14 = k := ((fld_eq (j := 14) ((hF380.1 82 (by decide)).trans ((hF367.1 82 (by decide)).trans (hF354.1 82 (by decide))))).trans hk309).trans hln
                refine xg_cVv mX12_rulePuts (vs := [(0, (1 + (4 * kr)) + 3), (0, u386)]) (rest := []) (cn1 := 0) (sl1 := 0) rfl (mRulePuts (hI379) (by omega) (by omega) (by omega)) rfl (hF380.get (by decide) (hF367.get (by decide) (hF354.get (by decide) h82_345))) rfl rfl rfl rfl rfl rfl (fun w390 hq391 => ?_)
                obtain ⟨hI392, hF393, hx394⟩ := hq391
                have hro395 : RO2 w w390 k := fun l hl hn => ((hx394 (20 * l) (by omega)).2 (by omega)).trans (hro382 l hl hn)
                clear hx394
                obtain ⟨g112_396, h112_397, hb398⟩ := (hI392 112 (by decide) (by decide) : cpI 320 79 4294967295 (wget w390 112))
                have h112_397 : xRow w390 112 320 79 g112_396 := h112_397
                refine xg_t (xg_iinc (u := 3) (z := 4) (l1 := [(0, (2, 82)), (1, (0, kr)), (2, (0, 1))]) rfl rfl (by decide) rfl) ?_
                refine xg_t (xg_goto) ?_
                refine xg_t (xg_blk (b := [(55, 1, 2, 3, 0, 0), (56, 1, 3, 4, 0, 0), (57, 3, 6, 88, 3, 0), (60, 1, 2, 1, 0, 0), (61, 1, 3, 4, 0, 0), (62, 3, 6, 88, 3, 0), (65, 1, 0, 0, 0, 0), (66, 1, 3, 1, 0, 0), (67, 1, 3, 4, 0, 0), (68, 1, 2, 1, 0, 0), (69, 1, 16, 0, 0, 0), (70, 1, 11, 0, 0, 0), (71, 1, 2, 3, 0, 0), (72, 1, 11, 0, 0, 0), (73, 1, 0, 0, 0, 0), (74, 3, 1, 12, 46, 102), (77, 1, 2, 3, 0, 0), (78, 1, 10, 0, 0, 0), (79, 3, 13, 214, 96, 424), (82, 3, 9, 3, 1, 0), (85, 3, 8, 55, 0, 0)]) rfl) ?_
                refine xg_t (xg_iload (va := (0, 4)) rfl rfl) ?_
                refine xg_t (xg_const) ?_
                refine xg_t (xg_icT (u := 4) (v := 4) rfl xnm0 xnm0 (by decide)) ?_
                refine xg_t (xg_blk (b := [(88, 3, 9, 1, 1, 0), (91, 1, 0, 0, 0, 0), (92, 2, 4, 51, 0, 0), (94, 3, 13, 227, 96, 415), (97, 1, 15, 2, 0, 0), (98, 3, 8, 31, 0, 0)]) rfl) ?_
                refine xg_t (xg_iinc (u := kr) (z := kr + 1) (l1 := [(3, (0, 4)), (0, (2, 82)), (2, (0, 1))]) rfl rfl (by omega) rfl) ?_
                refine xg_t (xg_aload (va := (2, 82)) rfl rfl) ?_
                refine xg_t (xg_bip) ?_
                have hk399 := ((fld_eq (j := 14) ((hF393.1 82 (by decide)).trans ((hF380.1 82 (by decide)).trans ((hF367.1 82 (by decide)).trans (hF354.1 82 (by decide)))))).trans hk309)
                refine xg_cVi mX12_takes (vs := [(0, 51)]) (rest := []) (cn1 := 0) (sl1 := 0) rfl (mTakesX (hI392) (by omega) (hB.fr (fun j h4 h9 => (((((hK91.tr hn304).tr (K83.fr hF354 (by decide))).tr (K83.fr hF367 (by decide))).tr (K83.fr hF380 (by decide))).tr (K83.fr hF393 (by decide))) j (by omega) (by omega) (by omega))) (hT_306.fr ((hF393.1 82 (by decide)).trans ((hF380.1 82 (by decide)).trans ((hF367.1 82 (by decide)).trans (hF354.1 82 (by decide)))))) ((fld_eq (j := 10) ((hF393.1 82 (by decide)).trans ((hF380.1 82 (by decide)).trans ((hF367.1 82 (by decide)).trans (hF354.1 82 (by decide)))))).trans k10_307)) rfl (hF393.get (by decide) (hF380.get (by decide) (hF367.get (by decide) (hF354.get (by decide) h82_345)))) rfl rfl rfl rfl rfl rfl (fun n404 w400 hq401 => ?_)
                obtain ⟨hn405, hI402, hF403⟩ := hq401
                obtain ⟨hz406, hz407, hz408⟩ := hn405
                have k14_411 := hz408.trans hk399
                rcases hz406 with ⟨rfl, hx409, hx410⟩ | ⟨rfl, hx409, hx410⟩
                · obtain ⟨p_412, hp413⟩ : ∃ x, x = tf B nn r_310 := ⟨_, rfl⟩
                  rw [← hp413] at hx410
                  refine xg_t (xg_istore (l1 := [(1, (0, kr + 1)), (3, (0, 4)), (0, (2, 82))]) rfl rfl rfl) ?_
                  refine xg_t (xg_goto) ?_
                  refine xg_t (xg_drop (l1 := [(0, (2, 82)), (1, (0, kr + 1)), (2, (0, 1))]) (List.forall_mem_cons.mpr ⟨List.mem_cons_of_mem _ (List.mem_cons_of_mem _ (List.mem_cons_of_mem _ (List.mem_cons_self))), List.forall_mem_cons.mpr ⟨List.mem_cons_of_mem _ (List.mem_cons_self), List.forall_mem_cons.mpr ⟨List.mem_cons_self, fun _ h => absurd h List.not_mem_nil⟩⟩⟩)) ?_
                  have hle415 := rtR_and (B := B) (n := nn) (p := q_100) hqn121 (by rw [← hr311]; exact hx409)
                  rw [← hr311, ← hp413] at hle415
                  have hfi414 : fpi g_292 p_412 := by
                    rw [hg293, hp413, hr311]
                    exact hfi105.rgi (Nat.le_of_lt (rtR_and (B := B) (n := nn) hqn121 (by rw [← hr311]; exact hx409)).1) (rtR_q hqn121)
                  exact ih80 (kr + 1) 1 w400 (by omega) (by omega) (by omega) (hI402) (((((((hF84.tr (hF300.up (by decide))).tr (hF354.up (by decide))).tr (hF367.up (by decide))).tr (hF380.up (by decide))).tr (hF393.up (by decide))).tr (hF403.up (by decide)))) (⟨Or.inl ⟨rfl, p_412, g_292, hx410, hz407, (hF_294.k83 (rwv_eq ((hF403.1 83 (by decide)).trans ((hF393.1 83 (by decide)).trans ((hF380.1 83 (by decide)).trans ((hF367.1 83 (by decide)).trans ((hF354.1 83 (by decide)).trans he308)))))) (rwv_eq ((hF403.1 83 (by decide)).trans ((hF393.1 83 (by decide)).trans ((hF380.1 83 (by decide)).trans ((hF367.1 83 (by decide)).trans ((hF354.1 83 (by decide)).trans he308))))))), hfi414, by omega, hk4295, by rw [← heq108, rs_and hqn121 hy305 (by rw [← hr311]; exact hx409), ← hr311, ← hp413, ← hg293]⟩, ((((((hK91.tr hn304).tr (K83.fr hF354 (by decide))).tr (K83.fr hF367 (by decide))).tr (K83.fr hF380 (by decide))).tr (K83.fr hF393 (by decide))).tr (K83.fr hF403 (by decide))), (RO2.fr hro395 hF403 (by decide)), k14_411⟩)
                · refine xg_t (xg_istore (l1 := [(1, (0, kr + 1)), (3, (0, 4)), (0, (2, 82))]) rfl rfl rfl) ?_
                  refine xg_t (xg_goto) ?_
                  refine xg_t (xg_drop (l1 := [(0, (2, 82)), (1, (0, kr + 1)), (2, (0, 0))]) (List.forall_mem_cons.mpr ⟨List.mem_cons_of_mem _ (List.mem_cons_of_mem _ (List.mem_cons_of_mem _ (List.mem_cons_self))), List.forall_mem_cons.mpr ⟨List.mem_cons_of_mem _ (List.mem_cons_self), List.forall_mem_cons.mpr ⟨List.mem_cons_self, fun _ h => absurd h List.not_mem_nil⟩⟩⟩)) ?_
                  exact ih80 (kr + 1) 0 w400 (by omega) (by omega) (by omega) (hI402) (((((((hF84.tr (hF300.up (by decide))).tr (hF354.up (by decide))).tr (hF367.up (by decide))).tr (hF380.up (by decide))).tr (hF393.up (by decide))).tr (hF403.up (by decide)))) (⟨Or.inr (Or.inl ⟨rfl, r_310, g_292, hx410, hz407, (hF_294.k83 (rwv_eq ((hF403.1 83 (by decide)).trans ((hF393.1 83 (by decide)).trans ((hF380.1 83 (by decide)).trans ((hF367.1 83 (by decide)).trans ((hF354.1 83 (by decide)).trans he308)))))) (rwv_eq ((hF403.1 83 (by decide)).trans ((hF393.1 83 (by decide)).trans ((hF380.1 83 (by decide)).trans ((hF367.1 83 (by decide)).trans ((hF354.1 83 (by decide)).trans he308))))))), hk4295, fun z => by rw [← heq108, rs_col hy305 (by rw [← hr311]; exact z), ← hr311, ← hg293], fun z => by rw [← heq108, rs_bad hy305 (by rw [← hr311]; exact hx409) (by rw [← hr311]; exact z), ← hr311, ← hg293]⟩), ((((((hK91.tr hn304).tr (K83.fr hF354 (by decide))).tr (K83.fr hF367 (by decide))).tr (K83.fr hF380 (by decide))).tr (K83.fr hF393 (by decide))).tr (K83.fr hF403 (by decide))), (RO2.fr hro395 hF403 (by decide)), k14_411⟩)
              · refine xg_t (xg_const) ?_
                refine xg_t (xg_istore (l1 := [(0, (2, 82)), (1, (0, kr)), (2, (0, 1))]) rfl rfl rfl) ?_
                refine xg_t (xg_blk (b := [(55, 1, 2, 3, 0, 0), (56, 1, 3, 4, 0, 0), (57, 3, 6, 88, 3, 0), (60, 1, 2, 1, 0, 0), (61, 1, 3, 4, 0, 0), (62, 3, 6, 88, 3, 0), (65, 1, 0, 0, 0, 0), (66, 1, 3, 1, 0, 0), (67, 1, 3, 4, 0, 0), (68, 1, 2, 1, 0, 0), (69, 1, 16, 0, 0, 0), (70, 1, 11, 0, 0, 0), (71, 1, 2, 3, 0, 0), (72, 1, 11, 0, 0, 0), (73, 1, 0, 0, 0, 0), (74, 3, 1, 12, 46, 102), (77, 1, 2, 3, 0, 0), (78, 1, 10, 0, 0, 0), (79, 3, 13, 214, 96, 424), (82, 3, 9, 3, 1, 0), (85, 3, 8, 55, 0, 0)]) rfl) ?_
                refine xg_t (xg_iload (va := (0, 0)) rfl rfl) ?_
                refine xg_t (xg_const) ?_
                refine xg_t (xg_icF (u := 0) (v := 4) rfl xnm0 xnm0 (by decide)) ?_
                refine xg_t (xg_iload (va := (0, kr)) rfl rfl) ?_
                refine xg_t (xg_const) ?_
                refine xg_t (xg_icF (u := kr) (v := 4) rfl xnm0 xnm0 (xj_geF (by omega) (by omega))) ?_
                refine xg_t (xg_aload (va := (2, 82)) rfl rfl) ?_
                refine xg_t (xg_const) ?_
                refine xg_t (xg_const) ?_
                refine xg_t (xg_iload (va := (0, kr)) rfl rfl) ?_
                refine xg_t (xg_imul (u := 4) (v := kr) (z := 4 * kr) xnm0 xnm0 (by omega)) ?_
                refine xg_t (xg_iadd (u := 1) (v := 4 * kr) (z := 1 + (4 * kr)) xnm0 xnm0 (by omega)) ?_
                refine xg_t (xg_iload (va := (0, 0)) rfl rfl) ?_
                refine xg_t (xg_iadd (u := 1 + (4 * kr)) (v := 0) (z := (1 + (4 * kr)) + 0) xnm0 xnm0 (by omega)) ?_
                refine xg_t (xg_aload (va := (2, 82)) rfl rfl) ?_
                obtain ⟨f82_416, f82_418, f82_420, f82_422, f82_424, f82_426, f82_428, f82_430, f82_432, f82_434, f82_436, f82_437, f82_438, f82_440, f82_442, f82_444, h82_446, hb417, hb419, hb421, hb423, hb425, hb427, hb429, hb431, hb433, hb435, hb439, hb441, hb443, hb445, hb447⟩ := (hI299 82 (by decide) (by decide) : cp82 (wget w297 82))
                replace hb419 := xHid.of hb419
                replace hb425 := xHid.of hb425
                replace hb429 := xHid.of hb429
                replace hb431 := xHid.of hb431
                replace hb435 := xHid.of hb435
                replace hb439 := xHid.of hb439
                replace hb441 := xHid.of hb441
                replace hb443 := xHid.of hb443
                replace hb445 := xHid.of hb445
                refine xg_t (xg_getf (va := (2, 113)) h82_446 rfl) ?_
                refine xg_t (xg_iload (va := (0, 0)) rfl rfl) ?_
                refine xg_ialdB (n := 0) (B := 4294967295) h113_313 (hb314) xnm0 (by omega) (fun u448 hu449 he450 => ?_)
                have hl451 : fld w297 82 14 = k := hk309.trans hln
                refine xg_cVv mX12_rulePuts (vs := [(0, (1 + (4 * kr)) + 0), (0, u448)]) (rest := []) (cn1 := 0) (sl1 := 0) rfl (mRulePuts (hI299) (by omega) (by omega) (by omega)) rfl h82_446 rfl rfl rfl rfl rfl rfl (fun w452 hq453 => ?_)
                obtain ⟨hI454, hF455, hx456⟩ := hq453
                have hro457 : RO2 w w452 k := fun l hl hn => ((hx456 (20 * l) (by omega)).2 (by omega)).trans ((RO2.fr hro92 hF300 (by decide)) l hl hn)
                clear hx456
                obtain ⟨g112_458, h112_459, hb460⟩ := (hI454 112 (by decide) (by decide) : cpI 320 79 4294967295 (wget w452 112))
                have h112_459 : xRow w452 112 320 79 g112_458 := h112_459
                refine xg_t (xg_iinc (u := 0) (z := 1) (l1 := [(0, (2, 82)), (1, (0, kr)), (2, (0, 1))]) rfl rfl (by decide) rfl) ?_
                refine xg_t (xg_goto) ?_
                refine xg_t (xg_blk (b := [(55, 1, 2, 3, 0, 0), (56, 1, 3, 4, 0, 0), (57, 3, 6, 88, 3, 0), (60, 1, 2, 1, 0, 0), (61, 1, 3, 4, 0, 0), (62, 3, 6, 88, 3, 0), (65, 1, 0, 0, 0, 0), (66, 1, 3, 1, 0, 0), (67, 1, 3, 4, 0, 0), (68, 1, 2, 1, 0, 0), (69, 1, 16, 0, 0, 0), (70, 1, 11, 0, 0, 0), (71, 1, 2, 3, 0, 0), (72, 1, 11, 0, 0, 0), (73, 1, 0, 0, 0, 0), (74, 3, 1, 12, 46, 102), (77, 1, 2, 3, 0, 0), (78, 1, 10, 0, 0, 0), (79, 3, 13, 214, 96, 424), (82, 3, 9, 3, 1, 0), (85, 3, 8, 55, 0, 0)]) rfl) ?_
                refine xg_t (xg_iload (va := (0, 1)) rfl rfl) ?_
                refine xg_t (xg_const) ?_
                refine xg_t (xg_icF (u := 1) (v := 4) rfl xnm0 xnm0 (by decide)) ?_
                refine xg_t (xg_iload (va := (0, kr)) rfl rfl) ?_
                refine xg_t (xg_const) ?_
                refine xg_t (xg_icF (u := kr) (v := 4) rfl xnm0 xnm0 (xj_geF (by omega) (by omega))) ?_
                refine xg_t (xg_aload (va := (2, 82)) rfl rfl) ?_
                refine xg_t (xg_const) ?_
                refine xg_t (xg_const) ?_
                refine xg_t (xg_iload (va := (0, kr)) rfl rfl) ?_
                refine xg_t (xg_imul (u := 4) (v := kr) (z := 4 * kr) xnm0 xnm0 (by omega)) ?_
                refine xg_t (xg_iadd (u := 1) (v := 4 * kr) (z := 1 + (4 * kr)) xnm0 xnm0 (by omega)) ?_
                refine xg_t (xg_iload (va := (0, 1)) rfl rfl) ?_
                refine xg_t (xg_iadd (u := 1 + (4 * kr)) (v := 1) (z := (1 + (4 * kr)) + 1) xnm0 xnm0 (by omega)) ?_
                refine xg_t (xg_aload (va := (2, 82)) rfl rfl) ?_
                refine xg_t (xg_getf (va := (2, 113)) (hF455.get (by decide) h82_446) rfl) ?_
                refine xg_t (xg_iload (va := (0, 1)) rfl rfl) ?_
                refine xg_ialdB (n := 1) (B := 4294967295) (h113_313.fr hF455 (by decide)) (hb314) xnm0 (by omega) (fun u461 hu462 he463 => ?_)
                have hl464 : fld w452 82 14 = k := ((fld_eq (j := 14) (hF455.1 82 (by decide))).trans hk309).trans hln
                refine xg_cVv mX12_rulePuts (vs := [(0, (1 + (4 * kr)) + 1), (0, u461)]) (rest := []) (cn1 := 0) (sl1 := 0) rfl (mRulePuts (hI454) (by omega) (by omega) (by omega)) rfl (hF455.get (by decide) h82_446) rfl rfl rfl rfl rfl rfl (fun w465 hq466 => ?_)
                obtain ⟨hI467, hF468, hx469⟩ := hq466
                have hro470 : RO2 w w465 k := fun l hl hn => ((hx469 (20 * l) (by omega)).2 (by omega)).trans (hro457 l hl hn)
                clear hx469
                obtain ⟨g112_471, h112_472, hb473⟩ := (hI467 112 (by decide) (by decide) : cpI 320 79 4294967295 (wget w465 112))
                have h112_472 : xRow w465 112 320 79 g112_471 := h112_472
                refine xg_t (xg_iinc (u := 1) (z := 2) (l1 := [(0, (2, 82)), (1, (0, kr)), (2, (0, 1))]) rfl rfl (by decide) rfl) ?_
                refine xg_t (xg_goto) ?_
                refine xg_t (xg_blk (b := [(55, 1, 2, 3, 0, 0), (56, 1, 3, 4, 0, 0), (57, 3, 6, 88, 3, 0), (60, 1, 2, 1, 0, 0), (61, 1, 3, 4, 0, 0), (62, 3, 6, 88, 3, 0), (65, 1, 0, 0, 0, 0), (66, 1, 3, 1, 0, 0), (67, 1, 3, 4, 0, 0), (68, 1, 2, 1, 0, 0), (69, 1, 16, 0, 0, 0), (70, 1, 11, 0, 0, 0), (71, 1, 2, 3, 0, 0), (72, 1, 11, 0, 0, 0), (73, 1, 0, 0, 0, 0), (74, 3, 1, 12, 46, 102), (77, 1, 2, 3, 0, 0), (78, 1, 10, 0, 0, 0), (79, 3, 13, 214, 96, 424), (82, 3, 9, 3, 1, 0), (85, 3, 8, 55, 0, 0)]) rfl) ?_
                refine xg_t (xg_iload (va := (0, 2)) rfl rfl) ?_
                refine xg_t (xg_const) ?_
                refine xg_t (xg_icF (u := 2) (v := 4) rfl xnm0 xnm0 (by decide)) ?_
                refine xg_t (xg_iload (va := (0, kr)) rfl rfl) ?_
                refine xg_t (xg_const) ?_
                refine xg_t (xg_icF (u := kr) (v := 4) rfl xnm0 xnm0 (xj_geF (by omega) (by omega))) ?_
                refine xg_t (xg_aload (va := (2, 82)) rfl rfl) ?_
                refine xg_t (xg_const) ?_
                refine xg_t (xg_const) ?_
                refine xg_t (xg_iload (va := (0, kr)) rfl rfl) ?_
                refine xg_t (xg_imul (u := 4) (v := kr) (z := 4 * kr) xnm0 xnm0 (by omega)) ?_
                refine xg_t (xg_iadd (u := 1) (v := 4 * kr) (z := 1 + (4 * kr)) xnm0 xnm0 (by omega)) ?_
                refine xg_t (xg_iload (va := (0, 2)) rfl rfl) ?_
                refine xg_t (xg_iadd (u := 1 + (4 * kr)) (v := 2) (z := (1 + (4 * kr)) + 2) xnm0 xnm0 (by omega)) ?_
                refine xg_t (xg_aload (va := (2, 82)) rfl rfl) ?_
                refine xg_t (xg_getf (va := (2, 113)) (hF468.get (by decide) (hF455.get (by decide) h82_446)) rfl) ?_
                refine xg_t (xg_iload (va := (0, 2)) rfl rfl) ?_
                refine xg_ialdB (n := 2) (B := 4294967295) ((h113_313.fr hF455 (by decide)).fr hF468 (by decide)) (hb314) xnm0 (by omega) (fun u474 hu475 he476 => ?_)
                have hl477 : fld w465 82 14 = k := ((fld_eq (j := 14) ((hF468.1 82 (by decide)).trans (hF455.1 82 (by decide)))).trans hk309).trans hln
                refine xg_cVv mX12_rulePuts (vs := [(0, (1 + (4 * kr)) + 2), (0, u474)]) (rest := []) (cn1 := 0) (sl1 := 0) rfl (mRulePuts (hI467) (by omega) (by omega) (by omega)) rfl (hF468.get (by decide) (hF455.get (by decide) h82_446)) rfl rfl rfl rfl rfl rfl (fun w478 hq479 => ?_)
                obtain ⟨hI480, hF481, hx482⟩ := hq479
                have hro483 : RO2 w w478 k := fun l hl hn => ((hx482 (20 * l) (by omega)).2 (by omega)).trans (hro470 l hl hn)
                clear hx482
                obtain ⟨g112_484, h112_485, hb486⟩ := (hI480 112 (by decide) (by decide) : cpI 320 79 4294967295 (wget w478 112))
                have h112_485 : xRow w478 112 320 79 g112_484 := h112_485
                refine xg_t (xg_iinc (u := 2) (z := 3) (l1 := [(0, (2, 82)), (1, (0, kr)), (2, (0, 1))]) rfl rfl (by decide) rfl) ?_
                refine xg_t (xg_goto) ?_
                refine xg_t (xg_blk (b := [(55, 1, 2, 3, 0, 0), (56, 1, 3, 4, 0, 0), (57, 3, 6, 88, 3, 0), (60, 1, 2, 1, 0, 0), (61, 1, 3, 4, 0, 0), (62, 3, 6, 88, 3, 0), (65, 1, 0, 0, 0, 0), (66, 1, 3, 1, 0, 0), (67, 1, 3, 4, 0, 0), (68, 1, 2, 1, 0, 0), (69, 1, 16, 0, 0, 0), (70, 1, 11, 0, 0, 0), (71, 1, 2, 3, 0, 0), (72, 1, 11, 0, 0, 0), (73, 1, 0, 0, 0, 0), (74, 3, 1, 12, 46, 102), (77, 1, 2, 3, 0, 0), (78, 1, 10, 0, 0, 0), (79, 3, 13, 214, 96, 424), (82, 3, 9, 3, 1, 0), (85, 3, 8, 55, 0, 0)]) rfl) ?_
                refine xg_t (xg_iload (va := (0, 3)) rfl rfl) ?_
                refine xg_t (xg_const) ?_
                refine xg_t (xg_icF (u := 3) (v := 4) rfl xnm0 xnm0 (by decide)) ?_
                refine xg_t (xg_iload (va := (0, kr)) rfl rfl) ?_
                refine xg_t (xg_const) ?_
                refine xg_t (xg_icF (u := kr) (v := 4) rfl xnm0 xnm0 (xj_geF (by omega) (by omega))) ?_
                refine xg_t (xg_aload (va := (2, 82)) rfl rfl) ?_
                refine xg_t (xg_const) ?_
                refine xg_t (xg_const) ?_
                refine xg_t (xg_iload (va := (0, kr)) rfl rfl) ?_
                refine xg_t (xg_imul (u := 4) (v := kr) (z := 4 * kr) xnm0 xnm0 (by omega)) ?_
                refine xg_t (xg_iadd (u := 1) (v := 4 * kr) (z := 1 + (4 * kr)) xnm0 xnm0 (by omega)) ?_
                refine xg_t (xg_iload (va := (0, 3)) rfl rfl) ?_
                refine xg_t (xg_iadd (u := 1 + (4 * kr)) (v := 3) (z := (1 + (4 * kr)) + 3) xnm0 xnm0 (by omega)) ?_
                refine xg_t (xg_aload (va := (2, 82)) rfl rfl) ?_
                refine xg_t (xg_getf (va := (2, 113)) (hF481.get (by decide) (hF468.get (by decide) (hF455.get (by decide) h82_446))) rfl) ?_
                refine xg_t (xg_iload (va := (0, 3)) rfl rfl) ?_
                refine xg_ialdB (n := 3) (B := 4294967295) (((h113_313.fr hF455 (by decide)).fr hF468 (by decide)).fr hF481 (by decide)) (hb314) xnm0 (by omega) (fun u487 hu488 he489 => ?_)
                have hl490 : fld w478 82 14 = k := ((fld_eq (j := 14) ((hF481.1 82 (by decide)).trans ((hF468.1 82 (by decide)).trans (hF455.1 82 (by decide))))).trans hk309).trans hln
                refine xg_cVv mX12_rulePuts (vs := [(0, (1 + (4 * kr)) + 3), (0, u487)]) (rest := []) (cn1 := 0) (sl1 := 0) rfl (mRulePuts (hI480) (by omega) (by omega) (by omega)) rfl (hF481.get (by decide) (hF468.get (by decide) (hF455.get (by decide) h82_446))) rfl rfl rfl rfl rfl rfl (fun w491 hq492 => ?_)
                obtain ⟨hI493, hF494, hx495⟩ := hq492
                have hro496 : RO2 w w491 k := fun l hl hn => ((hx495 (20 * l) (by omega)).2 (by omega)).trans (hro483 l hl hn)
                clear hx495
                obtain ⟨g112_497, h112_498, hb499⟩ := (hI493 112 (by decide) (by decide) : cpI 320 79 4294967295 (wget w491 112))
                have h112_498 : xRow w491 112 320 79 g112_497 := h112_498
                refine xg_t (xg_iinc (u := 3) (z := 4) (l1 := [(0, (2, 82)), (1, (0, kr)), (2, (0, 1))]) rfl rfl (by decide) rfl) ?_
                refine xg_t (xg_goto) ?_
                refine xg_t (xg_blk (b := [(55, 1, 2, 3, 0, 0), (56, 1, 3, 4, 0, 0), (57, 3, 6, 88, 3, 0), (60, 1, 2, 1, 0, 0), (61, 1, 3, 4, 0, 0), (62, 3, 6, 88, 3, 0), (65, 1, 0, 0, 0, 0), (66, 1, 3, 1, 0, 0), (67, 1, 3, 4, 0, 0), (68, 1, 2, 1, 0, 0), (69, 1, 16, 0, 0, 0), (70, 1, 11, 0, 0, 0), (71, 1, 2, 3, 0, 0), (72, 1, 11, 0, 0, 0), (73, 1, 0, 0, 0, 0), (74, 3, 1, 12, 46, 102), (77, 1, 2, 3, 0, 0), (78, 1, 10, 0, 0, 0), (79, 3, 13, 214, 96, 424), (82, 3, 9, 3, 1, 0), (85, 3, 8, 55, 0, 0)]) rfl) ?_
                refine xg_t (xg_iload (va := (0, 4)) rfl rfl) ?_
                refine xg_t (xg_const) ?_
                refine xg_t (xg_icT (u := 4) (v := 4) rfl xnm0 xnm0 (by decide)) ?_
                refine xg_t (xg_blk (b := [(88, 3, 9, 1, 1, 0), (91, 1, 0, 0, 0, 0), (92, 2, 4, 51, 0, 0), (94, 3, 13, 227, 96, 415), (97, 1, 15, 2, 0, 0), (98, 3, 8, 31, 0, 0)]) rfl) ?_
                refine xg_t (xg_iinc (u := kr) (z := kr + 1) (l1 := [(3, (0, 4)), (0, (2, 82)), (2, (0, 1))]) rfl rfl (by omega) rfl) ?_
                refine xg_t (xg_aload (va := (2, 82)) rfl rfl) ?_
                refine xg_t (xg_bip) ?_
                refine xg_cVi mX12_takes (vs := [(0, 51)]) (rest := []) (cn1 := 0) (sl1 := 0) rfl (mTakesW (hI493) (by omega) (by have q := hT_306.1; have q2 := fld_eq (j := 10) ((hF494.1 82 (by decide)).trans ((hF481.1 82 (by decide)).trans ((hF468.1 82 (by decide)).trans (hF455.1 82 (by decide))))); omega)) rfl (hF494.get (by decide) (hF481.get (by decide) (hF468.get (by decide) (hF455.get (by decide) h82_446)))) rfl rfl rfl rfl rfl rfl (fun n504 w500 hq501 => ?_)
                obtain ⟨hn505, hI502, hF503⟩ := hq501
                subst hn505
                refine xg_t (xg_istore (l1 := [(1, (0, kr + 1)), (3, (0, 4)), (0, (2, 82))]) rfl rfl rfl) ?_
                refine xg_t (xg_goto) ?_
                refine xg_t (xg_drop (l1 := [(0, (2, 82)), (1, (0, kr + 1)), (2, (0, 0))]) (List.forall_mem_cons.mpr ⟨List.mem_cons_of_mem _ (List.mem_cons_of_mem _ (List.mem_cons_of_mem _ (List.mem_cons_self))), List.forall_mem_cons.mpr ⟨List.mem_cons_of_mem _ (List.mem_cons_self), List.forall_mem_cons.mpr ⟨List.mem_cons_self, fun _ h => absurd h List.not_mem_nil⟩⟩⟩)) ?_
                have hW_506 : WRG w500 (tq B nn r_310) := ⟨(fld_eq (j := 10) ((hF503.1 82 (by decide)).trans ((hF494.1 82 (by decide)).trans ((hF481.1 82 (by decide)).trans ((hF468.1 82 (by decide)).trans (hF455.1 82 (by decide))))))).trans hT_306.1, (rwv_eq ((hF503.1 83 (by decide)).trans ((hF494.1 83 (by decide)).trans ((hF481.1 83 (by decide)).trans ((hF468.1 83 (by decide)).trans (hF455.1 83 (by decide))))))).trans hT_306.2.1, (rwv_eq ((hF503.1 83 (by decide)).trans ((hF494.1 83 (by decide)).trans ((hF481.1 83 (by decide)).trans ((hF468.1 83 (by decide)).trans (hF455.1 83 (by decide))))))).trans hT_306.2.2⟩
                exact ih80 (kr + 1) 0 w500 (by omega) (by omega) (by omega) (hI502) (((((((hF84.tr (hF300.up (by decide))).tr (hF455.up (by decide))).tr (hF468.up (by decide))).tr (hF481.up (by decide))).tr (hF494.up (by decide))).tr (hF503.up (by decide)))) (⟨Or.inr (Or.inr ⟨rfl, r_310, g_292, hW_506, by rw [← heq108, rs_no hy305, ← hr311, ← hg293]⟩), ((((((hK91.tr hn304).tr (K83.fr hF455 (by decide))).tr (K83.fr hF468 (by decide))).tr (K83.fr hF481 (by decide))).tr (K83.fr hF494 (by decide))).tr (K83.fr hF503 (by decide))), (RO2.fr hro496 hF503 (by decide)), ((fld_eq (j := 14) ((hF503.1 82 (by decide)).trans ((hF494.1 82 (by decide)).trans ((hF481.1 82 (by decide)).trans ((hF468.1 82 (by decide)).trans (hF455.1 82 (by decide))))))).trans hk309)⟩)
          · refine xg_t (xg_iload (va := (0, 0)) rfl rfl) ?_
            refine xg_t (xg_ifT (u := 0) rfl xnm0 (by decide)) ?_
            refine xg_t (xg_blk (b := [(101, 1, 0, 0, 0, 0), (102, 2, 4, 58, 0, 0), (104, 3, 13, 195, 96, 427)]) rfl) ?_
            refine xg_t (xg_aload (va := (2, 82)) rfl rfl) ?_
            refine xg_t (xg_bip) ?_
            have hk507 := h14_93
            obtain ⟨f82_508, f82_510, f82_512, f82_514, f82_516, f82_518, f82_520, f82_522, f82_524, f82_526, f82_528, f82_529, f82_530, f82_532, f82_534, f82_536, h82_538, hb509, hb511, hb513, hb515, hb517, hb519, hb521, hb523, hb525, hb527, hb531, hb533, hb535, hb537, hb539⟩ := (hI83 82 (by decide) (by decide) : cp82 (wget w82 82))
            replace hb511 := xHid.of hb511
            replace hb517 := xHid.of hb517
            replace hb521 := xHid.of hb521
            replace hb523 := xHid.of hb523
            replace hb527 := xHid.of hb527
            replace hb531 := xHid.of hb531
            replace hb533 := xHid.of hb533
            replace hb535 := xHid.of hb535
            replace hb537 := xHid.of hb537
            refine xg_cVv mX12_must (vs := [(0, 58)]) (rest := []) (cn1 := 0) (sl1 := 0) rfl (mMustX (hI83) (by omega) (hB.fr (fun j h4 h9 => hK91 j (by omega) (by omega) (by omega))) hT_111 k10_112) rfl h82_538 rfl rfl rfl rfl rfl rfl (fun w540 hq541 => ?_)
            obtain ⟨hI542, hF543, hx544⟩ := hq541
            obtain ⟨hn545, hn546, hn547⟩ := hx544
            have hk552 := hn546.trans hk507
            rcases hn545 with ⟨hx548, hx549, hx550, hx551⟩ | ⟨hx548, hx549⟩
            · obtain ⟨p_553, hp554⟩ : ∃ x, x = tf B nn q_109 := ⟨_, rfl⟩
              rw [← hp554] at hx549
              have heq556 : rs B nn 0 (tf B nn p) (rlg B nn k p fp) = (true, p_553, f_110) := by rw [← hg61, ← hp78, he1115 hx548, ← hp554]
              have hE555 : (rlR B nn k p fp) = rvR B nn p_553 f_110 := (rlR_1 hx74 (congrArg Prod.fst heq556)).trans (congrArg (fun t : Bool × Nat × (Nat × Nat) => rvR B nn t.2.1 t.2.2) heq556)
              refine xg_t (xg_drop (l1 := [(0, (2, 82)), (1, (0, kr))]) (List.forall_mem_cons.mpr ⟨List.mem_cons_self, List.forall_mem_cons.mpr ⟨List.mem_cons_of_mem _ (List.mem_cons_self), fun _ h => absurd h List.not_mem_nil⟩⟩)) ?_
              have hl557 : fld w540 82 14 = k := hk552.trans hln
              have hro558 : RO2 w w540 k := (RO2.fr hro92 hF543 (by decide))
              have hF_559 : FP w540 f_110 := (hF_113.k83 (rwv_eq hx551) (rwv_eq hx551))
              refine (mRuleTX (fp := f_110) (hI542) (hB.fr (fun j h4 h9 => (hK91.tr hn547) j (by omega) (by omega) (by omega))) hx549 hx550 (by omega) (by omega)).imp (fun φ h => ?_)
              obtain ⟨w', e1, e2, e3, e4, e5⟩ := h
              refine ⟨w', e1, e2, ((hF84.tr (hF543.up (by decide)))).tr (e3.up (by decide)), ?_, ((hK91.tr hn547)).tr e5⟩
              rcases e4 with ⟨a1, a2, a3, a4, a5, a6, a7⟩ | ⟨a1, a2, a3⟩
              · have a4' : fld w' 82 14 = k + 1 := by omega
                refine Or.inl ⟨by rw [hE555]; exact a1, by rw [hE555]; exact a2, a3, a4', by rw [hE555, rvR_f]; exact hF_559.k83 (rwv_eq a5) (rwv_eq a5), fun z hd => ?_⟩
                by_cases y : 16 ≤ k
                · exact absurd z (rlR_nz y)
                · rw [hE555, rvR_f] at z
                  have q := a7 (by omega)
                  rw [hl557] at q a6
                  exact hd.up hln a4' (by omega) (fun l hl hn => (a6 l hl hn).trans (hro558 l hl hn)) q (hk4114 z)
              · exact Or.inr ⟨by rw [hE555]; exact a1, by rw [hE555]; exact a2, by omega⟩
            · have heq561 : rs B nn 0 (tf B nn p) (rlg B nn k p fp) = (false, q_109, f_110) := by rw [← hg61, ← hp78, he2116 hx548]
              have hE560 : (rlR B nn k p fp) = (false, q_109, f_110) := (rlR_2 hx74 (congrArg Prod.fst heq561)).trans heq561
              refine xg_t (xg_drop (l1 := [(0, (2, 82)), (1, (0, kr))]) (List.forall_mem_cons.mpr ⟨List.mem_cons_self, List.forall_mem_cons.mpr ⟨List.mem_cons_of_mem _ (List.mem_cons_self), fun _ h => absurd h List.not_mem_nil⟩⟩)) ?_
              have hl562 : fld w540 82 14 = k := hk552.trans hln
              have hW_563 : WRG w540 (tq B nn q_109) := hx549
              refine (mRuleTW (hI542) (by have q := hW_563.1; omega)).imp (fun φ h => ?_)
              obtain ⟨w', e1, e2, e3, -⟩ := h
              refine ⟨w', e1, e2, ((hF84.tr (hF543.up (by decide)))).tr (e3.up (by decide)), Or.inr ⟨congrArg Prod.fst hE560, by rw [hE560]; exact ⟨(fld_fr e3 (by decide)).trans hW_563.1, (rwv_fr e3 (by decide)).trans hW_563.2.1, (rwv_fr e3 (by decide)).trans hW_563.2.2⟩, Or.inl ((fld_fr e3 (by decide)).trans hl562)⟩, ((hK91.tr hn547)).tr (K83.fr e3 (by decide))⟩
          · refine xg_t (xg_iload (va := (0, 0)) rfl rfl) ?_
            refine xg_t (xg_ifT (u := 0) rfl xnm0 (by decide)) ?_
            refine xg_t (xg_blk (b := [(101, 1, 0, 0, 0, 0), (102, 2, 4, 58, 0, 0), (104, 3, 13, 195, 96, 427)]) rfl) ?_
            refine xg_t (xg_aload (va := (2, 82)) rfl rfl) ?_
            refine xg_t (xg_bip) ?_
            obtain ⟨f82_564, f82_566, f82_568, f82_570, f82_572, f82_574, f82_576, f82_578, f82_580, f82_582, f82_584, f82_585, f82_586, f82_588, f82_590, f82_592, h82_594, hb565, hb567, hb569, hb571, hb573, hb575, hb577, hb579, hb581, hb583, hb587, hb589, hb591, hb593, hb595⟩ := (hI83 82 (by decide) (by decide) : cp82 (wget w82 82))
            replace hb567 := xHid.of hb567
            replace hb573 := xHid.of hb573
            replace hb577 := xHid.of hb577
            replace hb579 := xHid.of hb579
            replace hb583 := xHid.of hb583
            replace hb587 := xHid.of hb587
            replace hb589 := xHid.of hb589
            replace hb591 := xHid.of hb591
            replace hb593 := xHid.of hb593
            refine xg_cVv mX12_must (vs := [(0, 58)]) (rest := []) (cn1 := 0) (sl1 := 0) rfl (mMustW (hI83) (by omega) (by have q := hW_119.1; omega)) rfl h82_594 rfl rfl rfl rfl rfl rfl (fun w596 hq597 => ?_)
            obtain ⟨hI598, hF599⟩ := hq597
            have heq601 : rs B nn 0 (tf B nn p) (rlg B nn k p fp) = (false, q_117, f_118) := by rw [← hg61, ← hp78]; exact heq120
            have hE600 : (rlR B nn k p fp) = (false, q_117, f_118) := (rlR_2 hx74 (congrArg Prod.fst heq601)).trans heq601
            refine xg_t (xg_drop (l1 := [(0, (2, 82)), (1, (0, kr))]) (List.forall_mem_cons.mpr ⟨List.mem_cons_self, List.forall_mem_cons.mpr ⟨List.mem_cons_of_mem _ (List.mem_cons_self), fun _ h => absurd h List.not_mem_nil⟩⟩)) ?_
            have hl602 : fld w596 82 14 = k := ((fld_eq (j := 14) (hF599.1 82 (by decide))).trans h14_93).trans hln
            have hW_603 : WRG w596 (tq B nn q_117) := ⟨(fld_eq (j := 10) (hF599.1 82 (by decide))).trans hW_119.1, (rwv_eq (hF599.1 83 (by decide))).trans hW_119.2.1, (rwv_eq (hF599.1 83 (by decide))).trans hW_119.2.2⟩
            refine (mRuleTW (hI598) (by have q := hW_603.1; omega)).imp (fun φ h => ?_)
            obtain ⟨w', e1, e2, e3, -⟩ := h
            refine ⟨w', e1, e2, ((hF84.tr (hF599.up (by decide)))).tr (e3.up (by decide)), Or.inr ⟨congrArg Prod.fst hE600, by rw [hE600]; exact ⟨(fld_fr e3 (by decide)).trans hW_603.1, (rwv_fr e3 (by decide)).trans hW_603.2.1, (rwv_fr e3 (by decide)).trans hW_603.2.2⟩, Or.inl ((fld_fr e3 (by decide)).trans hl602)⟩, ((hK91.tr (K83.fr hF599 (by decide)))).tr (K83.fr e3 (by decide))⟩
      exact key79 _ 0 1 w65 (Nat.lt_succ_self _) (by omega) (by omega) (hI67) ((hF68.up (by decide))) (⟨Or.inl ⟨rfl, _, _, hx75, hz72, (hF_62.k83 (rwv_eq (hF68.1 83 (by decide))) (rwv_eq (hF68.1 83 (by decide)))), hig85, Nat.zero_le _, fun _ => Nat.zero_le _, rfl⟩, (K83.fr hF68 (by decide)), (RO2.fr (fun l _ _ => rfl : RO2 w w k) hF68 (by decide)), k14_76⟩)
    · refine xg_t (xg_ifT (u := 0) rfl xnm0 (by decide)) ?_
      have hE604 : (rlR B nn k p fp) = rvR B nn p g_60 := by rw [rlR_0 hx74, ← hg61]
      refine xg_t (xg_drop (l1 := [(0, (2, 82)), (1, (0, 0))]) (List.forall_mem_cons.mpr ⟨List.mem_cons_of_mem _ (List.mem_cons_self), List.forall_mem_cons.mpr ⟨List.mem_cons_self, fun _ h => absurd h List.not_mem_nil⟩⟩)) ?_
      have hl605 : fld w65 82 14 = k := k14_76.trans hln
      have hro606 : RO2 w w65 k := (RO2.fr (fun l _ _ => rfl : RO2 w w k) hF68 (by decide))
      have hF_607 : FP w65 g_60 := (hF_62.k83 (rwv_eq (hF68.1 83 (by decide))) (rwv_eq (hF68.1 83 (by decide))))
      refine (mRuleTX (fp := g_60) (hI67) (hB.fr (fun j h4 h9 => (K83.fr hF68 (by decide)) j (by omega) (by omega) (by omega))) hx75 hz72 (by omega) (by omega)).imp (fun φ h => ?_)
      obtain ⟨w', e1, e2, e3, e4, e5⟩ := h
      refine ⟨w', e1, e2, ((hF68.up (by decide))).tr (e3.up (by decide)), ?_, ((K83.fr hF68 (by decide))).tr e5⟩
      rcases e4 with ⟨a1, a2, a3, a4, a5, a6, a7⟩ | ⟨a1, a2, a3⟩
      · have a4' : fld w' 82 14 = k + 1 := by omega
        refine Or.inl ⟨by rw [hE604]; exact a1, by rw [hE604]; exact a2, a3, a4', by rw [hE604, rvR_f]; exact hF_607.k83 (rwv_eq a5) (rwv_eq a5), fun z hd => ?_⟩
        by_cases y : 16 ≤ k
        · exact absurd z (rlR_nz y)
        · rw [hE604, rvR_f] at z
          have q := a7 (by omega)
          rw [hl605] at q a6
          exact hd.up hln a4' (by omega) (fun l hl hn => (a6 l hl hn).trans (hro606 l hl hn)) q ((fun _ => by omega) z)
      · exact Or.inr ⟨by rw [hE604]; exact a1, by rw [hE604]; exact a2, by omega⟩
  · refine xg_t (xg_icF (u := f82_19) (v := 16) rfl xnm0 xnm0 (xj_ltF (by omega) (by omega))) ?_
    refine xg_t (xg_aload (va := (2, 82)) rfl rfl) ?_
    refine xg_t (xg_const) ?_
    refine xg_t (xg_aload (va := (2, 82)) rfl rfl) ?_
    refine xg_t (xg_getf (va := (0, f82_9)) h82_31 rfl) ?_
    have hn608 : f82_9 ≤ 4294967295 := hb10
    have hq609 : tq B nn p ≤ nn := tq_le hT.1.2.2.2.2.2
    refine xg_cVv mX12_also (vs := [(0, 3), (0, f82_9)]) (rest := []) (cn1 := 0) (sl1 := 0) rfl (mAlsoX (hI) (by omega) (by omega) (by omega) h10 hf) rfl h82_31 rfl rfl rfl rfl rfl rfl (fun w610 hq611 => ?_)
    obtain ⟨hI612, hF613, hx614⟩ := hq611
    obtain ⟨hv615, hv616⟩ := hx614
    have hF_617 : FP w610 (rnt fp (tq B nn p)) := by
      have q := hv615
      rw [show f82_9 = tq B nn p by omega, hi.aloi tq_ge] at q
      exact q
    refine xg_t (xg_blk (b := [(18, 1, 3, 0, 0, 0), (19, 1, 15, 1, 0, 0), (20, 1, 0, 0, 0, 0), (21, 2, 4, 50, 0, 0), (23, 3, 13, 227, 96, 415), (26, 3, 7, 107, 0, 0), (29, 1, 3, 1, 0, 0), (30, 1, 15, 2, 0, 0)]) rfl) ?_
    obtain ⟨g_618, hg619⟩ : ∃ x, x = rlg B nn k p fp := ⟨_, rfl⟩
    have hF_620 : FP w610 g_618 := by
      rw [hg619, rlg_y (by omega)]
      exact hF_617
    have hig621 : fpi g_618 (tf B nn p) := by rw [hg619]; exact hi.rlgi tfp tf_ge
    refine xg_t (xg_const) ?_
    refine xg_t (xg_istore (l1 := [(0, (2, 82))]) rfl rfl rfl) ?_
    refine xg_t (xg_aload (va := (2, 82)) rfl rfl) ?_
    refine xg_t (xg_bip) ?_
    have hk622 := ((fld_eq (j := 14) (hF613.1 82 (by decide))).trans rfl)
    refine xg_cVi mX12_takes (vs := [(0, 50)]) (rest := []) (cn1 := 0) (sl1 := 0) rfl (mTakesX (hI612) (by omega) (hB.fr (fun j h4 h9 => hv616 j (by omega) (by omega) (by omega))) (hT.fr (hF613.1 82 (by decide))) ((fld_eq (j := 10) (hF613.1 82 (by decide))).trans h10)) rfl (hF613.get (by decide) h82_31) rfl rfl rfl rfl rfl rfl (fun n627 w623 hq624 => ?_)
    obtain ⟨hn628, hI625, hF626⟩ := hq624
    obtain ⟨hz629, hz630, hz631⟩ := hn628
    have k14_634 := hz631.trans hk622
    rcases hz629 with ⟨rfl, hx632, hx633⟩ | ⟨rfl, hx632, hx633⟩
    · obtain ⟨p_635, hp636⟩ : ∃ x, x = tf B nn p := ⟨_, rfl⟩
      rw [← hp636] at hx633
      refine xg_t (xg_ifF (u := 1) rfl xnm0 (by decide)) ?_
      refine xg_t (xg_const) ?_
      refine xg_t (xg_istore (l1 := [(1, (0, 0)), (0, (2, 82))]) rfl rfl rfl) ?_
      refine xg_t (xg_drop (l1 := [(0, (2, 82)), (1, (0, 0)), (2, (0, 1))]) (List.forall_mem_cons.mpr ⟨List.mem_cons_of_mem _ (List.mem_cons_of_mem _ (List.mem_cons_self)), List.forall_mem_cons.mpr ⟨List.mem_cons_of_mem _ (List.mem_cons_self), List.forall_mem_cons.mpr ⟨List.mem_cons_self, fun _ h => absurd h List.not_mem_nil⟩⟩⟩)) ?_
      have hig643 : fpi g_618 p_635 := by rw [hp636]; exact hig621
      have key637 : ∀ (m639 : Nat) (kr mo : Nat) (w640 : List (List xE)), 2 * (502 - kr) + mo < m639 → kr ≤ 502 → mo ≤ 1 → xMnv w640 → xFr [82, 83, 112, 113] w w640 → ((mo = 1 ∧ ∃ (q : Nat) (f : Nat × Nat), TKM 1 B nn w640 q ∧ fld w640 82 10 = 0 ∧ FP w640 f ∧ fpi f q ∧ kr ≤ q ∧ (f.1 = 0 → kr ≤ 4) ∧ rs B nn kr q f = (rs B nn 0 p_635 g_618)) ∨ (mo = 0 ∧ ∃ (q : Nat) (f : Nat × Nat), TKM 1 B nn w640 q ∧ fld w640 82 10 = 0 ∧ FP w640 f ∧ (f.1 = 0 → kr ≤ 4) ∧ (tkd B nn q = 3 ∧ B (tq B nn q) = 58 → (rs B nn 0 p_635 g_618) = (true, tf B nn q, f)) ∧ (¬ (tkd B nn q = 3 ∧ B (tq B nn q) = 58) → (rs B nn 0 p_635 g_618) = (false, q, f))) ∨ (mo = 0 ∧ ∃ (q : Nat) (f : Nat × Nat), WRG w640 (tq B nn q) ∧ (rs B nn 0 p_635 g_618) = (false, q, f))) ∧ K83 w w640 ∧ RO2 w w640 k ∧ fld w640 82 14 = fld w 82 14 → xTo (d + 7) mX12_aRule (31, [], [(0, (2, 82)), (1, (0, kr)), (2, (0, mo))], [], (w640, bd, fc, 0, 0, rr)) (fun φ => ∃ w', xEnd 0 [] (w', bd, fc, 0, 0, rr) φ ∧ xMnv w' ∧ xFr [82, 83, 112, 113] w w' ∧ ((((rlR B nn k p fp).1 = true ∧ TKM 1 B nn w' (rlR B nn k p fp).2.1 ∧ fld w' 82 10 = 0 ∧ fld w' 82 14 = k + 1 ∧ FP w' (rlR B nn k p fp).2.2 ∧ ((rlR B nn k p fp).2.2.1 = 0 → RD w → RD w')) ∨ ((rlR B nn k p fp).1 = false ∧ WRG w' (tq B nn (rlR B nn k p fp).2.1) ∧ (fld w' 82 14 = k ∨ fld w' 82 14 = k + 1))) ∧ K83 w w')) := by
        intro m639
        induction m639 with
        | zero => intro kr mo w640 hz; exact absurd hz (Nat.not_lt_zero _)
        | succ m639 ih638 =>
          intro kr mo w640 hm647 hn644 hn645 hI641 hF642 he646
          obtain ⟨hX648, hK649, hro650, h14_651⟩ := he646
          obtain ⟨g112_652, h112_653, hb654⟩ := (hI641 112 (by decide) (by decide) : cpI 320 79 4294967295 (wget w640 112))
          have h112_653 : xRow w640 112 320 79 g112_652 := h112_653
          obtain ⟨g113_655, h113_656, hb657⟩ := (hI641 113 (by decide) (by decide) : cpI 4 80 4294967295 (wget w640 113))
          have h113_656 : xRow w640 113 4 80 g113_655 := h113_656
          refine xg_t (xg_blk (b := [(31, 1, 2, 2, 0, 0), (32, 3, 7, 101, 0, 0), (35, 1, 2, 1, 0, 0), (36, 1, 3, 3, 0, 0), (37, 3, 6, 49, 5, 0), (40, 1, 0, 0, 0, 0), (41, 1, 3, 3, 0, 0), (42, 1, 0, 0, 0, 0), (43, 3, 1, 12, 6, 148), (46, 3, 13, 115, 96, 186)]) rfl) ?_
          rcases hX648 with ⟨rfl, q_658, f_659, hT_660, k10_661, hF_662, hfi663, hkq664, hk4665, heq666⟩ | ⟨rfl, q_667, f_668, hT_669, k10_670, hF_671, hk4672, he1673, he2674⟩ | ⟨rfl, q_675, f_676, hW_677, heq678⟩
          · have hqn679 := hT_660.1.2.2.2.2.2
            have hl680 : kr ≤ 500 := by omega
            refine xg_t (xg_iload (va := (0, 1)) rfl rfl) ?_
            refine xg_t (xg_ifF (u := 1) rfl xnm0 (by decide)) ?_
            obtain ⟨⟨ht681, ht682, ht683, ht684, ht685, ht686⟩, -⟩ := id hT_660
            obtain ⟨f82_687, f82_689, f82_691, f82_693, f82_695, f82_697, f82_699, f82_701, f82_703, f82_705, f82_707, f82_708, f82_709, f82_711, f82_713, f82_715, h82_717, hb688, hb690, hb692, hb694, hb696, hb698, hb700, hb702, hb704, hb706, hb710, hb712, hb714, hb716, hb718⟩ := (hI641 82 (by decide) (by decide) : cp82 (wget w640 82))
            replace hb690 := xHid.of hb690
            replace hb696 := xHid.of hb696
            replace hb700 := xHid.of hb700
            replace hb702 := xHid.of hb702
            replace hb706 := xHid.of hb706
            replace hb710 := xHid.of hb710
            replace hb712 := xHid.of hb712
            replace hb714 := xHid.of hb714
            replace hb716 := xHid.of hb716
            have hf719 : fld w640 82 3 = f82_689 := fld_of h82_717
            have hf720 : fld w640 82 6 = f82_695 := fld_of h82_717
            have hf721 : fld w640 82 7 = f82_697 := fld_of h82_717
            have hf722 : fld w640 82 8 = f82_699 := fld_of h82_717
            have hf723 : fld w640 82 9 = f82_701 := fld_of h82_717
            have hf724 : fld w640 82 10 = f82_703 := fld_of h82_717
            have hf725 : fld w640 82 14 = f82_705 := fld_of h82_717
            have hcs726 := hT_660.cs
            have hw0727 : fld w640 82 10 = 0 := k10_661
            refine xg_t (xg_iload (va := (0, kr)) rfl rfl) ?_
            refine xg_t (xg_const) ?_
            by_cases hc728 : 3 < kr
            · refine xg_t (xg_icF (u := kr) (v := 3) rfl xnm0 xnm0 (xj_leF hc728 (by omega))) ?_
              refine xg_t (xg_aload (va := (2, 82)) rfl rfl) ?_
              refine xg_t (xg_const) ?_
              refine xg_t (xg_aload (va := (2, 82)) rfl rfl) ?_
              refine xg_t (xg_getf (va := (0, f82_695)) h82_717 rfl) ?_
              have hn729 : f82_695 ≤ 4294967295 := hb696
              have hq730 : tq B nn q_658 ≤ nn := tq_le hT_660.1.2.2.2.2.2
              refine xg_cVv mX12_also (vs := [(0, 3), (0, f82_695)]) (rest := []) (cn1 := 0) (sl1 := 0) rfl (mAlsoX (hI641) (by omega) (by omega) (by omega) k10_661 hF_662) rfl h82_717 rfl rfl rfl rfl rfl rfl (fun w731 hq732 => ?_)
              obtain ⟨hI733, hF734, hx735⟩ := hq732
              obtain ⟨hv736, hv737⟩ := hx735
              have hF_738 : FP w731 (rnt f_659 (tq B nn q_658)) := by
                have q := hv736
                rw [show f82_695 = tq B nn q_658 by omega, hfi663.aloi tq_ge] at q
                exact q
              refine xg_t (xg_blk (b := [(49, 1, 0, 0, 0, 0), (50, 3, 13, 109, 96, 421), (53, 1, 3, 0, 0, 0), (54, 1, 15, 3, 0, 0)]) rfl) ?_
              obtain ⟨g_739, hg740⟩ : ∃ x, x = rg B nn kr q_658 f_659 := ⟨_, rfl⟩
              have hF_741 : FP w731 g_739 := by
                rw [hg740, rg_y (by omega)]
                exact hF_738
              have hk4742 : g_739.1 = 0 → kr + 1 ≤ 4 := fun z => by
                by_cases y : 4 ≤ kr
                · exact absurd z (by rw [hg740, rg_y y]; exact rnt_nz)
                · omega
              refine xg_t (xg_aload (va := (2, 82)) rfl rfl) ?_
              have hk743 := ((fld_eq (j := 14) (hF734.1 82 (by decide))).trans h14_651)
              refine xg_cVv mX12_aTest (vs := []) (rest := []) (cn1 := 0) (sl1 := 0) rfl (mATestX (hI733) (hB.fr (fun j h4 h9 => (hK649.tr hv737) j (by omega) (by omega) (by omega))) (hT_660.fr (hF734.1 82 (by decide))) ((fld_eq (j := 10) (hF734.1 82 (by decide))).trans k10_661)) rfl (hF734.get (by decide) h82_717) rfl rfl rfl rfl rfl rfl (fun w744 hq745 => ?_)
              obtain ⟨hI746, hF747, hx748⟩ := hq745
              obtain ⟨hn749, hn750, hn751⟩ := hx748
              have hk756 := hn750.trans hk743
              obtain ⟨r_757, hr758⟩ : ∃ x, x = (rtR B nn q_658).2 := ⟨_, rfl⟩
              rw [← hr758] at hn749
              obtain ⟨g113_759, h113_760, hb761⟩ := (hI746 113 (by decide) (by decide) : cpI 4 80 4294967295 (wget w744 113))
              have h113_760 : xRow w744 113 4 80 g113_759 := h113_760
              rcases hn749 with ⟨hy752, hT_753, k10_754, he755⟩ | ⟨hy752, hT_753⟩
              · refine xg_t (xg_const) ?_
                refine xg_t (xg_istore (l1 := [(0, (2, 82)), (1, (0, kr)), (2, (0, 1))]) rfl rfl rfl) ?_
                refine xg_t (xg_blk (b := [(55, 1, 2, 3, 0, 0), (56, 1, 3, 4, 0, 0), (57, 3, 6, 88, 3, 0), (60, 1, 2, 1, 0, 0), (61, 1, 3, 4, 0, 0), (62, 3, 6, 88, 3, 0), (65, 1, 0, 0, 0, 0), (66, 1, 3, 1, 0, 0), (67, 1, 3, 4, 0, 0), (68, 1, 2, 1, 0, 0), (69, 1, 16, 0, 0, 0), (70, 1, 11, 0, 0, 0), (71, 1, 2, 3, 0, 0), (72, 1, 11, 0, 0, 0), (73, 1, 0, 0, 0, 0), (74, 3, 1, 12, 46, 102), (77, 1, 2, 3, 0, 0), (78, 1, 10, 0, 0, 0), (79, 3, 13, 214, 96, 424), (82, 3, 9, 3, 1, 0), (85, 3, 8, 55, 0, 0)]) rfl) ?_
                refine xg_t (xg_iload (va := (0, 0)) rfl rfl) ?_
                refine xg_t (xg_const) ?_
                refine xg_t (xg_icF (u := 0) (v := 4) rfl xnm0 xnm0 (by decide)) ?_
                refine xg_t (xg_iload (va := (0, kr)) rfl rfl) ?_
                refine xg_t (xg_const) ?_
                refine xg_t (xg_icT (u := kr) (v := 4) rfl xnm0 xnm0 (xj_geT (by omega) (by omega))) ?_
                refine xg_t (xg_blk (b := [(88, 3, 9, 1, 1, 0), (91, 1, 0, 0, 0, 0), (92, 2, 4, 51, 0, 0), (94, 3, 13, 227, 96, 415), (97, 1, 15, 2, 0, 0), (98, 3, 8, 31, 0, 0)]) rfl) ?_
                refine xg_t (xg_iinc (u := kr) (z := kr + 1) (l1 := [(3, (0, 0)), (0, (2, 82)), (2, (0, 1))]) rfl rfl (by omega) rfl) ?_
                refine xg_t (xg_aload (va := (2, 82)) rfl rfl) ?_
                refine xg_t (xg_bip) ?_
                have hk762 := hk756
                obtain ⟨f82_763, f82_765, f82_767, f82_769, f82_771, f82_773, f82_775, f82_777, f82_779, f82_781, f82_783, f82_784, f82_785, f82_787, f82_789, f82_791, h82_793, hb764, hb766, hb768, hb770, hb772, hb774, hb776, hb778, hb780, hb782, hb786, hb788, hb790, hb792, hb794⟩ := (hI746 82 (by decide) (by decide) : cp82 (wget w744 82))
                replace hb766 := xHid.of hb766
                replace hb772 := xHid.of hb772
                replace hb776 := xHid.of hb776
                replace hb778 := xHid.of hb778
                replace hb782 := xHid.of hb782
                replace hb786 := xHid.of hb786
                replace hb788 := xHid.of hb788
                replace hb790 := xHid.of hb790
                replace hb792 := xHid.of hb792
                refine xg_cVi mX12_takes (vs := [(0, 51)]) (rest := []) (cn1 := 0) (sl1 := 0) rfl (mTakesX (hI746) (by omega) (hB.fr (fun j h4 h9 => ((hK649.tr hv737).tr hn751) j (by omega) (by omega) (by omega))) hT_753 k10_754) rfl h82_793 rfl rfl rfl rfl rfl rfl (fun n799 w795 hq796 => ?_)
                obtain ⟨hn800, hI797, hF798⟩ := hq796
                obtain ⟨hz801, hz802, hz803⟩ := hn800
                have k14_806 := hz803.trans hk762
                rcases hz801 with ⟨rfl, hx804, hx805⟩ | ⟨rfl, hx804, hx805⟩
                · obtain ⟨p_807, hp808⟩ : ∃ x, x = tf B nn r_757 := ⟨_, rfl⟩
                  rw [← hp808] at hx805
                  refine xg_t (xg_istore (l1 := [(1, (0, kr + 1)), (3, (0, 0)), (0, (2, 82))]) rfl rfl rfl) ?_
                  refine xg_t (xg_goto) ?_
                  refine xg_t (xg_drop (l1 := [(0, (2, 82)), (1, (0, kr + 1)), (2, (0, 1))]) (List.forall_mem_cons.mpr ⟨List.mem_cons_of_mem _ (List.mem_cons_of_mem _ (List.mem_cons_of_mem _ (List.mem_cons_self))), List.forall_mem_cons.mpr ⟨List.mem_cons_of_mem _ (List.mem_cons_self), List.forall_mem_cons.mpr ⟨List.mem_cons_self, fun _ h => absurd h List.not_mem_nil⟩⟩⟩)) ?_
                  have hle810 := rtR_and (B := B) (n := nn) (p := q_658) hqn679 (by rw [← hr758]; exact hx804)
                  rw [← hr758, ← hp808] at hle810
                  have hfi809 : fpi g_739 p_807 := by
                    rw [hg740, hp808, hr758]
                    exact hfi663.rgi (Nat.le_of_lt (rtR_and (B := B) (n := nn) hqn679 (by rw [← hr758]; exact hx804)).1) (rtR_q hqn679)
                  exact ih638 (kr + 1) 1 w795 (by omega) (by omega) (by omega) (hI797) ((((hF642.tr (hF734.up (by decide))).tr (hF747.up (by decide))).tr (hF798.up (by decide)))) (⟨Or.inl ⟨rfl, p_807, g_739, hx805, hz802, (hF_741.k83 (rwv_eq ((hF798.1 83 (by decide)).trans he755)) (rwv_eq ((hF798.1 83 (by decide)).trans he755))), hfi809, by omega, hk4742, by rw [← heq666, rs_and hqn679 hy752 (by rw [← hr758]; exact hx804), ← hr758, ← hp808, ← hg740]⟩, (((hK649.tr hv737).tr hn751).tr (K83.fr hF798 (by decide))), (RO2.fr (RO2.fr (RO2.fr hro650 hF734 (by decide)) hF747 (by decide)) hF798 (by decide)), k14_806⟩)
                · refine xg_t (xg_istore (l1 := [(1, (0, kr + 1)), (3, (0, 0)), (0, (2, 82))]) rfl rfl rfl) ?_
                  refine xg_t (xg_goto) ?_
                  refine xg_t (xg_drop (l1 := [(0, (2, 82)), (1, (0, kr + 1)), (2, (0, 0))]) (List.forall_mem_cons.mpr ⟨List.mem_cons_of_mem _ (List.mem_cons_of_mem _ (List.mem_cons_of_mem _ (List.mem_cons_self))), List.forall_mem_cons.mpr ⟨List.mem_cons_of_mem _ (List.mem_cons_self), List.forall_mem_cons.mpr ⟨List.mem_cons_self, fun _ h => absurd h List.not_mem_nil⟩⟩⟩)) ?_
                  exact ih638 (kr + 1) 0 w795 (by omega) (by omega) (by omega) (hI797) ((((hF642.tr (hF734.up (by decide))).tr (hF747.up (by decide))).tr (hF798.up (by decide)))) (⟨Or.inr (Or.inl ⟨rfl, r_757, g_739, hx805, hz802, (hF_741.k83 (rwv_eq ((hF798.1 83 (by decide)).trans he755)) (rwv_eq ((hF798.1 83 (by decide)).trans he755))), hk4742, fun z => by rw [← heq666, rs_col hy752 (by rw [← hr758]; exact z), ← hr758, ← hg740], fun z => by rw [← heq666, rs_bad hy752 (by rw [← hr758]; exact hx804) (by rw [← hr758]; exact z), ← hr758, ← hg740]⟩), (((hK649.tr hv737).tr hn751).tr (K83.fr hF798 (by decide))), (RO2.fr (RO2.fr (RO2.fr hro650 hF734 (by decide)) hF747 (by decide)) hF798 (by decide)), k14_806⟩)
              · refine xg_t (xg_const) ?_
                refine xg_t (xg_istore (l1 := [(0, (2, 82)), (1, (0, kr)), (2, (0, 1))]) rfl rfl rfl) ?_
                refine xg_t (xg_blk (b := [(55, 1, 2, 3, 0, 0), (56, 1, 3, 4, 0, 0), (57, 3, 6, 88, 3, 0), (60, 1, 2, 1, 0, 0), (61, 1, 3, 4, 0, 0), (62, 3, 6, 88, 3, 0), (65, 1, 0, 0, 0, 0), (66, 1, 3, 1, 0, 0), (67, 1, 3, 4, 0, 0), (68, 1, 2, 1, 0, 0), (69, 1, 16, 0, 0, 0), (70, 1, 11, 0, 0, 0), (71, 1, 2, 3, 0, 0), (72, 1, 11, 0, 0, 0), (73, 1, 0, 0, 0, 0), (74, 3, 1, 12, 46, 102), (77, 1, 2, 3, 0, 0), (78, 1, 10, 0, 0, 0), (79, 3, 13, 214, 96, 424), (82, 3, 9, 3, 1, 0), (85, 3, 8, 55, 0, 0)]) rfl) ?_
                refine xg_t (xg_iload (va := (0, 0)) rfl rfl) ?_
                refine xg_t (xg_const) ?_
                refine xg_t (xg_icF (u := 0) (v := 4) rfl xnm0 xnm0 (by decide)) ?_
                refine xg_t (xg_iload (va := (0, kr)) rfl rfl) ?_
                refine xg_t (xg_const) ?_
                refine xg_t (xg_icT (u := kr) (v := 4) rfl xnm0 xnm0 (xj_geT (by omega) (by omega))) ?_
                refine xg_t (xg_blk (b := [(88, 3, 9, 1, 1, 0), (91, 1, 0, 0, 0, 0), (92, 2, 4, 51, 0, 0), (94, 3, 13, 227, 96, 415), (97, 1, 15, 2, 0, 0), (98, 3, 8, 31, 0, 0)]) rfl) ?_
                refine xg_t (xg_iinc (u := kr) (z := kr + 1) (l1 := [(3, (0, 0)), (0, (2, 82)), (2, (0, 1))]) rfl rfl (by omega) rfl) ?_
                refine xg_t (xg_aload (va := (2, 82)) rfl rfl) ?_
                refine xg_t (xg_bip) ?_
                obtain ⟨f82_811, f82_813, f82_815, f82_817, f82_819, f82_821, f82_823, f82_825, f82_827, f82_829, f82_831, f82_832, f82_833, f82_835, f82_837, f82_839, h82_841, hb812, hb814, hb816, hb818, hb820, hb822, hb824, hb826, hb828, hb830, hb834, hb836, hb838, hb840, hb842⟩ := (hI746 82 (by decide) (by decide) : cp82 (wget w744 82))
                replace hb814 := xHid.of hb814
                replace hb820 := xHid.of hb820
                replace hb824 := xHid.of hb824
                replace hb826 := xHid.of hb826
                replace hb830 := xHid.of hb830
                replace hb834 := xHid.of hb834
                replace hb836 := xHid.of hb836
                replace hb838 := xHid.of hb838
                replace hb840 := xHid.of hb840
                refine xg_cVi mX12_takes (vs := [(0, 51)]) (rest := []) (cn1 := 0) (sl1 := 0) rfl (mTakesW (hI746) (by omega) (by have q := hT_753.1; omega)) rfl h82_841 rfl rfl rfl rfl rfl rfl (fun n847 w843 hq844 => ?_)
                obtain ⟨hn848, hI845, hF846⟩ := hq844
                subst hn848
                refine xg_t (xg_istore (l1 := [(1, (0, kr + 1)), (3, (0, 0)), (0, (2, 82))]) rfl rfl rfl) ?_
                refine xg_t (xg_goto) ?_
                refine xg_t (xg_drop (l1 := [(0, (2, 82)), (1, (0, kr + 1)), (2, (0, 0))]) (List.forall_mem_cons.mpr ⟨List.mem_cons_of_mem _ (List.mem_cons_of_mem _ (List.mem_cons_of_mem _ (List.mem_cons_self))), List.forall_mem_cons.mpr ⟨List.mem_cons_of_mem _ (List.mem_cons_self), List.forall_mem_cons.mpr ⟨List.mem_cons_self, fun _ h => absurd h List.not_mem_nil⟩⟩⟩)) ?_
                have hW_849 : WRG w843 (tq B nn r_757) := ⟨(fld_eq (j := 10) (hF846.1 82 (by decide))).trans hT_753.1, (rwv_eq (hF846.1 83 (by decide))).trans hT_753.2.1, (rwv_eq (hF846.1 83 (by decide))).trans hT_753.2.2⟩
                exact ih638 (kr + 1) 0 w843 (by omega) (by omega) (by omega) (hI845) ((((hF642.tr (hF734.up (by decide))).tr (hF747.up (by decide))).tr (hF846.up (by decide)))) (⟨Or.inr (Or.inr ⟨rfl, r_757, g_739, hW_849, by rw [← heq666, rs_no hy752, ← hr758, ← hg740]⟩), (((hK649.tr hv737).tr hn751).tr (K83.fr hF846 (by decide))), (RO2.fr (RO2.fr (RO2.fr hro650 hF734 (by decide)) hF747 (by decide)) hF846 (by decide)), ((fld_eq (j := 14) (hF846.1 82 (by decide))).trans hk756)⟩)
            · refine xg_t (xg_icT (u := kr) (v := 3) rfl xnm0 xnm0 (xj_leT (by omega) (by omega))) ?_
              refine xg_t (xg_blk (b := [(49, 1, 0, 0, 0, 0), (50, 3, 13, 109, 96, 421), (53, 1, 3, 0, 0, 0), (54, 1, 15, 3, 0, 0)]) rfl) ?_
              obtain ⟨g_850, hg851⟩ : ∃ x, x = rg B nn kr q_658 f_659 := ⟨_, rfl⟩
              have hF_852 : FP w640 g_850 := by
                rw [hg851, rg_n (by omega)]
                exact hF_662
              have hk4853 : g_850.1 = 0 → kr + 1 ≤ 4 := fun z => by
                by_cases y : 4 ≤ kr
                · exact absurd z (by rw [hg851, rg_y y]; exact rnt_nz)
                · omega
              refine xg_t (xg_aload (va := (2, 82)) rfl rfl) ?_
              have hk854 := h14_651
              refine xg_cVv mX12_aTest (vs := []) (rest := []) (cn1 := 0) (sl1 := 0) rfl (mATestX (hI641) (hB.fr (fun j h4 h9 => hK649 j (by omega) (by omega) (by omega))) hT_660 k10_661) rfl h82_717 rfl rfl rfl rfl rfl rfl (fun w855 hq856 => ?_)
              obtain ⟨hI857, hF858, hx859⟩ := hq856
              obtain ⟨hn860, hn861, hn862⟩ := hx859
              have hk867 := hn861.trans hk854
              obtain ⟨r_868, hr869⟩ : ∃ x, x = (rtR B nn q_658).2 := ⟨_, rfl⟩
              rw [← hr869] at hn860
              obtain ⟨g113_870, h113_871, hb872⟩ := (hI857 113 (by decide) (by decide) : cpI 4 80 4294967295 (wget w855 113))
              have h113_871 : xRow w855 113 4 80 g113_870 := h113_871
              rcases hn860 with ⟨hy863, hT_864, k10_865, he866⟩ | ⟨hy863, hT_864⟩
              · refine xg_t (xg_const) ?_
                refine xg_t (xg_istore (l1 := [(0, (2, 82)), (1, (0, kr)), (2, (0, 1))]) rfl rfl rfl) ?_
                refine xg_t (xg_blk (b := [(55, 1, 2, 3, 0, 0), (56, 1, 3, 4, 0, 0), (57, 3, 6, 88, 3, 0), (60, 1, 2, 1, 0, 0), (61, 1, 3, 4, 0, 0), (62, 3, 6, 88, 3, 0), (65, 1, 0, 0, 0, 0), (66, 1, 3, 1, 0, 0), (67, 1, 3, 4, 0, 0), (68, 1, 2, 1, 0, 0), (69, 1, 16, 0, 0, 0), (70, 1, 11, 0, 0, 0), (71, 1, 2, 3, 0, 0), (72, 1, 11, 0, 0, 0), (73, 1, 0, 0, 0, 0), (74, 3, 1, 12, 46, 102), (77, 1, 2, 3, 0, 0), (78, 1, 10, 0, 0, 0), (79, 3, 13, 214, 96, 424), (82, 3, 9, 3, 1, 0), (85, 3, 8, 55, 0, 0)]) rfl) ?_
                refine xg_t (xg_iload (va := (0, 0)) rfl rfl) ?_
                refine xg_t (xg_const) ?_
                refine xg_t (xg_icF (u := 0) (v := 4) rfl xnm0 xnm0 (by decide)) ?_
                refine xg_t (xg_iload (va := (0, kr)) rfl rfl) ?_
                refine xg_t (xg_const) ?_
                refine xg_t (xg_icF (u := kr) (v := 4) rfl xnm0 xnm0 (xj_geF (by omega) (by omega))) ?_
                refine xg_t (xg_aload (va := (2, 82)) rfl rfl) ?_
                refine xg_t (xg_const) ?_
                refine xg_t (xg_const) ?_
                refine xg_t (xg_iload (va := (0, kr)) rfl rfl) ?_
                refine xg_t (xg_imul (u := 4) (v := kr) (z := 4 * kr) xnm0 xnm0 (by omega)) ?_
                refine xg_t (xg_iadd (u := 1) (v := 4 * kr) (z := 1 + (4 * kr)) xnm0 xnm0 (by omega)) ?_
                refine xg_t (xg_iload (va := (0, 0)) rfl rfl) ?_
                refine xg_t (xg_iadd (u := 1 + (4 * kr)) (v := 0) (z := (1 + (4 * kr)) + 0) xnm0 xnm0 (by omega)) ?_
                refine xg_t (xg_aload (va := (2, 82)) rfl rfl) ?_
                obtain ⟨f82_873, f82_875, f82_877, f82_879, f82_881, f82_883, f82_885, f82_887, f82_889, f82_891, f82_893, f82_894, f82_895, f82_897, f82_899, f82_901, h82_903, hb874, hb876, hb878, hb880, hb882, hb884, hb886, hb888, hb890, hb892, hb896, hb898, hb900, hb902, hb904⟩ := (hI857 82 (by decide) (by decide) : cp82 (wget w855 82))
                replace hb876 := xHid.of hb876
                replace hb882 := xHid.of hb882
                replace hb886 := xHid.of hb886
                replace hb888 := xHid.of hb888
                replace hb892 := xHid.of hb892
                replace hb896 := xHid.of hb896
                replace hb898 := xHid.of hb898
                replace hb900 := xHid.of hb900
                replace hb902 := xHid.of hb902
                refine xg_t (xg_getf (va := (2, 113)) h82_903 rfl) ?_
                refine xg_t (xg_iload (va := (0, 0)) rfl rfl) ?_
                refine xg_ialdB (n := 0) (B := 4294967295) h113_871 (hb872) xnm0 (by omega) (fun u905 hu906 he907 => ?_)
                have hl908 : fld w855 82 14 = k := hk867.trans hln
                refine xg_cVv mX12_rulePuts (vs := [(0, (1 + (4 * kr)) + 0), (0, u905)]) (rest := []) (cn1 := 0) (sl1 := 0) rfl (mRulePuts (hI857) (by omega) (by omega) (by omega)) rfl h82_903 rfl rfl rfl rfl rfl rfl (fun w909 hq910 => ?_)
                obtain ⟨hI911, hF912, hx913⟩ := hq910
                have hro914 : RO2 w w909 k := fun l hl hn => ((hx913 (20 * l) (by omega)).2 (by omega)).trans ((RO2.fr hro650 hF858 (by decide)) l hl hn)
                clear hx913
                obtain ⟨g112_915, h112_916, hb917⟩ := (hI911 112 (by decide) (by decide) : cpI 320 79 4294967295 (wget w909 112))
                have h112_916 : xRow w909 112 320 79 g112_915 := h112_916
                refine xg_t (xg_iinc (u := 0) (z := 1) (l1 := [(0, (2, 82)), (1, (0, kr)), (2, (0, 1))]) rfl rfl (by decide) rfl) ?_
                refine xg_t (xg_goto) ?_
                refine xg_t (xg_blk (b := [(55, 1, 2, 3, 0, 0), (56, 1, 3, 4, 0, 0), (57, 3, 6, 88, 3, 0), (60, 1, 2, 1, 0, 0), (61, 1, 3, 4, 0, 0), (62, 3, 6, 88, 3, 0), (65, 1, 0, 0, 0, 0), (66, 1, 3, 1, 0, 0), (67, 1, 3, 4, 0, 0), (68, 1, 2, 1, 0, 0), (69, 1, 16, 0, 0, 0), (70, 1, 11, 0, 0, 0), (71, 1, 2, 3, 0, 0), (72, 1, 11, 0, 0, 0), (73, 1, 0, 0, 0, 0), (74, 3, 1, 12, 46, 102), (77, 1, 2, 3, 0, 0), (78, 1, 10, 0, 0, 0), (79, 3, 13, 214, 96, 424), (82, 3, 9, 3, 1, 0), (85, 3, 8, 55, 0, 0)]) rfl) ?_
                refine xg_t (xg_iload (va := (0, 1)) rfl rfl) ?_
                refine xg_t (xg_const) ?_
                refine xg_t (xg_icF (u := 1) (v := 4) rfl xnm0 xnm0 (by decide)) ?_
                refine xg_t (xg_iload (va := (0, kr)) rfl rfl) ?_
                refine xg_t (xg_const) ?_
                refine xg_t (xg_icF (u := kr) (v := 4) rfl xnm0 xnm0 (xj_geF (by omega) (by omega))) ?_
                refine xg_t (xg_aload (va := (2, 82)) rfl rfl) ?_
                refine xg_t (xg_const) ?_
                refine xg_t (xg_const) ?_
                refine xg_t (xg_iload (va := (0, kr)) rfl rfl) ?_
                refine xg_t (xg_imul (u := 4) (v := kr) (z := 4 * kr) xnm0 xnm0 (by omega)) ?_
                refine xg_t (xg_iadd (u := 1) (v := 4 * kr) (z := 1 + (4 * kr)) xnm0 xnm0 (by omega)) ?_
                refine xg_t (xg_iload (va := (0, 1)) rfl rfl) ?_
                refine xg_t (xg_iadd (u := 1 + (4 * kr)) (v := 1) (z := (1 + (4 * kr)) + 1) xnm0 xnm0 (by omega)) ?_
                refine xg_t (xg_aload (va := (2, 82)) rfl rfl) ?_
                refine xg_t (xg_getf (va := (2, 113)) (hF912.get (by decide) h82_903) rfl) ?_
                refine xg_t (xg_iload (va := (0, 1)) rfl rfl) ?_
                refine xg_ialdB (n := 1) (B := 4294967295) (h113_871.fr hF912 (by decide)) (hb872) xnm0 (by omega) (fun u918 hu919 he920 => ?_)
                have hl921 : fld w909 82 14 = k := ((fld_eq (j := 14) (hF912.1 82 (by decide))).trans hk867).trans hln
                refine xg_cVv mX12_rulePuts (vs := [(0, (1 + (4 * kr)) + 1), (0, u918)]) (rest := []) (cn1 := 0) (sl1 := 0) rfl (mRulePuts (hI911) (by omega) (by omega) (by omega)) rfl (hF912.get (by decide) h82_903) rfl rfl rfl rfl rfl rfl (fun w922 hq923 => ?_)
                obtain ⟨hI924, hF925, hx926⟩ := hq923
                have hro927 : RO2 w w922 k := fun l hl hn => ((hx926 (20 * l) (by omega)).2 (by omega)).trans (hro914 l hl hn)
                clear hx926
                obtain ⟨g112_928, h112_929, hb930⟩ := (hI924 112 (by decide) (by decide) : cpI 320 79 4294967295 (wget w922 112))
                have h112_929 : xRow w922 112 320 79 g112_928 := h112_929
                refine xg_t (xg_iinc (u := 1) (z := 2) (l1 := [(0, (2, 82)), (1, (0, kr)), (2, (0, 1))]) rfl rfl (by decide) rfl) ?_
                refine xg_t (xg_goto) ?_
                refine xg_t (xg_blk (b := [(55, 1, 2, 3, 0, 0), (56, 1, 3, 4, 0, 0), (57, 3, 6, 88, 3, 0), (60, 1, 2, 1, 0, 0), (61, 1, 3, 4, 0, 0), (62, 3, 6, 88, 3, 0), (65, 1, 0, 0, 0, 0), (66, 1, 3, 1, 0, 0), (67, 1, 3, 4, 0, 0), (68, 1, 2, 1, 0, 0), (69, 1, 16, 0, 0, 0), (70, 1, 11, 0, 0, 0), (71, 1, 2, 3, 0, 0), (72, 1, 11, 0, 0, 0), (73, 1, 0, 0, 0, 0), (74, 3, 1, 12, 46, 102), (77, 1, 2, 3, 0, 0), (78, 1, 10, 0, 0, 0), (79, 3, 13, 214, 96, 424), (82, 3, 9, 3, 1, 0), (85, 3, 8, 55, 0, 0)]) rfl) ?_
                refine xg_t (xg_iload (va := (0, 2)) rfl rfl) ?_
                refine xg_t (xg_const) ?_
                refine xg_t (xg_icF (u := 2) (v := 4) rfl xnm0 xnm0 (by decide)) ?_
                refine xg_t (xg_iload (va := (0, kr)) rfl rfl) ?_
                refine xg_t (xg_const) ?_
                refine xg_t (xg_icF (u := kr) (v := 4) rfl xnm0 xnm0 (xj_geF (by omega) (by omega))) ?_
                refine xg_t (xg_aload (va := (2, 82)) rfl rfl) ?_
                refine xg_t (xg_const) ?_
                refine xg_t (xg_const) ?_
                refine xg_t (xg_iload (va := (0, kr)) rfl rfl) ?_
                refine xg_t (xg_imul (u := 4) (v := kr) (z := 4 * kr) xnm0 xnm0 (by omega)) ?_
                refine xg_t (xg_iadd (u := 1) (v := 4 * kr) (z := 1 + (4 * kr)) xnm0 xnm0 (by omega)) ?_
                refine xg_t (xg_iload (va := (0, 2)) rfl rfl) ?_
                refine xg_t (xg_iadd (u := 1 + (4 * kr)) (v := 2) (z := (1 + (4 * kr)) + 2) xnm0 xnm0 (by omega)) ?_
                refine xg_t (xg_aload (va := (2, 82)) rfl rfl) ?_
                refine xg_t (xg_getf (va := (2, 113)) (hF925.get (by decide) (hF912.get (by decide) h82_903)) rfl) ?_
                refine xg_t (xg_iload (va := (0, 2)) rfl rfl) ?_
                refine xg_ialdB (n := 2) (B := 4294967295) ((h113_871.fr hF912 (by decide)).fr hF925 (by decide)) (hb872) xnm0 (by omega) (fun u931 hu932 he933 => ?_)
                have hl934 : fld w922 82 14 = k := ((fld_eq (j := 14) ((hF925.1 82 (by decide)).trans (hF912.1 82 (by decide)))).trans hk867).trans hln
                refine xg_cVv mX12_rulePuts (vs := [(0, (1 + (4 * kr)) + 2), (0, u931)]) (rest := []) (cn1 := 0) (sl1 := 0) rfl (mRulePuts (hI924) (by omega) (by omega) (by omega)) rfl (hF925.get (by decide) (hF912.get (by decide) h82_903)) rfl rfl rfl rfl rfl rfl (fun w935 hq936 => ?_)
                obtain ⟨hI937, hF938, hx939⟩ := hq936
                have hro940 : RO2 w w935 k := fun l hl hn => ((hx939 (20 * l) (by omega)).2 (by omega)).trans (hro927 l hl hn)
                clear hx939
                obtain ⟨g112_941, h112_942, hb943⟩ := (hI937 112 (by decide) (by decide) : cpI 320 79 4294967295 (wget w935 112))
                have h112_942 : xRow w935 112 320 79 g112_941 := h112_942
                refine xg_t (xg_iinc (u := 2) (z := 3) (l1 := [(0, (2, 82)), (1, (0, kr)), (2, (0, 1))]) rfl rfl (by decide) rfl) ?_
                refine xg_t (xg_goto) ?_
                refine xg_t (xg_blk (b := [(55, 1, 2, 3, 0, 0), (56, 1, 3, 4, 0, 0), (57, 3, 6, 88, 3, 0), (60, 1, 2, 1, 0, 0), (61, 1, 3, 4, 0, 0), (62, 3, 6, 88, 3, 0), (65, 1, 0, 0, 0, 0), (66, 1, 3, 1, 0, 0), (67, 1, 3, 4, 0, 0), (68, 1, 2, 1, 0, 0), (69, 1, 16, 0, 0, 0), (70, 1, 11, 0, 0, 0), (71, 1, 2, 3, 0, 0), (72, 1, 11, 0, 0, 0), (73, 1, 0, 0, 0, 0), (74, 3, 1, 12, 46, 102), (77, 1, 2, 3, 0, 0), (78, 1, 10, 0, 0, 0), (79, 3, 13, 214, 96, 424), (82, 3, 9, 3, 1, 0), (85, 3, 8, 55, 0, 0)]) rfl) ?_
                refine xg_t (xg_iload (va := (0, 3)) rfl rfl) ?_
                refine xg_t (xg_const) ?_
                refine xg_t (xg_icF (u := 3) (v := 4) rfl xnm0 xnm0 (by decide)) ?_
                refine xg_t (xg_iload (va := (0, kr)) rfl rfl) ?_
                refine xg_t (xg_const) ?_
                refine xg_t (xg_icF (u := kr) (v := 4) rfl xnm0 xnm0 (xj_geF (by omega) (by omega))) ?_
                refine xg_t (xg_aload (va := (2, 82)) rfl rfl) ?_
                refine xg_t (xg_const) ?_
                refine xg_t (xg_const) ?_
                refine xg_t (xg_iload (va := (0, kr)) rfl rfl) ?_
                refine xg_t (xg_imul (u := 4) (v := kr) (z := 4 * kr) xnm0 xnm0 (by omega)) ?_
                refine xg_t (xg_iadd (u := 1) (v := 4 * kr) (z := 1 + (4 * kr)) xnm0 xnm0 (by omega)) ?_
                refine xg_t (xg_iload (va := (0, 3)) rfl rfl) ?_
                refine xg_t (xg_iadd (u := 1 + (4 * kr)) (v := 3) (z := (1 + (4 * kr)) + 3) xnm0 xnm0 (by omega)) ?_
                refine xg_t (xg_aload (va := (2, 82)) rfl rfl) ?_
                refine xg_t (xg_getf (va := (2, 113)) (hF938.get (by decide) (hF925.get (by decide) (hF912.get (by decide) h82_903))) rfl) ?_
                refine xg_t (xg_iload (va := (0, 3)) rfl rfl) ?_
                refine xg_ialdB (n := 3) (B := 4294967295) (((h113_871.fr hF912 (by decide)).fr hF925 (by decide)).fr hF938 (by decide)) (hb872) xnm0 (by omega) (fun u944 hu945 he946 => ?_)
                have hl947 : fld w935 82 14 = k := ((fld_eq (j := 14) ((hF938.1 82 (by decide)).trans ((hF925.1 82 (by decide)).trans (hF912.1 82 (by decide))))).trans hk867).trans hln
                refine xg_cVv mX12_rulePuts (vs := [(0, (1 + (4 * kr)) + 3), (0, u944)]) (rest := []) (cn1 := 0) (sl1 := 0) rfl (mRulePuts (hI937) (by omega) (by omega) (by omega)) rfl (hF938.get (by decide) (hF925.get (by decide) (hF912.get (by decide) h82_903))) rfl rfl rfl rfl rfl rfl (fun w948 hq949 => ?_)
                obtain ⟨hI950, hF951, hx952⟩ := hq949
                have hro953 : RO2 w w948 k := fun l hl hn => ((hx952 (20 * l) (by omega)).2 (by omega)).trans (hro940 l hl hn)
                clear hx952
                obtain ⟨g112_954, h112_955, hb956⟩ := (hI950 112 (by decide) (by decide) : cpI 320 79 4294967295 (wget w948 112))
                have h112_955 : xRow w948 112 320 79 g112_954 := h112_955
                refine xg_t (xg_iinc (u := 3) (z := 4) (l1 := [(0, (2, 82)), (1, (0, kr)), (2, (0, 1))]) rfl rfl (by decide) rfl) ?_
                refine xg_t (xg_goto) ?_
                refine xg_t (xg_blk (b := [(55, 1, 2, 3, 0, 0), (56, 1, 3, 4, 0, 0), (57, 3, 6, 88, 3, 0), (60, 1, 2, 1, 0, 0), (61, 1, 3, 4, 0, 0), (62, 3, 6, 88, 3, 0), (65, 1, 0, 0, 0, 0), (66, 1, 3, 1, 0, 0), (67, 1, 3, 4, 0, 0), (68, 1, 2, 1, 0, 0), (69, 1, 16, 0, 0, 0), (70, 1, 11, 0, 0, 0), (71, 1, 2, 3, 0, 0), (72, 1, 11, 0, 0, 0), (73, 1, 0, 0, 0, 0), (74, 3, 1, 12, 46, 102), (77, 1, 2, 3, 0, 0), (78, 1, 10, 0, 0, 0), (79, 3, 13, 214, 96, 424), (82, 3, 9, 3, 1, 0), (85, 3, 8, 55, 0, 0)]) rfl) ?_
                refine xg_t (xg_iload (va := (0, 4)) rfl rfl) ?_
                refine xg_t (xg_const) ?_
                refine xg_t (xg_icT (u := 4) (v := 4) rfl xnm0 xnm0 (by decide)) ?_
                refine xg_t (xg_blk (b := [(88, 3, 9, 1, 1, 0), (91, 1, 0, 0, 0, 0), (92, 2, 4, 51, 0, 0), (94, 3, 13, 227, 96, 415), (97, 1, 15, 2, 0, 0), (98, 3, 8, 31, 0, 0)]) rfl) ?_
                refine xg_t (xg_iinc (u := kr) (z := kr + 1) (l1 := [(3, (0, 4)), (0, (2, 82)), (2, (0, 1))]) rfl rfl (by omega) rfl) ?_
                refine xg_t (xg_aload (va := (2, 82)) rfl rfl) ?_
                refine xg_t (xg_bip) ?_
                have hk957 := ((fld_eq (j := 14) ((hF951.1 82 (by decide)).trans ((hF938.1 82 (by decide)).trans ((hF925.1 82 (by decide)).trans (hF912.1 82 (by decide)))))).trans hk867)
                refine xg_cVi mX12_takes (vs := [(0, 51)]) (rest := []) (cn1 := 0) (sl1 := 0) rfl (mTakesX (hI950) (by omega) (hB.fr (fun j h4 h9 => (((((hK649.tr hn862).tr (K83.fr hF912 (by decide))).tr (K83.fr hF925 (by decide))).tr (K83.fr hF938 (by decide))).tr (K83.fr hF951 (by decide))) j (by omega) (by omega) (by omega))) (hT_864.fr ((hF951.1 82 (by decide)).trans ((hF938.1 82 (by decide)).trans ((hF925.1 82 (by decide)).trans (hF912.1 82 (by decide)))))) ((fld_eq (j := 10) ((hF951.1 82 (by decide)).trans ((hF938.1 82 (by decide)).trans ((hF925.1 82 (by decide)).trans (hF912.1 82 (by decide)))))).trans k10_865)) rfl (hF951.get (by decide) (hF938.get (by decide) (hF925.get (by decide) (hF912.get (by decide) h82_903)))) rfl rfl rfl rfl rfl rfl (fun n962 w958 hq959 => ?_)
                obtain ⟨hn963, hI960, hF961⟩ := hq959
                obtain ⟨hz964, hz965, hz966⟩ := hn963
                have k14_969 := hz966.trans hk957
                rcases hz964 with ⟨rfl, hx967, hx968⟩ | ⟨rfl, hx967, hx968⟩
                · obtain ⟨p_970, hp971⟩ : ∃ x, x = tf B nn r_868 := ⟨_, rfl⟩
                  rw [← hp971] at hx968
                  refine xg_t (xg_istore (l1 := [(1, (0, kr + 1)), (3, (0, 4)), (0, (2, 82))]) rfl rfl rfl) ?_
                  refine xg_t (xg_goto) ?_
                  refine xg_t (xg_drop (l1 := [(0, (2, 82)), (1, (0, kr + 1)), (2, (0, 1))]) (List.forall_mem_cons.mpr ⟨List.mem_cons_of_mem _ (List.mem_cons_of_mem _ (List.mem_cons_of_mem _ (List.mem_cons_self))), List.forall_mem_cons.mpr ⟨List.mem_cons_of_mem _ (List.mem_cons_self), List.forall_mem_cons.mpr ⟨List.mem_cons_self, fun _ h => absurd h List.not_mem_nil⟩⟩⟩)) ?_
                  have hle973 := rtR_and (B := B) (n := nn) (p := q_658) hqn679 (by rw [← hr869]; exact hx967)
                  rw [← hr869, ← hp971] at hle973
                  have hfi972 : fpi g_850 p_970 := by
                    rw [hg851, hp971, hr869]
                    exact hfi663.rgi (Nat.le_of_lt (rtR_and (B := B) (n := nn) hqn679 (by rw [← hr869]; exact hx967)).1) (rtR_q hqn679)
                  exact ih638 (kr + 1) 1 w958 (by omega) (by omega) (by omega) (hI960) (((((((hF642.tr (hF858.up (by decide))).tr (hF912.up (by decide))).tr (hF925.up (by decide))).tr (hF938.up (by decide))).tr (hF951.up (by decide))).tr (hF961.up (by decide)))) (⟨Or.inl ⟨rfl, p_970, g_850, hx968, hz965, (hF_852.k83 (rwv_eq ((hF961.1 83 (by decide)).trans ((hF951.1 83 (by decide)).trans ((hF938.1 83 (by decide)).trans ((hF925.1 83 (by decide)).trans ((hF912.1 83 (by decide)).trans he866)))))) (rwv_eq ((hF961.1 83 (by decide)).trans ((hF951.1 83 (by decide)).trans ((hF938.1 83 (by decide)).trans ((hF925.1 83 (by decide)).trans ((hF912.1 83 (by decide)).trans he866))))))), hfi972, by omega, hk4853, by rw [← heq666, rs_and hqn679 hy863 (by rw [← hr869]; exact hx967), ← hr869, ← hp971, ← hg851]⟩, ((((((hK649.tr hn862).tr (K83.fr hF912 (by decide))).tr (K83.fr hF925 (by decide))).tr (K83.fr hF938 (by decide))).tr (K83.fr hF951 (by decide))).tr (K83.fr hF961 (by decide))), (RO2.fr hro953 hF961 (by decide)), k14_969⟩)
                · refine xg_t (xg_istore (l1 := [(1, (0, kr + 1)), (3, (0, 4)), (0, (2, 82))]) rfl rfl rfl) ?_
                  refine xg_t (xg_goto) ?_
                  refine xg_t (xg_drop (l1 := [(0, (2, 82)), (1, (0, kr + 1)), (2, (0, 0))]) (List.forall_mem_cons.mpr ⟨List.mem_cons_of_mem _ (List.mem_cons_of_mem _ (List.mem_cons_of_mem _ (List.mem_cons_self))), List.forall_mem_cons.mpr ⟨List.mem_cons_of_mem _ (List.mem_cons_self), List.forall_mem_cons.mpr ⟨List.mem_cons_self, fun _ h => absurd h List.not_mem_nil⟩⟩⟩)) ?_
                  exact ih638 (kr + 1) 0 w958 (by omega) (by omega) (by omega) (hI960) (((((((hF642.tr (hF858.up (by decide))).tr (hF912.up (by decide))).tr (hF925.up (by decide))).tr (hF938.up (by decide))).tr (hF951.up (by decide))).tr (hF961.up (by decide)))) (⟨Or.inr (Or.inl ⟨rfl, r_868, g_850, hx968, hz965, (hF_852.k83 (rwv_eq ((hF961.1 83 (by decide)).trans ((hF951.1 83 (by decide)).trans ((hF938.1 83 (by decide)).trans ((hF925.1 83 (by decide)).trans ((hF912.1 83 (by decide)).trans he866)))))) (rwv_eq ((hF961.1 83 (by decide)).trans ((hF951.1 83 (by decide)).trans ((hF938.1 83 (by decide)).trans ((hF925.1 83 (by decide)).trans ((hF912.1 83 (by decide)).trans he866))))))), hk4853, fun z => by rw [← heq666, rs_col hy863 (by rw [← hr869]; exact z), ← hr869, ← hg851], fun z => by rw [← heq666, rs_bad hy863 (by rw [← hr869]; exact hx967) (by rw [← hr869]; exact z), ← hr869, ← hg851]⟩), ((((((hK649.tr hn862).tr (K83.fr hF912 (by decide))).tr (K83.fr hF925 (by decide))).tr (K83.fr hF938 (by decide))).tr (K83.fr hF951 (by decide))).tr (K83.fr hF961 (by decide))), (RO2.fr hro953 hF961 (by decide)), k14_969⟩)
              · refine xg_t (xg_const) ?_
                refine xg_t (xg_istore (l1 := [(0, (2, 82)), (1, (0, kr)), (2, (0, 1))]) rfl rfl rfl) ?_
                refine xg_t (xg_blk (b := [(55, 1, 2, 3, 0, 0), (56, 1, 3, 4, 0, 0), (57, 3, 6, 88, 3, 0), (60, 1, 2, 1, 0, 0), (61, 1, 3, 4, 0, 0), (62, 3, 6, 88, 3, 0), (65, 1, 0, 0, 0, 0), (66, 1, 3, 1, 0, 0), (67, 1, 3, 4, 0, 0), (68, 1, 2, 1, 0, 0), (69, 1, 16, 0, 0, 0), (70, 1, 11, 0, 0, 0), (71, 1, 2, 3, 0, 0), (72, 1, 11, 0, 0, 0), (73, 1, 0, 0, 0, 0), (74, 3, 1, 12, 46, 102), (77, 1, 2, 3, 0, 0), (78, 1, 10, 0, 0, 0), (79, 3, 13, 214, 96, 424), (82, 3, 9, 3, 1, 0), (85, 3, 8, 55, 0, 0)]) rfl) ?_
                refine xg_t (xg_iload (va := (0, 0)) rfl rfl) ?_
                refine xg_t (xg_const) ?_
                refine xg_t (xg_icF (u := 0) (v := 4) rfl xnm0 xnm0 (by decide)) ?_
                refine xg_t (xg_iload (va := (0, kr)) rfl rfl) ?_
                refine xg_t (xg_const) ?_
                refine xg_t (xg_icF (u := kr) (v := 4) rfl xnm0 xnm0 (xj_geF (by omega) (by omega))) ?_
                refine xg_t (xg_aload (va := (2, 82)) rfl rfl) ?_
                refine xg_t (xg_const) ?_
                refine xg_t (xg_const) ?_
                refine xg_t (xg_iload (va := (0, kr)) rfl rfl) ?_
                refine xg_t (xg_imul (u := 4) (v := kr) (z := 4 * kr) xnm0 xnm0 (by omega)) ?_
                refine xg_t (xg_iadd (u := 1) (v := 4 * kr) (z := 1 + (4 * kr)) xnm0 xnm0 (by omega)) ?_
                refine xg_t (xg_iload (va := (0, 0)) rfl rfl) ?_
                refine xg_t (xg_iadd (u := 1 + (4 * kr)) (v := 0) (z := (1 + (4 * kr)) + 0) xnm0 xnm0 (by omega)) ?_
                refine xg_t (xg_aload (va := (2, 82)) rfl rfl) ?_
                obtain ⟨f82_974, f82_976, f82_978, f82_980, f82_982, f82_984, f82_986, f82_988, f82_990, f82_992, f82_994, f82_995, f82_996, f82_998, f82_1000, f82_1002, h82_1004, hb975, hb977, hb979, hb981, hb983, hb985, hb987, hb989, hb991, hb993, hb997, hb999, hb1001, hb1003, hb1005⟩ := (hI857 82 (by decide) (by decide) : cp82 (wget w855 82))
                replace hb977 := xHid.of hb977
                replace hb983 := xHid.of hb983
                replace hb987 := xHid.of hb987
                replace hb989 := xHid.of hb989
                replace hb993 := xHid.of hb993
                replace hb997 := xHid.of hb997
                replace hb999 := xHid.of hb999
                replace hb1001 := xHid.of hb1001
                replace hb1003 := xHid.of hb1003
                refine xg_t (xg_getf (va := (2, 113)) h82_1004 rfl) ?_
                refine xg_t (xg_iload (va := (0, 0)) rfl rfl) ?_
                refine xg_ialdB (n := 0) (B := 4294967295) h113_871 (hb872) xnm0 (by omega) (fun u1006 hu1007 he1008 => ?_)
                have hl1009 : fld w855 82 14 = k := hk867.trans hln
                refine xg_cVv mX12_rulePuts (vs := [(0, (1 + (4 * kr)) + 0), (0, u1006)]) (rest := []) (cn1 := 0) (sl1 := 0) rfl (mRulePuts (hI857) (by omega) (by omega) (by omega)) rfl h82_1004 rfl rfl rfl rfl rfl rfl (fun w1010 hq1011 => ?_)
                obtain ⟨hI1012, hF1013, hx1014⟩ := hq1011
                have hro1015 : RO2 w w1010 k := fun l hl hn => ((hx1014 (20 * l) (by omega)).2 (by omega)).trans ((RO2.fr hro650 hF858 (by decide)) l hl hn)
                clear hx1014
                obtain ⟨g112_1016, h112_1017, hb1018⟩ := (hI1012 112 (by decide) (by decide) : cpI 320 79 4294967295 (wget w1010 112))
                have h112_1017 : xRow w1010 112 320 79 g112_1016 := h112_1017
                refine xg_t (xg_iinc (u := 0) (z := 1) (l1 := [(0, (2, 82)), (1, (0, kr)), (2, (0, 1))]) rfl rfl (by decide) rfl) ?_
                refine xg_t (xg_goto) ?_
                refine xg_t (xg_blk (b := [(55, 1, 2, 3, 0, 0), (56, 1, 3, 4, 0, 0), (57, 3, 6, 88, 3, 0), (60, 1, 2, 1, 0, 0), (61, 1, 3, 4, 0, 0), (62, 3, 6, 88, 3, 0), (65, 1, 0, 0, 0, 0), (66, 1, 3, 1, 0, 0), (67, 1, 3, 4, 0, 0), (68, 1, 2, 1, 0, 0), (69, 1, 16, 0, 0, 0), (70, 1, 11, 0, 0, 0), (71, 1, 2, 3, 0, 0), (72, 1, 11, 0, 0, 0), (73, 1, 0, 0, 0, 0), (74, 3, 1, 12, 46, 102), (77, 1, 2, 3, 0, 0), (78, 1, 10, 0, 0, 0), (79, 3, 13, 214, 96, 424), (82, 3, 9, 3, 1, 0), (85, 3, 8, 55, 0, 0)]) rfl) ?_
                refine xg_t (xg_iload (va := (0, 1)) rfl rfl) ?_
                refine xg_t (xg_const) ?_
                refine xg_t (xg_icF (u := 1) (v := 4) rfl xnm0 xnm0 (by decide)) ?_
                refine xg_t (xg_iload (va := (0, kr)) rfl rfl) ?_
                refine xg_t (xg_const) ?_
                refine xg_t (xg_icF (u := kr) (v := 4) rfl xnm0 xnm0 (xj_geF (by omega) (by omega))) ?_
                refine xg_t (xg_aload (va := (2, 82)) rfl rfl) ?_
                refine xg_t (xg_const) ?_
                refine xg_t (xg_const) ?_
                refine xg_t (xg_iload (va := (0, kr)) rfl rfl) ?_
                refine xg_t (xg_imul (u := 4) (v := kr) (z := 4 * kr) xnm0 xnm0 (by omega)) ?_
                refine xg_t (xg_iadd (u := 1) (v := 4 * kr) (z := 1 + (4 * kr)) xnm0 xnm0 (by omega)) ?_
                refine xg_t (xg_iload (va := (0, 1)) rfl rfl) ?_
                refine xg_t (xg_iadd (u := 1 + (4 * kr)) (v := 1) (z := (1 + (4 * kr)) + 1) xnm0 xnm0 (by omega)) ?_
                refine xg_t (xg_aload (va := (2, 82)) rfl rfl) ?_
                refine xg_t (xg_getf (va := (2, 113)) (hF1013.get (by decide) h82_1004) rfl) ?_
                refine xg_t (xg_iload (va := (0, 1)) rfl rfl) ?_
                refine xg_ialdB (n := 1) (B := 4294967295) (h113_871.fr hF1013 (by decide)) (hb872) xnm0 (by omega) (fun u1019 hu1020 he1021 => ?_)
                have hl1022 : fld w1010 82 14 = k := ((fld_eq (j := 14) (hF1013.1 82 (by decide))).trans hk867).trans hln
                refine xg_cVv mX12_rulePuts (vs := [(0, (1 + (4 * kr)) + 1), (0, u1019)]) (rest := []) (cn1 := 0) (sl1 := 0) rfl (mRulePuts (hI1012) (by omega) (by omega) (by omega)) rfl (hF1013.get (by decide) h82_1004) rfl rfl rfl rfl rfl rfl (fun w1023 hq1024 => ?_)
                obtain ⟨hI1025, hF1026, hx1027⟩ := hq1024
                have hro1028 : RO2 w w1023 k := fun l hl hn => ((hx1027 (20 * l) (by omega)).2 (by omega)).trans (hro1015 l hl hn)
                clear hx1027
                obtain ⟨g112_1029, h112_1030, hb1031⟩ := (hI1025 112 (by decide) (by decide) : cpI 320 79 4294967295 (wget w1023 112))
                have h112_1030 : xRow w1023 112 320 79 g112_1029 := h112_1030
                refine xg_t (xg_iinc (u := 1) (z := 2) (l1 := [(0, (2, 82)), (1, (0, kr)), (2, (0, 1))]) rfl rfl (by decide) rfl) ?_
                refine xg_t (xg_goto) ?_
                refine xg_t (xg_blk (b := [(55, 1, 2, 3, 0, 0), (56, 1, 3, 4, 0, 0), (57, 3, 6, 88, 3, 0), (60, 1, 2, 1, 0, 0), (61, 1, 3, 4, 0, 0), (62, 3, 6, 88, 3, 0), (65, 1, 0, 0, 0, 0), (66, 1, 3, 1, 0, 0), (67, 1, 3, 4, 0, 0), (68, 1, 2, 1, 0, 0), (69, 1, 16, 0, 0, 0), (70, 1, 11, 0, 0, 0), (71, 1, 2, 3, 0, 0), (72, 1, 11, 0, 0, 0), (73, 1, 0, 0, 0, 0), (74, 3, 1, 12, 46, 102), (77, 1, 2, 3, 0, 0), (78, 1, 10, 0, 0, 0), (79, 3, 13, 214, 96, 424), (82, 3, 9, 3, 1, 0), (85, 3, 8, 55, 0, 0)]) rfl) ?_
                refine xg_t (xg_iload (va := (0, 2)) rfl rfl) ?_
                refine xg_t (xg_const) ?_
                refine xg_t (xg_icF (u := 2) (v := 4) rfl xnm0 xnm0 (by decide)) ?_
                refine xg_t (xg_iload (va := (0, kr)) rfl rfl) ?_
                refine xg_t (xg_const) ?_
                refine xg_t (xg_icF (u := kr) (v := 4) rfl xnm0 xnm0 (xj_geF (by omega) (by omega))) ?_
                refine xg_t (xg_aload (va := (2, 82)) rfl rfl) ?_
                refine xg_t (xg_const) ?_
                refine xg_t (xg_const) ?_
                refine xg_t (xg_iload (va := (0, kr)) rfl rfl) ?_
                refine xg_t (xg_imul (u := 4) (v := kr) (z := 4 * kr) xnm0 xnm0 (by omega)) ?_
                refine xg_t (xg_iadd (u := 1) (v := 4 * kr) (z := 1 + (4 * kr)) xnm0 xnm0 (by omega)) ?_
                refine xg_t (xg_iload (va := (0, 2)) rfl rfl) ?_
                refine xg_t (xg_iadd (u := 1 + (4 * kr)) (v := 2) (z := (1 + (4 * kr)) + 2) xnm0 xnm0 (by omega)) ?_
                refine xg_t (xg_aload (va := (2, 82)) rfl rfl) ?_
                refine xg_t (xg_getf (va := (2, 113)) (hF1026.get (by decide) (hF1013.get (by decide) h82_1004)) rfl) ?_
                refine xg_t (xg_iload (va := (0, 2)) rfl rfl) ?_
                refine xg_ialdB (n := 2) (B := 4294967295) ((h113_871.fr hF1013 (by decide)).fr hF1026 (by decide)) (hb872) xnm0 (by omega) (fun u1032 hu1033 he1034 => ?_)
                have hl1035 : fld w1023 82 14 = k := ((fld_eq (j := 14) ((hF1026.1 82 (by decide)).trans (hF1013.1 82 (by decide)))).trans hk867).trans hln
                refine xg_cVv mX12_rulePuts (vs := [(0, (1 + (4 * kr)) + 2), (0, u1032)]) (rest := []) (cn1 := 0) (sl1 := 0) rfl (mRulePuts (hI1025) (by omega) (by omega) (by omega)) rfl (hF1026.get (by decide) (hF1013.get (by decide) h82_1004)) rfl rfl rfl rfl rfl rfl (fun w1036 hq1037 => ?_)
                obtain ⟨hI1038, hF1039, hx1040⟩ := hq1037
                have hro1041 : RO2 w w1036 k := fun l hl hn => ((hx1040 (20 * l) (by omega)).2 (by omega)).trans (hro1028 l hl hn)
                clear hx1040
                obtain ⟨g112_1042, h112_1043, hb1044⟩ := (hI1038 112 (by decide) (by decide) : cpI 320 79 4294967295 (wget w1036 112))
                have h112_1043 : xRow w1036 112 320 79 g112_1042 := h112_1043
                refine xg_t (xg_iinc (u := 2) (z := 3) (l1 := [(0, (2, 82)), (1, (0, kr)), (2, (0, 1))]) rfl rfl (by decide) rfl) ?_
                refine xg_t (xg_goto) ?_
                refine xg_t (xg_blk (b := [(55, 1, 2, 3, 0, 0), (56, 1, 3, 4, 0, 0), (57, 3, 6, 88, 3, 0), (60, 1, 2, 1, 0, 0), (61, 1, 3, 4, 0, 0), (62, 3, 6, 88, 3, 0), (65, 1, 0, 0, 0, 0), (66, 1, 3, 1, 0, 0), (67, 1, 3, 4, 0, 0), (68, 1, 2, 1, 0, 0), (69, 1, 16, 0, 0, 0), (70, 1, 11, 0, 0, 0), (71, 1, 2, 3, 0, 0), (72, 1, 11, 0, 0, 0), (73, 1, 0, 0, 0, 0), (74, 3, 1, 12, 46, 102), (77, 1, 2, 3, 0, 0), (78, 1, 10, 0, 0, 0), (79, 3, 13, 214, 96, 424), (82, 3, 9, 3, 1, 0), (85, 3, 8, 55, 0, 0)]) rfl) ?_
                refine xg_t (xg_iload (va := (0, 3)) rfl rfl) ?_
                refine xg_t (xg_const) ?_
                refine xg_t (xg_icF (u := 3) (v := 4) rfl xnm0 xnm0 (by decide)) ?_
                refine xg_t (xg_iload (va := (0, kr)) rfl rfl) ?_
                refine xg_t (xg_const) ?_
                refine xg_t (xg_icF (u := kr) (v := 4) rfl xnm0 xnm0 (xj_geF (by omega) (by omega))) ?_
                refine xg_t (xg_aload (va := (2, 82)) rfl rfl) ?_
                refine xg_t (xg_const) ?_
                refine xg_t (xg_const) ?_
                refine xg_t (xg_iload (va := (0, kr)) rfl rfl) ?_
                refine xg_t (xg_imul (u := 4) (v := kr) (z := 4 * kr) xnm0 xnm0 (by omega)) ?_
                refine xg_t (xg_iadd (u := 1) (v := 4 * kr) (z := 1 + (4 * kr)) xnm0 xnm0 (by omega)) ?_
                refine xg_t (xg_iload (va := (0, 3)) rfl rfl) ?_
                refine xg_t (xg_iadd (u := 1 + (4 * kr)) (v := 3) (z := (1 + (4 * kr)) + 3) xnm0 xnm0 (by omega)) ?_
                refine xg_t (xg_aload (va := (2, 82)) rfl rfl) ?_
                refine xg_t (xg_getf (va := (2, 113)) (hF1039.get (by decide) (hF1026.get (by decide) (hF1013.get (by decide) h82_1004))) rfl) ?_
                refine xg_t (xg_iload (va := (0, 3)) rfl rfl) ?_
                refine xg_ialdB (n := 3) (B := 4294967295) (((h113_871.fr hF1013 (by decide)).fr hF1026 (by decide)).fr hF1039 (by decide)) (hb872) xnm0 (by omega) (fun u1045 hu1046 he1047 => ?_)
                have hl1048 : fld w1036 82 14 = k := ((fld_eq (j := 14) ((hF1039.1 82 (by decide)).trans ((hF1026.1 82 (by decide)).trans (hF1013.1 82 (by decide))))).trans hk867).trans hln
                refine xg_cVv mX12_rulePuts (vs := [(0, (1 + (4 * kr)) + 3), (0, u1045)]) (rest := []) (cn1 := 0) (sl1 := 0) rfl (mRulePuts (hI1038) (by omega) (by omega) (by omega)) rfl (hF1039.get (by decide) (hF1026.get (by decide) (hF1013.get (by decide) h82_1004))) rfl rfl rfl rfl rfl rfl (fun w1049 hq1050 => ?_)
                obtain ⟨hI1051, hF1052, hx1053⟩ := hq1050
                have hro1054 : RO2 w w1049 k := fun l hl hn => ((hx1053 (20 * l) (by omega)).2 (by omega)).trans (hro1041 l hl hn)
                clear hx1053
                obtain ⟨g112_1055, h112_1056, hb1057⟩ := (hI1051 112 (by decide) (by decide) : cpI 320 79 4294967295 (wget w1049 112))
                have h112_1056 : xRow w1049 112 320 79 g112_1055 := h112_1056
                refine xg_t (xg_iinc (u := 3) (z := 4) (l1 := [(0, (2, 82)), (1, (0, kr)), (2, (0, 1))]) rfl rfl (by decide) rfl) ?_
                refine xg_t (xg_goto) ?_
                refine xg_t (xg_blk (b := [(55, 1, 2, 3, 0, 0), (56, 1, 3, 4, 0, 0), (57, 3, 6, 88, 3, 0), (60, 1, 2, 1, 0, 0), (61, 1, 3, 4, 0, 0), (62, 3, 6, 88, 3, 0), (65, 1, 0, 0, 0, 0), (66, 1, 3, 1, 0, 0), (67, 1, 3, 4, 0, 0), (68, 1, 2, 1, 0, 0), (69, 1, 16, 0, 0, 0), (70, 1, 11, 0, 0, 0), (71, 1, 2, 3, 0, 0), (72, 1, 11, 0, 0, 0), (73, 1, 0, 0, 0, 0), (74, 3, 1, 12, 46, 102), (77, 1, 2, 3, 0, 0), (78, 1, 10, 0, 0, 0), (79, 3, 13, 214, 96, 424), (82, 3, 9, 3, 1, 0), (85, 3, 8, 55, 0, 0)]) rfl) ?_
                refine xg_t (xg_iload (va := (0, 4)) rfl rfl) ?_
                refine xg_t (xg_const) ?_
                refine xg_t (xg_icT (u := 4) (v := 4) rfl xnm0 xnm0 (by decide)) ?_
                refine xg_t (xg_blk (b := [(88, 3, 9, 1, 1, 0), (91, 1, 0, 0, 0, 0), (92, 2, 4, 51, 0, 0), (94, 3, 13, 227, 96, 415), (97, 1, 15, 2, 0, 0), (98, 3, 8, 31, 0, 0)]) rfl) ?_
                refine xg_t (xg_iinc (u := kr) (z := kr + 1) (l1 := [(3, (0, 4)), (0, (2, 82)), (2, (0, 1))]) rfl rfl (by omega) rfl) ?_
                refine xg_t (xg_aload (va := (2, 82)) rfl rfl) ?_
                refine xg_t (xg_bip) ?_
                refine xg_cVi mX12_takes (vs := [(0, 51)]) (rest := []) (cn1 := 0) (sl1 := 0) rfl (mTakesW (hI1051) (by omega) (by have q := hT_864.1; have q2 := fld_eq (j := 10) ((hF1052.1 82 (by decide)).trans ((hF1039.1 82 (by decide)).trans ((hF1026.1 82 (by decide)).trans (hF1013.1 82 (by decide))))); omega)) rfl (hF1052.get (by decide) (hF1039.get (by decide) (hF1026.get (by decide) (hF1013.get (by decide) h82_1004)))) rfl rfl rfl rfl rfl rfl (fun n1062 w1058 hq1059 => ?_)
                obtain ⟨hn1063, hI1060, hF1061⟩ := hq1059
                subst hn1063
                refine xg_t (xg_istore (l1 := [(1, (0, kr + 1)), (3, (0, 4)), (0, (2, 82))]) rfl rfl rfl) ?_
                refine xg_t (xg_goto) ?_
                refine xg_t (xg_drop (l1 := [(0, (2, 82)), (1, (0, kr + 1)), (2, (0, 0))]) (List.forall_mem_cons.mpr ⟨List.mem_cons_of_mem _ (List.mem_cons_of_mem _ (List.mem_cons_of_mem _ (List.mem_cons_self))), List.forall_mem_cons.mpr ⟨List.mem_cons_of_mem _ (List.mem_cons_self), List.forall_mem_cons.mpr ⟨List.mem_cons_self, fun _ h => absurd h List.not_mem_nil⟩⟩⟩)) ?_
                have hW_1064 : WRG w1058 (tq B nn r_868) := ⟨(fld_eq (j := 10) ((hF1061.1 82 (by decide)).trans ((hF1052.1 82 (by decide)).trans ((hF1039.1 82 (by decide)).trans ((hF1026.1 82 (by decide)).trans (hF1013.1 82 (by decide))))))).trans hT_864.1, (rwv_eq ((hF1061.1 83 (by decide)).trans ((hF1052.1 83 (by decide)).trans ((hF1039.1 83 (by decide)).trans ((hF1026.1 83 (by decide)).trans (hF1013.1 83 (by decide))))))).trans hT_864.2.1, (rwv_eq ((hF1061.1 83 (by decide)).trans ((hF1052.1 83 (by decide)).trans ((hF1039.1 83 (by decide)).trans ((hF1026.1 83 (by decide)).trans (hF1013.1 83 (by decide))))))).trans hT_864.2.2⟩
                exact ih638 (kr + 1) 0 w1058 (by omega) (by omega) (by omega) (hI1060) (((((((hF642.tr (hF858.up (by decide))).tr (hF1013.up (by decide))).tr (hF1026.up (by decide))).tr (hF1039.up (by decide))).tr (hF1052.up (by decide))).tr (hF1061.up (by decide)))) (⟨Or.inr (Or.inr ⟨rfl, r_868, g_850, hW_1064, by rw [← heq666, rs_no hy863, ← hr869, ← hg851]⟩), ((((((hK649.tr hn862).tr (K83.fr hF1013 (by decide))).tr (K83.fr hF1026 (by decide))).tr (K83.fr hF1039 (by decide))).tr (K83.fr hF1052 (by decide))).tr (K83.fr hF1061 (by decide))), (RO2.fr hro1054 hF1061 (by decide)), ((fld_eq (j := 14) ((hF1061.1 82 (by decide)).trans ((hF1052.1 82 (by decide)).trans ((hF1039.1 82 (by decide)).trans ((hF1026.1 82 (by decide)).trans (hF1013.1 82 (by decide))))))).trans hk867)⟩)
          · refine xg_t (xg_iload (va := (0, 0)) rfl rfl) ?_
            refine xg_t (xg_ifT (u := 0) rfl xnm0 (by decide)) ?_
            refine xg_t (xg_blk (b := [(101, 1, 0, 0, 0, 0), (102, 2, 4, 58, 0, 0), (104, 3, 13, 195, 96, 427)]) rfl) ?_
            refine xg_t (xg_aload (va := (2, 82)) rfl rfl) ?_
            refine xg_t (xg_bip) ?_
            have hk1065 := h14_651
            obtain ⟨f82_1066, f82_1068, f82_1070, f82_1072, f82_1074, f82_1076, f82_1078, f82_1080, f82_1082, f82_1084, f82_1086, f82_1087, f82_1088, f82_1090, f82_1092, f82_1094, h82_1096, hb1067, hb1069, hb1071, hb1073, hb1075, hb1077, hb1079, hb1081, hb1083, hb1085, hb1089, hb1091, hb1093, hb1095, hb1097⟩ := (hI641 82 (by decide) (by decide) : cp82 (wget w640 82))
            replace hb1069 := xHid.of hb1069
            replace hb1075 := xHid.of hb1075
            replace hb1079 := xHid.of hb1079
            replace hb1081 := xHid.of hb1081
            replace hb1085 := xHid.of hb1085
            replace hb1089 := xHid.of hb1089
            replace hb1091 := xHid.of hb1091
            replace hb1093 := xHid.of hb1093
            replace hb1095 := xHid.of hb1095
            refine xg_cVv mX12_must (vs := [(0, 58)]) (rest := []) (cn1 := 0) (sl1 := 0) rfl (mMustX (hI641) (by omega) (hB.fr (fun j h4 h9 => hK649 j (by omega) (by omega) (by omega))) hT_669 k10_670) rfl h82_1096 rfl rfl rfl rfl rfl rfl (fun w1098 hq1099 => ?_)
            obtain ⟨hI1100, hF1101, hx1102⟩ := hq1099
            obtain ⟨hn1103, hn1104, hn1105⟩ := hx1102
            have hk1110 := hn1104.trans hk1065
            rcases hn1103 with ⟨hx1106, hx1107, hx1108, hx1109⟩ | ⟨hx1106, hx1107⟩
            · obtain ⟨p_1111, hp1112⟩ : ∃ x, x = tf B nn q_667 := ⟨_, rfl⟩
              rw [← hp1112] at hx1107
              have heq1114 : rs B nn 0 (tf B nn p) (rlg B nn k p fp) = (true, p_1111, f_668) := by rw [← hg619, ← hp636, he1673 hx1106, ← hp1112]
              have hE1113 : (rlR B nn k p fp) = rvR B nn p_1111 f_668 := (rlR_1 hx632 (congrArg Prod.fst heq1114)).trans (congrArg (fun t : Bool × Nat × (Nat × Nat) => rvR B nn t.2.1 t.2.2) heq1114)
              refine xg_t (xg_drop (l1 := [(0, (2, 82)), (1, (0, kr))]) (List.forall_mem_cons.mpr ⟨List.mem_cons_self, List.forall_mem_cons.mpr ⟨List.mem_cons_of_mem _ (List.mem_cons_self), fun _ h => absurd h List.not_mem_nil⟩⟩)) ?_
              have hl1115 : fld w1098 82 14 = k := hk1110.trans hln
              have hro1116 : RO2 w w1098 k := (RO2.fr hro650 hF1101 (by decide))
              have hF_1117 : FP w1098 f_668 := (hF_671.k83 (rwv_eq hx1109) (rwv_eq hx1109))
              refine (mRuleTX (fp := f_668) (hI1100) (hB.fr (fun j h4 h9 => (hK649.tr hn1105) j (by omega) (by omega) (by omega))) hx1107 hx1108 (by omega) (by omega)).imp (fun φ h => ?_)
              obtain ⟨w', e1, e2, e3, e4, e5⟩ := h
              refine ⟨w', e1, e2, ((hF642.tr (hF1101.up (by decide)))).tr (e3.up (by decide)), ?_, ((hK649.tr hn1105)).tr e5⟩
              rcases e4 with ⟨a1, a2, a3, a4, a5, a6, a7⟩ | ⟨a1, a2, a3⟩
              · have a4' : fld w' 82 14 = k + 1 := by omega
                refine Or.inl ⟨by rw [hE1113]; exact a1, by rw [hE1113]; exact a2, a3, a4', by rw [hE1113, rvR_f]; exact hF_1117.k83 (rwv_eq a5) (rwv_eq a5), fun z hd => ?_⟩
                by_cases y : 16 ≤ k
                · exact absurd z (rlR_nz y)
                · rw [hE1113, rvR_f] at z
                  have q := a7 (by omega)
                  rw [hl1115] at q a6
                  exact hd.up hln a4' (by omega) (fun l hl hn => (a6 l hl hn).trans (hro1116 l hl hn)) q (hk4672 z)
              · exact Or.inr ⟨by rw [hE1113]; exact a1, by rw [hE1113]; exact a2, by omega⟩
            · have heq1119 : rs B nn 0 (tf B nn p) (rlg B nn k p fp) = (false, q_667, f_668) := by rw [← hg619, ← hp636, he2674 hx1106]
              have hE1118 : (rlR B nn k p fp) = (false, q_667, f_668) := (rlR_2 hx632 (congrArg Prod.fst heq1119)).trans heq1119
              refine xg_t (xg_drop (l1 := [(0, (2, 82)), (1, (0, kr))]) (List.forall_mem_cons.mpr ⟨List.mem_cons_self, List.forall_mem_cons.mpr ⟨List.mem_cons_of_mem _ (List.mem_cons_self), fun _ h => absurd h List.not_mem_nil⟩⟩)) ?_
              have hl1120 : fld w1098 82 14 = k := hk1110.trans hln
              have hW_1121 : WRG w1098 (tq B nn q_667) := hx1107
              refine (mRuleTW (hI1100) (by have q := hW_1121.1; omega)).imp (fun φ h => ?_)
              obtain ⟨w', e1, e2, e3, -⟩ := h
              refine ⟨w', e1, e2, ((hF642.tr (hF1101.up (by decide)))).tr (e3.up (by decide)), Or.inr ⟨congrArg Prod.fst hE1118, by rw [hE1118]; exact ⟨(fld_fr e3 (by decide)).trans hW_1121.1, (rwv_fr e3 (by decide)).trans hW_1121.2.1, (rwv_fr e3 (by decide)).trans hW_1121.2.2⟩, Or.inl ((fld_fr e3 (by decide)).trans hl1120)⟩, ((hK649.tr hn1105)).tr (K83.fr e3 (by decide))⟩
          · refine xg_t (xg_iload (va := (0, 0)) rfl rfl) ?_
            refine xg_t (xg_ifT (u := 0) rfl xnm0 (by decide)) ?_
            refine xg_t (xg_blk (b := [(101, 1, 0, 0, 0, 0), (102, 2, 4, 58, 0, 0), (104, 3, 13, 195, 96, 427)]) rfl) ?_
            refine xg_t (xg_aload (va := (2, 82)) rfl rfl) ?_
            refine xg_t (xg_bip) ?_
            obtain ⟨f82_1122, f82_1124, f82_1126, f82_1128, f82_1130, f82_1132, f82_1134, f82_1136, f82_1138, f82_1140, f82_1142, f82_1143, f82_1144, f82_1146, f82_1148, f82_1150, h82_1152, hb1123, hb1125, hb1127, hb1129, hb1131, hb1133, hb1135, hb1137, hb1139, hb1141, hb1145, hb1147, hb1149, hb1151, hb1153⟩ := (hI641 82 (by decide) (by decide) : cp82 (wget w640 82))
            replace hb1125 := xHid.of hb1125
            replace hb1131 := xHid.of hb1131
            replace hb1135 := xHid.of hb1135
            replace hb1137 := xHid.of hb1137
            replace hb1141 := xHid.of hb1141
            replace hb1145 := xHid.of hb1145
            replace hb1147 := xHid.of hb1147
            replace hb1149 := xHid.of hb1149
            replace hb1151 := xHid.of hb1151
            refine xg_cVv mX12_must (vs := [(0, 58)]) (rest := []) (cn1 := 0) (sl1 := 0) rfl (mMustW (hI641) (by omega) (by have q := hW_677.1; omega)) rfl h82_1152 rfl rfl rfl rfl rfl rfl (fun w1154 hq1155 => ?_)
            obtain ⟨hI1156, hF1157⟩ := hq1155
            have heq1159 : rs B nn 0 (tf B nn p) (rlg B nn k p fp) = (false, q_675, f_676) := by rw [← hg619, ← hp636]; exact heq678
            have hE1158 : (rlR B nn k p fp) = (false, q_675, f_676) := (rlR_2 hx632 (congrArg Prod.fst heq1159)).trans heq1159
            refine xg_t (xg_drop (l1 := [(0, (2, 82)), (1, (0, kr))]) (List.forall_mem_cons.mpr ⟨List.mem_cons_self, List.forall_mem_cons.mpr ⟨List.mem_cons_of_mem _ (List.mem_cons_self), fun _ h => absurd h List.not_mem_nil⟩⟩)) ?_
            have hl1160 : fld w1154 82 14 = k := ((fld_eq (j := 14) (hF1157.1 82 (by decide))).trans h14_651).trans hln
            have hW_1161 : WRG w1154 (tq B nn q_675) := ⟨(fld_eq (j := 10) (hF1157.1 82 (by decide))).trans hW_677.1, (rwv_eq (hF1157.1 83 (by decide))).trans hW_677.2.1, (rwv_eq (hF1157.1 83 (by decide))).trans hW_677.2.2⟩
            refine (mRuleTW (hI1156) (by have q := hW_1161.1; omega)).imp (fun φ h => ?_)
            obtain ⟨w', e1, e2, e3, -⟩ := h
            refine ⟨w', e1, e2, ((hF642.tr (hF1157.up (by decide)))).tr (e3.up (by decide)), Or.inr ⟨congrArg Prod.fst hE1158, by rw [hE1158]; exact ⟨(fld_fr e3 (by decide)).trans hW_1161.1, (rwv_fr e3 (by decide)).trans hW_1161.2.1, (rwv_fr e3 (by decide)).trans hW_1161.2.2⟩, Or.inl ((fld_fr e3 (by decide)).trans hl1160)⟩, ((hK649.tr (K83.fr hF1157 (by decide)))).tr (K83.fr e3 (by decide))⟩
      exact key637 _ 0 1 w623 (Nat.lt_succ_self _) (by omega) (by omega) (hI625) (((hF613.up (by decide)).tr (hF626.up (by decide)))) (⟨Or.inl ⟨rfl, _, _, hx633, hz630, (hF_620.k83 (rwv_eq (hF626.1 83 (by decide))) (rwv_eq (hF626.1 83 (by decide)))), hig643, Nat.zero_le _, fun _ => Nat.zero_le _, rfl⟩, (hv616.tr (K83.fr hF626 (by decide))), (RO2.fr (RO2.fr (fun l _ _ => rfl : RO2 w w k) hF613 (by decide)) hF626 (by decide)), k14_634⟩)
    · refine xg_t (xg_ifT (u := 0) rfl xnm0 (by decide)) ?_
      have hE1162 : (rlR B nn k p fp) = rvR B nn p g_618 := by rw [rlR_0 hx632, ← hg619]
      refine xg_t (xg_drop (l1 := [(0, (2, 82)), (1, (0, 0))]) (List.forall_mem_cons.mpr ⟨List.mem_cons_of_mem _ (List.mem_cons_self), List.forall_mem_cons.mpr ⟨List.mem_cons_self, fun _ h => absurd h List.not_mem_nil⟩⟩)) ?_
      have hl1163 : fld w623 82 14 = k := k14_634.trans hln
      have hro1164 : RO2 w w623 k := (RO2.fr (RO2.fr (fun l _ _ => rfl : RO2 w w k) hF613 (by decide)) hF626 (by decide))
      have hF_1165 : FP w623 g_618 := (hF_620.k83 (rwv_eq (hF626.1 83 (by decide))) (rwv_eq (hF626.1 83 (by decide))))
      refine (mRuleTX (fp := g_618) (hI625) (hB.fr (fun j h4 h9 => (hv616.tr (K83.fr hF626 (by decide))) j (by omega) (by omega) (by omega))) hx633 hz630 (by omega) (by omega)).imp (fun φ h => ?_)
      obtain ⟨w', e1, e2, e3, e4, e5⟩ := h
      refine ⟨w', e1, e2, (((hF613.up (by decide)).tr (hF626.up (by decide)))).tr (e3.up (by decide)), ?_, ((hv616.tr (K83.fr hF626 (by decide)))).tr e5⟩
      rcases e4 with ⟨a1, a2, a3, a4, a5, a6, a7⟩ | ⟨a1, a2, a3⟩
      · have a4' : fld w' 82 14 = k + 1 := by omega
        refine Or.inl ⟨by rw [hE1162]; exact a1, by rw [hE1162]; exact a2, a3, a4', by rw [hE1162, rvR_f]; exact hF_1165.k83 (rwv_eq a5) (rwv_eq a5), fun z hd => ?_⟩
        by_cases y : 16 ≤ k
        · exact absurd z (rlR_nz y)
        · rw [hE1162, rvR_f] at z
          have q := a7 (by omega)
          rw [hl1163] at q a6
          exact hd.up hln a4' (by omega) (fun l hl hn => (a6 l hl hn).trans (hro1164 l hl hn)) q ((fun _ => by omega) z)
      · exact Or.inr ⟨by rw [hE1162]; exact a1, by rw [hE1162]; exact a2, by omega⟩
set_option maxHeartbeats 60000000 in
theorem mRulesX {B : Nat → Nat} {nn : Nat} (hI : xMnv w) (hB : bsm w B nn) (hnn : rwv w 83 15 = nn) : xPi (d + 8) mX12_rules [(2, 82)] w bd fc rr (fun n w' => (n = (RU B nn).1 ∧ rwv w' 83 16 = (RU B nn).2.1 ∧ rwv w' 83 17 = (RU B nn).2.2 ∧ rwv w' 83 15 = 0 ∧ (∀ j, (j < 15 ∨ 17 < j) → j ≠ 902 → (j < 1020 ∨ 1340 ≤ j) → j < 5360 → rwv w' 83 j = rwv w 83 j) ∧ (n = 4294967295 → rwv w' 83 902 = rwv w 83 902) ∧ (n ≠ 4294967295 → n ≤ 16 ∧ rwv w' 83 902 = n)) ∧ xMnv w' ∧ xFr [82, 83, 112, 113] w w') := by
  refine xPi.of ?_
  show xTo (d + 8) mX12_rules (0, [], [(0, (2, 82))], [], (w, bd, fc, 0, 0, rr)) (fun φ => ∃ n w', xEnd 1 [(0, n)] (w', bd, fc, 0, 0, rr) φ ∧ (n = (RU B nn).1 ∧ rwv w' 83 16 = (RU B nn).2.1 ∧ rwv w' 83 17 = (RU B nn).2.2 ∧ rwv w' 83 15 = 0 ∧ (∀ j, (j < 15 ∨ 17 < j) → j ≠ 902 → (j < 1020 ∨ 1340 ≤ j) → j < 5360 → rwv w' 83 j = rwv w 83 j) ∧ (n = 4294967295 → rwv w' 83 902 = rwv w 83 902) ∧ (n ≠ 4294967295 → n ≤ 16 ∧ rwv w' 83 902 = n)) ∧ xMnv w' ∧ xFr [82, 83, 112, 113] w w')
  obtain ⟨f82_1, f82_3, f82_5, f82_7, f82_9, f82_11, f82_13, f82_15, f82_17, f82_19, f82_21, f82_22, f82_23, f82_25, f82_27, f82_29, h82_31, hb2, hb4, hb6, hb8, hb10, hb12, hb14, hb16, hb18, hb20, hb24, hb26, hb28, hb30, hb32⟩ := (hI 82 (by decide) (by decide) : cp82 (wget w 82))
  replace hb4 := xHid.of hb4
  replace hb10 := xHid.of hb10
  replace hb14 := xHid.of hb14
  replace hb16 := xHid.of hb16
  replace hb20 := xHid.of hb20
  replace hb24 := xHid.of hb24
  replace hb26 := xHid.of hb26
  replace hb28 := xHid.of hb28
  replace hb30 := xHid.of hb30
  refine xg_t (xg_blk (b := [(0, 1, 0, 0, 0, 0), (1, 1, 3, 1, 0, 0), (2, 3, 13, 121, 96, 215), (5, 1, 0, 0, 0, 0), (6, 3, 13, 110, 96, 190)]) rfl) ?_
  refine xg_t (xg_aload (va := (2, 82)) rfl rfl) ?_
  refine xg_t (xg_const) ?_
  refine xg_cVv mX12_begins (vs := [(0, 1)]) (rest := []) (cn1 := 0) (sl1 := 0) rfl (mBegX1 (hI)) rfl h82_31 rfl rfl rfl rfl rfl rfl (fun w33 hq34 => ?_)
  obtain ⟨hI35, hF36, hx37⟩ := hq34
  obtain ⟨hg38, hg39, hg40, hg41, hg42, hg43, hg44, hg45⟩ := hx37
  refine xg_t (xg_aload (va := (2, 82)) rfl rfl) ?_
  obtain ⟨f82_46, f82_48, f82_50, f82_52, f82_54, f82_56, f82_58, f82_60, f82_62, f82_64, f82_66, f82_67, f82_68, f82_70, f82_72, f82_74, h82_76, hb47, hb49, hb51, hb53, hb55, hb57, hb59, hb61, hb63, hb65, hb69, hb71, hb73, hb75, hb77⟩ := (hI35 82 (by decide) (by decide) : cp82 (wget w33 82))
  replace hb49 := xHid.of hb49
  replace hb55 := xHid.of hb55
  replace hb59 := xHid.of hb59
  replace hb61 := xHid.of hb61
  replace hb65 := xHid.of hb65
  replace hb69 := xHid.of hb69
  replace hb71 := xHid.of hb71
  replace hb73 := xHid.of hb73
  replace hb75 := xHid.of hb75
  refine xg_cVv mX12_advance (vs := []) (rest := []) (cn1 := 0) (sl1 := 0) rfl (mAdvX (ir := 1) (nn := nn) (hI35) (hB.kb hg45) hg38 (hg39.trans hnn) (by omega)) rfl h82_76 rfl rfl rfl rfl rfl rfl (fun w78 hq79 => ?_)
  obtain ⟨hI80, hF81, hx82⟩ := hq79
  obtain ⟨ht83, ht84, ht85⟩ := hx82
  rw [hg40] at ht83
  have hz86 := ht84.trans hg41
  have hz87 := ht85.trans hg42
  have hz88 : FP w78 (0, 0) := ⟨(rwv_fr hF81 (by decide)).trans hg43, fun z => absurd rfl z, Nat.zero_le _, fun _ => (rwv_fr hF81 (by decide)).trans hg44⟩
  have hz89 : KB w w78 := hg45.kp (K83.fr hF81 (by decide))
  have key90 : ∀ (m92 : Nat) (w93 : List (List xE)), 2 * (502 - fld w93 82 14) + (1 - fld w93 82 10) < m92 → xMnv w93 → xFr [82, 83, 112, 113] w w93 → ((∃ (k q : Nat) (f : Nat × Nat), fld w93 82 14 = k ∧ TKM 1 B nn w93 q ∧ fld w93 82 10 = 0 ∧ FP w93 f ∧ fpi f q ∧ k ≤ q ∧ rx B nn k q f = RU B nn ∧ (f.1 = 0 → RD w93)) ∨ (∃ q : Nat, WRG w93 q ∧ fld w93 82 14 ≤ 501 ∧ RU B nn = (4294967295, 1, q))) ∧ KB w w93 → xTo (d + 8) mX12_rules (9, [], [(0, (2, 82))], [], (w93, bd, fc, 0, 0, rr)) (fun φ => ∃ n w', xEnd 1 [(0, n)] (w', bd, fc, 0, 0, rr) φ ∧ (n = (RU B nn).1 ∧ rwv w' 83 16 = (RU B nn).2.1 ∧ rwv w' 83 17 = (RU B nn).2.2 ∧ rwv w' 83 15 = 0 ∧ (∀ j, (j < 15 ∨ 17 < j) → j ≠ 902 → (j < 1020 ∨ 1340 ≤ j) → j < 5360 → rwv w' 83 j = rwv w 83 j) ∧ (n = 4294967295 → rwv w' 83 902 = rwv w 83 902) ∧ (n ≠ 4294967295 → n ≤ 16 ∧ rwv w' 83 902 = n)) ∧ xMnv w' ∧ xFr [82, 83, 112, 113] w w') := by
    intro m92
    induction m92 with
    | zero => intro w93 hz; exact absurd hz (Nat.not_lt_zero _)
    | succ m92 ih91 =>
      intro w93 hm97 hI94 hF95 he96
      obtain ⟨hX98, kb99⟩ := he96
      refine xg_t (xg_blk (b := [(9, 1, 0, 0, 0, 0), (10, 3, 1, 12, 10, 180), (13, 3, 7, 30, 1, 0), (16, 1, 0, 0, 0, 0), (17, 3, 1, 12, 7, 151), (20, 3, 7, 30, 0, 0), (23, 1, 0, 0, 0, 0), (24, 3, 13, 108, 96, 430), (27, 3, 8, 9, 0, 0)]) rfl) ?_
      rcases hX98 with ⟨k_100, q_101, f_102, h14_103, hT_104, k10_105, hF_106, hfi107, hkq108, heq109, hRD110⟩ | ⟨q_111, hW_112, h14_113, heq114⟩
      · have hBn := hB.1
        have hqn := hT_104.1.2.2.2.2.2
        obtain ⟨⟨ht115, ht116, ht117, ht118, ht119, ht120⟩, -⟩ := id hT_104
        obtain ⟨f82_121, f82_123, f82_125, f82_127, f82_129, f82_131, f82_133, f82_135, f82_137, f82_139, f82_141, f82_142, f82_143, f82_145, f82_147, f82_149, h82_151, hb122, hb124, hb126, hb128, hb130, hb132, hb134, hb136, hb138, hb140, hb144, hb146, hb148, hb150, hb152⟩ := (hI94 82 (by decide) (by decide) : cp82 (wget w93 82))
        replace hb124 := xHid.of hb124
        replace hb130 := xHid.of hb130
        replace hb134 := xHid.of hb134
        replace hb136 := xHid.of hb136
        replace hb140 := xHid.of hb140
        replace hb144 := xHid.of hb144
        replace hb146 := xHid.of hb146
        replace hb148 := xHid.of hb148
        replace hb150 := xHid.of hb150
        have hf153 : fld w93 82 3 = f82_123 := fld_of h82_151
        have hf154 : fld w93 82 6 = f82_129 := fld_of h82_151
        have hf155 : fld w93 82 7 = f82_131 := fld_of h82_151
        have hf156 : fld w93 82 8 = f82_133 := fld_of h82_151
        have hf157 : fld w93 82 9 = f82_135 := fld_of h82_151
        have hf158 : fld w93 82 10 = f82_137 := fld_of h82_151
        have hf159 : fld w93 82 14 = f82_139 := fld_of h82_151
        have hcs160 := hT_104.cs
        refine xg_t (xg_aload (va := (2, 82)) rfl rfl) ?_
        refine xg_t (xg_getf (va := (0, f82_137)) h82_151 rfl) ?_
        refine xg_t (xg_ifF (u := f82_137) rfl xnm0 (xj_neF (by omega))) ?_
        refine xg_t (xg_aload (va := (2, 82)) rfl rfl) ?_
        refine xg_t (xg_getf (va := (0, f82_131)) h82_151 rfl) ?_
        by_cases hc161 : f82_131 = 0
        · refine xg_t (xg_ifT (u := f82_131) rfl xnm0 (xj_eqT hc161)) ?_
          refine xg_t (xg_blk (b := [(30, 1, 0, 0, 0, 0), (31, 3, 1, 12, 0, 7), (34, 2, 4, 16, 0, 0), (36, 1, 10, 0, 0, 0), (37, 3, 7, 42, 0, 0), (40, 1, 3, 4294967295, 0, 0), (41, 1, 12, 0, 1, 0)]) rfl) ?_
          obtain ⟨g83_162, h83_163, hb164, hx165⟩ := (hI94 83 (by decide) (by decide) : cpx83 (wget w93 83))
          have h83_163 : xRow w93 83 5360 50 g83_162 := h83_163
          obtain ⟨g112_166, h112_167, hb168⟩ := (hI94 112 (by decide) (by decide) : cpI 320 79 4294967295 (wget w93 112))
          have h112_167 : xRow w93 112 320 79 g112_166 := h112_167
          have hend : tkd B nn q_101 = 0 := by omega
          have hz169 := hF_106.1
          by_cases hc170 : f_102.1 = 0
          · refine xg_t (xg_aload (va := (2, 82)) rfl rfl) ?_
            refine xg_t (xg_getf (va := (2, 83)) h82_151 rfl) ?_
            refine xg_t (xg_bip) ?_
            refine xg_ialdB (n := 16) (B := 4294967295) h83_163 (hb164) xnm0 (by omega) (fun u171 hu172 he173 => ?_)
            have hq174 : rwv w93 83 16 = u171 := (rwv_of h83_163 (by decide)).trans he173
            refine xg_t (xg_ifT (u := u171) rfl xnm0 (xj_eqT (by omega))) ?_
            refine xg_t (xg_blk (b := [(42, 1, 3, 0, 0, 0), (43, 1, 15, 1, 0, 0)]) rfl) ?_
            have hRD := hRD110 hc170
            have hf175 : fld w93 82 14 = f82_139 := fld_of h82_151
            refine xg_t (xg_const) ?_
            refine xg_t (xg_istore (l1 := [(0, (2, 82))]) rfl rfl rfl) ?_
            refine xg_t (xg_drop (l1 := [(0, (2, 82)), (1, (0, 0))]) (List.forall_mem_cons.mpr ⟨List.mem_cons_of_mem _ (List.mem_cons_self), List.forall_mem_cons.mpr ⟨List.mem_cons_self, fun _ h => absurd h List.not_mem_nil⟩⟩)) ?_
            refine cpRul 320 0 w93 g83_162 (by decide) h83_163 hb164 h112_167 hb168 h82_151 (fun w176 g177 hc178 hc179 hc180 hc181 hc182 => ?_)
            refine xg_t (xg_blk (b := [(73, 1, 0, 0, 0, 0), (74, 3, 1, 12, 0, 7), (77, 3, 5, 902, 0, 0), (80, 1, 0, 0, 0, 0), (81, 3, 1, 12, 14, 212), (84, 1, 17, 0, 0, 0), (85, 1, 0, 0, 0, 0), (86, 3, 1, 12, 14, 212), (89, 1, 12, 0, 1, 0)]) rfl) ?_
            refine xg_t (xg_aload (va := (2, 82)) rfl rfl) ?_
            refine xg_t (xg_getf (va := (2, 83)) (hc180.get (by decide) h82_151) rfl) ?_
            refine xg_t (xg_sip) ?_
            refine xg_t (xg_aload (va := (2, 82)) rfl rfl) ?_
            refine xg_t (xg_getf (va := (0, f82_139)) (hc180.get (by decide) h82_151) rfl) ?_
            have hn183 : f82_139 ≤ 4294967295 := hb140
            refine xg_iastK (n := 902) (u := f82_139) hc178 xnm0 xnm0 rfl (by omega) (fun w184 hr185 hb186 => ?_)
            have hb187 : ∀ j, (fun j => if j = 902 then f82_139 else g177 j) j ≤ 4294967295 := xrb (by omega) (hc179)
            obtain ⟨g188, hg189⟩ : ∃ g : Nat → Nat, g = (fun j => if j = 902 then f82_139 else g177 j) := ⟨_, rfl⟩
            rw [← hg189] at hr185
            have he190 : g188 902 = f82_139 := by rw [hg189]; exact if_pos rfl
            have hk191 : ∀ j, j ≠ 902 → g188 j = g177 j := fun j hj => by rw [hg189]; exact if_neg hj
            rw [← hg189] at hb187
            have hR193 : ∀ l, l < f82_139 → g112_166 (20 * l) ≤ 4 := fun l hl => by
              have q1 := hRD.1
              rw [← rwv_of h112_167 (show 20 * l < 320 by omega)]
              exact hRD.2 l (by omega)
            have hx192 : okA g188 := rules_ok hx165 hc181 hc182 (by have q1 := hRD.1; omega) hR193 he190 hk191
            refine xg_t (xg_aload (va := (2, 82)) rfl rfl) ?_
            refine xg_t (xg_getf (va := (0, f82_139)) (hb186.get (by decide) (hc180.get (by decide) h82_151)) rfl) ?_
            have hR194 : RU B nn = (k_100, 0, 4294967295) := by rw [← heq109]; exact rx_0 hend hc170
            have ho195 : ∀ j, j ≠ 902 → (j < 1020 ∨ 1340 ≤ j) → g188 j = g83_162 j := fun j h1 h2 => (hk191 j h1).trans (hc182 j (by omega))
            have h16_ := hRD.1
            have hnk196 : f82_139 = k_100 := by omega
            have hq197 : rwv w184 83 902 = f82_139 := (rwv_of hr185 (by decide)).trans he190
            exact xg_e ⟨f82_139, w184, ⟨rfl, rfl⟩, ⟨by rw [hR194]; exact hnk196, by rw [hR194]; exact ((rwv_of hr185 (by decide)).trans ((ho195 16 (by omega) (by omega)).trans (rwv_of h83_163 (by decide)).symm)).trans (hF_106.1.trans hc170), by rw [hR194]; exact ((rwv_of hr185 (by decide)).trans ((ho195 17 (by omega) (by omega)).trans (rwv_of h83_163 (by decide)).symm)).trans (hF_106.2.2.2 hc170), ((rwv_of hr185 (by decide)).trans ((ho195 15 (by omega) (by omega)).trans (rwv_of h83_163 (by decide)).symm)).trans kb99.1, fun j h1 h2 h3 h4 => (rwv_of hr185 h4).trans ((ho195 j h2 h3).trans ((rwv_of h83_163 h4).symm.trans (kb99.2 j h4 (by omega) (by omega) (by omega)))), fun y => absurd y (by omega), fun _ => ⟨by omega, by omega⟩⟩, xMnv.up (S := [83]) hI94 ((xFr.of (S := [83]) hc180 (by decide)).tr (xFr.of (S := [83]) hb186 (by decide))) (List.forall_mem_cons.mpr ⟨(show cpx83 (wget w184 83) from ⟨_, hr185, hb187, hx192⟩), fun _ h => absurd h List.not_mem_nil⟩), (hF95.tr ((xFr.of (S := [82, 83, 112, 113]) hc180 (by decide)).tr (xFr.of (S := [82, 83, 112, 113]) hb186 (by decide))))⟩
          · refine xg_t (xg_aload (va := (2, 82)) rfl rfl) ?_
            refine xg_t (xg_getf (va := (2, 83)) h82_151 rfl) ?_
            refine xg_t (xg_bip) ?_
            refine xg_ialdB (n := 16) (B := 4294967295) h83_163 (hb164) xnm0 (by omega) (fun u198 hu199 he200 => ?_)
            have hq201 : rwv w93 83 16 = u198 := (rwv_of h83_163 (by decide)).trans he200
            refine xg_t (xg_ifF (u := u198) rfl xnm0 (xj_eqF (by omega))) ?_
            refine xg_t (xg_const) ?_
            have hR202 : RU B nn = (4294967295, f_102.1, f_102.2) := by rw [← heq109]; exact rx_1 hend hc170
            exact xg_e ⟨4294967295, w93, ⟨rfl, rfl⟩, ⟨(congrArg Prod.fst hR202).symm, by rw [hR202]; exact hF_106.1, by rw [hR202]; exact (hF_106.2.1 hc170).1, kb99.1, fun j h1 h2 h3 h4 => kb99.2 j h4 (by omega) (by omega) (by omega), fun _ => kb99.2 902 (by decide) (by decide) (by decide) (by decide), fun y => absurd rfl y⟩, hI94, hF95⟩
        · refine xg_t (xg_ifF (u := f82_131) rfl xnm0 (xj_eqF hc161)) ?_
          refine xg_t (xg_aload (va := (2, 82)) rfl rfl) ?_
          have hnz203 : tkd B nn q_101 ≠ 0 := by omega
          refine xg_cVv mX12_aRule (vs := []) (rest := []) (cn1 := 0) (sl1 := 0) rfl (mRuleX (k := k_100) (hI94) (hB.kb kb99) hT_104 k10_105 hF_106 hfi107 h14_103 (by omega)) rfl h82_151 rfl rfl rfl rfl rfl rfl (fun w204 hq205 => ?_)
          obtain ⟨hI206, hF207, hx208⟩ := hq205
          obtain ⟨hx209, k8_210⟩ := hx208
          have kb219 := kb99.kp k8_210
          obtain ⟨t_211, ht212⟩ : ∃ x, x = rlR B nn k_100 q_101 f_102 := ⟨_, rfl⟩
          rw [← ht212] at hx209
          rcases hx209 with ⟨hy213, hy214, hy215, hy216, hy217, hy218⟩ | ⟨hy213, hy214, hy215⟩
          · have hfi220 : fpi t_211.2.2 t_211.2.1 := by rw [ht212]; exact rlR_i hqn hfi107 (by rw [← ht212]; exact hy213)
            have hb221 := (rlR_b (B := B) (k := k_100) (fp := f_102) hqn).2.2 (by rw [← ht212]; exact hy213)
            rw [← ht212] at hb221
            have hrd222 : t_211.2.2.1 = 0 → RD w204 := fun z => by
              by_cases y0 : f_102.1 = 0
              · exact hy218 z (hRD110 y0)
              · exact absurd z (by rw [ht212]; exact rlR_nz2 y0)
            refine xg_t (xg_goto) ?_
            exact ih91 w204 (by omega) (hI206) ((hF95.tr (hF207.up (by decide)))) (⟨Or.inl ⟨k_100 + 1, t_211.2.1, t_211.2.2, hy216, hy214, hy215, hy217, hfi220, by omega, by rw [← heq109, rx_y hqn hnz203 (by rw [← ht212]; exact hy213), ← ht212], hrd222⟩, kb219⟩)
          · have hz223 := hy214.1
            refine xg_t (xg_goto) ?_
            exact ih91 w204 (by omega) (hI206) ((hF95.tr (hF207.up (by decide)))) (⟨Or.inr ⟨_, hy214, by omega, by rw [← heq109, rx_n hnz203 (by rw [← ht212]; exact hy213), ← ht212]⟩, kb219⟩)
      · obtain ⟨f82_224, f82_226, f82_228, f82_230, f82_232, f82_234, f82_236, f82_238, f82_240, f82_242, f82_244, f82_245, f82_246, f82_248, f82_250, f82_252, h82_254, hb225, hb227, hb229, hb231, hb233, hb235, hb237, hb239, hb241, hb243, hb247, hb249, hb251, hb253, hb255⟩ := (hI94 82 (by decide) (by decide) : cp82 (wget w93 82))
        replace hb227 := xHid.of hb227
        replace hb233 := xHid.of hb233
        replace hb237 := xHid.of hb237
        replace hb239 := xHid.of hb239
        replace hb243 := xHid.of hb243
        replace hb247 := xHid.of hb247
        replace hb249 := xHid.of hb249
        replace hb251 := xHid.of hb251
        replace hb253 := xHid.of hb253
        have hf256 : fld w93 82 10 = f82_240 := fld_of h82_254
        have hz257 := hW_112.1
        refine xg_t (xg_aload (va := (2, 82)) rfl rfl) ?_
        refine xg_t (xg_getf (va := (0, f82_240)) h82_254 rfl) ?_
        refine xg_t (xg_ifT (u := f82_240) rfl xnm0 (xj_neT (by omega))) ?_
        refine xg_t (xg_blk (b := [(30, 1, 0, 0, 0, 0), (31, 3, 1, 12, 0, 7), (34, 2, 4, 16, 0, 0), (36, 1, 10, 0, 0, 0), (37, 3, 7, 42, 0, 0), (40, 1, 3, 4294967295, 0, 0), (41, 1, 12, 0, 1, 0)]) rfl) ?_
        obtain ⟨g83_258, h83_259, hb260, hx261⟩ := (hI94 83 (by decide) (by decide) : cpx83 (wget w93 83))
        have h83_259 : xRow w93 83 5360 50 g83_258 := h83_259
        obtain ⟨g112_262, h112_263, hb264⟩ := (hI94 112 (by decide) (by decide) : cpI 320 79 4294967295 (wget w93 112))
        have h112_263 : xRow w93 112 320 79 g112_262 := h112_263
        have hz265 := hW_112.2.1
        refine xg_t (xg_aload (va := (2, 82)) rfl rfl) ?_
        refine xg_t (xg_getf (va := (2, 83)) h82_254 rfl) ?_
        refine xg_t (xg_bip) ?_
        refine xg_ialdB (n := 16) (B := 4294967295) h83_259 (hb260) xnm0 (by omega) (fun u266 hu267 he268 => ?_)
        have hq269 : rwv w93 83 16 = u266 := (rwv_of h83_259 (by decide)).trans he268
        refine xg_t (xg_ifF (u := u266) rfl xnm0 (xj_eqF (by omega))) ?_
        refine xg_t (xg_const) ?_
        exact xg_e ⟨4294967295, w93, ⟨rfl, rfl⟩, ⟨(congrArg Prod.fst heq114).symm, by rw [heq114]; exact hW_112.2.1, by rw [heq114]; exact hW_112.2.2, kb99.1, fun j h1 h2 h3 h4 => kb99.2 j h4 (by omega) (by omega) (by omega), fun _ => kb99.2 902 (by decide) (by decide) (by decide) (by decide), fun y => absurd rfl y⟩, hI94, hF95⟩
  exact key90 _ w78 (Nat.lt_succ_self _) (hI80) (((hF36.up (by decide)).tr (hF81.up (by decide)))) (⟨Or.inl ⟨0, 0, (0, 0), hz87, ht83, hz86, hz88, fun z => absurd rfl z, Nat.zero_le _, rfl, fun _ => ⟨by omega, fun l hl => absurd hl (by omega)⟩⟩, hz89⟩)
theorem mFaultX {wh : Nat} (hI : xMnv w) (hwh : wh ≤ 4294967295) : xPi d mX12_fault [(2, 82), (0, wh)] w bd fc rr (fun n w' => ((wh = 0 ∧ n = rwv w 83 16) ∨ (wh = 1 ∧ n = rwv w 83 17) ∨ (wh ≠ 0 ∧ wh ≠ 1 ∧ n = 4294967295)) ∧ xMnv w' ∧ xFr [] w w') := by
  refine xPi.of ?_
  show xTo d mX12_fault (0, [], [(0, (2, 82)), (1, (0, wh))], [], (w, bd, fc, 0, 0, rr)) (fun φ => ∃ n w', xEnd 1 [(0, n)] (w', bd, fc, 0, 0, rr) φ ∧ ((wh = 0 ∧ n = rwv w 83 16) ∨ (wh = 1 ∧ n = rwv w 83 17) ∨ (wh ≠ 0 ∧ wh ≠ 1 ∧ n = 4294967295)) ∧ xMnv w' ∧ xFr [] w w')
  obtain ⟨f82_1, f82_3, f82_5, f82_7, f82_9, f82_11, f82_13, f82_15, f82_17, f82_19, f82_21, f82_22, f82_23, f82_25, f82_27, f82_29, h82_31, hb2, hb4, hb6, hb8, hb10, hb12, hb14, hb16, hb18, hb20, hb24, hb26, hb28, hb30, hb32⟩ := (hI 82 (by decide) (by decide) : cp82 (wget w 82))
  replace hb4 := xHid.of hb4
  replace hb10 := xHid.of hb10
  replace hb14 := xHid.of hb14
  replace hb16 := xHid.of hb16
  replace hb20 := xHid.of hb20
  replace hb24 := xHid.of hb24
  replace hb26 := xHid.of hb26
  replace hb28 := xHid.of hb28
  replace hb30 := xHid.of hb30
  obtain ⟨g83_33, h83_34, hb35, hx36⟩ := (hI 83 (by decide) (by decide) : cpx83 (wget w 83))
  have h83_34 : xRow w 83 5360 50 g83_33 := h83_34
  refine xg_t (xg_blk (b := [(0, 1, 2, 1, 0, 0), (1, 3, 7, 14, 1, 0), (4, 1, 0, 0, 0, 0), (5, 3, 1, 12, 0, 7), (8, 2, 4, 16, 0, 0), (10, 1, 10, 0, 0, 0), (11, 3, 8, 30, 0, 0)]) rfl) ?_
  refine xg_t (xg_iload (va := (0, wh)) rfl rfl) ?_
  by_cases hc37 : wh = 0
  · refine xg_t (xg_ifF (u := wh) rfl xnm0 (xj_neF hc37)) ?_
    refine xg_t (xg_aload (va := (2, 82)) rfl rfl) ?_
    refine xg_t (xg_getf (va := (2, 83)) h82_31 rfl) ?_
    refine xg_t (xg_bip) ?_
    refine xg_ialdB (n := 16) (B := 4294967295) h83_34 (hb35) xnm0 (by omega) (fun u38 hu39 he40 => ?_)
    have hq41 : rwv w 83 16 = u38 := (rwv_of h83_34 (by decide)).trans he40
    refine xg_t (xg_goto) ?_
    refine xg_t (xg_blk (b := [(30, 1, 12, 0, 1, 0)]) rfl) ?_
    exact xg_e ⟨u38, w, ⟨rfl, rfl⟩, by omega, hI, xFr.rf⟩
  · refine xg_t (xg_ifT (u := wh) rfl xnm0 (xj_neT hc37)) ?_
    refine xg_t (xg_blk (b := [(14, 1, 2, 1, 0, 0), (15, 1, 3, 1, 0, 0), (16, 3, 6, 29, 1, 0), (19, 1, 0, 0, 0, 0), (20, 3, 1, 12, 0, 7), (23, 2, 4, 17, 0, 0), (25, 1, 10, 0, 0, 0), (26, 3, 8, 30, 0, 0)]) rfl) ?_
    refine xg_t (xg_iload (va := (0, wh)) rfl rfl) ?_
    refine xg_t (xg_const) ?_
    by_cases hc42 : wh = 1
    · refine xg_t (xg_icF (u := wh) (v := 1) rfl xnm0 xnm0 (xj_neF hc42)) ?_
      refine xg_t (xg_aload (va := (2, 82)) rfl rfl) ?_
      refine xg_t (xg_getf (va := (2, 83)) h82_31 rfl) ?_
      refine xg_t (xg_bip) ?_
      refine xg_ialdB (n := 17) (B := 4294967295) h83_34 (hb35) xnm0 (by omega) (fun u43 hu44 he45 => ?_)
      have hq46 : rwv w 83 17 = u43 := (rwv_of h83_34 (by decide)).trans he45
      refine xg_t (xg_goto) ?_
      refine xg_t (xg_blk (b := [(30, 1, 12, 0, 1, 0)]) rfl) ?_
      exact xg_e ⟨u43, w, ⟨rfl, rfl⟩, by omega, hI, xFr.rf⟩
    · refine xg_t (xg_icT (u := wh) (v := 1) rfl xnm0 xnm0 (xj_neT hc42)) ?_
      refine xg_t (xg_blk (b := [(29, 1, 3, 4294967295, 0, 0)]) rfl) ?_
      refine xg_t (xg_const) ?_
      refine xg_t (xg_blk (b := [(30, 1, 12, 0, 1, 0)]) rfl) ?_
      exact xg_e ⟨4294967295, w, ⟨rfl, rfl⟩, by omega, hI, xFr.rf⟩
end XRMC
