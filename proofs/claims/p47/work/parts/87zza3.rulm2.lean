/-! the model: rules, the whole text -/
section XRMC
variable {d : Nat} {w : List (List xE)} {bd : List (Nat × Nat)} {fc : List (Nat × Nat × Bool)} {rr : Nat × Nat}
set_option maxHeartbeats 60000000 in
theorem mRuleX {B : Nat → Nat} {nn p : Nat} {fp : Nat × Nat} {k : Nat} (hI : xMnv w) (hB : bsm w B nn) (hT : TKM 1 B nn w p) (h10 : fld w 82 10 = 0) (hf : FP w fp) (hi : fpi fp p) (hln : fld w 82 14 = k) (hk5 : k ≤ 500) : xPq (d + 7) mX12_aRule [(2, 82)] w bd fc rr [] (fun w' => xMnv w' ∧ xFr [82, 83, 112, 113] w w' ∧ ((((rlR B nn k p fp).1 = true ∧ TKM 1 B nn w' (rlR B nn k p fp).2.1 ∧ fld w' 82 10 = 0 ∧ fld w' 82 14 = k + 1 ∧ FP w' (rlR B nn k p fp).2.2 ∧ ((rlR B nn k p fp).2.2.1 = 0 → RD w → RD w')) ∨ ((rlR B nn k p fp).1 = false ∧ WRG w' (tq B nn (rlR B nn k p fp).2.1) ∧ (fld w' 82 14 = k ∨ fld w' 82 14 = k + 1))) ∧ K83 w w')) := by
  refine xPq.of ?_
  show xTo (d + 7) mX12_aRule (0, [], [(0, (2, 82))], [], (w, bd, fc, 0, 0, rr)) (fun φ => ∃ w', xEnd 0 [] (w', bd, fc, 0, 0, rr) φ ∧ xMnv w' ∧ xFr [82, 83, 112, 113] w w' ∧ ((((rlR B nn k p fp).1 = true ∧ TKM 1 B nn w' (rlR B nn k p fp).2.1 ∧ fld w' 82 10 = 0 ∧ fld w' 82 14 = k + 1 ∧ FP w' (rlR B nn k p fp).2.2 ∧ ((rlR B nn k p fp).2.2.1 = 0 → RD w → RD w')) ∨ ((rlR B nn k p fp).1 = false ∧ WRG w' (tq B nn (rlR B nn k p fp).2.1) ∧ (fld w' 82 14 = k ∨ fld w' 82 14 = k + 1))) ∧ K83 w w'))
  obtain ⟨f82_1, f82_3, f82_5, f82_7, f82_9, f82_11, f82_13, f82_15, f82_17, f82_19, f82_21, f82_22, f82_23, f82_25, f82_27, f82_29, h82_31, hb2, hb4, hb6, hb8, hb10, hb12, hb14, hb16, hb18, hb20, hb24, hb26, hb28, hb30, hb32⟩ := (hI 82 (by decide) (by decide) : cp82 (wget w 82))
  replace hb4 := xHid.of hb4
  replace hb10 := xHid.of hb10
  replace hb14 := xHid.of hb14
  replace hb16 := xHid.of hb16
  replace hb20 := xHid.of hb20
  replace hb24 := xHid.of hb24
  replace hb26 := xHid.of hb26
  replace hb28 := xHid.of hb28
  replace hb30 := xHid.of hb30
  obtain ⟨g83_33, h83_34, hb35, hx36⟩ := (hI 83 (by decide) (by decide) : cpx83 (wget w 83))
  have h83_34 : xRow w 83 5360 50 g83_33 := h83_34
  obtain ⟨⟨ht37, ht38, ht39, ht40, ht41, ht42⟩, ht43, ht44, ht45⟩ := id hT
  have hf46 : fld w 82 3 = f82_3 := fld_of h82_31
  have hf47 : fld w 82 6 = f82_9 := fld_of h82_31
  have hf48 : fld w 82 7 = f82_11 := fld_of h82_31
  have hf49 : fld w 82 8 = f82_13 := fld_of h82_31
  have hf50 : fld w 82 9 = f82_15 := fld_of h82_31
  have hf51 : fld w 82 10 = f82_17 := fld_of h82_31
  have hf52 : fld w 82 14 = f82_19 := fld_of h82_31
  have hmk53 := mkr (B := B) (n := nn) (p := p)
  have hx054 : tkd B nn p ≠ 1 → rwx B nn p = 99 := rwx_0
  have hwd55 : tkd B nn p = 1 → fld w 82 9 = rwx B nn p := hT.word
  clear ht44
  obtain ⟨g112_56, h112_57, hb58⟩ := (hI 112 (by decide) (by decide) : cpI 320 79 4294967295 (wget w 112))
  have h112_57 : xRow w 112 320 79 g112_56 := h112_57
  obtain ⟨g113_59, h113_60, hb61⟩ := (hI 113 (by decide) (by decide) : cpI 4 80 4294967295 (wget w 113))
  have h113_60 : xRow w 113 4 80 g113_59 := h113_60
  have hl62 : f82_19 ≤ 500 := by omega
  have hBn := hB.1
  have hpn := hT.1.2.2.2.2.2
  refine xg_t (xg_blk (b := [(0, 1, 0, 0, 0, 0), (1, 3, 1, 12, 14, 212), (4, 2, 4, 16, 0, 0), (6, 3, 6, 18, 2, 0), (9, 1, 0, 0, 0, 0), (10, 1, 3, 3, 0, 0), (11, 1, 0, 0, 0, 0), (12, 3, 1, 12, 6, 148), (15, 3, 13, 115, 96, 186)]) rfl) ?_
  refine xg_t (xg_aload (va := (2, 82)) rfl rfl) ?_
  refine xg_t (xg_getf (va := (0, f82_19)) h82_31 rfl) ?_
  have hn63 := id hb20
  unfold xHid at hn63
  refine xg_t (xg_bip) ?_
  by_cases hc64 : f82_19 < 16
  · refine xg_t (xg_icT (u := f82_19) (v := 16) rfl xnm0 xnm0 (xj_ltT hc64 (by omega))) ?_
    refine xg_t (xg_blk (b := [(18, 1, 3, 0, 0, 0), (19, 1, 15, 1, 0, 0), (20, 1, 0, 0, 0, 0), (21, 2, 4, 50, 0, 0), (23, 3, 13, 227, 96, 415), (26, 3, 7, 107, 0, 0), (29, 1, 3, 1, 0, 0), (30, 1, 15, 2, 0, 0)]) rfl) ?_
    obtain ⟨g_65, hg66⟩ : ∃ x, x = rlg B nn k p fp := ⟨_, rfl⟩
    have hF_67 : FP w g_65 := by
      rw [hg66, rlg_n (by omega)]
      exact hf
    have hig68 : fpi g_65 (tf B nn p) := by rw [hg66]; exact hi.rlgi tfp tf_ge
    refine xg_t (xg_const) ?_
    refine xg_t (xg_istore (l1 := [(0, (2, 82))]) rfl rfl rfl) ?_
    refine xg_t (xg_aload (va := (2, 82)) rfl rfl) ?_
    refine xg_t (xg_bip) ?_
    have hk69 := (rfl : fld w 82 14 = fld w 82 14)
    refine xg_cVi mX12_takes (vs := [(0, 50)]) (rest := []) (cn1 := 0) (sl1 := 0) rfl (mTakesX (hI) (by omega) hB hT h10) rfl h82_31 rfl rfl rfl rfl rfl rfl (fun n74 w70 hq71 => ?_)
    obtain ⟨hn75, hI72, hF73⟩ := hq71
    obtain ⟨hz76, hz77, hz78⟩ := hn75
    have k14_81 := hz78.trans hk69
    rcases hz76 with ⟨rfl, hx79, hx80⟩ | ⟨rfl, hx79, hx80⟩
    · obtain ⟨p_82, hp83⟩ : ∃ x, x = tf B nn p := ⟨_, rfl⟩
      rw [← hp83] at hx80
      refine xg_t (xg_ifF (u := 1) rfl xnm0 (by decide)) ?_
      refine xg_t (xg_const) ?_
      refine xg_t (xg_istore (l1 := [(1, (0, 0)), (0, (2, 82))]) rfl rfl rfl) ?_
      refine xg_t (xg_drop (l1 := [(0, (2, 82)), (1, (0, 0)), (2, (0, 1))]) (List.forall_mem_cons.mpr ⟨List.mem_cons_of_mem _ (List.mem_cons_of_mem _ (List.mem_cons_self)), List.forall_mem_cons.mpr ⟨List.mem_cons_of_mem _ (List.mem_cons_self), List.forall_mem_cons.mpr ⟨List.mem_cons_self, fun _ h => absurd h List.not_mem_nil⟩⟩⟩)) ?_
      have hig90 : fpi g_65 p_82 := by rw [hp83]; exact hig68
      have key84 : ∀ (m86 : Nat) (kr mo : Nat) (w87 : List (List xE)), 2 * (502 - kr) + mo < m86 → kr ≤ 502 → mo ≤ 1 → xMnv w87 → xFr [82, 83, 112, 113] w w87 → ((mo = 1 ∧ ∃ (q : Nat) (f : Nat × Nat), TKM 1 B nn w87 q ∧ fld w87 82 10 = 0 ∧ FP w87 f ∧ fpi f q ∧ kr ≤ q ∧ (f.1 = 0 → kr ≤ 4) ∧ rs B nn kr q f = (rs B nn 0 p_82 g_65)) ∨ (mo = 0 ∧ ∃ (q : Nat) (f : Nat × Nat), TKM 1 B nn w87 q ∧ fld w87 82 10 = 0 ∧ FP w87 f ∧ (f.1 = 0 → kr ≤ 4) ∧ (tkd B nn q = 3 ∧ B (tq B nn q) = 58 → (rs B nn 0 p_82 g_65) = (true, tf B nn q, f)) ∧ (¬ (tkd B nn q = 3 ∧ B (tq B nn q) = 58) → (rs B nn 0 p_82 g_65) = (false, q, f))) ∨ (mo = 0 ∧ ∃ (q : Nat) (f : Nat × Nat), WRG w87 (tq B nn q) ∧ (rs B nn 0 p_82 g_65) = (false, q, f))) ∧ K83 w w87 ∧ RO2 w w87 k ∧ fld w87 82 14 = fld w 82 14 → xTo (d + 7) mX12_aRule (31, [], [(0, (2, 82)), (1, (0, kr)), (2, (0, mo))], [], (w87, bd, fc, 0, 0, rr)) (fun φ => ∃ w', xEnd 0 [] (w', bd, fc, 0, 0, rr) φ ∧ xMnv w' ∧ xFr [82, 83, 112, 113] w w' ∧ ((((rlR B nn k p fp).1 = true ∧ TKM 1 B nn w' (rlR B nn k p fp).2.1 ∧ fld w' 82 10 = 0 ∧ fld w' 82 14 = k + 1 ∧ FP w' (rlR B nn k p fp).2.2 ∧ ((rlR B nn k p fp).2.2.1 = 0 → RD w → RD w')) ∨ ((rlR B nn k p fp).1 = false ∧ WRG w' (tq B nn (rlR B nn k p fp).2.1) ∧ (fld w' 82 14 = k ∨ fld w' 82 14 = k + 1))) ∧ K83 w w')) := by
        intro m86
        induction m86 with
        | zero => intro kr mo w87 hz; exact absurd hz (Nat.not_lt_zero _)
        | succ m86 ih85 =>
          intro kr mo w87 hm94 hn91 hn92 hI88 hF89 he93
          obtain ⟨hX95, hK96, hro97, h14_98⟩ := he93
          obtain ⟨g112_99, h112_100, hb101⟩ := (hI88 112 (by decide) (by decide) : cpI 320 79 4294967295 (wget w87 112))
          have h112_100 : xRow w87 112 320 79 g112_99 := h112_100
          obtain ⟨g113_102, h113_103, hb104⟩ := (hI88 113 (by decide) (by decide) : cpI 4 80 4294967295 (wget w87 113))
          have h113_103 : xRow w87 113 4 80 g113_102 := h113_103
          refine xg_t (xg_blk (b := [(31, 1, 2, 2, 0, 0), (32, 3, 7, 101, 0, 0), (35, 1, 2, 1, 0, 0), (36, 1, 3, 3, 0, 0), (37, 3, 6, 49, 5, 0), (40, 1, 0, 0, 0, 0), (41, 1, 3, 3, 0, 0), (42, 1, 0, 0, 0, 0), (43, 3, 1, 12, 6, 148), (46, 3, 13, 115, 96, 186)]) rfl) ?_
          rcases hX95 with ⟨rfl, q_105, f_106, hT_107, k10_108, hF_109, hfi110, hkq111, hk4112, heq113⟩ | ⟨rfl, q_114, f_115, hT_116, k10_117, hF_118, hk4119, he1120, he2121⟩ | ⟨rfl, q_122, f_123, hW_124, heq125⟩
          · have hqn126 := hT_107.1.2.2.2.2.2
            have hl127 : kr ≤ 500 := by omega
            refine xg_t (xg_iload (va := (0, 1)) rfl rfl) ?_
            refine xg_t (xg_ifF (u := 1) rfl xnm0 (by decide)) ?_
            obtain ⟨⟨ht128, ht129, ht130, ht131, ht132, ht133⟩, ht134, ht135, ht136⟩ := id hT_107
            obtain ⟨f82_137, f82_139, f82_141, f82_143, f82_145, f82_147, f82_149, f82_151, f82_153, f82_155, f82_157, f82_158, f82_159, f82_161, f82_163, f82_165, h82_167, hb138, hb140, hb142, hb144, hb146, hb148, hb150, hb152, hb154, hb156, hb160, hb162, hb164, hb166, hb168⟩ := (hI88 82 (by decide) (by decide) : cp82 (wget w87 82))
            replace hb140 := xHid.of hb140
            replace hb146 := xHid.of hb146
            replace hb150 := xHid.of hb150
            replace hb152 := xHid.of hb152
            replace hb156 := xHid.of hb156
            replace hb160 := xHid.of hb160
            replace hb162 := xHid.of hb162
            replace hb164 := xHid.of hb164
            replace hb166 := xHid.of hb166
            have hf169 : fld w87 82 3 = f82_139 := fld_of h82_167
            have hf170 : fld w87 82 6 = f82_145 := fld_of h82_167
            have hf171 : fld w87 82 7 = f82_147 := fld_of h82_167
            have hf172 : fld w87 82 8 = f82_149 := fld_of h82_167
            have hf173 : fld w87 82 9 = f82_151 := fld_of h82_167
            have hf174 : fld w87 82 10 = f82_153 := fld_of h82_167
            have hf175 : fld w87 82 14 = f82_155 := fld_of h82_167
            have hmk176 := mkr (B := B) (n := nn) (p := q_105)
            have hx0177 : tkd B nn q_105 ≠ 1 → rwx B nn q_105 = 99 := rwx_0
            have hwd178 : tkd B nn q_105 = 1 → fld w87 82 9 = rwx B nn q_105 := hT_107.word
            clear ht135
            refine xg_t (xg_iload (va := (0, kr)) rfl rfl) ?_
            refine xg_t (xg_const) ?_
            by_cases hc179 : 3 < kr
            · refine xg_t (xg_icF (u := kr) (v := 3) rfl xnm0 xnm0 (xj_leF hc179 (by omega))) ?_
              refine xg_t (xg_aload (va := (2, 82)) rfl rfl) ?_
              refine xg_t (xg_const) ?_
              refine xg_t (xg_aload (va := (2, 82)) rfl rfl) ?_
              refine xg_t (xg_getf (va := (0, f82_145)) h82_167 rfl) ?_
              have hn180 : f82_145 ≤ 4294967295 := hb146
              have hq181 : tq B nn q_105 ≤ nn := tq_le hT_107.1.2.2.2.2.2
              refine xg_cVv mX12_also (vs := [(0, 3), (0, f82_145)]) (rest := []) (cn1 := 0) (sl1 := 0) rfl (mAlsoX (hI88) (by omega) (by omega) (by omega) k10_108 hF_109) rfl h82_167 rfl rfl rfl rfl rfl rfl (fun w182 hq183 => ?_)
              obtain ⟨hI184, hF185, hx186⟩ := hq183
              obtain ⟨hv187, hv188⟩ := hx186
              have hF_189 : FP w182 (rnt f_106 (tq B nn q_105)) := by
                have q := hv187
                rw [show f82_145 = tq B nn q_105 by omega, hfi110.aloi tq_ge] at q
                exact q
              refine xg_t (xg_blk (b := [(49, 1, 0, 0, 0, 0), (50, 3, 13, 109, 96, 421), (53, 1, 3, 0, 0, 0), (54, 1, 15, 3, 0, 0)]) rfl) ?_
              obtain ⟨g_190, hg191⟩ : ∃ x, x = rg B nn kr q_105 f_106 := ⟨_, rfl⟩
              have hF_192 : FP w182 g_190 := by
                rw [hg191, rg_y (by omega)]
                exact hF_189
              have hk4193 : g_190.1 = 0 → kr + 1 ≤ 4 := fun z => by
                by_cases y : 4 ≤ kr
                · exact absurd z (by rw [hg191, rg_y y]; exact rnt_nz)
                · omega
              refine xg_t (xg_aload (va := (2, 82)) rfl rfl) ?_
              have hk194 := ((fld_eq (j := 14) (hF185.1 82 (by decide))).trans h14_98)
              refine xg_cVv mX12_aTest (vs := []) (rest := []) (cn1 := 0) (sl1 := 0) rfl (mATestX (hI184) (hB.fr (fun j h4 h9 => (hK96.tr hv188) j (by omega) (by omega) (by omega))) (hT_107.fr (hF185.1 82 (by decide))) ((fld_eq (j := 10) (hF185.1 82 (by decide))).trans k10_108)) rfl (hF185.get (by decide) h82_167) rfl rfl rfl rfl rfl rfl (fun w195 hq196 => ?_)
              obtain ⟨hI197, hF198, hx199⟩ := hq196
              obtain ⟨hn200, hn201, hn202⟩ := hx199
              have hk207 := hn201.trans hk194
              obtain ⟨r_208, hr209⟩ : ∃ x, x = (rtR B nn q_105).2 := ⟨_, rfl⟩
              rw [← hr209] at hn200
              obtain ⟨g113_210, h113_211, hb212⟩ := (hI197 113 (by decide) (by decide) : cpI 4 80 4294967295 (wget w195 113))
              have h113_211 : xRow w195 113 4 80 g113_210 := h113_211
              rcases hn200 with ⟨hy203, hT_204, k10_205, he206⟩ | ⟨hy203, hT_204⟩
              · refine xg_t (xg_const) ?_
                refine xg_t (xg_istore (l1 := [(0, (2, 82)), (1, (0, kr)), (2, (0, 1))]) rfl rfl rfl) ?_
                refine xg_t (xg_blk (b := [(55, 1, 2, 3, 0, 0), (56, 1, 3, 4, 0, 0), (57, 3, 6, 88, 3, 0), (60, 1, 2, 1, 0, 0), (61, 1, 3, 4, 0, 0), (62, 3, 6, 88, 3, 0), (65, 1, 0, 0, 0, 0), (66, 1, 3, 1, 0, 0), (67, 1, 3, 4, 0, 0), (68, 1, 2, 1, 0, 0), (69, 1, 16, 0, 0, 0), (70, 1, 11, 0, 0, 0), (71, 1, 2, 3, 0, 0), (72, 1, 11, 0, 0, 0), (73, 1, 0, 0, 0, 0), (74, 3, 1, 12, 46, 102), (77, 1, 2, 3, 0, 0), (78, 1, 10, 0, 0, 0), (79, 3, 13, 214, 96, 424), (82, 3, 9, 3, 1, 0), (85, 3, 8, 55, 0, 0)]) rfl) ?_
                refine xg_t (xg_iload (va := (0, 0)) rfl rfl) ?_
                refine xg_t (xg_const) ?_
                refine xg_t (xg_icF (u := 0) (v := 4) rfl xnm0 xnm0 (by decide)) ?_
                refine xg_t (xg_iload (va := (0, kr)) rfl rfl) ?_
                refine xg_t (xg_const) ?_
                refine xg_t (xg_icT (u := kr) (v := 4) rfl xnm0 xnm0 (xj_geT (by omega) (by omega))) ?_
                refine xg_t (xg_blk (b := [(88, 3, 9, 1, 1, 0), (91, 1, 0, 0, 0, 0), (92, 2, 4, 51, 0, 0), (94, 3, 13, 227, 96, 415), (97, 1, 15, 2, 0, 0), (98, 3, 8, 31, 0, 0)]) rfl) ?_
                refine xg_t (xg_iinc (u := kr) (z := kr + 1) (l1 := [(3, (0, 0)), (0, (2, 82)), (2, (0, 1))]) rfl rfl (by omega) rfl) ?_
                refine xg_t (xg_aload (va := (2, 82)) rfl rfl) ?_
                refine xg_t (xg_bip) ?_
                have hk213 := hk207
                obtain ⟨f82_214, f82_216, f82_218, f82_220, f82_222, f82_224, f82_226, f82_228, f82_230, f82_232, f82_234, f82_235, f82_236, f82_238, f82_240, f82_242, h82_244, hb215, hb217, hb219, hb221, hb223, hb225, hb227, hb229, hb231, hb233, hb237, hb239, hb241, hb243, hb245⟩ := (hI197 82 (by decide) (by decide) : cp82 (wget w195 82))
                replace hb217 := xHid.of hb217
                replace hb223 := xHid.of hb223
                replace hb227 := xHid.of hb227
                replace hb229 := xHid.of hb229
                replace hb233 := xHid.of hb233
                replace hb237 := xHid.of hb237
                replace hb239 := xHid.of hb239
                replace hb241 := xHid.of hb241
                replace hb243 := xHid.of hb243
                refine xg_cVi mX12_takes (vs := [(0, 51)]) (rest := []) (cn1 := 0) (sl1 := 0) rfl (mTakesX (hI197) (by omega) (hB.fr (fun j h4 h9 => ((hK96.tr hv188).tr hn202) j (by omega) (by omega) (by omega))) hT_204 k10_205) rfl h82_244 rfl rfl rfl rfl rfl rfl (fun n250 w246 hq247 => ?_)
                obtain ⟨hn251, hI248, hF249⟩ := hq247
                obtain ⟨hz252, hz253, hz254⟩ := hn251
                have k14_257 := hz254.trans hk213
                rcases hz252 with ⟨rfl, hx255, hx256⟩ | ⟨rfl, hx255, hx256⟩
                · obtain ⟨p_258, hp259⟩ : ∃ x, x = tf B nn r_208 := ⟨_, rfl⟩
                  rw [← hp259] at hx256
                  refine xg_t (xg_istore (l1 := [(1, (0, kr + 1)), (3, (0, 0)), (0, (2, 82))]) rfl rfl rfl) ?_
                  refine xg_t (xg_goto) ?_
                  refine xg_t (xg_drop (l1 := [(0, (2, 82)), (1, (0, kr + 1)), (2, (0, 1))]) (List.forall_mem_cons.mpr ⟨List.mem_cons_of_mem _ (List.mem_cons_of_mem _ (List.mem_cons_of_mem _ (List.mem_cons_self))), List.forall_mem_cons.mpr ⟨List.mem_cons_of_mem _ (List.mem_cons_self), List.forall_mem_cons.mpr ⟨List.mem_cons_self, fun _ h => absurd h List.not_mem_nil⟩⟩⟩)) ?_
                  have hle261 := rtR_and (B := B) (n := nn) (p := q_105) hqn126 (by rw [← hr209]; exact hx255)
                  rw [← hr209, ← hp259] at hle261
                  have hfi260 : fpi g_190 p_258 := by
                    rw [hg191, hp259, hr209]
                    exact hfi110.rgi (Nat.le_of_lt (rtR_and (B := B) (n := nn) hqn126 (by rw [← hr209]; exact hx255)).1) (rtR_q hqn126)
                  exact ih85 (kr + 1) 1 w246 (by omega) (by omega) (by omega) (hI248) ((((hF89.tr (hF185.up (by decide))).tr (hF198.up (by decide))).tr (hF249.up (by decide)))) (⟨Or.inl ⟨rfl, p_258, g_190, hx256, hz253, (hF_192.k83 (rwv_eq ((hF249.1 83 (by decide)).trans he206)) (rwv_eq ((hF249.1 83 (by decide)).trans he206))), hfi260, by omega, hk4193, by rw [← heq113, rs_and hqn126 hy203 (by rw [← hr209]; exact hx255), ← hr209, ← hp259, ← hg191]⟩, (((hK96.tr hv188).tr hn202).tr (K83.fr hF249 (by decide))), (RO2.fr (RO2.fr (RO2.fr hro97 hF185 (by decide)) hF198 (by decide)) hF249 (by decide)), k14_257⟩)
                · refine xg_t (xg_istore (l1 := [(1, (0, kr + 1)), (3, (0, 0)), (0, (2, 82))]) rfl rfl rfl) ?_
                  refine xg_t (xg_goto) ?_
                  refine xg_t (xg_drop (l1 := [(0, (2, 82)), (1, (0, kr + 1)), (2, (0, 0))]) (List.forall_mem_cons.mpr ⟨List.mem_cons_of_mem _ (List.mem_cons_of_mem _ (List.mem_cons_of_mem _ (List.mem_cons_self))), List.forall_mem_cons.mpr ⟨List.mem_cons_of_mem _ (List.mem_cons_self), List.forall_mem_cons.mpr ⟨List.mem_cons_self, fun _ h => absurd h List.not_mem_nil⟩⟩⟩)) ?_
                  exact ih85 (kr + 1) 0 w246 (by omega) (by omega) (by omega) (hI248) ((((hF89.tr (hF185.up (by decide))).tr (hF198.up (by decide))).tr (hF249.up (by decide)))) (⟨Or.inr (Or.inl ⟨rfl, r_208, g_190, hx256, hz253, (hF_192.k83 (rwv_eq ((hF249.1 83 (by decide)).trans he206)) (rwv_eq ((hF249.1 83 (by decide)).trans he206))), hk4193, fun z => by rw [← heq113, rs_col hy203 (by rw [← hr209]; exact z), ← hr209, ← hg191], fun z => by rw [← heq113, rs_bad hy203 (by rw [← hr209]; exact hx255) (by rw [← hr209]; exact z), ← hr209, ← hg191]⟩), (((hK96.tr hv188).tr hn202).tr (K83.fr hF249 (by decide))), (RO2.fr (RO2.fr (RO2.fr hro97 hF185 (by decide)) hF198 (by decide)) hF249 (by decide)), k14_257⟩)
              · refine xg_t (xg_const) ?_
                refine xg_t (xg_istore (l1 := [(0, (2, 82)), (1, (0, kr)), (2, (0, 1))]) rfl rfl rfl) ?_
                refine xg_t (xg_blk (b := [(55, 1, 2, 3, 0, 0), (56, 1, 3, 4, 0, 0), (57, 3, 6, 88, 3, 0), (60, 1, 2, 1, 0, 0), (61, 1, 3, 4, 0, 0), (62, 3, 6, 88, 3, 0), (65, 1, 0, 0, 0, 0), (66, 1, 3, 1, 0, 0), (67, 1, 3, 4, 0, 0), (68, 1, 2, 1, 0, 0), (69, 1, 16, 0, 0, 0), (70, 1, 11, 0, 0, 0), (71, 1, 2, 3, 0, 0), (72, 1, 11, 0, 0, 0), (73, 1, 0, 0, 0, 0), (74, 3, 1, 12, 46, 102), (77, 1, 2, 3, 0, 0), (78, 1, 10, 0, 0, 0), (79, 3, 13, 214, 96, 424), (82, 3, 9, 3, 1, 0), (85, 3, 8, 55, 0, 0)]) rfl) ?_
                refine xg_t (xg_iload (va := (0, 0)) rfl rfl) ?_
                refine xg_t (xg_const) ?_
                refine xg_t (xg_icF (u := 0) (v := 4) rfl xnm0 xnm0 (by decide)) ?_
                refine xg_t (xg_iload (va := (0, kr)) rfl rfl) ?_
                refine xg_t (xg_const) ?_
                refine xg_t (xg_icT (u := kr) (v := 4) rfl xnm0 xnm0 (xj_geT (by omega) (by omega))) ?_
                refine xg_t (xg_blk (b := [(88, 3, 9, 1, 1, 0), (91, 1, 0, 0, 0, 0), (92, 2, 4, 51, 0, 0), (94, 3, 13, 227, 96, 415), (97, 1, 15, 2, 0, 0), (98, 3, 8, 31, 0, 0)]) rfl) ?_
                refine xg_t (xg_iinc (u := kr) (z := kr + 1) (l1 := [(3, (0, 0)), (0, (2, 82)), (2, (0, 1))]) rfl rfl (by omega) rfl) ?_
                refine xg_t (xg_aload (va := (2, 82)) rfl rfl) ?_
                refine xg_t (xg_bip) ?_
                obtain ⟨f82_262, f82_264, f82_266, f82_268, f82_270, f82_272, f82_274, f82_276, f82_278, f82_280, f82_282, f82_283, f82_284, f82_286, f82_288, f82_290, h82_292, hb263, hb265, hb267, hb269, hb271, hb273, hb275, hb277, hb279, hb281, hb285, hb287, hb289, hb291, hb293⟩ := (hI197 82 (by decide) (by decide) : cp82 (wget w195 82))
                replace hb265 := xHid.of hb265
                replace hb271 := xHid.of hb271
                replace hb275 := xHid.of hb275
                replace hb277 := xHid.of hb277
                replace hb281 := xHid.of hb281
                replace hb285 := xHid.of hb285
                replace hb287 := xHid.of hb287
                replace hb289 := xHid.of hb289
                replace hb291 := xHid.of hb291
                refine xg_cVi mX12_takes (vs := [(0, 51)]) (rest := []) (cn1 := 0) (sl1 := 0) rfl (mTakesW (hI197) (by omega) (by have q := hT_204.1; omega)) rfl h82_292 rfl rfl rfl rfl rfl rfl (fun n298 w294 hq295 => ?_)
                obtain ⟨hn299, hI296, hF297⟩ := hq295
                subst hn299
                refine xg_t (xg_istore (l1 := [(1, (0, kr + 1)), (3, (0, 0)), (0, (2, 82))]) rfl rfl rfl) ?_
                refine xg_t (xg_goto) ?_
                refine xg_t (xg_drop (l1 := [(0, (2, 82)), (1, (0, kr + 1)), (2, (0, 0))]) (List.forall_mem_cons.mpr ⟨List.mem_cons_of_mem _ (List.mem_cons_of_mem _ (List.mem_cons_of_mem _ (List.mem_cons_self))), List.forall_mem_cons.mpr ⟨List.mem_cons_of_mem _ (List.mem_cons_self), List.forall_mem_cons.mpr ⟨List.mem_cons_self, fun _ h => absurd h List.not_mem_nil⟩⟩⟩)) ?_
                have hW_300 : WRG w294 (tq B nn r_208) := ⟨(fld_eq (j := 10) (hF297.1 82 (by decide))).trans hT_204.1, (rwv_eq (hF297.1 83 (by decide))).trans hT_204.2.1, (rwv_eq (hF297.1 83 (by decide))).trans hT_204.2.2⟩
                exact ih85 (kr + 1) 0 w294 (by omega) (by omega) (by omega) (hI296) ((((hF89.tr (hF185.up (by decide))).tr (hF198.up (by decide))).tr (hF297.up (by decide)))) (⟨Or.inr (Or.inr ⟨rfl, r_208, g_190, hW_300, by rw [← heq113, rs_no hy203, ← hr209, ← hg191]⟩), (((hK96.tr hv188).tr hn202).tr (K83.fr hF297 (by decide))), (RO2.fr (RO2.fr (RO2.fr hro97 hF185 (by decide)) hF198 (by decide)) hF297 (by decide)), ((fld_eq (j := 14) (hF297.1 82 (by decide))).trans hk207)⟩)
            · refine xg_t (xg_icT (u := kr) (v := 3) rfl xnm0 xnm0 (xj_leT (by omega) (by omega))) ?_
              refine xg_t (xg_blk (b := [(49, 1, 0, 0, 0, 0), (50, 3, 13, 109, 96, 421), (53, 1, 3, 0, 0, 0), (54, 1, 15, 3, 0, 0)]) rfl) ?_
              obtain ⟨g_301, hg302⟩ : ∃ x, x = rg B nn kr q_105 f_106 := ⟨_, rfl⟩
              have hF_303 : FP w87 g_301 := by
                rw [hg302, rg_n (by omega)]
                exact hF_109
              have hk4304 : g_301.1 = 0 → kr + 1 ≤ 4 := fun z => by
                by_cases y : 4 ≤ kr
                · exact absurd z (by rw [hg302, rg_y y]; exact rnt_nz)
                · omega
              refine xg_t (xg_aload (va := (2, 82)) rfl rfl) ?_
              have hk305 := h14_98
              refine xg_cVv mX12_aTest (vs := []) (rest := []) (cn1 := 0) (sl1 := 0) rfl (mATestX (hI88) (hB.fr (fun j h4 h9 => hK96 j (by omega) (by omega) (by omega))) hT_107 k10_108) rfl h82_167 rfl rfl rfl rfl rfl rfl (fun w306 hq307 => ?_)
              obtain ⟨hI308, hF309, hx310⟩ := hq307
              obtain ⟨hn311, hn312, hn313⟩ := hx310
              have hk318 := hn312.trans hk305
              obtain ⟨r_319, hr320⟩ : ∃ x, x = (rtR B nn q_105).2 := ⟨_, rfl⟩
              rw [← hr320] at hn311
              obtain ⟨g113_321, h113_322, hb323⟩ := (hI308 113 (by decide) (by decide) : cpI 4 80 4294967295 (wget w306 113))
              have h113_322 : xRow w306 113 4 80 g113_321 := h113_322
              rcases hn311 with ⟨hy314, hT_315, k10_316, he317⟩ | ⟨hy314, hT_315⟩
              · refine xg_t (xg_const) ?_
                refine xg_t (xg_istore (l1 := [(0, (2, 82)), (1, (0, kr)), (2, (0, 1))]) rfl rfl rfl) ?_
                refine xg_t (xg_blk (b := [(55, 1, 2, 3, 0, 0), (56, 1, 3, 4, 0, 0), (57, 3, 6, 88, 3, 0), (60, 1, 2, 1, 0, 0), (61, 1, 3, 4, 0, 0), (62, 3, 6, 88, 3, 0), (65, 1, 0, 0, 0, 0), (66, 1, 3, 1, 0, 0), (67, 1, 3, 4, 0, 0), (68, 1, 2, 1, 0, 0), (69, 1, 16, 0, 0, 0), (70, 1, 11, 0, 0, 0), (71, 1, 2, 3, 0, 0), (72, 1, 11, 0, 0, 0), (73, 1, 0, 0, 0, 0), (74, 3, 1, 12, 46, 102), (77, 1, 2, 3, 0, 0), (78, 1, 10, 0, 0, 0), (79, 3, 13, 214, 96, 424), (82, 3, 9, 3, 1, 0), (85, 3, 8, 55, 0, 0)]) rfl) ?_
                refine xg_t (xg_iload (va := (0, 0)) rfl rfl) ?_
                refine xg_t (xg_const) ?_
                refine xg_t (xg_icF (u := 0) (v := 4) rfl xnm0 xnm0 (by decide)) ?_
                refine xg_t (xg_iload (va := (0, kr)) rfl rfl) ?_
                refine xg_t (xg_const) ?_
                refine xg_t (xg_icF (u := kr) (v := 4) rfl xnm0 xnm0 (xj_geF (by omega) (by omega))) ?_
                refine xg_t (xg_aload (va := (2, 82)) rfl rfl) ?_
                refine xg_t (xg_const) ?_
                refine xg_t (xg_const) ?_
                refine xg_t (xg_iload (va := (0, kr)) rfl rfl) ?_
                refine xg_t (xg_imul (u := 4) (v := kr) (z := 4 * kr) xnm0 xnm0 (by omega)) ?_
                refine xg_t (xg_iadd (u := 1) (v := 4 * kr) (z := 1 + (4 * kr)) xnm0 xnm0 (by omega)) ?_
                refine xg_t (xg_iload (va := (0, 0)) rfl rfl) ?_
                refine xg_t (xg_iadd (u := 1 + (4 * kr)) (v := 0) (z := (1 + (4 * kr)) + 0) xnm0 xnm0 (by omega)) ?_
                refine xg_t (xg_aload (va := (2, 82)) rfl rfl) ?_
                obtain ⟨f82_324, f82_326, f82_328, f82_330, f82_332, f82_334, f82_336, f82_338, f82_340, f82_342, f82_344, f82_345, f82_346, f82_348, f82_350, f82_352, h82_354, hb325, hb327, hb329, hb331, hb333, hb335, hb337, hb339, hb341, hb343, hb347, hb349, hb351, hb353, hb355⟩ := (hI308 82 (by decide) (by decide) : cp82 (wget w306 82))
                replace hb327 := xHid.of hb327
                replace hb333 := xHid.of hb333
                replace hb337 := xHid.of hb337
                replace hb339 := xHid.of hb339
                replace hb343 := xHid.of hb343
                replace hb347 := xHid.of hb347
                replace hb349 := xHid.of hb349
                replace hb351 := xHid.of hb351
                replace hb353 := xHid.of hb353
                refine xg_t (xg_getf (va := (2, 113)) h82_354 rfl) ?_
                refine xg_t (xg_iload (va := (0, 0)) rfl rfl) ?_
                refine xg_ialdB (n := 0) (B := 4294967295) h113_322 (hb323) xnm0 (by omega) (fun u356 hu357 he358 => ?_)
                have hl359 : fld w306 82 14 = k := hk318.trans hln
                refine xg_cVv mX12_rulePuts (vs := [(0, (1 + (4 * kr)) + 0), (0, u356)]) (rest := []) (cn1 := 0) (sl1 := 0) rfl (mRulePuts (hI308) (by omega) (by omega) (by omega)) rfl h82_354 rfl rfl rfl rfl rfl rfl (fun w360 hq361 => ?_)
                obtain ⟨hI362, hF363, hx364⟩ := hq361
                have hro365 : RO2 w w360 k := fun l hl hn => ((hx364 (20 * l) (by omega)).2 (by omega)).trans ((RO2.fr hro97 hF309 (by decide)) l hl hn)
                clear hx364
                obtain ⟨g112_366, h112_367, hb368⟩ := (hI362 112 (by decide) (by decide) : cpI 320 79 4294967295 (wget w360 112))
                have h112_367 : xRow w360 112 320 79 g112_366 := h112_367
                refine xg_t (xg_iinc (u := 0) (z := 1) (l1 := [(0, (2, 82)), (1, (0, kr)), (2, (0, 1))]) rfl rfl (by decide) rfl) ?_
                refine xg_t (xg_goto) ?_
                refine xg_t (xg_blk (b := [(55, 1, 2, 3, 0, 0), (56, 1, 3, 4, 0, 0), (57, 3, 6, 88, 3, 0), (60, 1, 2, 1, 0, 0), (61, 1, 3, 4, 0, 0), (62, 3, 6, 88, 3, 0), (65, 1, 0, 0, 0, 0), (66, 1, 3, 1, 0, 0), (67, 1, 3, 4, 0, 0), (68, 1, 2, 1, 0, 0), (69, 1, 16, 0, 0, 0), (70, 1, 11, 0, 0, 0), (71, 1, 2, 3, 0, 0), (72, 1, 11, 0, 0, 0), (73, 1, 0, 0, 0, 0), (74, 3, 1, 12, 46, 102), (77, 1, 2, 3, 0, 0), (78, 1, 10, 0, 0, 0), (79, 3, 13, 214, 96, 424), (82, 3, 9, 3, 1, 0), (85, 3, 8, 55, 0, 0)]) rfl) ?_
                refine xg_t (xg_iload (va := (0, 1)) rfl rfl) ?_
                refine xg_t (xg_const) ?_
                refine xg_t (xg_icF (u := 1) (v := 4) rfl xnm0 xnm0 (by decide)) ?_
                refine xg_t (xg_iload (va := (0, kr)) rfl rfl) ?_
                refine xg_t (xg_const) ?_
                refine xg_t (xg_icF (u := kr) (v := 4) rfl xnm0 xnm0 (xj_geF (by omega) (by omega))) ?_
                refine xg_t (xg_aload (va := (2, 82)) rfl rfl) ?_
                refine xg_t (xg_const) ?_
                refine xg_t (xg_const) ?_
                refine xg_t (xg_iload (va := (0, kr)) rfl rfl) ?_
                refine xg_t (xg_imul (u := 4) (v := kr) (z := 4 * kr) xnm0 xnm0 (by omega)) ?_
                refine xg_t (xg_iadd (u := 1) (v := 4 * kr) (z := 1 + (4 * kr)) xnm0 xnm0 (by omega)) ?_
                refine xg_t (xg_iload (va := (0, 1)) rfl rfl) ?_
                refine xg_t (xg_iadd (u := 1 + (4 * kr)) (v := 1) (z := (1 + (4 * kr)) + 1) xnm0 xnm0 (by omega)) ?_
                refine xg_t (xg_aload (va := (2, 82)) rfl rfl) ?_
                refine xg_t (xg_getf (va := (2, 113)) (hF363.get (by decide) h82_354) rfl) ?_
                refine xg_t (xg_iload (va := (0, 1)) rfl rfl) ?_
                refine xg_ialdB (n := 1) (B := 4294967295) (h113_322.fr hF363 (by decide)) (hb323) xnm0 (by omega) (fun u369 hu370 he371 => ?_)
                have hl372 : fld w360 82 14 = k := ((fld_eq (j := 14) (hF363.1 82 (by decide))).trans hk318).trans hln
                refine xg_cVv mX12_rulePuts (vs := [(0, (1 + (4 * kr)) + 1), (0, u369)]) (rest := []) (cn1 := 0) (sl1 := 0) rfl (mRulePuts (hI362) (by omega) (by omega) (by omega)) rfl (hF363.get (by decide) h82_354) rfl rfl rfl rfl rfl rfl (fun w373 hq374 => ?_)
                obtain ⟨hI375, hF376, hx377⟩ := hq374
                have hro378 : RO2 w w373 k := fun l hl hn => ((hx377 (20 * l) (by omega)).2 (by omega)).trans (hro365 l hl hn)
                clear hx377
                obtain ⟨g112_379, h112_380, hb381⟩ := (hI375 112 (by decide) (by decide) : cpI 320 79 4294967295 (wget w373 112))
                have h112_380 : xRow w373 112 320 79 g112_379 := h112_380
                refine xg_t (xg_iinc (u := 1) (z := 2) (l1 := [(0, (2, 82)), (1, (0, kr)), (2, (0, 1))]) rfl rfl (by decide) rfl) ?_
                refine xg_t (xg_goto) ?_
                refine xg_t (xg_blk (b := [(55, 1, 2, 3, 0, 0), (56, 1, 3, 4, 0, 0), (57, 3, 6, 88, 3, 0), (60, 1, 2, 1, 0, 0), (61, 1, 3, 4, 0, 0), (62, 3, 6, 88, 3, 0), (65, 1, 0, 0, 0, 0), (66, 1, 3, 1, 0, 0), (67, 1, 3, 4, 0, 0), (68, 1, 2, 1, 0, 0), (69, 1, 16, 0, 0, 0), (70, 1, 11, 0, 0, 0), (71, 1, 2, 3, 0, 0), (72, 1, 11, 0, 0, 0), (73, 1, 0, 0, 0, 0), (74, 3, 1, 12, 46, 102), (77, 1, 2, 3, 0, 0), (78, 1, 10, 0, 0, 0), (79, 3, 13, 214, 96, 424), (82, 3, 9, 3, 1, 0), (85, 3, 8, 55, 0, 0)]) rfl) ?_
                refine xg_t (xg_iload (va := (0, 2)) rfl rfl) ?_
                refine xg_t (xg_const) ?_
                refine xg_t (xg_icF (u := 2) (v := 4) rfl xnm0 xnm0 (by decide)) ?_
                refine xg_t (xg_iload (va := (0, kr)) rfl rfl) ?_
                refine xg_t (xg_const) ?_
                refine xg_t (xg_icF (u := kr) (v := 4) rfl xnm0 xnm0 (xj_geF (by omega) (by omega))) ?_
                refine xg_t (xg_aload (va := (2, 82)) rfl rfl) ?_
                refine xg_t (xg_const) ?_
                refine xg_t (xg_const) ?_
                refine xg_t (xg_iload (va := (0, kr)) rfl rfl) ?_
                refine xg_t (xg_imul (u := 4) (v := kr) (z := 4 * kr) xnm0 xnm0 (by omega)) ?_
                refine xg_t (xg_iadd (u := 1) (v := 4 * kr) (z := 1 + (4 * kr)) xnm0 xnm0 (by omega)) ?_
                refine xg_t (xg_iload (va := (0, 2)) rfl rfl) ?_
                refine xg_t (xg_iadd (u := 1 + (4 * kr)) (v := 2) (z := (1 + (4 * kr)) + 2) xnm0 xnm0 (by omega)) ?_
                refine xg_t (xg_aload (va := (2, 82)) rfl rfl) ?_
                refine xg_t (xg_getf (va := (2, 113)) (hF376.get (by decide) (hF363.get (by decide) h82_354)) rfl) ?_
                refine xg_t (xg_iload (va := (0, 2)) rfl rfl) ?_
                refine xg_ialdB (n := 2) (B := 4294967295) ((h113_322.fr hF363 (by decide)).fr hF376 (by decide)) (hb323) xnm0 (by omega) (fun u382 hu383 he384 => ?_)
                have hl385 : fld w373 82 14 = k := ((fld_eq (j := 14) ((hF376.1 82 (by decide)).trans (hF363.1 82 (by decide)))).trans hk318).trans hln
                refine xg_cVv mX12_rulePuts (vs := [(0, (1 + (4 * kr)) + 2), (0, u382)]) (rest := []) (cn1 := 0) (sl1 := 0) rfl (mRulePuts (hI375) (by omega) (by omega) (by omega)) rfl (hF376.get (by decide) (hF363.get (by decide) h82_354)) rfl rfl rfl rfl rfl rfl (fun w386 hq387 => ?_)
                obtain ⟨hI388, hF389, hx390⟩ := hq387
                have hro391 : RO2 w w386 k := fun l hl hn => ((hx390 (20 * l) (by omega)).2 (by omega)).trans (hro378 l hl hn)
                clear hx390
                obtain ⟨g112_392, h112_393, hb394⟩ := (hI388 112 (by decide) (by decide) : cpI 320 79 4294967295 (wget w386 112))
                have h112_393 : xRow w386 112 320 79 g112_392 := h112_393
                refine xg_t (xg_iinc (u := 2) (z := 3) (l1 := [(0, (2, 82)), (1, (0, kr)), (2, (0, 1))]) rfl rfl (by decide) rfl) ?_
                refine xg_t (xg_goto) ?_
                refine xg_t (xg_blk (b := [(55, 1, 2, 3, 0, 0), (56, 1, 3, 4, 0, 0), (57, 3, 6, 88, 3, 0), (60, 1, 2, 1, 0, 0), (61, 1, 3, 4, 0, 0), (62, 3, 6, 88, 3, 0), (65, 1, 0, 0, 0, 0), (66, 1, 3, 1, 0, 0), (67, 1, 3, 4, 0, 0), (68, 1, 2, 1, 0, 0), (69, 1, 16, 0, 0, 0), (70, 1, 11, 0, 0, 0), (71, 1, 2, 3, 0, 0), (72, 1, 11, 0, 0, 0), (73, 1, 0, 0, 0, 0), (74, 3, 1, 12, 46, 102), (77, 1, 2, 3, 0, 0), (78, 1, 10, 0, 0, 0), (79, 3, 13, 214, 96, 424), (82, 3, 9, 3, 1, 0), (85, 3, 8, 55, 0, 0)]) rfl) ?_
                refine xg_t (xg_iload (va := (0, 3)) rfl rfl) ?_
                refine xg_t (xg_const) ?_
                refine xg_t (xg_icF (u := 3) (v := 4) rfl xnm0 xnm0 (by decide)) ?_
                refine xg_t (xg_iload (va := (0, kr)) rfl rfl) ?_
                refine xg_t (xg_const) ?_
                refine xg_t (xg_icF (u := kr) (v := 4) rfl xnm0 xnm0 (xj_geF (by omega) (by omega))) ?_
                refine xg_t (xg_aload (va := (2, 82)) rfl rfl) ?_
                refine xg_t (xg_const) ?_
                refine xg_t (xg_const) ?_
                refine xg_t (xg_iload (va := (0, kr)) rfl rfl) ?_
                refine xg_t (xg_imul (u := 4) (v := kr) (z := 4 * kr) xnm0 xnm0 (by omega)) ?_
                refine xg_t (xg_iadd (u := 1) (v := 4 * kr) (z := 1 + (4 * kr)) xnm0 xnm0 (by omega)) ?_
                refine xg_t (xg_iload (va := (0, 3)) rfl rfl) ?_
                refine xg_t (xg_iadd (u := 1 + (4 * kr)) (v := 3) (z := (1 + (4 * kr)) + 3) xnm0 xnm0 (by omega)) ?_
                refine xg_t (xg_aload (va := (2, 82)) rfl rfl) ?_
                refine xg_t (xg_getf (va := (2, 113)) (hF389.get (by decide) (hF376.get (by decide) (hF363.get (by decide) h82_354))) rfl) ?_
                refine xg_t (xg_iload (va := (0, 3)) rfl rfl) ?_
                refine xg_ialdB (n := 3) (B := 4294967295) (((h113_322.fr hF363 (by decide)).fr hF376 (by decide)).fr hF389 (by decide)) (hb323) xnm0 (by omega) (fun u395 hu396 he397 => ?_)
                have hl398 : fld w386 82 14 = k := ((fld_eq (j := 14) ((hF389.1 82 (by decide)).trans ((hF376.1 82 (by decide)).trans (hF363.1 82 (by decide))))).trans hk318).trans hln
                refine xg_cVv mX12_rulePuts (vs := [(0, (1 + (4 * kr)) + 3), (0, u395)]) (rest := []) (cn1 := 0) (sl1 := 0) rfl (mRulePuts (hI388) (by omega) (by omega) (by omega)) rfl (hF389.get (by decide) (hF376.get (by decide) (hF363.get (by decide) h82_354))) rfl rfl rfl rfl rfl rfl (fun w399 hq400 => ?_)
                obtain ⟨hI401, hF402, hx403⟩ := hq400
                have hro404 : RO2 w w399 k := fun l hl hn => ((hx403 (20 * l) (by omega)).2 (by omega)).trans (hro391 l hl hn)
                clear hx403
                obtain ⟨g112_405, h112_406, hb407⟩ := (hI401 112 (by decide) (by decide) : cpI 320 79 4294967295 (wget w399 112))
                have h112_406 : xRow w399 112 320 79 g112_405 := h112_406
                refine xg_t (xg_iinc (u := 3) (z := 4) (l1 := [(0, (2, 82)), (1, (0, kr)), (2, (0, 1))]) rfl rfl (by decide) rfl) ?_
                refine xg_t (xg_goto) ?_
                refine xg_t (xg_blk (b := [(55, 1, 2, 3, 0, 0), (56, 1, 3, 4, 0, 0), (57, 3, 6, 88, 3, 0), (60, 1, 2, 1, 0, 0), (61, 1, 3, 4, 0, 0), (62, 3, 6, 88, 3, 0), (65, 1, 0, 0, 0, 0), (66, 1, 3, 1, 0, 0), (67, 1, 3, 4, 0, 0), (68, 1, 2, 1, 0, 0), (69, 1, 16, 0, 0, 0), (70, 1, 11, 0, 0, 0), (71, 1, 2, 3, 0, 0), (72, 1, 11, 0, 0, 0), (73, 1, 0, 0, 0, 0), (74, 3, 1, 12, 46, 102), (77, 1, 2, 3, 0, 0), (78, 1, 10, 0, 0, 0), (79, 3, 13, 214, 96, 424), (82, 3, 9, 3, 1, 0), (85, 3, 8, 55, 0, 0)]) rfl) ?_
                refine xg_t (xg_iload (va := (0, 4)) rfl rfl) ?_
                refine xg_t (xg_const) ?_
                refine xg_t (xg_icT (u := 4) (v := 4) rfl xnm0 xnm0 (by decide)) ?_
                refine xg_t (xg_blk (b := [(88, 3, 9, 1, 1, 0), (91, 1, 0, 0, 0, 0), (92, 2, 4, 51, 0, 0), (94, 3, 13, 227, 96, 415), (97, 1, 15, 2, 0, 0), (98, 3, 8, 31, 0, 0)]) rfl) ?_
                refine xg_t (xg_iinc (u := kr) (z := kr + 1) (l1 := [(3, (0, 4)), (0, (2, 82)), (2, (0, 1))]) rfl rfl (by omega) rfl) ?_
                refine xg_t (xg_aload (va := (2, 82)) rfl rfl) ?_
                refine xg_t (xg_bip) ?_
                have hk408 := ((fld_eq (j := 14) ((hF402.1 82 (by decide)).trans ((hF389.1 82 (by decide)).trans ((hF376.1 82 (by decide)).trans (hF363.1 82 (by decide)))))).trans hk318)
                refine xg_cVi mX12_takes (vs := [(0, 51)]) (rest := []) (cn1 := 0) (sl1 := 0) rfl (mTakesX (hI401) (by omega) (hB.fr (fun j h4 h9 => (((((hK96.tr hn313).tr (K83.fr hF363 (by decide))).tr (K83.fr hF376 (by decide))).tr (K83.fr hF389 (by decide))).tr (K83.fr hF402 (by decide))) j (by omega) (by omega) (by omega))) (hT_315.fr ((hF402.1 82 (by decide)).trans ((hF389.1 82 (by decide)).trans ((hF376.1 82 (by decide)).trans (hF363.1 82 (by decide)))))) ((fld_eq (j := 10) ((hF402.1 82 (by decide)).trans ((hF389.1 82 (by decide)).trans ((hF376.1 82 (by decide)).trans (hF363.1 82 (by decide)))))).trans k10_316)) rfl (hF402.get (by decide) (hF389.get (by decide) (hF376.get (by decide) (hF363.get (by decide) h82_354)))) rfl rfl rfl rfl rfl rfl (fun n413 w409 hq410 => ?_)
                obtain ⟨hn414, hI411, hF412⟩ := hq410
                obtain ⟨hz415, hz416, hz417⟩ := hn414
                have k14_420 := hz417.trans hk408
                rcases hz415 with ⟨rfl, hx418, hx419⟩ | ⟨rfl, hx418, hx419⟩
                · obtain ⟨p_421, hp422⟩ : ∃ x, x = tf B nn r_319 := ⟨_, rfl⟩
                  rw [← hp422] at hx419
                  refine xg_t (xg_istore (l1 := [(1, (0, kr + 1)), (3, (0, 4)), (0, (2, 82))]) rfl rfl rfl) ?_
                  refine xg_t (xg_goto) ?_
                  refine xg_t (xg_drop (l1 := [(0, (2, 82)), (1, (0, kr + 1)), (2, (0, 1))]) (List.forall_mem_cons.mpr ⟨List.mem_cons_of_mem _ (List.mem_cons_of_mem _ (List.mem_cons_of_mem _ (List.mem_cons_self))), List.forall_mem_cons.mpr ⟨List.mem_cons_of_mem _ (List.mem_cons_self), List.forall_mem_cons.mpr ⟨List.mem_cons_self, fun _ h => absurd h List.not_mem_nil⟩⟩⟩)) ?_
                  have hle424 := rtR_and (B := B) (n := nn) (p := q_105) hqn126 (by rw [← hr320]; exact hx418)
                  rw [← hr320, ← hp422] at hle424
                  have hfi423 : fpi g_301 p_421 := by
                    rw [hg302, hp422, hr320]
                    exact hfi110.rgi (Nat.le_of_lt (rtR_and (B := B) (n := nn) hqn126 (by rw [← hr320]; exact hx418)).1) (rtR_q hqn126)
                  exact ih85 (kr + 1) 1 w409 (by omega) (by omega) (by omega) (hI411) (((((((hF89.tr (hF309.up (by decide))).tr (hF363.up (by decide))).tr (hF376.up (by decide))).tr (hF389.up (by decide))).tr (hF402.up (by decide))).tr (hF412.up (by decide)))) (⟨Or.inl ⟨rfl, p_421, g_301, hx419, hz416, (hF_303.k83 (rwv_eq ((hF412.1 83 (by decide)).trans ((hF402.1 83 (by decide)).trans ((hF389.1 83 (by decide)).trans ((hF376.1 83 (by decide)).trans ((hF363.1 83 (by decide)).trans he317)))))) (rwv_eq ((hF412.1 83 (by decide)).trans ((hF402.1 83 (by decide)).trans ((hF389.1 83 (by decide)).trans ((hF376.1 83 (by decide)).trans ((hF363.1 83 (by decide)).trans he317))))))), hfi423, by omega, hk4304, by rw [← heq113, rs_and hqn126 hy314 (by rw [← hr320]; exact hx418), ← hr320, ← hp422, ← hg302]⟩, ((((((hK96.tr hn313).tr (K83.fr hF363 (by decide))).tr (K83.fr hF376 (by decide))).tr (K83.fr hF389 (by decide))).tr (K83.fr hF402 (by decide))).tr (K83.fr hF412 (by decide))), (RO2.fr hro404 hF412 (by decide)), k14_420⟩)
                · refine xg_t (xg_istore (l1 := [(1, (0, kr + 1)), (3, (0, 4)), (0, (2, 82))]) rfl rfl rfl) ?_
                  refine xg_t (xg_goto) ?_
                  refine xg_t (xg_drop (l1 := [(0, (2, 82)), (1, (0, kr + 1)), (2, (0, 0))]) (List.forall_mem_cons.mpr ⟨List.mem_cons_of_mem _ (List.mem_cons_of_mem _ (List.mem_cons_of_mem _ (List.mem_cons_self))), List.forall_mem_cons.mpr ⟨List.mem_cons_of_mem _ (List.mem_cons_self), List.forall_mem_cons.mpr ⟨List.mem_cons_self, fun _ h => absurd h List.not_mem_nil⟩⟩⟩)) ?_
                  exact ih85 (kr + 1) 0 w409 (by omega) (by omega) (by omega) (hI411) (((((((hF89.tr (hF309.up (by decide))).tr (hF363.up (by decide))).tr (hF376.up (by decide))).tr (hF389.up (by decide))).tr (hF402.up (by decide))).tr (hF412.up (by decide)))) (⟨Or.inr (Or.inl ⟨rfl, r_319, g_301, hx419, hz416, (hF_303.k83 (rwv_eq ((hF412.1 83 (by decide)).trans ((hF402.1 83 (by decide)).trans ((hF389.1 83 (by decide)).trans ((hF376.1 83 (by decide)).trans ((hF363.1 83 (by decide)).trans he317)))))) (rwv_eq ((hF412.1 83 (by decide)).trans ((hF402.1 83 (by decide)).trans ((hF389.1 83 (by decide)).trans ((hF376.1 83 (by decide)).trans ((hF363.1 83 (by decide)).trans he317))))))), hk4304, fun z => by rw [← heq113, rs_col hy314 (by rw [← hr320]; exact z), ← hr320, ← hg302], fun z => by rw [← heq113, rs_bad hy314 (by rw [← hr320]; exact hx418) (by rw [← hr320]; exact z), ← hr320, ← hg302]⟩), ((((((hK96.tr hn313).tr (K83.fr hF363 (by decide))).tr (K83.fr hF376 (by decide))).tr (K83.fr hF389 (by decide))).tr (K83.fr hF402 (by decide))).tr (K83.fr hF412 (by decide))), (RO2.fr hro404 hF412 (by decide)), k14_420⟩)
              · refine xg_t (xg_const) ?_
                refine xg_t (xg_istore (l1 := [(0, (2, 82)), (1, (0, kr)), (2, (0, 1))]) rfl rfl rfl) ?_
                refine xg_t (xg_blk (b := [(55, 1, 2, 3, 0, 0), (56, 1, 3, 4, 0, 0), (57, 3, 6, 88, 3, 0), (60, 1, 2, 1, 0, 0), (61, 1, 3, 4, 0, 0), (62, 3, 6, 88, 3, 0), (65, 1, 0, 0, 0, 0), (66, 1, 3, 1, 0, 0), (67, 1, 3, 4, 0, 0), (68, 1, 2, 1, 0, 0), (69, 1, 16, 0, 0, 0), (70, 1, 11, 0, 0, 0), (71, 1, 2, 3, 0, 0), (72, 1, 11, 0, 0, 0), (73, 1, 0, 0, 0, 0), (74, 3, 1, 12, 46, 102), (77, 1, 2, 3, 0, 0), (78, 1, 10, 0, 0, 0), (79, 3, 13, 214, 96, 424), (82, 3, 9, 3, 1, 0), (85, 3, 8, 55, 0, 0)]) rfl) ?_
                refine xg_t (xg_iload (va := (0, 0)) rfl rfl) ?_
                refine xg_t (xg_const) ?_
                refine xg_t (xg_icF (u := 0) (v := 4) rfl xnm0 xnm0 (by decide)) ?_
                refine xg_t (xg_iload (va := (0, kr)) rfl rfl) ?_
                refine xg_t (xg_const) ?_
                refine xg_t (xg_icF (u := kr) (v := 4) rfl xnm0 xnm0 (xj_geF (by omega) (by omega))) ?_
                refine xg_t (xg_aload (va := (2, 82)) rfl rfl) ?_
                refine xg_t (xg_const) ?_
                refine xg_t (xg_const) ?_
                refine xg_t (xg_iload (va := (0, kr)) rfl rfl) ?_
                refine xg_t (xg_imul (u := 4) (v := kr) (z := 4 * kr) xnm0 xnm0 (by omega)) ?_
                refine xg_t (xg_iadd (u := 1) (v := 4 * kr) (z := 1 + (4 * kr)) xnm0 xnm0 (by omega)) ?_
                refine xg_t (xg_iload (va := (0, 0)) rfl rfl) ?_
                refine xg_t (xg_iadd (u := 1 + (4 * kr)) (v := 0) (z := (1 + (4 * kr)) + 0) xnm0 xnm0 (by omega)) ?_
                refine xg_t (xg_aload (va := (2, 82)) rfl rfl) ?_
                obtain ⟨f82_425, f82_427, f82_429, f82_431, f82_433, f82_435, f82_437, f82_439, f82_441, f82_443, f82_445, f82_446, f82_447, f82_449, f82_451, f82_453, h82_455, hb426, hb428, hb430, hb432, hb434, hb436, hb438, hb440, hb442, hb444, hb448, hb450, hb452, hb454, hb456⟩ := (hI308 82 (by decide) (by decide) : cp82 (wget w306 82))
                replace hb428 := xHid.of hb428
                replace hb434 := xHid.of hb434
                replace hb438 := xHid.of hb438
                replace hb440 := xHid.of hb440
                replace hb444 := xHid.of hb444
                replace hb448 := xHid.of hb448
                replace hb450 := xHid.of hb450
                replace hb452 := xHid.of hb452
                replace hb454 := xHid.of hb454
                refine xg_t (xg_getf (va := (2, 113)) h82_455 rfl) ?_
                refine xg_t (xg_iload (va := (0, 0)) rfl rfl) ?_
                refine xg_ialdB (n := 0) (B := 4294967295) h113_322 (hb323) xnm0 (by omega) (fun u457 hu458 he459 => ?_)
                have hl460 : fld w306 82 14 = k := hk318.trans hln
                refine xg_cVv mX12_rulePuts (vs := [(0, (1 + (4 * kr)) + 0), (0, u457)]) (rest := []) (cn1 := 0) (sl1 := 0) rfl (mRulePuts (hI308) (by omega) (by omega) (by omega)) rfl h82_455 rfl rfl rfl rfl rfl rfl (fun w461 hq462 => ?_)
                obtain ⟨hI463, hF464, hx465⟩ := hq462
                have hro466 : RO2 w w461 k := fun l hl hn => ((hx465 (20 * l) (by omega)).2 (by omega)).trans ((RO2.fr hro97 hF309 (by decide)) l hl hn)
                clear hx465
                obtain ⟨g112_467, h112_468, hb469⟩ := (hI463 112 (by decide) (by decide) : cpI 320 79 4294967295 (wget w461 112))
                have h112_468 : xRow w461 112 320 79 g112_467 := h112_468
                refine xg_t (xg_iinc (u := 0) (z := 1) (l1 := [(0, (2, 82)), (1, (0, kr)), (2, (0, 1))]) rfl rfl (by decide) rfl) ?_
                refine xg_t (xg_goto) ?_
                refine xg_t (xg_blk (b := [(55, 1, 2, 3, 0, 0), (56, 1, 3, 4, 0, 0), (57, 3, 6, 88, 3, 0), (60, 1, 2, 1, 0, 0), (61, 1, 3, 4, 0, 0), (62, 3, 6, 88, 3, 0), (65, 1, 0, 0, 0, 0), (66, 1, 3, 1, 0, 0), (67, 1, 3, 4, 0, 0), (68, 1, 2, 1, 0, 0), (69, 1, 16, 0, 0, 0), (70, 1, 11, 0, 0, 0), (71, 1, 2, 3, 0, 0), (72, 1, 11, 0, 0, 0), (73, 1, 0, 0, 0, 0), (74, 3, 1, 12, 46, 102), (77, 1, 2, 3, 0, 0), (78, 1, 10, 0, 0, 0), (79, 3, 13, 214, 96, 424), (82, 3, 9, 3, 1, 0), (85, 3, 8, 55, 0, 0)]) rfl) ?_
                refine xg_t (xg_iload (va := (0, 1)) rfl rfl) ?_
                refine xg_t (xg_const) ?_
                refine xg_t (xg_icF (u := 1) (v := 4) rfl xnm0 xnm0 (by decide)) ?_
                refine xg_t (xg_iload (va := (0, kr)) rfl rfl) ?_
                refine xg_t (xg_const) ?_
                refine xg_t (xg_icF (u := kr) (v := 4) rfl xnm0 xnm0 (xj_geF (by omega) (by omega))) ?_
                refine xg_t (xg_aload (va := (2, 82)) rfl rfl) ?_
                refine xg_t (xg_const) ?_
                refine xg_t (xg_const) ?_
                refine xg_t (xg_iload (va := (0, kr)) rfl rfl) ?_
                refine xg_t (xg_imul (u := 4) (v := kr) (z := 4 * kr) xnm0 xnm0 (by omega)) ?_
                refine xg_t (xg_iadd (u := 1) (v := 4 * kr) (z := 1 + (4 * kr)) xnm0 xnm0 (by omega)) ?_
                refine xg_t (xg_iload (va := (0, 1)) rfl rfl) ?_
                refine xg_t (xg_iadd (u := 1 + (4 * kr)) (v := 1) (z := (1 + (4 * kr)) + 1) xnm0 xnm0 (by omega)) ?_
                refine xg_t (xg_aload (va := (2, 82)) rfl rfl) ?_
                refine xg_t (xg_getf (va := (2, 113)) (hF464.get (by decide) h82_455) rfl) ?_
                refine xg_t (xg_iload (va := (0, 1)) rfl rfl) ?_
                refine xg_ialdB (n := 1) (B := 4294967295) (h113_322.fr hF464 (by decide)) (hb323) xnm0 (by omega) (fun u470 hu471 he472 => ?_)
                have hl473 : fld w461 82 14 = k := ((fld_eq (j := 14) (hF464.1 82 (by decide))).trans hk318).trans hln
                refine xg_cVv mX12_rulePuts (vs := [(0, (1 + (4 * kr)) + 1), (0, u470)]) (rest := []) (cn1 := 0) (sl1 := 0) rfl (mRulePuts (hI463) (by omega) (by omega) (by omega)) rfl (hF464.get (by decide) h82_455) rfl rfl rfl rfl rfl rfl (fun w474 hq475 => ?_)
                obtain ⟨hI476, hF477, hx478⟩ := hq475
                have hro479 : RO2 w w474 k := fun l hl hn => ((hx478 (20 * l) (by omega)).2 (by omega)).trans (hro466 l hl hn)
                clear hx478
                obtain ⟨g112_480, h112_481, hb482⟩ := (hI476 112 (by decide) (by decide) : cpI 320 79 4294967295 (wget w474 112))
                have h112_481 : xRow w474 112 320 79 g112_480 := h112_481
                refine xg_t (xg_iinc (u := 1) (z := 2) (l1 := [(0, (2, 82)), (1, (0, kr)), (2, (0, 1))]) rfl rfl (by decide) rfl) ?_
                refine xg_t (xg_goto) ?_
                refine xg_t (xg_blk (b := [(55, 1, 2, 3, 0, 0), (56, 1, 3, 4, 0, 0), (57, 3, 6, 88, 3, 0), (60, 1, 2, 1, 0, 0), (61, 1, 3, 4, 0, 0), (62, 3, 6, 88, 3, 0), (65, 1, 0, 0, 0, 0), (66, 1, 3, 1, 0, 0), (67, 1, 3, 4, 0, 0), (68, 1, 2, 1, 0, 0), (69, 1, 16, 0, 0, 0), (70, 1, 11, 0, 0, 0), (71, 1, 2, 3, 0, 0), (72, 1, 11, 0, 0, 0), (73, 1, 0, 0, 0, 0), (74, 3, 1, 12, 46, 102), (77, 1, 2, 3, 0, 0), (78, 1, 10, 0, 0, 0), (79, 3, 13, 214, 96, 424), (82, 3, 9, 3, 1, 0), (85, 3, 8, 55, 0, 0)]) rfl) ?_
                refine xg_t (xg_iload (va := (0, 2)) rfl rfl) ?_
                refine xg_t (xg_const) ?_
                refine xg_t (xg_icF (u := 2) (v := 4) rfl xnm0 xnm0 (by decide)) ?_
                refine xg_t (xg_iload (va := (0, kr)) rfl rfl) ?_
                refine xg_t (xg_const) ?_
                refine xg_t (xg_icF (u := kr) (v := 4) rfl xnm0 xnm0 (xj_geF (by omega) (by omega))) ?_
                refine xg_t (xg_aload (va := (2, 82)) rfl rfl) ?_
                refine xg_t (xg_const) ?_
                refine xg_t (xg_const) ?_
                refine xg_t (xg_iload (va := (0, kr)) rfl rfl) ?_
                refine xg_t (xg_imul (u := 4) (v := kr) (z := 4 * kr) xnm0 xnm0 (by omega)) ?_
                refine xg_t (xg_iadd (u := 1) (v := 4 * kr) (z := 1 + (4 * kr)) xnm0 xnm0 (by omega)) ?_
                refine xg_t (xg_iload (va := (0, 2)) rfl rfl) ?_
                refine xg_t (xg_iadd (u := 1 + (4 * kr)) (v := 2) (z := (1 + (4 * kr)) + 2) xnm0 xnm0 (by omega)) ?_
                refine xg_t (xg_aload (va := (2, 82)) rfl rfl) ?_
                refine xg_t (xg_getf (va := (2, 113)) (hF477.get (by decide) (hF464.get (by decide) h82_455)) rfl) ?_
                refine xg_t (xg_iload (va := (0, 2)) rfl rfl) ?_
                refine xg_ialdB (n := 2) (B := 4294967295) ((h113_322.fr hF464 (by decide)).fr hF477 (by decide)) (hb323) xnm0 (by omega) (fun u483 hu484 he485 => ?_)
                have hl486 : fld w474 82 14 = k := ((fld_eq (j := 14) ((hF477.1 82 (by decide)).trans (hF464.1 82 (by decide)))).trans hk318).trans hln
                refine xg_cVv mX12_rulePuts (vs := [(0, (1 + (4 * kr)) + 2), (0, u483)]) (rest := []) (cn1 := 0) (sl1 := 0) rfl (mRulePuts (hI476) (by omega) (by omega) (by omega)) rfl (hF477.get (by decide) (hF464.get (by decide) h82_455)) rfl rfl rfl rfl rfl rfl (fun w487 hq488 => ?_)
                obtain ⟨hI489, hF490, hx491⟩ := hq488
                have hro492 : RO2 w w487 k := fun l hl hn => ((hx491 (20 * l) (by omega)).2 (by omega)).trans (hro479 l hl hn)
                clear hx491
                obtain ⟨g112_493, h112_494, hb495⟩ := (hI489 112 (by decide) (by decide) : cpI 320 79 4294967295 (wget w487 112))
                have h112_494 : xRow w487 112 320 79 g112_493 := h112_494
                refine xg_t (xg_iinc (u := 2) (z := 3) (l1 := [(0, (2, 82)), (1, (0, kr)), (2, (0, 1))]) rfl rfl (by decide) rfl) ?_
                refine xg_t (xg_goto) ?_
                refine xg_t (xg_blk (b := [(55, 1, 2, 3, 0, 0), (56, 1, 3, 4, 0, 0), (57, 3, 6, 88, 3, 0), (60, 1, 2, 1, 0, 0), (61, 1, 3, 4, 0, 0), (62, 3, 6, 88, 3, 0), (65, 1, 0, 0, 0, 0), (66, 1, 3, 1, 0, 0), (67, 1, 3, 4, 0, 0), (68, 1, 2, 1, 0, 0), (69, 1, 16, 0, 0, 0), (70, 1, 11, 0, 0, 0), (71, 1, 2, 3, 0, 0), (72, 1, 11, 0, 0, 0), (73, 1, 0, 0, 0, 0), (74, 3, 1, 12, 46, 102), (77, 1, 2, 3, 0, 0), (78, 1, 10, 0, 0, 0), (79, 3, 13, 214, 96, 424), (82, 3, 9, 3, 1, 0), (85, 3, 8, 55, 0, 0)]) rfl) ?_
                refine xg_t (xg_iload (va := (0, 3)) rfl rfl) ?_
                refine xg_t (xg_const) ?_
                refine xg_t (xg_icF (u := 3) (v := 4) rfl xnm0 xnm0 (by decide)) ?_
                refine xg_t (xg_iload (va := (0, kr)) rfl rfl) ?_
                refine xg_t (xg_const) ?_
                refine xg_t (xg_icF (u := kr) (v := 4) rfl xnm0 xnm0 (xj_geF (by omega) (by omega))) ?_
                refine xg_t (xg_aload (va := (2, 82)) rfl rfl) ?_
                refine xg_t (xg_const) ?_
                refine xg_t (xg_const) ?_
                refine xg_t (xg_iload (va := (0, kr)) rfl rfl) ?_
                refine xg_t (xg_imul (u := 4) (v := kr) (z := 4 * kr) xnm0 xnm0 (by omega)) ?_
                refine xg_t (xg_iadd (u := 1) (v := 4 * kr) (z := 1 + (4 * kr)) xnm0 xnm0 (by omega)) ?_
                refine xg_t (xg_iload (va := (0, 3)) rfl rfl) ?_
                refine xg_t (xg_iadd (u := 1 + (4 * kr)) (v := 3) (z := (1 + (4 * kr)) + 3) xnm0 xnm0 (by omega)) ?_
                refine xg_t (xg_aload (va := (2, 82)) rfl rfl) ?_
                refine xg_t (xg_getf (va := (2, 113)) (hF490.get (by decide) (hF477.get (by decide) (hF464.get (by decide) h82_455))) rfl) ?_
                refine xg_t (xg_iload (va := (0, 3)) rfl rfl) ?_
                refine xg_ialdB (n := 3) (B := 4294967295) (((h113_322.fr hF464 (by decide)).fr hF477 (by decide)).fr hF490 (by decide)) (hb323) xnm0 (by omega) (fun u496 hu497 he498 => ?_)
                have hl499 : fld w487 82 14 = k := ((fld_eq (j := 14) ((hF490.1 82 (by decide)).trans ((hF477.1 82 (by decide)).trans (hF464.1 82 (by decide))))).trans hk318).trans hln
                refine xg_cVv mX12_rulePuts (vs := [(0, (1 + (4 * kr)) + 3), (0, u496)]) (rest := []) (cn1 := 0) (sl1 := 0) rfl (mRulePuts (hI489) (by omega) (by omega) (by omega)) rfl (hF490.get (by decide) (hF477.get (by decide) (hF464.get (by decide) h82_455))) rfl rfl rfl rfl rfl rfl (fun w500 hq501 => ?_)
                obtain ⟨hI502, hF503, hx504⟩ := hq501
                have hro505 : RO2 w w500 k := fun l hl hn => ((hx504 (20 * l) (by omega)).2 (by omega)).trans (hro492 l hl hn)
                clear hx504
                obtain ⟨g112_506, h112_507, hb508⟩ := (hI502 112 (by decide) (by decide) : cpI 320 79 4294967295 (wget w500 112))
                have h112_507 : xRow w500 112 320 79 g112_506 := h112_507
                refine xg_t (xg_iinc (u := 3) (z := 4) (l1 := [(0, (2, 82)), (1, (0, kr)), (2, (0, 1))]) rfl rfl (by decide) rfl) ?_
                refine xg_t (xg_goto) ?_
                refine xg_t (xg_blk (b := [(55, 1, 2, 3, 0, 0), (56, 1, 3, 4, 0, 0), (57, 3, 6, 88, 3, 0), (60, 1, 2, 1, 0, 0), (61, 1, 3, 4, 0, 0), (62, 3, 6, 88, 3, 0), (65, 1, 0, 0, 0, 0), (66, 1, 3, 1, 0, 0), (67, 1, 3, 4, 0, 0), (68, 1, 2, 1, 0, 0), (69, 1, 16, 0, 0, 0), (70, 1, 11, 0, 0, 0), (71, 1, 2, 3, 0, 0), (72, 1, 11, 0, 0, 0), (73, 1, 0, 0, 0, 0), (74, 3, 1, 12, 46, 102), (77, 1, 2, 3, 0, 0), (78, 1, 10, 0, 0, 0), (79, 3, 13, 214, 96, 424), (82, 3, 9, 3, 1, 0), (85, 3, 8, 55, 0, 0)]) rfl) ?_
                refine xg_t (xg_iload (va := (0, 4)) rfl rfl) ?_
                refine xg_t (xg_const) ?_
                refine xg_t (xg_icT (u := 4) (v := 4) rfl xnm0 xnm0 (by decide)) ?_
                refine xg_t (xg_blk (b := [(88, 3, 9, 1, 1, 0), (91, 1, 0, 0, 0, 0), (92, 2, 4, 51, 0, 0), (94, 3, 13, 227, 96, 415), (97, 1, 15, 2, 0, 0), (98, 3, 8, 31, 0, 0)]) rfl) ?_
                refine xg_t (xg_iinc (u := kr) (z := kr + 1) (l1 := [(3, (0, 4)), (0, (2, 82)), (2, (0, 1))]) rfl rfl (by omega) rfl) ?_
                refine xg_t (xg_aload (va := (2, 82)) rfl rfl) ?_
                refine xg_t (xg_bip) ?_
                refine xg_cVi mX12_takes (vs := [(0, 51)]) (rest := []) (cn1 := 0) (sl1 := 0) rfl (mTakesW (hI502) (by omega) (by have q := hT_315.1; have q2 := fld_eq (j := 10) ((hF503.1 82 (by decide)).trans ((hF490.1 82 (by decide)).trans ((hF477.1 82 (by decide)).trans (hF464.1 82 (by decide))))); omega)) rfl (hF503.get (by decide) (hF490.get (by decide) (hF477.get (by decide) (hF464.get (by decide) h82_455)))) rfl rfl rfl rfl rfl rfl (fun n513 w509 hq510 => ?_)
                obtain ⟨hn514, hI511, hF512⟩ := hq510
                subst hn514
                refine xg_t (xg_istore (l1 := [(1, (0, kr + 1)), (3, (0, 4)), (0, (2, 82))]) rfl rfl rfl) ?_
                refine xg_t (xg_goto) ?_
                refine xg_t (xg_drop (l1 := [(0, (2, 82)), (1, (0, kr + 1)), (2, (0, 0))]) (List.forall_mem_cons.mpr ⟨List.mem_cons_of_mem _ (List.mem_cons_of_mem _ (List.mem_cons_of_mem _ (List.mem_cons_self))), List.forall_mem_cons.mpr ⟨List.mem_cons_of_mem _ (List.mem_cons_self), List.forall_mem_cons.mpr ⟨List.mem_cons_self, fun _ h => absurd h List.not_mem_nil⟩⟩⟩)) ?_
                have hW_515 : WRG w509 (tq B nn r_319) := ⟨(fld_eq (j := 10) ((hF512.1 82 (by decide)).trans ((hF503.1 82 (by decide)).trans ((hF490.1 82 (by decide)).trans ((hF477.1 82 (by decide)).trans (hF464.1 82 (by decide))))))).trans hT_315.1, (rwv_eq ((hF512.1 83 (by decide)).trans ((hF503.1 83 (by decide)).trans ((hF490.1 83 (by decide)).trans ((hF477.1 83 (by decide)).trans (hF464.1 83 (by decide))))))).trans hT_315.2.1, (rwv_eq ((hF512.1 83 (by decide)).trans ((hF503.1 83 (by decide)).trans ((hF490.1 83 (by decide)).trans ((hF477.1 83 (by decide)).trans (hF464.1 83 (by decide))))))).trans hT_315.2.2⟩
                exact ih85 (kr + 1) 0 w509 (by omega) (by omega) (by omega) (hI511) (((((((hF89.tr (hF309.up (by decide))).tr (hF464.up (by decide))).tr (hF477.up (by decide))).tr (hF490.up (by decide))).tr (hF503.up (by decide))).tr (hF512.up (by decide)))) (⟨Or.inr (Or.inr ⟨rfl, r_319, g_301, hW_515, by rw [← heq113, rs_no hy314, ← hr320, ← hg302]⟩), ((((((hK96.tr hn313).tr (K83.fr hF464 (by decide))).tr (K83.fr hF477 (by decide))).tr (K83.fr hF490 (by decide))).tr (K83.fr hF503 (by decide))).tr (K83.fr hF512 (by decide))), (RO2.fr hro505 hF512 (by decide)), ((fld_eq (j := 14) ((hF512.1 82 (by decide)).trans ((hF503.1 82 (by decide)).trans ((hF490.1 82 (by decide)).trans ((hF477.1 82 (by decide)).trans (hF464.1 82 (by decide))))))).trans hk318)⟩)
          · refine xg_t (xg_iload (va := (0, 0)) rfl rfl) ?_
            refine xg_t (xg_ifT (u := 0) rfl xnm0 (by decide)) ?_
            refine xg_t (xg_blk (b := [(101, 1, 0, 0, 0, 0), (102, 2, 4, 58, 0, 0), (104, 3, 13, 195, 96, 427)]) rfl) ?_
            refine xg_t (xg_aload (va := (2, 82)) rfl rfl) ?_
            refine xg_t (xg_bip) ?_
            have hk516 := h14_98
            obtain ⟨f82_517, f82_519, f82_521, f82_523, f82_525, f82_527, f82_529, f82_531, f82_533, f82_535, f82_537, f82_538, f82_539, f82_541, f82_543, f82_545, h82_547, hb518, hb520, hb522, hb524, hb526, hb528, hb530, hb532, hb534, hb536, hb540, hb542, hb544, hb546, hb548⟩ := (hI88 82 (by decide) (by decide) : cp82 (wget w87 82))
            replace hb520 := xHid.of hb520
            replace hb526 := xHid.of hb526
            replace hb530 := xHid.of hb530
            replace hb532 := xHid.of hb532
            replace hb536 := xHid.of hb536
            replace hb540 := xHid.of hb540
            replace hb542 := xHid.of hb542
            replace hb544 := xHid.of hb544
            replace hb546 := xHid.of hb546
            refine xg_cVv mX12_must (vs := [(0, 58)]) (rest := []) (cn1 := 0) (sl1 := 0) rfl (mMustX (hI88) (by omega) (hB.fr (fun j h4 h9 => hK96 j (by omega) (by omega) (by omega))) hT_116 k10_117) rfl h82_547 rfl rfl rfl rfl rfl rfl (fun w549 hq550 => ?_)
            obtain ⟨hI551, hF552, hx553⟩ := hq550
            obtain ⟨hn554, hn555, hn556⟩ := hx553
            have hk561 := hn555.trans hk516
            rcases hn554 with ⟨hx557, hx558, hx559, hx560⟩ | ⟨hx557, hx558⟩
            · obtain ⟨p_562, hp563⟩ : ∃ x, x = tf B nn q_114 := ⟨_, rfl⟩
              rw [← hp563] at hx558
              have heq565 : rs B nn 0 (tf B nn p) (rlg B nn k p fp) = (true, p_562, f_115) := by rw [← hg66, ← hp83, he1120 hx557, ← hp563]
              have hE564 : (rlR B nn k p fp) = rvR B nn p_562 f_115 := (rlR_1 hx79 (congrArg Prod.fst heq565)).trans (congrArg (fun t : Bool × Nat × (Nat × Nat) => rvR B nn t.2.1 t.2.2) heq565)
              refine xg_t (xg_drop (l1 := [(0, (2, 82)), (1, (0, kr))]) (List.forall_mem_cons.mpr ⟨List.mem_cons_self, List.forall_mem_cons.mpr ⟨List.mem_cons_of_mem _ (List.mem_cons_self), fun _ h => absurd h List.not_mem_nil⟩⟩)) ?_
              have hl566 : fld w549 82 14 = k := hk561.trans hln
              have hro567 : RO2 w w549 k := (RO2.fr hro97 hF552 (by decide))
              have hF_568 : FP w549 f_115 := (hF_118.k83 (rwv_eq hx560) (rwv_eq hx560))
              refine (mRuleTX (fp := f_115) (hI551) (hB.fr (fun j h4 h9 => (hK96.tr hn556) j (by omega) (by omega) (by omega))) hx558 hx559 (by omega) (by omega)).imp (fun φ h => ?_)
              obtain ⟨w', e1, e2, e3, e4, e5⟩ := h
              refine ⟨w', e1, e2, ((hF89.tr (hF552.up (by decide)))).tr (e3.up (by decide)), ?_, ((hK96.tr hn556)).tr e5⟩
              rcases e4 with ⟨a1, a2, a3, a4, a5, a6, a7⟩ | ⟨a1, a2, a3⟩
              · have a4' : fld w' 82 14 = k + 1 := by omega
                refine Or.inl ⟨by rw [hE564]; exact a1, by rw [hE564]; exact a2, a3, a4', by rw [hE564, rvR_f]; exact hF_568.k83 (rwv_eq a5) (rwv_eq a5), fun z hd => ?_⟩
                by_cases y : 16 ≤ k
                · exact absurd z (rlR_nz y)
                · rw [hE564, rvR_f] at z
                  have q := a7 (by omega)
                  rw [hl566] at q a6
                  exact hd.up hln a4' (by omega) (fun l hl hn => (a6 l hl hn).trans (hro567 l hl hn)) q (hk4119 z)
              · exact Or.inr ⟨by rw [hE564]; exact a1, by rw [hE564]; exact a2, by omega⟩
            · have heq570 : rs B nn 0 (tf B nn p) (rlg B nn k p fp) = (false, q_114, f_115) := by rw [← hg66, ← hp83, he2121 hx557]
              have hE569 : (rlR B nn k p fp) = (false, q_114, f_115) := (rlR_2 hx79 (congrArg Prod.fst heq570)).trans heq570
              refine xg_t (xg_drop (l1 := [(0, (2, 82)), (1, (0, kr))]) (List.forall_mem_cons.mpr ⟨List.mem_cons_self, List.forall_mem_cons.mpr ⟨List.mem_cons_of_mem _ (List.mem_cons_self), fun _ h => absurd h List.not_mem_nil⟩⟩)) ?_
              have hl571 : fld w549 82 14 = k := hk561.trans hln
              have hW_572 : WRG w549 (tq B nn q_114) := hx558
              refine (mRuleTW (hI551) (by have q := hW_572.1; omega)).imp (fun φ h => ?_)
              obtain ⟨w', e1, e2, e3, -⟩ := h
              refine ⟨w', e1, e2, ((hF89.tr (hF552.up (by decide)))).tr (e3.up (by decide)), Or.inr ⟨congrArg Prod.fst hE569, by rw [hE569]; exact ⟨(fld_fr e3 (by decide)).trans hW_572.1, (rwv_fr e3 (by decide)).trans hW_572.2.1, (rwv_fr e3 (by decide)).trans hW_572.2.2⟩, Or.inl ((fld_fr e3 (by decide)).trans hl571)⟩, ((hK96.tr hn556)).tr (K83.fr e3 (by decide))⟩
          · refine xg_t (xg_iload (va := (0, 0)) rfl rfl) ?_
            refine xg_t (xg_ifT (u := 0) rfl xnm0 (by decide)) ?_
            refine xg_t (xg_blk (b := [(101, 1, 0, 0, 0, 0), (102, 2, 4, 58, 0, 0), (104, 3, 13, 195, 96, 427)]) rfl) ?_
            refine xg_t (xg_aload (va := (2, 82)) rfl rfl) ?_
            refine xg_t (xg_bip) ?_
            obtain ⟨f82_573, f82_575, f82_577, f82_579, f82_581, f82_583, f82_585, f82_587, f82_589, f82_591, f82_593, f82_594, f82_595, f82_597, f82_599, f82_601, h82_603, hb574, hb576, hb578, hb580, hb582, hb584, hb586, hb588, hb590, hb592, hb596, hb598, hb600, hb602, hb604⟩ := (hI88 82 (by decide) (by decide) : cp82 (wget w87 82))
            replace hb576 := xHid.of hb576
            replace hb582 := xHid.of hb582
            replace hb586 := xHid.of hb586
            replace hb588 := xHid.of hb588
            replace hb592 := xHid.of hb592
            replace hb596 := xHid.of hb596
            replace hb598 := xHid.of hb598
            replace hb600 := xHid.of hb600
            replace hb602 := xHid.of hb602
            refine xg_cVv mX12_must (vs := [(0, 58)]) (rest := []) (cn1 := 0) (sl1 := 0) rfl (mMustW (hI88) (by omega) (by have q := hW_124.1; omega)) rfl h82_603 rfl rfl rfl rfl rfl rfl (fun w605 hq606 => ?_)
            obtain ⟨hI607, hF608⟩ := hq606
            have heq610 : rs B nn 0 (tf B nn p) (rlg B nn k p fp) = (false, q_122, f_123) := by rw [← hg66, ← hp83]; exact heq125
            have hE609 : (rlR B nn k p fp) = (false, q_122, f_123) := (rlR_2 hx79 (congrArg Prod.fst heq610)).trans heq610
            refine xg_t (xg_drop (l1 := [(0, (2, 82)), (1, (0, kr))]) (List.forall_mem_cons.mpr ⟨List.mem_cons_self, List.forall_mem_cons.mpr ⟨List.mem_cons_of_mem _ (List.mem_cons_self), fun _ h => absurd h List.not_mem_nil⟩⟩)) ?_
            have hl611 : fld w605 82 14 = k := ((fld_eq (j := 14) (hF608.1 82 (by decide))).trans h14_98).trans hln
            have hW_612 : WRG w605 (tq B nn q_122) := ⟨(fld_eq (j := 10) (hF608.1 82 (by decide))).trans hW_124.1, (rwv_eq (hF608.1 83 (by decide))).trans hW_124.2.1, (rwv_eq (hF608.1 83 (by decide))).trans hW_124.2.2⟩
            refine (mRuleTW (hI607) (by have q := hW_612.1; omega)).imp (fun φ h => ?_)
            obtain ⟨w', e1, e2, e3, -⟩ := h
            refine ⟨w', e1, e2, ((hF89.tr (hF608.up (by decide)))).tr (e3.up (by decide)), Or.inr ⟨congrArg Prod.fst hE609, by rw [hE609]; exact ⟨(fld_fr e3 (by decide)).trans hW_612.1, (rwv_fr e3 (by decide)).trans hW_612.2.1, (rwv_fr e3 (by decide)).trans hW_612.2.2⟩, Or.inl ((fld_fr e3 (by decide)).trans hl611)⟩, ((hK96.tr (K83.fr hF608 (by decide)))).tr (K83.fr e3 (by decide))⟩
      exact key84 _ 0 1 w70 (Nat.lt_succ_self _) (by omega) (by omega) (hI72) ((hF73.up (by decide))) (⟨Or.inl ⟨rfl, _, _, hx80, hz77, (hF_67.k83 (rwv_eq (hF73.1 83 (by decide))) (rwv_eq (hF73.1 83 (by decide)))), hig90, Nat.zero_le _, fun _ => Nat.zero_le _, rfl⟩, (K83.fr hF73 (by decide)), (RO2.fr (fun l _ _ => rfl : RO2 w w k) hF73 (by decide)), k14_81⟩)
    · refine xg_t (xg_ifT (u := 0) rfl xnm0 (by decide)) ?_
      have hE613 : (rlR B nn k p fp) = rvR B nn p g_65 := by rw [rlR_0 hx79, ← hg66]
      refine xg_t (xg_drop (l1 := [(0, (2, 82)), (1, (0, 0))]) (List.forall_mem_cons.mpr ⟨List.mem_cons_of_mem _ (List.mem_cons_self), List.forall_mem_cons.mpr ⟨List.mem_cons_self, fun _ h => absurd h List.not_mem_nil⟩⟩)) ?_
      have hl614 : fld w70 82 14 = k := k14_81.trans hln
      have hro615 : RO2 w w70 k := (RO2.fr (fun l _ _ => rfl : RO2 w w k) hF73 (by decide))
      have hF_616 : FP w70 g_65 := (hF_67.k83 (rwv_eq (hF73.1 83 (by decide))) (rwv_eq (hF73.1 83 (by decide))))
      refine (mRuleTX (fp := g_65) (hI72) (hB.fr (fun j h4 h9 => (K83.fr hF73 (by decide)) j (by omega) (by omega) (by omega))) hx80 hz77 (by omega) (by omega)).imp (fun φ h => ?_)
      obtain ⟨w', e1, e2, e3, e4, e5⟩ := h
      refine ⟨w', e1, e2, ((hF73.up (by decide))).tr (e3.up (by decide)), ?_, ((K83.fr hF73 (by decide))).tr e5⟩
      rcases e4 with ⟨a1, a2, a3, a4, a5, a6, a7⟩ | ⟨a1, a2, a3⟩
      · have a4' : fld w' 82 14 = k + 1 := by omega
        refine Or.inl ⟨by rw [hE613]; exact a1, by rw [hE613]; exact a2, a3, a4', by rw [hE613, rvR_f]; exact hF_616.k83 (rwv_eq a5) (rwv_eq a5), fun z hd => ?_⟩
        by_cases y : 16 ≤ k
        · exact absurd z (rlR_nz y)
        · rw [hE613, rvR_f] at z
          have q := a7 (by omega)
          rw [hl614] at q a6
          exact hd.up hln a4' (by omega) (fun l hl hn => (a6 l hl hn).trans (hro615 l hl hn)) q ((fun _ => by omega) z)
      · exact Or.inr ⟨by rw [hE613]; exact a1, by rw [hE613]; exact a2, by omega⟩
  · refine xg_t (xg_icF (u := f82_19) (v := 16) rfl xnm0 xnm0 (xj_ltF (by omega) (by omega))) ?_
    refine xg_t (xg_aload (va := (2, 82)) rfl rfl) ?_
    refine xg_t (xg_const) ?_
    refine xg_t (xg_aload (va := (2, 82)) rfl rfl) ?_
    refine xg_t (xg_getf (va := (0, f82_9)) h82_31 rfl) ?_
    have hn617 : f82_9 ≤ 4294967295 := hb10
    have hq618 : tq B nn p ≤ nn := tq_le hT.1.2.2.2.2.2
    refine xg_cVv mX12_also (vs := [(0, 3), (0, f82_9)]) (rest := []) (cn1 := 0) (sl1 := 0) rfl (mAlsoX (hI) (by omega) (by omega) (by omega) h10 hf) rfl h82_31 rfl rfl rfl rfl rfl rfl (fun w619 hq620 => ?_)
    obtain ⟨hI621, hF622, hx623⟩ := hq620
    obtain ⟨hv624, hv625⟩ := hx623
    have hF_626 : FP w619 (rnt fp (tq B nn p)) := by
      have q := hv624
      rw [show f82_9 = tq B nn p by omega, hi.aloi tq_ge] at q
      exact q
    refine xg_t (xg_blk (b := [(18, 1, 3, 0, 0, 0), (19, 1, 15, 1, 0, 0), (20, 1, 0, 0, 0, 0), (21, 2, 4, 50, 0, 0), (23, 3, 13, 227, 96, 415), (26, 3, 7, 107, 0, 0), (29, 1, 3, 1, 0, 0), (30, 1, 15, 2, 0, 0)]) rfl) ?_
    obtain ⟨g_627, hg628⟩ : ∃ x, x = rlg B nn k p fp := ⟨_, rfl⟩
    have hF_629 : FP w619 g_627 := by
      rw [hg628, rlg_y (by omega)]
      exact hF_626
    have hig630 : fpi g_627 (tf B nn p) := by rw [hg628]; exact hi.rlgi tfp tf_ge
    refine xg_t (xg_const) ?_
    refine xg_t (xg_istore (l1 := [(0, (2, 82))]) rfl rfl rfl) ?_
    refine xg_t (xg_aload (va := (2, 82)) rfl rfl) ?_
    refine xg_t (xg_bip) ?_
    have hk631 := ((fld_eq (j := 14) (hF622.1 82 (by decide))).trans rfl)
    refine xg_cVi mX12_takes (vs := [(0, 50)]) (rest := []) (cn1 := 0) (sl1 := 0) rfl (mTakesX (hI621) (by omega) (hB.fr (fun j h4 h9 => hv625 j (by omega) (by omega) (by omega))) (hT.fr (hF622.1 82 (by decide))) ((fld_eq (j := 10) (hF622.1 82 (by decide))).trans h10)) rfl (hF622.get (by decide) h82_31) rfl rfl rfl rfl rfl rfl (fun n636 w632 hq633 => ?_)
    obtain ⟨hn637, hI634, hF635⟩ := hq633
    obtain ⟨hz638, hz639, hz640⟩ := hn637
    have k14_643 := hz640.trans hk631
    rcases hz638 with ⟨rfl, hx641, hx642⟩ | ⟨rfl, hx641, hx642⟩
    · obtain ⟨p_644, hp645⟩ : ∃ x, x = tf B nn p := ⟨_, rfl⟩
      rw [← hp645] at hx642
      refine xg_t (xg_ifF (u := 1) rfl xnm0 (by decide)) ?_
      refine xg_t (xg_const) ?_
      refine xg_t (xg_istore (l1 := [(1, (0, 0)), (0, (2, 82))]) rfl rfl rfl) ?_
      refine xg_t (xg_drop (l1 := [(0, (2, 82)), (1, (0, 0)), (2, (0, 1))]) (List.forall_mem_cons.mpr ⟨List.mem_cons_of_mem _ (List.mem_cons_of_mem _ (List.mem_cons_self)), List.forall_mem_cons.mpr ⟨List.mem_cons_of_mem _ (List.mem_cons_self), List.forall_mem_cons.mpr ⟨List.mem_cons_self, fun _ h => absurd h List.not_mem_nil⟩⟩⟩)) ?_
      have hig652 : fpi g_627 p_644 := by rw [hp645]; exact hig630
      have key646 : ∀ (m648 : Nat) (kr mo : Nat) (w649 : List (List xE)), 2 * (502 - kr) + mo < m648 → kr ≤ 502 → mo ≤ 1 → xMnv w649 → xFr [82, 83, 112, 113] w w649 → ((mo = 1 ∧ ∃ (q : Nat) (f : Nat × Nat), TKM 1 B nn w649 q ∧ fld w649 82 10 = 0 ∧ FP w649 f ∧ fpi f q ∧ kr ≤ q ∧ (f.1 = 0 → kr ≤ 4) ∧ rs B nn kr q f = (rs B nn 0 p_644 g_627)) ∨ (mo = 0 ∧ ∃ (q : Nat) (f : Nat × Nat), TKM 1 B nn w649 q ∧ fld w649 82 10 = 0 ∧ FP w649 f ∧ (f.1 = 0 → kr ≤ 4) ∧ (tkd B nn q = 3 ∧ B (tq B nn q) = 58 → (rs B nn 0 p_644 g_627) = (true, tf B nn q, f)) ∧ (¬ (tkd B nn q = 3 ∧ B (tq B nn q) = 58) → (rs B nn 0 p_644 g_627) = (false, q, f))) ∨ (mo = 0 ∧ ∃ (q : Nat) (f : Nat × Nat), WRG w649 (tq B nn q) ∧ (rs B nn 0 p_644 g_627) = (false, q, f))) ∧ K83 w w649 ∧ RO2 w w649 k ∧ fld w649 82 14 = fld w 82 14 → xTo (d + 7) mX12_aRule (31, [], [(0, (2, 82)), (1, (0, kr)), (2, (0, mo))], [], (w649, bd, fc, 0, 0, rr)) (fun φ => ∃ w', xEnd 0 [] (w', bd, fc, 0, 0, rr) φ ∧ xMnv w' ∧ xFr [82, 83, 112, 113] w w' ∧ ((((rlR B nn k p fp).1 = true ∧ TKM 1 B nn w' (rlR B nn k p fp).2.1 ∧ fld w' 82 10 = 0 ∧ fld w' 82 14 = k + 1 ∧ FP w' (rlR B nn k p fp).2.2 ∧ ((rlR B nn k p fp).2.2.1 = 0 → RD w → RD w')) ∨ ((rlR B nn k p fp).1 = false ∧ WRG w' (tq B nn (rlR B nn k p fp).2.1) ∧ (fld w' 82 14 = k ∨ fld w' 82 14 = k + 1))) ∧ K83 w w')) := by
        intro m648
        induction m648 with
        | zero => intro kr mo w649 hz; exact absurd hz (Nat.not_lt_zero _)
        | succ m648 ih647 =>
          intro kr mo w649 hm656 hn653 hn654 hI650 hF651 he655
          obtain ⟨hX657, hK658, hro659, h14_660⟩ := he655
          obtain ⟨g112_661, h112_662, hb663⟩ := (hI650 112 (by decide) (by decide) : cpI 320 79 4294967295 (wget w649 112))
          have h112_662 : xRow w649 112 320 79 g112_661 := h112_662
          obtain ⟨g113_664, h113_665, hb666⟩ := (hI650 113 (by decide) (by decide) : cpI 4 80 4294967295 (wget w649 113))
          have h113_665 : xRow w649 113 4 80 g113_664 := h113_665
          refine xg_t (xg_blk (b := [(31, 1, 2, 2, 0, 0), (32, 3, 7, 101, 0, 0), (35, 1, 2, 1, 0, 0), (36, 1, 3, 3, 0, 0), (37, 3, 6, 49, 5, 0), (40, 1, 0, 0, 0, 0), (41, 1, 3, 3, 0, 0), (42, 1, 0, 0, 0, 0), (43, 3, 1, 12, 6, 148), (46, 3, 13, 115, 96, 186)]) rfl) ?_
          rcases hX657 with ⟨rfl, q_667, f_668, hT_669, k10_670, hF_671, hfi672, hkq673, hk4674, heq675⟩ | ⟨rfl, q_676, f_677, hT_678, k10_679, hF_680, hk4681, he1682, he2683⟩ | ⟨rfl, q_684, f_685, hW_686, heq687⟩
          · have hqn688 := hT_669.1.2.2.2.2.2
            have hl689 : kr ≤ 500 := by omega
            refine xg_t (xg_iload (va := (0, 1)) rfl rfl) ?_
            refine xg_t (xg_ifF (u := 1) rfl xnm0 (by decide)) ?_
            obtain ⟨⟨ht690, ht691, ht692, ht693, ht694, ht695⟩, ht696, ht697, ht698⟩ := id hT_669
            obtain ⟨f82_699, f82_701, f82_703, f82_705, f82_707, f82_709, f82_711, f82_713, f82_715, f82_717, f82_719, f82_720, f82_721, f82_723, f82_725, f82_727, h82_729, hb700, hb702, hb704, hb706, hb708, hb710, hb712, hb714, hb716, hb718, hb722, hb724, hb726, hb728, hb730⟩ := (hI650 82 (by decide) (by decide) : cp82 (wget w649 82))
            replace hb702 := xHid.of hb702
            replace hb708 := xHid.of hb708
            replace hb712 := xHid.of hb712
            replace hb714 := xHid.of hb714
            replace hb718 := xHid.of hb718
            replace hb722 := xHid.of hb722
            replace hb724 := xHid.of hb724
            replace hb726 := xHid.of hb726
            replace hb728 := xHid.of hb728
            have hf731 : fld w649 82 3 = f82_701 := fld_of h82_729
            have hf732 : fld w649 82 6 = f82_707 := fld_of h82_729
            have hf733 : fld w649 82 7 = f82_709 := fld_of h82_729
            have hf734 : fld w649 82 8 = f82_711 := fld_of h82_729
            have hf735 : fld w649 82 9 = f82_713 := fld_of h82_729
            have hf736 : fld w649 82 10 = f82_715 := fld_of h82_729
            have hf737 : fld w649 82 14 = f82_717 := fld_of h82_729
            have hmk738 := mkr (B := B) (n := nn) (p := q_667)
            have hx0739 : tkd B nn q_667 ≠ 1 → rwx B nn q_667 = 99 := rwx_0
            have hwd740 : tkd B nn q_667 = 1 → fld w649 82 9 = rwx B nn q_667 := hT_669.word
            clear ht697
            refine xg_t (xg_iload (va := (0, kr)) rfl rfl) ?_
            refine xg_t (xg_const) ?_
            by_cases hc741 : 3 < kr
            · refine xg_t (xg_icF (u := kr) (v := 3) rfl xnm0 xnm0 (xj_leF hc741 (by omega))) ?_
              refine xg_t (xg_aload (va := (2, 82)) rfl rfl) ?_
              refine xg_t (xg_const) ?_
              refine xg_t (xg_aload (va := (2, 82)) rfl rfl) ?_
              refine xg_t (xg_getf (va := (0, f82_707)) h82_729 rfl) ?_
              have hn742 : f82_707 ≤ 4294967295 := hb708
              have hq743 : tq B nn q_667 ≤ nn := tq_le hT_669.1.2.2.2.2.2
              refine xg_cVv mX12_also (vs := [(0, 3), (0, f82_707)]) (rest := []) (cn1 := 0) (sl1 := 0) rfl (mAlsoX (hI650) (by omega) (by omega) (by omega) k10_670 hF_671) rfl h82_729 rfl rfl rfl rfl rfl rfl (fun w744 hq745 => ?_)
              obtain ⟨hI746, hF747, hx748⟩ := hq745
              obtain ⟨hv749, hv750⟩ := hx748
              have hF_751 : FP w744 (rnt f_668 (tq B nn q_667)) := by
                have q := hv749
                rw [show f82_707 = tq B nn q_667 by omega, hfi672.aloi tq_ge] at q
                exact q
              refine xg_t (xg_blk (b := [(49, 1, 0, 0, 0, 0), (50, 3, 13, 109, 96, 421), (53, 1, 3, 0, 0, 0), (54, 1, 15, 3, 0, 0)]) rfl) ?_
              obtain ⟨g_752, hg753⟩ : ∃ x, x = rg B nn kr q_667 f_668 := ⟨_, rfl⟩
              have hF_754 : FP w744 g_752 := by
                rw [hg753, rg_y (by omega)]
                exact hF_751
              have hk4755 : g_752.1 = 0 → kr + 1 ≤ 4 := fun z => by
                by_cases y : 4 ≤ kr
                · exact absurd z (by rw [hg753, rg_y y]; exact rnt_nz)
                · omega
              refine xg_t (xg_aload (va := (2, 82)) rfl rfl) ?_
              have hk756 := ((fld_eq (j := 14) (hF747.1 82 (by decide))).trans h14_660)
              refine xg_cVv mX12_aTest (vs := []) (rest := []) (cn1 := 0) (sl1 := 0) rfl (mATestX (hI746) (hB.fr (fun j h4 h9 => (hK658.tr hv750) j (by omega) (by omega) (by omega))) (hT_669.fr (hF747.1 82 (by decide))) ((fld_eq (j := 10) (hF747.1 82 (by decide))).trans k10_670)) rfl (hF747.get (by decide) h82_729) rfl rfl rfl rfl rfl rfl (fun w757 hq758 => ?_)
              obtain ⟨hI759, hF760, hx761⟩ := hq758
              obtain ⟨hn762, hn763, hn764⟩ := hx761
              have hk769 := hn763.trans hk756
              obtain ⟨r_770, hr771⟩ : ∃ x, x = (rtR B nn q_667).2 := ⟨_, rfl⟩
              rw [← hr771] at hn762
              obtain ⟨g113_772, h113_773, hb774⟩ := (hI759 113 (by decide) (by decide) : cpI 4 80 4294967295 (wget w757 113))
              have h113_773 : xRow w757 113 4 80 g113_772 := h113_773
              rcases hn762 with ⟨hy765, hT_766, k10_767, he768⟩ | ⟨hy765, hT_766⟩
              · refine xg_t (xg_const) ?_
                refine xg_t (xg_istore (l1 := [(0, (2, 82)), (1, (0, kr)), (2, (0, 1))]) rfl rfl rfl) ?_
                refine xg_t (xg_blk (b := [(55, 1, 2, 3, 0, 0), (56, 1, 3, 4, 0, 0), (57, 3, 6, 88, 3, 0), (60, 1, 2, 1, 0, 0), (61, 1, 3, 4, 0, 0), (62, 3, 6, 88, 3, 0), (65, 1, 0, 0, 0, 0), (66, 1, 3, 1, 0, 0), (67, 1, 3, 4, 0, 0), (68, 1, 2, 1, 0, 0), (69, 1, 16, 0, 0, 0), (70, 1, 11, 0, 0, 0), (71, 1, 2, 3, 0, 0), (72, 1, 11, 0, 0, 0), (73, 1, 0, 0, 0, 0), (74, 3, 1, 12, 46, 102), (77, 1, 2, 3, 0, 0), (78, 1, 10, 0, 0, 0), (79, 3, 13, 214, 96, 424), (82, 3, 9, 3, 1, 0), (85, 3, 8, 55, 0, 0)]) rfl) ?_
                refine xg_t (xg_iload (va := (0, 0)) rfl rfl) ?_
                refine xg_t (xg_const) ?_
                refine xg_t (xg_icF (u := 0) (v := 4) rfl xnm0 xnm0 (by decide)) ?_
                refine xg_t (xg_iload (va := (0, kr)) rfl rfl) ?_
                refine xg_t (xg_const) ?_
                refine xg_t (xg_icT (u := kr) (v := 4) rfl xnm0 xnm0 (xj_geT (by omega) (by omega))) ?_
                refine xg_t (xg_blk (b := [(88, 3, 9, 1, 1, 0), (91, 1, 0, 0, 0, 0), (92, 2, 4, 51, 0, 0), (94, 3, 13, 227, 96, 415), (97, 1, 15, 2, 0, 0), (98, 3, 8, 31, 0, 0)]) rfl) ?_
                refine xg_t (xg_iinc (u := kr) (z := kr + 1) (l1 := [(3, (0, 0)), (0, (2, 82)), (2, (0, 1))]) rfl rfl (by omega) rfl) ?_
                refine xg_t (xg_aload (va := (2, 82)) rfl rfl) ?_
                refine xg_t (xg_bip) ?_
                have hk775 := hk769
                obtain ⟨f82_776, f82_778, f82_780, f82_782, f82_784, f82_786, f82_788, f82_790, f82_792, f82_794, f82_796, f82_797, f82_798, f82_800, f82_802, f82_804, h82_806, hb777, hb779, hb781, hb783, hb785, hb787, hb789, hb791, hb793, hb795, hb799, hb801, hb803, hb805, hb807⟩ := (hI759 82 (by decide) (by decide) : cp82 (wget w757 82))
                replace hb779 := xHid.of hb779
                replace hb785 := xHid.of hb785
                replace hb789 := xHid.of hb789
                replace hb791 := xHid.of hb791
                replace hb795 := xHid.of hb795
                replace hb799 := xHid.of hb799
                replace hb801 := xHid.of hb801
                replace hb803 := xHid.of hb803
                replace hb805 := xHid.of hb805
                refine xg_cVi mX12_takes (vs := [(0, 51)]) (rest := []) (cn1 := 0) (sl1 := 0) rfl (mTakesX (hI759) (by omega) (hB.fr (fun j h4 h9 => ((hK658.tr hv750).tr hn764) j (by omega) (by omega) (by omega))) hT_766 k10_767) rfl h82_806 rfl rfl rfl rfl rfl rfl (fun n812 w808 hq809 => ?_)
                obtain ⟨hn813, hI810, hF811⟩ := hq809
                obtain ⟨hz814, hz815, hz816⟩ := hn813
                have k14_819 := hz816.trans hk775
                rcases hz814 with ⟨rfl, hx817, hx818⟩ | ⟨rfl, hx817, hx818⟩
                · obtain ⟨p_820, hp821⟩ : ∃ x, x = tf B nn r_770 := ⟨_, rfl⟩
                  rw [← hp821] at hx818
                  refine xg_t (xg_istore (l1 := [(1, (0, kr + 1)), (3, (0, 0)), (0, (2, 82))]) rfl rfl rfl) ?_
                  refine xg_t (xg_goto) ?_
                  refine xg_t (xg_drop (l1 := [(0, (2, 82)), (1, (0, kr + 1)), (2, (0, 1))]) (List.forall_mem_cons.mpr ⟨List.mem_cons_of_mem _ (List.mem_cons_of_mem _ (List.mem_cons_of_mem _ (List.mem_cons_self))), List.forall_mem_cons.mpr ⟨List.mem_cons_of_mem _ (List.mem_cons_self), List.forall_mem_cons.mpr ⟨List.mem_cons_self, fun _ h => absurd h List.not_mem_nil⟩⟩⟩)) ?_
                  have hle823 := rtR_and (B := B) (n := nn) (p := q_667) hqn688 (by rw [← hr771]; exact hx817)
                  rw [← hr771, ← hp821] at hle823
                  have hfi822 : fpi g_752 p_820 := by
                    rw [hg753, hp821, hr771]
                    exact hfi672.rgi (Nat.le_of_lt (rtR_and (B := B) (n := nn) hqn688 (by rw [← hr771]; exact hx817)).1) (rtR_q hqn688)
                  exact ih647 (kr + 1) 1 w808 (by omega) (by omega) (by omega) (hI810) ((((hF651.tr (hF747.up (by decide))).tr (hF760.up (by decide))).tr (hF811.up (by decide)))) (⟨Or.inl ⟨rfl, p_820, g_752, hx818, hz815, (hF_754.k83 (rwv_eq ((hF811.1 83 (by decide)).trans he768)) (rwv_eq ((hF811.1 83 (by decide)).trans he768))), hfi822, by omega, hk4755, by rw [← heq675, rs_and hqn688 hy765 (by rw [← hr771]; exact hx817), ← hr771, ← hp821, ← hg753]⟩, (((hK658.tr hv750).tr hn764).tr (K83.fr hF811 (by decide))), (RO2.fr (RO2.fr (RO2.fr hro659 hF747 (by decide)) hF760 (by decide)) hF811 (by decide)), k14_819⟩)
                · refine xg_t (xg_istore (l1 := [(1, (0, kr + 1)), (3, (0, 0)), (0, (2, 82))]) rfl rfl rfl) ?_
                  refine xg_t (xg_goto) ?_
                  refine xg_t (xg_drop (l1 := [(0, (2, 82)), (1, (0, kr + 1)), (2, (0, 0))]) (List.forall_mem_cons.mpr ⟨List.mem_cons_of_mem _ (List.mem_cons_of_mem _ (List.mem_cons_of_mem _ (List.mem_cons_self))), List.forall_mem_cons.mpr ⟨List.mem_cons_of_mem _ (List.mem_cons_self), List.forall_mem_cons.mpr ⟨List.mem_cons_self, fun _ h => absurd h List.not_mem_nil⟩⟩⟩)) ?_
                  exact ih647 (kr + 1) 0 w808 (by omega) (by omega) (by omega) (hI810) ((((hF651.tr (hF747.up (by decide))).tr (hF760.up (by decide))).tr (hF811.up (by decide)))) (⟨Or.inr (Or.inl ⟨rfl, r_770, g_752, hx818, hz815, (hF_754.k83 (rwv_eq ((hF811.1 83 (by decide)).trans he768)) (rwv_eq ((hF811.1 83 (by decide)).trans he768))), hk4755, fun z => by rw [← heq675, rs_col hy765 (by rw [← hr771]; exact z), ← hr771, ← hg753], fun z => by rw [← heq675, rs_bad hy765 (by rw [← hr771]; exact hx817) (by rw [← hr771]; exact z), ← hr771, ← hg753]⟩), (((hK658.tr hv750).tr hn764).tr (K83.fr hF811 (by decide))), (RO2.fr (RO2.fr (RO2.fr hro659 hF747 (by decide)) hF760 (by decide)) hF811 (by decide)), k14_819⟩)
              · refine xg_t (xg_const) ?_
                refine xg_t (xg_istore (l1 := [(0, (2, 82)), (1, (0, kr)), (2, (0, 1))]) rfl rfl rfl) ?_
                refine xg_t (xg_blk (b := [(55, 1, 2, 3, 0, 0), (56, 1, 3, 4, 0, 0), (57, 3, 6, 88, 3, 0), (60, 1, 2, 1, 0, 0), (61, 1, 3, 4, 0, 0), (62, 3, 6, 88, 3, 0), (65, 1, 0, 0, 0, 0), (66, 1, 3, 1, 0, 0), (67, 1, 3, 4, 0, 0), (68, 1, 2, 1, 0, 0), (69, 1, 16, 0, 0, 0), (70, 1, 11, 0, 0, 0), (71, 1, 2, 3, 0, 0), (72, 1, 11, 0, 0, 0), (73, 1, 0, 0, 0, 0), (74, 3, 1, 12, 46, 102), (77, 1, 2, 3, 0, 0), (78, 1, 10, 0, 0, 0), (79, 3, 13, 214, 96, 424), (82, 3, 9, 3, 1, 0), (85, 3, 8, 55, 0, 0)]) rfl) ?_
                refine xg_t (xg_iload (va := (0, 0)) rfl rfl) ?_
                refine xg_t (xg_const) ?_
                refine xg_t (xg_icF (u := 0) (v := 4) rfl xnm0 xnm0 (by decide)) ?_
                refine xg_t (xg_iload (va := (0, kr)) rfl rfl) ?_
                refine xg_t (xg_const) ?_
                refine xg_t (xg_icT (u := kr) (v := 4) rfl xnm0 xnm0 (xj_geT (by omega) (by omega))) ?_
                refine xg_t (xg_blk (b := [(88, 3, 9, 1, 1, 0), (91, 1, 0, 0, 0, 0), (92, 2, 4, 51, 0, 0), (94, 3, 13, 227, 96, 415), (97, 1, 15, 2, 0, 0), (98, 3, 8, 31, 0, 0)]) rfl) ?_
                refine xg_t (xg_iinc (u := kr) (z := kr + 1) (l1 := [(3, (0, 0)), (0, (2, 82)), (2, (0, 1))]) rfl rfl (by omega) rfl) ?_
                refine xg_t (xg_aload (va := (2, 82)) rfl rfl) ?_
                refine xg_t (xg_bip) ?_
                obtain ⟨f82_824, f82_826, f82_828, f82_830, f82_832, f82_834, f82_836, f82_838, f82_840, f82_842, f82_844, f82_845, f82_846, f82_848, f82_850, f82_852, h82_854, hb825, hb827, hb829, hb831, hb833, hb835, hb837, hb839, hb841, hb843, hb847, hb849, hb851, hb853, hb855⟩ := (hI759 82 (by decide) (by decide) : cp82 (wget w757 82))
                replace hb827 := xHid.of hb827
                replace hb833 := xHid.of hb833
                replace hb837 := xHid.of hb837
                replace hb839 := xHid.of hb839
                replace hb843 := xHid.of hb843
                replace hb847 := xHid.of hb847
                replace hb849 := xHid.of hb849
                replace hb851 := xHid.of hb851
                replace hb853 := xHid.of hb853
                refine xg_cVi mX12_takes (vs := [(0, 51)]) (rest := []) (cn1 := 0) (sl1 := 0) rfl (mTakesW (hI759) (by omega) (by have q := hT_766.1; omega)) rfl h82_854 rfl rfl rfl rfl rfl rfl (fun n860 w856 hq857 => ?_)
                obtain ⟨hn861, hI858, hF859⟩ := hq857
                subst hn861
                refine xg_t (xg_istore (l1 := [(1, (0, kr + 1)), (3, (0, 0)), (0, (2, 82))]) rfl rfl rfl) ?_
                refine xg_t (xg_goto) ?_
                refine xg_t (xg_drop (l1 := [(0, (2, 82)), (1, (0, kr + 1)), (2, (0, 0))]) (List.forall_mem_cons.mpr ⟨List.mem_cons_of_mem _ (List.mem_cons_of_mem _ (List.mem_cons_of_mem _ (List.mem_cons_self))), List.forall_mem_cons.mpr ⟨List.mem_cons_of_mem _ (List.mem_cons_self), List.forall_mem_cons.mpr ⟨List.mem_cons_self, fun _ h => absurd h List.not_mem_nil⟩⟩⟩)) ?_
                have hW_862 : WRG w856 (tq B nn r_770) := ⟨(fld_eq (j := 10) (hF859.1 82 (by decide))).trans hT_766.1, (rwv_eq (hF859.1 83 (by decide))).trans hT_766.2.1, (rwv_eq (hF859.1 83 (by decide))).trans hT_766.2.2⟩
                exact ih647 (kr + 1) 0 w856 (by omega) (by omega) (by omega) (hI858) ((((hF651.tr (hF747.up (by decide))).tr (hF760.up (by decide))).tr (hF859.up (by decide)))) (⟨Or.inr (Or.inr ⟨rfl, r_770, g_752, hW_862, by rw [← heq675, rs_no hy765, ← hr771, ← hg753]⟩), (((hK658.tr hv750).tr hn764).tr (K83.fr hF859 (by decide))), (RO2.fr (RO2.fr (RO2.fr hro659 hF747 (by decide)) hF760 (by decide)) hF859 (by decide)), ((fld_eq (j := 14) (hF859.1 82 (by decide))).trans hk769)⟩)
            · refine xg_t (xg_icT (u := kr) (v := 3) rfl xnm0 xnm0 (xj_leT (by omega) (by omega))) ?_
              refine xg_t (xg_blk (b := [(49, 1, 0, 0, 0, 0), (50, 3, 13, 109, 96, 421), (53, 1, 3, 0, 0, 0), (54, 1, 15, 3, 0, 0)]) rfl) ?_
              obtain ⟨g_863, hg864⟩ : ∃ x, x = rg B nn kr q_667 f_668 := ⟨_, rfl⟩
              have hF_865 : FP w649 g_863 := by
                rw [hg864, rg_n (by omega)]
                exact hF_671
              have hk4866 : g_863.1 = 0 → kr + 1 ≤ 4 := fun z => by
                by_cases y : 4 ≤ kr
                · exact absurd z (by rw [hg864, rg_y y]; exact rnt_nz)
                · omega
              refine xg_t (xg_aload (va := (2, 82)) rfl rfl) ?_
              have hk867 := h14_660
              refine xg_cVv mX12_aTest (vs := []) (rest := []) (cn1 := 0) (sl1 := 0) rfl (mATestX (hI650) (hB.fr (fun j h4 h9 => hK658 j (by omega) (by omega) (by omega))) hT_669 k10_670) rfl h82_729 rfl rfl rfl rfl rfl rfl (fun w868 hq869 => ?_)
              obtain ⟨hI870, hF871, hx872⟩ := hq869
              obtain ⟨hn873, hn874, hn875⟩ := hx872
              have hk880 := hn874.trans hk867
              obtain ⟨r_881, hr882⟩ : ∃ x, x = (rtR B nn q_667).2 := ⟨_, rfl⟩
              rw [← hr882] at hn873
              obtain ⟨g113_883, h113_884, hb885⟩ := (hI870 113 (by decide) (by decide) : cpI 4 80 4294967295 (wget w868 113))
              have h113_884 : xRow w868 113 4 80 g113_883 := h113_884
              rcases hn873 with ⟨hy876, hT_877, k10_878, he879⟩ | ⟨hy876, hT_877⟩
              · refine xg_t (xg_const) ?_
                refine xg_t (xg_istore (l1 := [(0, (2, 82)), (1, (0, kr)), (2, (0, 1))]) rfl rfl rfl) ?_
                refine xg_t (xg_blk (b := [(55, 1, 2, 3, 0, 0), (56, 1, 3, 4, 0, 0), (57, 3, 6, 88, 3, 0), (60, 1, 2, 1, 0, 0), (61, 1, 3, 4, 0, 0), (62, 3, 6, 88, 3, 0), (65, 1, 0, 0, 0, 0), (66, 1, 3, 1, 0, 0), (67, 1, 3, 4, 0, 0), (68, 1, 2, 1, 0, 0), (69, 1, 16, 0, 0, 0), (70, 1, 11, 0, 0, 0), (71, 1, 2, 3, 0, 0), (72, 1, 11, 0, 0, 0), (73, 1, 0, 0, 0, 0), (74, 3, 1, 12, 46, 102), (77, 1, 2, 3, 0, 0), (78, 1, 10, 0, 0, 0), (79, 3, 13, 214, 96, 424), (82, 3, 9, 3, 1, 0), (85, 3, 8, 55, 0, 0)]) rfl) ?_
                refine xg_t (xg_iload (va := (0, 0)) rfl rfl) ?_
                refine xg_t (xg_const) ?_
                refine xg_t (xg_icF (u := 0) (v := 4) rfl xnm0 xnm0 (by decide)) ?_
                refine xg_t (xg_iload (va := (0, kr)) rfl rfl) ?_
                refine xg_t (xg_const) ?_
                refine xg_t (xg_icF (u := kr) (v := 4) rfl xnm0 xnm0 (xj_geF (by omega) (by omega))) ?_
                refine xg_t (xg_aload (va := (2, 82)) rfl rfl) ?_
                refine xg_t (xg_const) ?_
                refine xg_t (xg_const) ?_
                refine xg_t (xg_iload (va := (0, kr)) rfl rfl) ?_
                refine xg_t (xg_imul (u := 4) (v := kr) (z := 4 * kr) xnm0 xnm0 (by omega)) ?_
                refine xg_t (xg_iadd (u := 1) (v := 4 * kr) (z := 1 + (4 * kr)) xnm0 xnm0 (by omega)) ?_
                refine xg_t (xg_iload (va := (0, 0)) rfl rfl) ?_
                refine xg_t (xg_iadd (u := 1 + (4 * kr)) (v := 0) (z := (1 + (4 * kr)) + 0) xnm0 xnm0 (by omega)) ?_
                refine xg_t (xg_aload (va := (2, 82)) rfl rfl) ?_
                obtain ⟨f82_886, f82_888, f82_890, f82_892, f82_894, f82_896, f82_898, f82_900, f82_902, f82_904, f82_906, f82_907, f82_908, f82_910, f82_912, f82_914, h82_916, hb887, hb889, hb891, hb893, hb895, hb897, hb899, hb901, hb903, hb905, hb909, hb911, hb913, hb915, hb917⟩ := (hI870 82 (by decide) (by decide) : cp82 (wget w868 82))
                replace hb889 := xHid.of hb889
                replace hb895 := xHid.of hb895
                replace hb899 := xHid.of hb899
                replace hb901 := xHid.of hb901
                replace hb905 := xHid.of hb905
                replace hb909 := xHid.of hb909
                replace hb911 := xHid.of hb911
                replace hb913 := xHid.of hb913
                replace hb915 := xHid.of hb915
                refine xg_t (xg_getf (va := (2, 113)) h82_916 rfl) ?_
                refine xg_t (xg_iload (va := (0, 0)) rfl rfl) ?_
                refine xg_ialdB (n := 0) (B := 4294967295) h113_884 (hb885) xnm0 (by omega) (fun u918 hu919 he920 => ?_)
                have hl921 : fld w868 82 14 = k := hk880.trans hln
                refine xg_cVv mX12_rulePuts (vs := [(0, (1 + (4 * kr)) + 0), (0, u918)]) (rest := []) (cn1 := 0) (sl1 := 0) rfl (mRulePuts (hI870) (by omega) (by omega) (by omega)) rfl h82_916 rfl rfl rfl rfl rfl rfl (fun w922 hq923 => ?_)
                obtain ⟨hI924, hF925, hx926⟩ := hq923
                have hro927 : RO2 w w922 k := fun l hl hn => ((hx926 (20 * l) (by omega)).2 (by omega)).trans ((RO2.fr hro659 hF871 (by decide)) l hl hn)
                clear hx926
                obtain ⟨g112_928, h112_929, hb930⟩ := (hI924 112 (by decide) (by decide) : cpI 320 79 4294967295 (wget w922 112))
                have h112_929 : xRow w922 112 320 79 g112_928 := h112_929
                refine xg_t (xg_iinc (u := 0) (z := 1) (l1 := [(0, (2, 82)), (1, (0, kr)), (2, (0, 1))]) rfl rfl (by decide) rfl) ?_
                refine xg_t (xg_goto) ?_
                refine xg_t (xg_blk (b := [(55, 1, 2, 3, 0, 0), (56, 1, 3, 4, 0, 0), (57, 3, 6, 88, 3, 0), (60, 1, 2, 1, 0, 0), (61, 1, 3, 4, 0, 0), (62, 3, 6, 88, 3, 0), (65, 1, 0, 0, 0, 0), (66, 1, 3, 1, 0, 0), (67, 1, 3, 4, 0, 0), (68, 1, 2, 1, 0, 0), (69, 1, 16, 0, 0, 0), (70, 1, 11, 0, 0, 0), (71, 1, 2, 3, 0, 0), (72, 1, 11, 0, 0, 0), (73, 1, 0, 0, 0, 0), (74, 3, 1, 12, 46, 102), (77, 1, 2, 3, 0, 0), (78, 1, 10, 0, 0, 0), (79, 3, 13, 214, 96, 424), (82, 3, 9, 3, 1, 0), (85, 3, 8, 55, 0, 0)]) rfl) ?_
                refine xg_t (xg_iload (va := (0, 1)) rfl rfl) ?_
                refine xg_t (xg_const) ?_
                refine xg_t (xg_icF (u := 1) (v := 4) rfl xnm0 xnm0 (by decide)) ?_
                refine xg_t (xg_iload (va := (0, kr)) rfl rfl) ?_
                refine xg_t (xg_const) ?_
                refine xg_t (xg_icF (u := kr) (v := 4) rfl xnm0 xnm0 (xj_geF (by omega) (by omega))) ?_
                refine xg_t (xg_aload (va := (2, 82)) rfl rfl) ?_
                refine xg_t (xg_const) ?_
                refine xg_t (xg_const) ?_
                refine xg_t (xg_iload (va := (0, kr)) rfl rfl) ?_
                refine xg_t (xg_imul (u := 4) (v := kr) (z := 4 * kr) xnm0 xnm0 (by omega)) ?_
                refine xg_t (xg_iadd (u := 1) (v := 4 * kr) (z := 1 + (4 * kr)) xnm0 xnm0 (by omega)) ?_
                refine xg_t (xg_iload (va := (0, 1)) rfl rfl) ?_
                refine xg_t (xg_iadd (u := 1 + (4 * kr)) (v := 1) (z := (1 + (4 * kr)) + 1) xnm0 xnm0 (by omega)) ?_
                refine xg_t (xg_aload (va := (2, 82)) rfl rfl) ?_
                refine xg_t (xg_getf (va := (2, 113)) (hF925.get (by decide) h82_916) rfl) ?_
                refine xg_t (xg_iload (va := (0, 1)) rfl rfl) ?_
                refine xg_ialdB (n := 1) (B := 4294967295) (h113_884.fr hF925 (by decide)) (hb885) xnm0 (by omega) (fun u931 hu932 he933 => ?_)
                have hl934 : fld w922 82 14 = k := ((fld_eq (j := 14) (hF925.1 82 (by decide))).trans hk880).trans hln
                refine xg_cVv mX12_rulePuts (vs := [(0, (1 + (4 * kr)) + 1), (0, u931)]) (rest := []) (cn1 := 0) (sl1 := 0) rfl (mRulePuts (hI924) (by omega) (by omega) (by omega)) rfl (hF925.get (by decide) h82_916) rfl rfl rfl rfl rfl rfl (fun w935 hq936 => ?_)
                obtain ⟨hI937, hF938, hx939⟩ := hq936
                have hro940 : RO2 w w935 k := fun l hl hn => ((hx939 (20 * l) (by omega)).2 (by omega)).trans (hro927 l hl hn)
                clear hx939
                obtain ⟨g112_941, h112_942, hb943⟩ := (hI937 112 (by decide) (by decide) : cpI 320 79 4294967295 (wget w935 112))
                have h112_942 : xRow w935 112 320 79 g112_941 := h112_942
                refine xg_t (xg_iinc (u := 1) (z := 2) (l1 := [(0, (2, 82)), (1, (0, kr)), (2, (0, 1))]) rfl rfl (by decide) rfl) ?_
                refine xg_t (xg_goto) ?_
                refine xg_t (xg_blk (b := [(55, 1, 2, 3, 0, 0), (56, 1, 3, 4, 0, 0), (57, 3, 6, 88, 3, 0), (60, 1, 2, 1, 0, 0), (61, 1, 3, 4, 0, 0), (62, 3, 6, 88, 3, 0), (65, 1, 0, 0, 0, 0), (66, 1, 3, 1, 0, 0), (67, 1, 3, 4, 0, 0), (68, 1, 2, 1, 0, 0), (69, 1, 16, 0, 0, 0), (70, 1, 11, 0, 0, 0), (71, 1, 2, 3, 0, 0), (72, 1, 11, 0, 0, 0), (73, 1, 0, 0, 0, 0), (74, 3, 1, 12, 46, 102), (77, 1, 2, 3, 0, 0), (78, 1, 10, 0, 0, 0), (79, 3, 13, 214, 96, 424), (82, 3, 9, 3, 1, 0), (85, 3, 8, 55, 0, 0)]) rfl) ?_
                refine xg_t (xg_iload (va := (0, 2)) rfl rfl) ?_
                refine xg_t (xg_const) ?_
                refine xg_t (xg_icF (u := 2) (v := 4) rfl xnm0 xnm0 (by decide)) ?_
                refine xg_t (xg_iload (va := (0, kr)) rfl rfl) ?_
                refine xg_t (xg_const) ?_
                refine xg_t (xg_icF (u := kr) (v := 4) rfl xnm0 xnm0 (xj_geF (by omega) (by omega))) ?_
                refine xg_t (xg_aload (va := (2, 82)) rfl rfl) ?_
                refine xg_t (xg_const) ?_
                refine xg_t (xg_const) ?_
                refine xg_t (xg_iload (va := (0, kr)) rfl rfl) ?_
                refine xg_t (xg_imul (u := 4) (v := kr) (z := 4 * kr) xnm0 xnm0 (by omega)) ?_
                refine xg_t (xg_iadd (u := 1) (v := 4 * kr) (z := 1 + (4 * kr)) xnm0 xnm0 (by omega)) ?_
                refine xg_t (xg_iload (va := (0, 2)) rfl rfl) ?_
                refine xg_t (xg_iadd (u := 1 + (4 * kr)) (v := 2) (z := (1 + (4 * kr)) + 2) xnm0 xnm0 (by omega)) ?_
                refine xg_t (xg_aload (va := (2, 82)) rfl rfl) ?_
                refine xg_t (xg_getf (va := (2, 113)) (hF938.get (by decide) (hF925.get (by decide) h82_916)) rfl) ?_
                refine xg_t (xg_iload (va := (0, 2)) rfl rfl) ?_
                refine xg_ialdB (n := 2) (B := 4294967295) ((h113_884.fr hF925 (by decide)).fr hF938 (by decide)) (hb885) xnm0 (by omega) (fun u944 hu945 he946 => ?_)
                have hl947 : fld w935 82 14 = k := ((fld_eq (j := 14) ((hF938.1 82 (by decide)).trans (hF925.1 82 (by decide)))).trans hk880).trans hln
                refine xg_cVv mX12_rulePuts (vs := [(0, (1 + (4 * kr)) + 2), (0, u944)]) (rest := []) (cn1 := 0) (sl1 := 0) rfl (mRulePuts (hI937) (by omega) (by omega) (by omega)) rfl (hF938.get (by decide) (hF925.get (by decide) h82_916)) rfl rfl rfl rfl rfl rfl (fun w948 hq949 => ?_)
                obtain ⟨hI950, hF951, hx952⟩ := hq949
                have hro953 : RO2 w w948 k := fun l hl hn => ((hx952 (20 * l) (by omega)).2 (by omega)).trans (hro940 l hl hn)
                clear hx952
                obtain ⟨g112_954, h112_955, hb956⟩ := (hI950 112 (by decide) (by decide) : cpI 320 79 4294967295 (wget w948 112))
                have h112_955 : xRow w948 112 320 79 g112_954 := h112_955
                refine xg_t (xg_iinc (u := 2) (z := 3) (l1 := [(0, (2, 82)), (1, (0, kr)), (2, (0, 1))]) rfl rfl (by decide) rfl) ?_
                refine xg_t (xg_goto) ?_
                refine xg_t (xg_blk (b := [(55, 1, 2, 3, 0, 0), (56, 1, 3, 4, 0, 0), (57, 3, 6, 88, 3, 0), (60, 1, 2, 1, 0, 0), (61, 1, 3, 4, 0, 0), (62, 3, 6, 88, 3, 0), (65, 1, 0, 0, 0, 0), (66, 1, 3, 1, 0, 0), (67, 1, 3, 4, 0, 0), (68, 1, 2, 1, 0, 0), (69, 1, 16, 0, 0, 0), (70, 1, 11, 0, 0, 0), (71, 1, 2, 3, 0, 0), (72, 1, 11, 0, 0, 0), (73, 1, 0, 0, 0, 0), (74, 3, 1, 12, 46, 102), (77, 1, 2, 3, 0, 0), (78, 1, 10, 0, 0, 0), (79, 3, 13, 214, 96, 424), (82, 3, 9, 3, 1, 0), (85, 3, 8, 55, 0, 0)]) rfl) ?_
                refine xg_t (xg_iload (va := (0, 3)) rfl rfl) ?_
                refine xg_t (xg_const) ?_
                refine xg_t (xg_icF (u := 3) (v := 4) rfl xnm0 xnm0 (by decide)) ?_
                refine xg_t (xg_iload (va := (0, kr)) rfl rfl) ?_
                refine xg_t (xg_const) ?_
                refine xg_t (xg_icF (u := kr) (v := 4) rfl xnm0 xnm0 (xj_geF (by omega) (by omega))) ?_
                refine xg_t (xg_aload (va := (2, 82)) rfl rfl) ?_
                refine xg_t (xg_const) ?_
                refine xg_t (xg_const) ?_
                refine xg_t (xg_iload (va := (0, kr)) rfl rfl) ?_
                refine xg_t (xg_imul (u := 4) (v := kr) (z := 4 * kr) xnm0 xnm0 (by omega)) ?_
                refine xg_t (xg_iadd (u := 1) (v := 4 * kr) (z := 1 + (4 * kr)) xnm0 xnm0 (by omega)) ?_
                refine xg_t (xg_iload (va := (0, 3)) rfl rfl) ?_
                refine xg_t (xg_iadd (u := 1 + (4 * kr)) (v := 3) (z := (1 + (4 * kr)) + 3) xnm0 xnm0 (by omega)) ?_
                refine xg_t (xg_aload (va := (2, 82)) rfl rfl) ?_
                refine xg_t (xg_getf (va := (2, 113)) (hF951.get (by decide) (hF938.get (by decide) (hF925.get (by decide) h82_916))) rfl) ?_
                refine xg_t (xg_iload (va := (0, 3)) rfl rfl) ?_
                refine xg_ialdB (n := 3) (B := 4294967295) (((h113_884.fr hF925 (by decide)).fr hF938 (by decide)).fr hF951 (by decide)) (hb885) xnm0 (by omega) (fun u957 hu958 he959 => ?_)
                have hl960 : fld w948 82 14 = k := ((fld_eq (j := 14) ((hF951.1 82 (by decide)).trans ((hF938.1 82 (by decide)).trans (hF925.1 82 (by decide))))).trans hk880).trans hln
                refine xg_cVv mX12_rulePuts (vs := [(0, (1 + (4 * kr)) + 3), (0, u957)]) (rest := []) (cn1 := 0) (sl1 := 0) rfl (mRulePuts (hI950) (by omega) (by omega) (by omega)) rfl (hF951.get (by decide) (hF938.get (by decide) (hF925.get (by decide) h82_916))) rfl rfl rfl rfl rfl rfl (fun w961 hq962 => ?_)
                obtain ⟨hI963, hF964, hx965⟩ := hq962
                have hro966 : RO2 w w961 k := fun l hl hn => ((hx965 (20 * l) (by omega)).2 (by omega)).trans (hro953 l hl hn)
                clear hx965
                obtain ⟨g112_967, h112_968, hb969⟩ := (hI963 112 (by decide) (by decide) : cpI 320 79 4294967295 (wget w961 112))
                have h112_968 : xRow w961 112 320 79 g112_967 := h112_968
                refine xg_t (xg_iinc (u := 3) (z := 4) (l1 := [(0, (2, 82)), (1, (0, kr)), (2, (0, 1))]) rfl rfl (by decide) rfl) ?_
                refine xg_t (xg_goto) ?_
                refine xg_t (xg_blk (b := [(55, 1, 2, 3, 0, 0), (56, 1, 3, 4, 0, 0), (57, 3, 6, 88, 3, 0), (60, 1, 2, 1, 0, 0), (61, 1, 3, 4, 0, 0), (62, 3, 6, 88, 3, 0), (65, 1, 0, 0, 0, 0), (66, 1, 3, 1, 0, 0), (67, 1, 3, 4, 0, 0), (68, 1, 2, 1, 0, 0), (69, 1, 16, 0, 0, 0), (70, 1, 11, 0, 0, 0), (71, 1, 2, 3, 0, 0), (72, 1, 11, 0, 0, 0), (73, 1, 0, 0, 0, 0), (74, 3, 1, 12, 46, 102), (77, 1, 2, 3, 0, 0), (78, 1, 10, 0, 0, 0), (79, 3, 13, 214, 96, 424), (82, 3, 9, 3, 1, 0), (85, 3, 8, 55, 0, 0)]) rfl) ?_
                refine xg_t (xg_iload (va := (0, 4)) rfl rfl) ?_
                refine xg_t (xg_const) ?_
                refine xg_t (xg_icT (u := 4) (v := 4) rfl xnm0 xnm0 (by decide)) ?_
                refine xg_t (xg_blk (b := [(88, 3, 9, 1, 1, 0), (91, 1, 0, 0, 0, 0), (92, 2, 4, 51, 0, 0), (94, 3, 13, 227, 96, 415), (97, 1, 15, 2, 0, 0), (98, 3, 8, 31, 0, 0)]) rfl) ?_
                refine xg_t (xg_iinc (u := kr) (z := kr + 1) (l1 := [(3, (0, 4)), (0, (2, 82)), (2, (0, 1))]) rfl rfl (by omega) rfl) ?_
                refine xg_t (xg_aload (va := (2, 82)) rfl rfl) ?_
                refine xg_t (xg_bip) ?_
                have hk970 := ((fld_eq (j := 14) ((hF964.1 82 (by decide)).trans ((hF951.1 82 (by decide)).trans ((hF938.1 82 (by decide)).trans (hF925.1 82 (by decide)))))).trans hk880)
                refine xg_cVi mX12_takes (vs := [(0, 51)]) (rest := []) (cn1 := 0) (sl1 := 0) rfl (mTakesX (hI963) (by omega) (hB.fr (fun j h4 h9 => (((((hK658.tr hn875).tr (K83.fr hF925 (by decide))).tr (K83.fr hF938 (by decide))).tr (K83.fr hF951 (by decide))).tr (K83.fr hF964 (by decide))) j (by omega) (by omega) (by omega))) (hT_877.fr ((hF964.1 82 (by decide)).trans ((hF951.1 82 (by decide)).trans ((hF938.1 82 (by decide)).trans (hF925.1 82 (by decide)))))) ((fld_eq (j := 10) ((hF964.1 82 (by decide)).trans ((hF951.1 82 (by decide)).trans ((hF938.1 82 (by decide)).trans (hF925.1 82 (by decide)))))).trans k10_878)) rfl (hF964.get (by decide) (hF951.get (by decide) (hF938.get (by decide) (hF925.get (by decide) h82_916)))) rfl rfl rfl rfl rfl rfl (fun n975 w971 hq972 => ?_)
                obtain ⟨hn976, hI973, hF974⟩ := hq972
                obtain ⟨hz977, hz978, hz979⟩ := hn976
                have k14_982 := hz979.trans hk970
                rcases hz977 with ⟨rfl, hx980, hx981⟩ | ⟨rfl, hx980, hx981⟩
                · obtain ⟨p_983, hp984⟩ : ∃ x, x = tf B nn r_881 := ⟨_, rfl⟩
                  rw [← hp984] at hx981
                  refine xg_t (xg_istore (l1 := [(1, (0, kr + 1)), (3, (0, 4)), (0, (2, 82))]) rfl rfl rfl) ?_
                  refine xg_t (xg_goto) ?_
                  refine xg_t (xg_drop (l1 := [(0, (2, 82)), (1, (0, kr + 1)), (2, (0, 1))]) (List.forall_mem_cons.mpr ⟨List.mem_cons_of_mem _ (List.mem_cons_of_mem _ (List.mem_cons_of_mem _ (List.mem_cons_self))), List.forall_mem_cons.mpr ⟨List.mem_cons_of_mem _ (List.mem_cons_self), List.forall_mem_cons.mpr ⟨List.mem_cons_self, fun _ h => absurd h List.not_mem_nil⟩⟩⟩)) ?_
                  have hle986 := rtR_and (B := B) (n := nn) (p := q_667) hqn688 (by rw [← hr882]; exact hx980)
                  rw [← hr882, ← hp984] at hle986
                  have hfi985 : fpi g_863 p_983 := by
                    rw [hg864, hp984, hr882]
                    exact hfi672.rgi (Nat.le_of_lt (rtR_and (B := B) (n := nn) hqn688 (by rw [← hr882]; exact hx980)).1) (rtR_q hqn688)
                  exact ih647 (kr + 1) 1 w971 (by omega) (by omega) (by omega) (hI973) (((((((hF651.tr (hF871.up (by decide))).tr (hF925.up (by decide))).tr (hF938.up (by decide))).tr (hF951.up (by decide))).tr (hF964.up (by decide))).tr (hF974.up (by decide)))) (⟨Or.inl ⟨rfl, p_983, g_863, hx981, hz978, (hF_865.k83 (rwv_eq ((hF974.1 83 (by decide)).trans ((hF964.1 83 (by decide)).trans ((hF951.1 83 (by decide)).trans ((hF938.1 83 (by decide)).trans ((hF925.1 83 (by decide)).trans he879)))))) (rwv_eq ((hF974.1 83 (by decide)).trans ((hF964.1 83 (by decide)).trans ((hF951.1 83 (by decide)).trans ((hF938.1 83 (by decide)).trans ((hF925.1 83 (by decide)).trans he879))))))), hfi985, by omega, hk4866, by rw [← heq675, rs_and hqn688 hy876 (by rw [← hr882]; exact hx980), ← hr882, ← hp984, ← hg864]⟩, ((((((hK658.tr hn875).tr (K83.fr hF925 (by decide))).tr (K83.fr hF938 (by decide))).tr (K83.fr hF951 (by decide))).tr (K83.fr hF964 (by decide))).tr (K83.fr hF974 (by decide))), (RO2.fr hro966 hF974 (by decide)), k14_982⟩)
                · refine xg_t (xg_istore (l1 := [(1, (0, kr + 1)), (3, (0, 4)), (0, (2, 82))]) rfl rfl rfl) ?_
                  refine xg_t (xg_goto) ?_
                  refine xg_t (xg_drop (l1 := [(0, (2, 82)), (1, (0, kr + 1)), (2, (0, 0))]) (List.forall_mem_cons.mpr ⟨List.mem_cons_of_mem _ (List.mem_cons_of_mem _ (List.mem_cons_of_mem _ (List.mem_cons_self))), List.forall_mem_cons.mpr ⟨List.mem_cons_of_mem _ (List.mem_cons_self), List.forall_mem_cons.mpr ⟨List.mem_cons_self, fun _ h => absurd h List.not_mem_nil⟩⟩⟩)) ?_
                  exact ih647 (kr + 1) 0 w971 (by omega) (by omega) (by omega) (hI973) (((((((hF651.tr (hF871.up (by decide))).tr (hF925.up (by decide))).tr (hF938.up (by decide))).tr (hF951.up (by decide))).tr (hF964.up (by decide))).tr (hF974.up (by decide)))) (⟨Or.inr (Or.inl ⟨rfl, r_881, g_863, hx981, hz978, (hF_865.k83 (rwv_eq ((hF974.1 83 (by decide)).trans ((hF964.1 83 (by decide)).trans ((hF951.1 83 (by decide)).trans ((hF938.1 83 (by decide)).trans ((hF925.1 83 (by decide)).trans he879)))))) (rwv_eq ((hF974.1 83 (by decide)).trans ((hF964.1 83 (by decide)).trans ((hF951.1 83 (by decide)).trans ((hF938.1 83 (by decide)).trans ((hF925.1 83 (by decide)).trans he879))))))), hk4866, fun z => by rw [← heq675, rs_col hy876 (by rw [← hr882]; exact z), ← hr882, ← hg864], fun z => by rw [← heq675, rs_bad hy876 (by rw [← hr882]; exact hx980) (by rw [← hr882]; exact z), ← hr882, ← hg864]⟩), ((((((hK658.tr hn875).tr (K83.fr hF925 (by decide))).tr (K83.fr hF938 (by decide))).tr (K83.fr hF951 (by decide))).tr (K83.fr hF964 (by decide))).tr (K83.fr hF974 (by decide))), (RO2.fr hro966 hF974 (by decide)), k14_982⟩)
              · refine xg_t (xg_const) ?_
                refine xg_t (xg_istore (l1 := [(0, (2, 82)), (1, (0, kr)), (2, (0, 1))]) rfl rfl rfl) ?_
                refine xg_t (xg_blk (b := [(55, 1, 2, 3, 0, 0), (56, 1, 3, 4, 0, 0), (57, 3, 6, 88, 3, 0), (60, 1, 2, 1, 0, 0), (61, 1, 3, 4, 0, 0), (62, 3, 6, 88, 3, 0), (65, 1, 0, 0, 0, 0), (66, 1, 3, 1, 0, 0), (67, 1, 3, 4, 0, 0), (68, 1, 2, 1, 0, 0), (69, 1, 16, 0, 0, 0), (70, 1, 11, 0, 0, 0), (71, 1, 2, 3, 0, 0), (72, 1, 11, 0, 0, 0), (73, 1, 0, 0, 0, 0), (74, 3, 1, 12, 46, 102), (77, 1, 2, 3, 0, 0), (78, 1, 10, 0, 0, 0), (79, 3, 13, 214, 96, 424), (82, 3, 9, 3, 1, 0), (85, 3, 8, 55, 0, 0)]) rfl) ?_
                refine xg_t (xg_iload (va := (0, 0)) rfl rfl) ?_
                refine xg_t (xg_const) ?_
                refine xg_t (xg_icF (u := 0) (v := 4) rfl xnm0 xnm0 (by decide)) ?_
                refine xg_t (xg_iload (va := (0, kr)) rfl rfl) ?_
                refine xg_t (xg_const) ?_
                refine xg_t (xg_icF (u := kr) (v := 4) rfl xnm0 xnm0 (xj_geF (by omega) (by omega))) ?_
                refine xg_t (xg_aload (va := (2, 82)) rfl rfl) ?_
                refine xg_t (xg_const) ?_
                refine xg_t (xg_const) ?_
                refine xg_t (xg_iload (va := (0, kr)) rfl rfl) ?_
                refine xg_t (xg_imul (u := 4) (v := kr) (z := 4 * kr) xnm0 xnm0 (by omega)) ?_
                refine xg_t (xg_iadd (u := 1) (v := 4 * kr) (z := 1 + (4 * kr)) xnm0 xnm0 (by omega)) ?_
                refine xg_t (xg_iload (va := (0, 0)) rfl rfl) ?_
                refine xg_t (xg_iadd (u := 1 + (4 * kr)) (v := 0) (z := (1 + (4 * kr)) + 0) xnm0 xnm0 (by omega)) ?_
                refine xg_t (xg_aload (va := (2, 82)) rfl rfl) ?_
                obtain ⟨f82_987, f82_989, f82_991, f82_993, f82_995, f82_997, f82_999, f82_1001, f82_1003, f82_1005, f82_1007, f82_1008, f82_1009, f82_1011, f82_1013, f82_1015, h82_1017, hb988, hb990, hb992, hb994, hb996, hb998, hb1000, hb1002, hb1004, hb1006, hb1010, hb1012, hb1014, hb1016, hb1018⟩ := (hI870 82 (by decide) (by decide) : cp82 (wget w868 82))
                replace hb990 := xHid.of hb990
                replace hb996 := xHid.of hb996
                replace hb1000 := xHid.of hb1000
                replace hb1002 := xHid.of hb1002
                replace hb1006 := xHid.of hb1006
                replace hb1010 := xHid.of hb1010
                replace hb1012 := xHid.of hb1012
                replace hb1014 := xHid.of hb1014
                replace hb1016 := xHid.of hb1016
                refine xg_t (xg_getf (va := (2, 113)) h82_1017 rfl) ?_
                refine xg_t (xg_iload (va := (0, 0)) rfl rfl) ?_
                refine xg_ialdB (n := 0) (B := 4294967295) h113_884 (hb885) xnm0 (by omega) (fun u1019 hu1020 he1021 => ?_)
                have hl1022 : fld w868 82 14 = k := hk880.trans hln
                refine xg_cVv mX12_rulePuts (vs := [(0, (1 + (4 * kr)) + 0), (0, u1019)]) (rest := []) (cn1 := 0) (sl1 := 0) rfl (mRulePuts (hI870) (by omega) (by omega) (by omega)) rfl h82_1017 rfl rfl rfl rfl rfl rfl (fun w1023 hq1024 => ?_)
                obtain ⟨hI1025, hF1026, hx1027⟩ := hq1024
                have hro1028 : RO2 w w1023 k := fun l hl hn => ((hx1027 (20 * l) (by omega)).2 (by omega)).trans ((RO2.fr hro659 hF871 (by decide)) l hl hn)
                clear hx1027
                obtain ⟨g112_1029, h112_1030, hb1031⟩ := (hI1025 112 (by decide) (by decide) : cpI 320 79 4294967295 (wget w1023 112))
                have h112_1030 : xRow w1023 112 320 79 g112_1029 := h112_1030
                refine xg_t (xg_iinc (u := 0) (z := 1) (l1 := [(0, (2, 82)), (1, (0, kr)), (2, (0, 1))]) rfl rfl (by decide) rfl) ?_
                refine xg_t (xg_goto) ?_
                refine xg_t (xg_blk (b := [(55, 1, 2, 3, 0, 0), (56, 1, 3, 4, 0, 0), (57, 3, 6, 88, 3, 0), (60, 1, 2, 1, 0, 0), (61, 1, 3, 4, 0, 0), (62, 3, 6, 88, 3, 0), (65, 1, 0, 0, 0, 0), (66, 1, 3, 1, 0, 0), (67, 1, 3, 4, 0, 0), (68, 1, 2, 1, 0, 0), (69, 1, 16, 0, 0, 0), (70, 1, 11, 0, 0, 0), (71, 1, 2, 3, 0, 0), (72, 1, 11, 0, 0, 0), (73, 1, 0, 0, 0, 0), (74, 3, 1, 12, 46, 102), (77, 1, 2, 3, 0, 0), (78, 1, 10, 0, 0, 0), (79, 3, 13, 214, 96, 424), (82, 3, 9, 3, 1, 0), (85, 3, 8, 55, 0, 0)]) rfl) ?_
                refine xg_t (xg_iload (va := (0, 1)) rfl rfl) ?_
                refine xg_t (xg_const) ?_
                refine xg_t (xg_icF (u := 1) (v := 4) rfl xnm0 xnm0 (by decide)) ?_
                refine xg_t (xg_iload (va := (0, kr)) rfl rfl) ?_
                refine xg_t (xg_const) ?_
                refine xg_t (xg_icF (u := kr) (v := 4) rfl xnm0 xnm0 (xj_geF (by omega) (by omega))) ?_
                refine xg_t (xg_aload (va := (2, 82)) rfl rfl) ?_
                refine xg_t (xg_const) ?_
                refine xg_t (xg_const) ?_
                refine xg_t (xg_iload (va := (0, kr)) rfl rfl) ?_
                refine xg_t (xg_imul (u := 4) (v := kr) (z := 4 * kr) xnm0 xnm0 (by omega)) ?_
                refine xg_t (xg_iadd (u := 1) (v := 4 * kr) (z := 1 + (4 * kr)) xnm0 xnm0 (by omega)) ?_
                refine xg_t (xg_iload (va := (0, 1)) rfl rfl) ?_
                refine xg_t (xg_iadd (u := 1 + (4 * kr)) (v := 1) (z := (1 + (4 * kr)) + 1) xnm0 xnm0 (by omega)) ?_
                refine xg_t (xg_aload (va := (2, 82)) rfl rfl) ?_
                refine xg_t (xg_getf (va := (2, 113)) (hF1026.get (by decide) h82_1017) rfl) ?_
                refine xg_t (xg_iload (va := (0, 1)) rfl rfl) ?_
                refine xg_ialdB (n := 1) (B := 4294967295) (h113_884.fr hF1026 (by decide)) (hb885) xnm0 (by omega) (fun u1032 hu1033 he1034 => ?_)
                have hl1035 : fld w1023 82 14 = k := ((fld_eq (j := 14) (hF1026.1 82 (by decide))).trans hk880).trans hln
                refine xg_cVv mX12_rulePuts (vs := [(0, (1 + (4 * kr)) + 1), (0, u1032)]) (rest := []) (cn1 := 0) (sl1 := 0) rfl (mRulePuts (hI1025) (by omega) (by omega) (by omega)) rfl (hF1026.get (by decide) h82_1017) rfl rfl rfl rfl rfl rfl (fun w1036 hq1037 => ?_)
                obtain ⟨hI1038, hF1039, hx1040⟩ := hq1037
                have hro1041 : RO2 w w1036 k := fun l hl hn => ((hx1040 (20 * l) (by omega)).2 (by omega)).trans (hro1028 l hl hn)
                clear hx1040
                obtain ⟨g112_1042, h112_1043, hb1044⟩ := (hI1038 112 (by decide) (by decide) : cpI 320 79 4294967295 (wget w1036 112))
                have h112_1043 : xRow w1036 112 320 79 g112_1042 := h112_1043
                refine xg_t (xg_iinc (u := 1) (z := 2) (l1 := [(0, (2, 82)), (1, (0, kr)), (2, (0, 1))]) rfl rfl (by decide) rfl) ?_
                refine xg_t (xg_goto) ?_
                refine xg_t (xg_blk (b := [(55, 1, 2, 3, 0, 0), (56, 1, 3, 4, 0, 0), (57, 3, 6, 88, 3, 0), (60, 1, 2, 1, 0, 0), (61, 1, 3, 4, 0, 0), (62, 3, 6, 88, 3, 0), (65, 1, 0, 0, 0, 0), (66, 1, 3, 1, 0, 0), (67, 1, 3, 4, 0, 0), (68, 1, 2, 1, 0, 0), (69, 1, 16, 0, 0, 0), (70, 1, 11, 0, 0, 0), (71, 1, 2, 3, 0, 0), (72, 1, 11, 0, 0, 0), (73, 1, 0, 0, 0, 0), (74, 3, 1, 12, 46, 102), (77, 1, 2, 3, 0, 0), (78, 1, 10, 0, 0, 0), (79, 3, 13, 214, 96, 424), (82, 3, 9, 3, 1, 0), (85, 3, 8, 55, 0, 0)]) rfl) ?_
                refine xg_t (xg_iload (va := (0, 2)) rfl rfl) ?_
                refine xg_t (xg_const) ?_
                refine xg_t (xg_icF (u := 2) (v := 4) rfl xnm0 xnm0 (by decide)) ?_
                refine xg_t (xg_iload (va := (0, kr)) rfl rfl) ?_
                refine xg_t (xg_const) ?_
                refine xg_t (xg_icF (u := kr) (v := 4) rfl xnm0 xnm0 (xj_geF (by omega) (by omega))) ?_
                refine xg_t (xg_aload (va := (2, 82)) rfl rfl) ?_
                refine xg_t (xg_const) ?_
                refine xg_t (xg_const) ?_
                refine xg_t (xg_iload (va := (0, kr)) rfl rfl) ?_
                refine xg_t (xg_imul (u := 4) (v := kr) (z := 4 * kr) xnm0 xnm0 (by omega)) ?_
                refine xg_t (xg_iadd (u := 1) (v := 4 * kr) (z := 1 + (4 * kr)) xnm0 xnm0 (by omega)) ?_
                refine xg_t (xg_iload (va := (0, 2)) rfl rfl) ?_
                refine xg_t (xg_iadd (u := 1 + (4 * kr)) (v := 2) (z := (1 + (4 * kr)) + 2) xnm0 xnm0 (by omega)) ?_
                refine xg_t (xg_aload (va := (2, 82)) rfl rfl) ?_
                refine xg_t (xg_getf (va := (2, 113)) (hF1039.get (by decide) (hF1026.get (by decide) h82_1017)) rfl) ?_
                refine xg_t (xg_iload (va := (0, 2)) rfl rfl) ?_
                refine xg_ialdB (n := 2) (B := 4294967295) ((h113_884.fr hF1026 (by decide)).fr hF1039 (by decide)) (hb885) xnm0 (by omega) (fun u1045 hu1046 he1047 => ?_)
                have hl1048 : fld w1036 82 14 = k := ((fld_eq (j := 14) ((hF1039.1 82 (by decide)).trans (hF1026.1 82 (by decide)))).trans hk880).trans hln
                refine xg_cVv mX12_rulePuts (vs := [(0, (1 + (4 * kr)) + 2), (0, u1045)]) (rest := []) (cn1 := 0) (sl1 := 0) rfl (mRulePuts (hI1038) (by omega) (by omega) (by omega)) rfl (hF1039.get (by decide) (hF1026.get (by decide) h82_1017)) rfl rfl rfl rfl rfl rfl (fun w1049 hq1050 => ?_)
                obtain ⟨hI1051, hF1052, hx1053⟩ := hq1050
                have hro1054 : RO2 w w1049 k := fun l hl hn => ((hx1053 (20 * l) (by omega)).2 (by omega)).trans (hro1041 l hl hn)
                clear hx1053
                obtain ⟨g112_1055, h112_1056, hb1057⟩ := (hI1051 112 (by decide) (by decide) : cpI 320 79 4294967295 (wget w1049 112))
                have h112_1056 : xRow w1049 112 320 79 g112_1055 := h112_1056
                refine xg_t (xg_iinc (u := 2) (z := 3) (l1 := [(0, (2, 82)), (1, (0, kr)), (2, (0, 1))]) rfl rfl (by decide) rfl) ?_
                refine xg_t (xg_goto) ?_
                refine xg_t (xg_blk (b := [(55, 1, 2, 3, 0, 0), (56, 1, 3, 4, 0, 0), (57, 3, 6, 88, 3, 0), (60, 1, 2, 1, 0, 0), (61, 1, 3, 4, 0, 0), (62, 3, 6, 88, 3, 0), (65, 1, 0, 0, 0, 0), (66, 1, 3, 1, 0, 0), (67, 1, 3, 4, 0, 0), (68, 1, 2, 1, 0, 0), (69, 1, 16, 0, 0, 0), (70, 1, 11, 0, 0, 0), (71, 1, 2, 3, 0, 0), (72, 1, 11, 0, 0, 0), (73, 1, 0, 0, 0, 0), (74, 3, 1, 12, 46, 102), (77, 1, 2, 3, 0, 0), (78, 1, 10, 0, 0, 0), (79, 3, 13, 214, 96, 424), (82, 3, 9, 3, 1, 0), (85, 3, 8, 55, 0, 0)]) rfl) ?_
                refine xg_t (xg_iload (va := (0, 3)) rfl rfl) ?_
                refine xg_t (xg_const) ?_
                refine xg_t (xg_icF (u := 3) (v := 4) rfl xnm0 xnm0 (by decide)) ?_
                refine xg_t (xg_iload (va := (0, kr)) rfl rfl) ?_
                refine xg_t (xg_const) ?_
                refine xg_t (xg_icF (u := kr) (v := 4) rfl xnm0 xnm0 (xj_geF (by omega) (by omega))) ?_
                refine xg_t (xg_aload (va := (2, 82)) rfl rfl) ?_
                refine xg_t (xg_const) ?_
                refine xg_t (xg_const) ?_
                refine xg_t (xg_iload (va := (0, kr)) rfl rfl) ?_
                refine xg_t (xg_imul (u := 4) (v := kr) (z := 4 * kr) xnm0 xnm0 (by omega)) ?_
                refine xg_t (xg_iadd (u := 1) (v := 4 * kr) (z := 1 + (4 * kr)) xnm0 xnm0 (by omega)) ?_
                refine xg_t (xg_iload (va := (0, 3)) rfl rfl) ?_
                refine xg_t (xg_iadd (u := 1 + (4 * kr)) (v := 3) (z := (1 + (4 * kr)) + 3) xnm0 xnm0 (by omega)) ?_
                refine xg_t (xg_aload (va := (2, 82)) rfl rfl) ?_
                refine xg_t (xg_getf (va := (2, 113)) (hF1052.get (by decide) (hF1039.get (by decide) (hF1026.get (by decide) h82_1017))) rfl) ?_
                refine xg_t (xg_iload (va := (0, 3)) rfl rfl) ?_
                refine xg_ialdB (n := 3) (B := 4294967295) (((h113_884.fr hF1026 (by decide)).fr hF1039 (by decide)).fr hF1052 (by decide)) (hb885) xnm0 (by omega) (fun u1058 hu1059 he1060 => ?_)
                have hl1061 : fld w1049 82 14 = k := ((fld_eq (j := 14) ((hF1052.1 82 (by decide)).trans ((hF1039.1 82 (by decide)).trans (hF1026.1 82 (by decide))))).trans hk880).trans hln
                refine xg_cVv mX12_rulePuts (vs := [(0, (1 + (4 * kr)) + 3), (0, u1058)]) (rest := []) (cn1 := 0) (sl1 := 0) rfl (mRulePuts (hI1051) (by omega) (by omega) (by omega)) rfl (hF1052.get (by decide) (hF1039.get (by decide) (hF1026.get (by decide) h82_1017))) rfl rfl rfl rfl rfl rfl (fun w1062 hq1063 => ?_)
                obtain ⟨hI1064, hF1065, hx1066⟩ := hq1063
                have hro1067 : RO2 w w1062 k := fun l hl hn => ((hx1066 (20 * l) (by omega)).2 (by omega)).trans (hro1054 l hl hn)
                clear hx1066
                obtain ⟨g112_1068, h112_1069, hb1070⟩ := (hI1064 112 (by decide) (by decide) : cpI 320 79 4294967295 (wget w1062 112))
                have h112_1069 : xRow w1062 112 320 79 g112_1068 := h112_1069
                refine xg_t (xg_iinc (u := 3) (z := 4) (l1 := [(0, (2, 82)), (1, (0, kr)), (2, (0, 1))]) rfl rfl (by decide) rfl) ?_
                refine xg_t (xg_goto) ?_
                refine xg_t (xg_blk (b := [(55, 1, 2, 3, 0, 0), (56, 1, 3, 4, 0, 0), (57, 3, 6, 88, 3, 0), (60, 1, 2, 1, 0, 0), (61, 1, 3, 4, 0, 0), (62, 3, 6, 88, 3, 0), (65, 1, 0, 0, 0, 0), (66, 1, 3, 1, 0, 0), (67, 1, 3, 4, 0, 0), (68, 1, 2, 1, 0, 0), (69, 1, 16, 0, 0, 0), (70, 1, 11, 0, 0, 0), (71, 1, 2, 3, 0, 0), (72, 1, 11, 0, 0, 0), (73, 1, 0, 0, 0, 0), (74, 3, 1, 12, 46, 102), (77, 1, 2, 3, 0, 0), (78, 1, 10, 0, 0, 0), (79, 3, 13, 214, 96, 424), (82, 3, 9, 3, 1, 0), (85, 3, 8, 55, 0, 0)]) rfl) ?_
                refine xg_t (xg_iload (va := (0, 4)) rfl rfl) ?_
                refine xg_t (xg_const) ?_
                refine xg_t (xg_icT (u := 4) (v := 4) rfl xnm0 xnm0 (by decide)) ?_
                refine xg_t (xg_blk (b := [(88, 3, 9, 1, 1, 0), (91, 1, 0, 0, 0, 0), (92, 2, 4, 51, 0, 0), (94, 3, 13, 227, 96, 415), (97, 1, 15, 2, 0, 0), (98, 3, 8, 31, 0, 0)]) rfl) ?_
                refine xg_t (xg_iinc (u := kr) (z := kr + 1) (l1 := [(3, (0, 4)), (0, (2, 82)), (2, (0, 1))]) rfl rfl (by omega) rfl) ?_
                refine xg_t (xg_aload (va := (2, 82)) rfl rfl) ?_
                refine xg_t (xg_bip) ?_
                refine xg_cVi mX12_takes (vs := [(0, 51)]) (rest := []) (cn1 := 0) (sl1 := 0) rfl (mTakesW (hI1064) (by omega) (by have q := hT_877.1; have q2 := fld_eq (j := 10) ((hF1065.1 82 (by decide)).trans ((hF1052.1 82 (by decide)).trans ((hF1039.1 82 (by decide)).trans (hF1026.1 82 (by decide))))); omega)) rfl (hF1065.get (by decide) (hF1052.get (by decide) (hF1039.get (by decide) (hF1026.get (by decide) h82_1017)))) rfl rfl rfl rfl rfl rfl (fun n1075 w1071 hq1072 => ?_)
                obtain ⟨hn1076, hI1073, hF1074⟩ := hq1072
                subst hn1076
                refine xg_t (xg_istore (l1 := [(1, (0, kr + 1)), (3, (0, 4)), (0, (2, 82))]) rfl rfl rfl) ?_
                refine xg_t (xg_goto) ?_
                refine xg_t (xg_drop (l1 := [(0, (2, 82)), (1, (0, kr + 1)), (2, (0, 0))]) (List.forall_mem_cons.mpr ⟨List.mem_cons_of_mem _ (List.mem_cons_of_mem _ (List.mem_cons_of_mem _ (List.mem_cons_self))), List.forall_mem_cons.mpr ⟨List.mem_cons_of_mem _ (List.mem_cons_self), List.forall_mem_cons.mpr ⟨List.mem_cons_self, fun _ h => absurd h List.not_mem_nil⟩⟩⟩)) ?_
                have hW_1077 : WRG w1071 (tq B nn r_881) := ⟨(fld_eq (j := 10) ((hF1074.1 82 (by decide)).trans ((hF1065.1 82 (by decide)).trans ((hF1052.1 82 (by decide)).trans ((hF1039.1 82 (by decide)).trans (hF1026.1 82 (by decide))))))).trans hT_877.1, (rwv_eq ((hF1074.1 83 (by decide)).trans ((hF1065.1 83 (by decide)).trans ((hF1052.1 83 (by decide)).trans ((hF1039.1 83 (by decide)).trans (hF1026.1 83 (by decide))))))).trans hT_877.2.1, (rwv_eq ((hF1074.1 83 (by decide)).trans ((hF1065.1 83 (by decide)).trans ((hF1052.1 83 (by decide)).trans ((hF1039.1 83 (by decide)).trans (hF1026.1 83 (by decide))))))).trans hT_877.2.2⟩
                exact ih647 (kr + 1) 0 w1071 (by omega) (by omega) (by omega) (hI1073) (((((((hF651.tr (hF871.up (by decide))).tr (hF1026.up (by decide))).tr (hF1039.up (by decide))).tr (hF1052.up (by decide))).tr (hF1065.up (by decide))).tr (hF1074.up (by decide)))) (⟨Or.inr (Or.inr ⟨rfl, r_881, g_863, hW_1077, by rw [← heq675, rs_no hy876, ← hr882, ← hg864]⟩), ((((((hK658.tr hn875).tr (K83.fr hF1026 (by decide))).tr (K83.fr hF1039 (by decide))).tr (K83.fr hF1052 (by decide))).tr (K83.fr hF1065 (by decide))).tr (K83.fr hF1074 (by decide))), (RO2.fr hro1067 hF1074 (by decide)), ((fld_eq (j := 14) ((hF1074.1 82 (by decide)).trans ((hF1065.1 82 (by decide)).trans ((hF1052.1 82 (by decide)).trans ((hF1039.1 82 (by decide)).trans (hF1026.1 82 (by decide))))))).trans hk880)⟩)
          · refine xg_t (xg_iload (va := (0, 0)) rfl rfl) ?_
            refine xg_t (xg_ifT (u := 0) rfl xnm0 (by decide)) ?_
            refine xg_t (xg_blk (b := [(101, 1, 0, 0, 0, 0), (102, 2, 4, 58, 0, 0), (104, 3, 13, 195, 96, 427)]) rfl) ?_
            refine xg_t (xg_aload (va := (2, 82)) rfl rfl) ?_
            refine xg_t (xg_bip) ?_
            have hk1078 := h14_660
            obtain ⟨f82_1079, f82_1081, f82_1083, f82_1085, f82_1087, f82_1089, f82_1091, f82_1093, f82_1095, f82_1097, f82_1099, f82_1100, f82_1101, f82_1103, f82_1105, f82_1107, h82_1109, hb1080, hb1082, hb1084, hb1086, hb1088, hb1090, hb1092, hb1094, hb1096, hb1098, hb1102, hb1104, hb1106, hb1108, hb1110⟩ := (hI650 82 (by decide) (by decide) : cp82 (wget w649 82))
            replace hb1082 := xHid.of hb1082
            replace hb1088 := xHid.of hb1088
            replace hb1092 := xHid.of hb1092
            replace hb1094 := xHid.of hb1094
            replace hb1098 := xHid.of hb1098
            replace hb1102 := xHid.of hb1102
            replace hb1104 := xHid.of hb1104
            replace hb1106 := xHid.of hb1106
            replace hb1108 := xHid.of hb1108
            refine xg_cVv mX12_must (vs := [(0, 58)]) (rest := []) (cn1 := 0) (sl1 := 0) rfl (mMustX (hI650) (by omega) (hB.fr (fun j h4 h9 => hK658 j (by omega) (by omega) (by omega))) hT_678 k10_679) rfl h82_1109 rfl rfl rfl rfl rfl rfl (fun w1111 hq1112 => ?_)
            obtain ⟨hI1113, hF1114, hx1115⟩ := hq1112
            obtain ⟨hn1116, hn1117, hn1118⟩ := hx1115
            have hk1123 := hn1117.trans hk1078
            rcases hn1116 with ⟨hx1119, hx1120, hx1121, hx1122⟩ | ⟨hx1119, hx1120⟩
            · obtain ⟨p_1124, hp1125⟩ : ∃ x, x = tf B nn q_676 := ⟨_, rfl⟩
              rw [← hp1125] at hx1120
              have heq1127 : rs B nn 0 (tf B nn p) (rlg B nn k p fp) = (true, p_1124, f_677) := by rw [← hg628, ← hp645, he1682 hx1119, ← hp1125]
              have hE1126 : (rlR B nn k p fp) = rvR B nn p_1124 f_677 := (rlR_1 hx641 (congrArg Prod.fst heq1127)).trans (congrArg (fun t : Bool × Nat × (Nat × Nat) => rvR B nn t.2.1 t.2.2) heq1127)
              refine xg_t (xg_drop (l1 := [(0, (2, 82)), (1, (0, kr))]) (List.forall_mem_cons.mpr ⟨List.mem_cons_self, List.forall_mem_cons.mpr ⟨List.mem_cons_of_mem _ (List.mem_cons_self), fun _ h => absurd h List.not_mem_nil⟩⟩)) ?_
              have hl1128 : fld w1111 82 14 = k := hk1123.trans hln
              have hro1129 : RO2 w w1111 k := (RO2.fr hro659 hF1114 (by decide))
              have hF_1130 : FP w1111 f_677 := (hF_680.k83 (rwv_eq hx1122) (rwv_eq hx1122))
              refine (mRuleTX (fp := f_677) (hI1113) (hB.fr (fun j h4 h9 => (hK658.tr hn1118) j (by omega) (by omega) (by omega))) hx1120 hx1121 (by omega) (by omega)).imp (fun φ h => ?_)
              obtain ⟨w', e1, e2, e3, e4, e5⟩ := h
              refine ⟨w', e1, e2, ((hF651.tr (hF1114.up (by decide)))).tr (e3.up (by decide)), ?_, ((hK658.tr hn1118)).tr e5⟩
              rcases e4 with ⟨a1, a2, a3, a4, a5, a6, a7⟩ | ⟨a1, a2, a3⟩
              · have a4' : fld w' 82 14 = k + 1 := by omega
                refine Or.inl ⟨by rw [hE1126]; exact a1, by rw [hE1126]; exact a2, a3, a4', by rw [hE1126, rvR_f]; exact hF_1130.k83 (rwv_eq a5) (rwv_eq a5), fun z hd => ?_⟩
                by_cases y : 16 ≤ k
                · exact absurd z (rlR_nz y)
                · rw [hE1126, rvR_f] at z
                  have q := a7 (by omega)
                  rw [hl1128] at q a6
                  exact hd.up hln a4' (by omega) (fun l hl hn => (a6 l hl hn).trans (hro1129 l hl hn)) q (hk4681 z)
              · exact Or.inr ⟨by rw [hE1126]; exact a1, by rw [hE1126]; exact a2, by omega⟩
            · have heq1132 : rs B nn 0 (tf B nn p) (rlg B nn k p fp) = (false, q_676, f_677) := by rw [← hg628, ← hp645, he2683 hx1119]
              have hE1131 : (rlR B nn k p fp) = (false, q_676, f_677) := (rlR_2 hx641 (congrArg Prod.fst heq1132)).trans heq1132
              refine xg_t (xg_drop (l1 := [(0, (2, 82)), (1, (0, kr))]) (List.forall_mem_cons.mpr ⟨List.mem_cons_self, List.forall_mem_cons.mpr ⟨List.mem_cons_of_mem _ (List.mem_cons_self), fun _ h => absurd h List.not_mem_nil⟩⟩)) ?_
              have hl1133 : fld w1111 82 14 = k := hk1123.trans hln
              have hW_1134 : WRG w1111 (tq B nn q_676) := hx1120
              refine (mRuleTW (hI1113) (by have q := hW_1134.1; omega)).imp (fun φ h => ?_)
              obtain ⟨w', e1, e2, e3, -⟩ := h
              refine ⟨w', e1, e2, ((hF651.tr (hF1114.up (by decide)))).tr (e3.up (by decide)), Or.inr ⟨congrArg Prod.fst hE1131, by rw [hE1131]; exact ⟨(fld_fr e3 (by decide)).trans hW_1134.1, (rwv_fr e3 (by decide)).trans hW_1134.2.1, (rwv_fr e3 (by decide)).trans hW_1134.2.2⟩, Or.inl ((fld_fr e3 (by decide)).trans hl1133)⟩, ((hK658.tr hn1118)).tr (K83.fr e3 (by decide))⟩
          · refine xg_t (xg_iload (va := (0, 0)) rfl rfl) ?_
            refine xg_t (xg_ifT (u := 0) rfl xnm0 (by decide)) ?_
            refine xg_t (xg_blk (b := [(101, 1, 0, 0, 0, 0), (102, 2, 4, 58, 0, 0), (104, 3, 13, 195, 96, 427)]) rfl) ?_
            refine xg_t (xg_aload (va := (2, 82)) rfl rfl) ?_
            refine xg_t (xg_bip) ?_
            obtain ⟨f82_1135, f82_1137, f82_1139, f82_1141, f82_1143, f82_1145, f82_1147, f82_1149, f82_1151, f82_1153, f82_1155, f82_1156, f82_1157, f82_1159, f82_1161, f82_1163, h82_1165, hb1136, hb1138, hb1140, hb1142, hb1144, hb1146, hb1148, hb1150, hb1152, hb1154, hb1158, hb1160, hb1162, hb1164, hb1166⟩ := (hI650 82 (by decide) (by decide) : cp82 (wget w649 82))
            replace hb1138 := xHid.of hb1138
            replace hb1144 := xHid.of hb1144
            replace hb1148 := xHid.of hb1148
            replace hb1150 := xHid.of hb1150
            replace hb1154 := xHid.of hb1154
            replace hb1158 := xHid.of hb1158
            replace hb1160 := xHid.of hb1160
            replace hb1162 := xHid.of hb1162
            replace hb1164 := xHid.of hb1164
            refine xg_cVv mX12_must (vs := [(0, 58)]) (rest := []) (cn1 := 0) (sl1 := 0) rfl (mMustW (hI650) (by omega) (by have q := hW_686.1; omega)) rfl h82_1165 rfl rfl rfl rfl rfl rfl (fun w1167 hq1168 => ?_)
            obtain ⟨hI1169, hF1170⟩ := hq1168
            have heq1172 : rs B nn 0 (tf B nn p) (rlg B nn k p fp) = (false, q_684, f_685) := by rw [← hg628, ← hp645]; exact heq687
            have hE1171 : (rlR B nn k p fp) = (false, q_684, f_685) := (rlR_2 hx641 (congrArg Prod.fst heq1172)).trans heq1172
            refine xg_t (xg_drop (l1 := [(0, (2, 82)), (1, (0, kr))]) (List.forall_mem_cons.mpr ⟨List.mem_cons_self, List.forall_mem_cons.mpr ⟨List.mem_cons_of_mem _ (List.mem_cons_self), fun _ h => absurd h List.not_mem_nil⟩⟩)) ?_
            have hl1173 : fld w1167 82 14 = k := ((fld_eq (j := 14) (hF1170.1 82 (by decide))).trans h14_660).trans hln
            have hW_1174 : WRG w1167 (tq B nn q_684) := ⟨(fld_eq (j := 10) (hF1170.1 82 (by decide))).trans hW_686.1, (rwv_eq (hF1170.1 83 (by decide))).trans hW_686.2.1, (rwv_eq (hF1170.1 83 (by decide))).trans hW_686.2.2⟩
            refine (mRuleTW (hI1169) (by have q := hW_1174.1; omega)).imp (fun φ h => ?_)
            obtain ⟨w', e1, e2, e3, -⟩ := h
            refine ⟨w', e1, e2, ((hF651.tr (hF1170.up (by decide)))).tr (e3.up (by decide)), Or.inr ⟨congrArg Prod.fst hE1171, by rw [hE1171]; exact ⟨(fld_fr e3 (by decide)).trans hW_1174.1, (rwv_fr e3 (by decide)).trans hW_1174.2.1, (rwv_fr e3 (by decide)).trans hW_1174.2.2⟩, Or.inl ((fld_fr e3 (by decide)).trans hl1173)⟩, ((hK658.tr (K83.fr hF1170 (by decide)))).tr (K83.fr e3 (by decide))⟩
      exact key646 _ 0 1 w632 (Nat.lt_succ_self _) (by omega) (by omega) (hI634) (((hF622.up (by decide)).tr (hF635.up (by decide)))) (⟨Or.inl ⟨rfl, _, _, hx642, hz639, (hF_629.k83 (rwv_eq (hF635.1 83 (by decide))) (rwv_eq (hF635.1 83 (by decide)))), hig652, Nat.zero_le _, fun _ => Nat.zero_le _, rfl⟩, (hv625.tr (K83.fr hF635 (by decide))), (RO2.fr (RO2.fr (fun l _ _ => rfl : RO2 w w k) hF622 (by decide)) hF635 (by decide)), k14_643⟩)
    · refine xg_t (xg_ifT (u := 0) rfl xnm0 (by decide)) ?_
      have hE1175 : (rlR B nn k p fp) = rvR B nn p g_627 := by rw [rlR_0 hx641, ← hg628]
      refine xg_t (xg_drop (l1 := [(0, (2, 82)), (1, (0, 0))]) (List.forall_mem_cons.mpr ⟨List.mem_cons_of_mem _ (List.mem_cons_self), List.forall_mem_cons.mpr ⟨List.mem_cons_self, fun _ h => absurd h List.not_mem_nil⟩⟩)) ?_
      have hl1176 : fld w632 82 14 = k := k14_643.trans hln
      have hro1177 : RO2 w w632 k := (RO2.fr (RO2.fr (fun l _ _ => rfl : RO2 w w k) hF622 (by decide)) hF635 (by decide))
      have hF_1178 : FP w632 g_627 := (hF_629.k83 (rwv_eq (hF635.1 83 (by decide))) (rwv_eq (hF635.1 83 (by decide))))
      refine (mRuleTX (fp := g_627) (hI634) (hB.fr (fun j h4 h9 => (hv625.tr (K83.fr hF635 (by decide))) j (by omega) (by omega) (by omega))) hx642 hz639 (by omega) (by omega)).imp (fun φ h => ?_)
      obtain ⟨w', e1, e2, e3, e4, e5⟩ := h
      refine ⟨w', e1, e2, (((hF622.up (by decide)).tr (hF635.up (by decide)))).tr (e3.up (by decide)), ?_, ((hv625.tr (K83.fr hF635 (by decide)))).tr e5⟩
      rcases e4 with ⟨a1, a2, a3, a4, a5, a6, a7⟩ | ⟨a1, a2, a3⟩
      · have a4' : fld w' 82 14 = k + 1 := by omega
        refine Or.inl ⟨by rw [hE1175]; exact a1, by rw [hE1175]; exact a2, a3, a4', by rw [hE1175, rvR_f]; exact hF_1178.k83 (rwv_eq a5) (rwv_eq a5), fun z hd => ?_⟩
        by_cases y : 16 ≤ k
        · exact absurd z (rlR_nz y)
        · rw [hE1175, rvR_f] at z
          have q := a7 (by omega)
          rw [hl1176] at q a6
          exact hd.up hln a4' (by omega) (fun l hl hn => (a6 l hl hn).trans (hro1177 l hl hn)) q ((fun _ => by omega) z)
      · exact Or.inr ⟨by rw [hE1175]; exact a1, by rw [hE1175]; exact a2, by omega⟩
set_option maxHeartbeats 60000000 in
theorem mRulesX {B : Nat → Nat} {nn : Nat} (hI : xMnv w) (hB : bsm w B nn) (hnn : rwv w 83 15 = nn) : xPi (d + 8) mX12_rules [(2, 82)] w bd fc rr (fun n w' => (n = (RU B nn).1 ∧ rwv w' 83 16 = (RU B nn).2.1 ∧ rwv w' 83 17 = (RU B nn).2.2 ∧ rwv w' 83 15 = 0 ∧ (∀ j, (j < 15 ∨ 17 < j) → j ≠ 902 → (j < 1020 ∨ 1340 ≤ j) → j < 5360 → rwv w' 83 j = rwv w 83 j) ∧ (n = 4294967295 → rwv w' 83 902 = rwv w 83 902) ∧ (n ≠ 4294967295 → n ≤ 16 ∧ rwv w' 83 902 = n)) ∧ xMnv w' ∧ xFr [82, 83, 112, 113] w w') := by
  refine xPi.of ?_
  show xTo (d + 8) mX12_rules (0, [], [(0, (2, 82))], [], (w, bd, fc, 0, 0, rr)) (fun φ => ∃ n w', xEnd 1 [(0, n)] (w', bd, fc, 0, 0, rr) φ ∧ (n = (RU B nn).1 ∧ rwv w' 83 16 = (RU B nn).2.1 ∧ rwv w' 83 17 = (RU B nn).2.2 ∧ rwv w' 83 15 = 0 ∧ (∀ j, (j < 15 ∨ 17 < j) → j ≠ 902 → (j < 1020 ∨ 1340 ≤ j) → j < 5360 → rwv w' 83 j = rwv w 83 j) ∧ (n = 4294967295 → rwv w' 83 902 = rwv w 83 902) ∧ (n ≠ 4294967295 → n ≤ 16 ∧ rwv w' 83 902 = n)) ∧ xMnv w' ∧ xFr [82, 83, 112, 113] w w')
  obtain ⟨f82_1, f82_3, f82_5, f82_7, f82_9, f82_11, f82_13, f82_15, f82_17, f82_19, f82_21, f82_22, f82_23, f82_25, f82_27, f82_29, h82_31, hb2, hb4, hb6, hb8, hb10, hb12, hb14, hb16, hb18, hb20, hb24, hb26, hb28, hb30, hb32⟩ := (hI 82 (by decide) (by decide) : cp82 (wget w 82))
  replace hb4 := xHid.of hb4
  replace hb10 := xHid.of hb10
  replace hb14 := xHid.of hb14
  replace hb16 := xHid.of hb16
  replace hb20 := xHid.of hb20
  replace hb24 := xHid.of hb24
  replace hb26 := xHid.of hb26
  replace hb28 := xHid.of hb28
  replace hb30 := xHid.of hb30
  refine xg_t (xg_blk (b := [(0, 1, 0, 0, 0, 0), (1, 1, 3, 1, 0, 0), (2, 3, 13, 121, 96, 215), (5, 1, 0, 0, 0, 0), (6, 3, 13, 110, 96, 190)]) rfl) ?_
  refine xg_t (xg_aload (va := (2, 82)) rfl rfl) ?_
  refine xg_t (xg_const) ?_
  refine xg_cVv mX12_begins (vs := [(0, 1)]) (rest := []) (cn1 := 0) (sl1 := 0) rfl (mBegX1 (hI)) rfl h82_31 rfl rfl rfl rfl rfl rfl (fun w33 hq34 => ?_)
  obtain ⟨hI35, hF36, hx37⟩ := hq34
  obtain ⟨hg38, hg39, hg40, hg41, hg42, hg43, hg44, hg45⟩ := hx37
  refine xg_t (xg_aload (va := (2, 82)) rfl rfl) ?_
  obtain ⟨f82_46, f82_48, f82_50, f82_52, f82_54, f82_56, f82_58, f82_60, f82_62, f82_64, f82_66, f82_67, f82_68, f82_70, f82_72, f82_74, h82_76, hb47, hb49, hb51, hb53, hb55, hb57, hb59, hb61, hb63, hb65, hb69, hb71, hb73, hb75, hb77⟩ := (hI35 82 (by decide) (by decide) : cp82 (wget w33 82))
  replace hb49 := xHid.of hb49
  replace hb55 := xHid.of hb55
  replace hb59 := xHid.of hb59
  replace hb61 := xHid.of hb61
  replace hb65 := xHid.of hb65
  replace hb69 := xHid.of hb69
  replace hb71 := xHid.of hb71
  replace hb73 := xHid.of hb73
  replace hb75 := xHid.of hb75
  refine xg_cVv mX12_advance (vs := []) (rest := []) (cn1 := 0) (sl1 := 0) rfl (mAdvX (ir := 1) (nn := nn) (hI35) (hB.kb hg45) hg38 (hg39.trans hnn) (by omega)) rfl h82_76 rfl rfl rfl rfl rfl rfl (fun w78 hq79 => ?_)
  obtain ⟨hI80, hF81, hx82⟩ := hq79
  obtain ⟨ht83, ht84, ht85⟩ := hx82
  rw [hg40] at ht83
  have hz86 := ht84.trans hg41
  have hz87 := ht85.trans hg42
  have hz88 : FP w78 (0, 0) := ⟨(rwv_fr hF81 (by decide)).trans hg43, fun z => absurd rfl z, Nat.zero_le _, fun _ => (rwv_fr hF81 (by decide)).trans hg44⟩
  have hz89 : KB w w78 := hg45.kp (K83.fr hF81 (by decide))
  have key90 : ∀ (m92 : Nat) (w93 : List (List xE)), 2 * (502 - fld w93 82 14) + (1 - fld w93 82 10) < m92 → xMnv w93 → xFr [82, 83, 112, 113] w w93 → ((∃ (k q : Nat) (f : Nat × Nat), fld w93 82 14 = k ∧ TKM 1 B nn w93 q ∧ fld w93 82 10 = 0 ∧ FP w93 f ∧ fpi f q ∧ k ≤ q ∧ rx B nn k q f = RU B nn ∧ (f.1 = 0 → RD w93)) ∨ (∃ q : Nat, WRG w93 q ∧ fld w93 82 14 ≤ 501 ∧ RU B nn = (4294967295, 1, q))) ∧ KB w w93 → xTo (d + 8) mX12_rules (9, [], [(0, (2, 82))], [], (w93, bd, fc, 0, 0, rr)) (fun φ => ∃ n w', xEnd 1 [(0, n)] (w', bd, fc, 0, 0, rr) φ ∧ (n = (RU B nn).1 ∧ rwv w' 83 16 = (RU B nn).2.1 ∧ rwv w' 83 17 = (RU B nn).2.2 ∧ rwv w' 83 15 = 0 ∧ (∀ j, (j < 15 ∨ 17 < j) → j ≠ 902 → (j < 1020 ∨ 1340 ≤ j) → j < 5360 → rwv w' 83 j = rwv w 83 j) ∧ (n = 4294967295 → rwv w' 83 902 = rwv w 83 902) ∧ (n ≠ 4294967295 → n ≤ 16 ∧ rwv w' 83 902 = n)) ∧ xMnv w' ∧ xFr [82, 83, 112, 113] w w') := by
    intro m92
    induction m92 with
    | zero => intro w93 hz; exact absurd hz (Nat.not_lt_zero _)
    | succ m92 ih91 =>
      intro w93 hm97 hI94 hF95 he96
      obtain ⟨hX98, kb99⟩ := he96
      refine xg_t (xg_blk (b := [(9, 1, 0, 0, 0, 0), (10, 3, 1, 12, 10, 180), (13, 3, 7, 30, 1, 0), (16, 1, 0, 0, 0, 0), (17, 3, 1, 12, 7, 151), (20, 3, 7, 30, 0, 0), (23, 1, 0, 0, 0, 0), (24, 3, 13, 108, 96, 430), (27, 3, 8, 9, 0, 0)]) rfl) ?_
      rcases hX98 with ⟨k_100, q_101, f_102, h14_103, hT_104, k10_105, hF_106, hfi107, hkq108, heq109, hRD110⟩ | ⟨q_111, hW_112, h14_113, heq114⟩
      · have hBn := hB.1
        have hqn := hT_104.1.2.2.2.2.2
        obtain ⟨⟨ht115, ht116, ht117, ht118, ht119, ht120⟩, ht121, ht122, ht123⟩ := id hT_104
        obtain ⟨f82_124, f82_126, f82_128, f82_130, f82_132, f82_134, f82_136, f82_138, f82_140, f82_142, f82_144, f82_145, f82_146, f82_148, f82_150, f82_152, h82_154, hb125, hb127, hb129, hb131, hb133, hb135, hb137, hb139, hb141, hb143, hb147, hb149, hb151, hb153, hb155⟩ := (hI94 82 (by decide) (by decide) : cp82 (wget w93 82))
        replace hb127 := xHid.of hb127
        replace hb133 := xHid.of hb133
        replace hb137 := xHid.of hb137
        replace hb139 := xHid.of hb139
        replace hb143 := xHid.of hb143
        replace hb147 := xHid.of hb147
        replace hb149 := xHid.of hb149
        replace hb151 := xHid.of hb151
        replace hb153 := xHid.of hb153
        have hf156 : fld w93 82 3 = f82_126 := fld_of h82_154
        have hf157 : fld w93 82 6 = f82_132 := fld_of h82_154
        have hf158 : fld w93 82 7 = f82_134 := fld_of h82_154
        have hf159 : fld w93 82 8 = f82_136 := fld_of h82_154
        have hf160 : fld w93 82 9 = f82_138 := fld_of h82_154
        have hf161 : fld w93 82 10 = f82_140 := fld_of h82_154
        have hf162 : fld w93 82 14 = f82_142 := fld_of h82_154
        have hmk163 := mkr (B := B) (n := nn) (p := q_101)
        have hx0164 : tkd B nn q_101 ≠ 1 → rwx B nn q_101 = 99 := rwx_0
        have hwd165 : tkd B nn q_101 = 1 → fld w93 82 9 = rwx B nn q_101 := hT_104.word
        clear ht122
        refine xg_t (xg_aload (va := (2, 82)) rfl rfl) ?_
        refine xg_t (xg_getf (va := (0, f82_140)) h82_154 rfl) ?_
        refine xg_t (xg_ifF (u := f82_140) rfl xnm0 (xj_neF (by omega))) ?_
        refine xg_t (xg_aload (va := (2, 82)) rfl rfl) ?_
        refine xg_t (xg_getf (va := (0, f82_134)) h82_154 rfl) ?_
        by_cases hc166 : f82_134 = 0
        · refine xg_t (xg_ifT (u := f82_134) rfl xnm0 (xj_eqT hc166)) ?_
          refine xg_t (xg_blk (b := [(30, 1, 0, 0, 0, 0), (31, 3, 1, 12, 0, 7), (34, 2, 4, 16, 0, 0), (36, 1, 10, 0, 0, 0), (37, 3, 7, 42, 0, 0), (40, 1, 3, 4294967295, 0, 0), (41, 1, 12, 0, 1, 0)]) rfl) ?_
          obtain ⟨g83_167, h83_168, hb169, hx170⟩ := (hI94 83 (by decide) (by decide) : cpx83 (wget w93 83))
          have h83_168 : xRow w93 83 5360 50 g83_167 := h83_168
          obtain ⟨g112_171, h112_172, hb173⟩ := (hI94 112 (by decide) (by decide) : cpI 320 79 4294967295 (wget w93 112))
          have h112_172 : xRow w93 112 320 79 g112_171 := h112_172
          have hend : tkd B nn q_101 = 0 := by omega
          have hz174 := hF_106.1
          by_cases hc175 : f_102.1 = 0
          · refine xg_t (xg_aload (va := (2, 82)) rfl rfl) ?_
            refine xg_t (xg_getf (va := (2, 83)) h82_154 rfl) ?_
            refine xg_t (xg_bip) ?_
            refine xg_ialdB (n := 16) (B := 4294967295) h83_168 (hb169) xnm0 (by omega) (fun u176 hu177 he178 => ?_)
            have hq179 : rwv w93 83 16 = u176 := (rwv_of h83_168 (by decide)).trans he178
            refine xg_t (xg_ifT (u := u176) rfl xnm0 (xj_eqT (by omega))) ?_
            refine xg_t (xg_blk (b := [(42, 1, 3, 0, 0, 0), (43, 1, 15, 1, 0, 0)]) rfl) ?_
            have hRD := hRD110 hc175
            have hf180 : fld w93 82 14 = f82_142 := fld_of h82_154
            refine xg_t (xg_const) ?_
            refine xg_t (xg_istore (l1 := [(0, (2, 82))]) rfl rfl rfl) ?_
            refine xg_t (xg_drop (l1 := [(0, (2, 82)), (1, (0, 0))]) (List.forall_mem_cons.mpr ⟨List.mem_cons_of_mem _ (List.mem_cons_self), List.forall_mem_cons.mpr ⟨List.mem_cons_self, fun _ h => absurd h List.not_mem_nil⟩⟩)) ?_
            refine cpRul 320 0 w93 g83_167 (by decide) h83_168 hb169 h112_172 hb173 h82_154 (fun w181 g182 hc183 hc184 hc185 hc186 hc187 => ?_)
            refine xg_t (xg_blk (b := [(73, 1, 0, 0, 0, 0), (74, 3, 1, 12, 0, 7), (77, 3, 5, 902, 0, 0), (80, 1, 0, 0, 0, 0), (81, 3, 1, 12, 14, 212), (84, 1, 17, 0, 0, 0), (85, 1, 0, 0, 0, 0), (86, 3, 1, 12, 14, 212), (89, 1, 12, 0, 1, 0)]) rfl) ?_
            refine xg_t (xg_aload (va := (2, 82)) rfl rfl) ?_
            refine xg_t (xg_getf (va := (2, 83)) (hc185.get (by decide) h82_154) rfl) ?_
            refine xg_t (xg_sip) ?_
            refine xg_t (xg_aload (va := (2, 82)) rfl rfl) ?_
            refine xg_t (xg_getf (va := (0, f82_142)) (hc185.get (by decide) h82_154) rfl) ?_
            have hn188 : f82_142 ≤ 4294967295 := hb143
            refine xg_iastK (n := 902) (u := f82_142) hc183 xnm0 xnm0 rfl (by omega) (fun w189 hr190 hb191 => ?_)
            have hb192 : ∀ j, (fun j => if j = 902 then f82_142 else g182 j) j ≤ 4294967295 := xrb (by omega) (hc184)
            obtain ⟨g193, hg194⟩ : ∃ g : Nat → Nat, g = (fun j => if j = 902 then f82_142 else g182 j) := ⟨_, rfl⟩
            rw [← hg194] at hr190
            have he195 : g193 902 = f82_142 := by rw [hg194]; exact if_pos rfl
            have hk196 : ∀ j, j ≠ 902 → g193 j = g182 j := fun j hj => by rw [hg194]; exact if_neg hj
            rw [← hg194] at hb192
            have hR198 : ∀ l, l < f82_142 → g112_171 (20 * l) ≤ 4 := fun l hl => by
              have q1 := hRD.1
              rw [← rwv_of h112_172 (show 20 * l < 320 by omega)]
              exact hRD.2 l (by omega)
            have hx197 : okA g193 := rules_ok hx170 hc186 hc187 (by have q1 := hRD.1; omega) hR198 he195 hk196
            refine xg_t (xg_aload (va := (2, 82)) rfl rfl) ?_
            refine xg_t (xg_getf (va := (0, f82_142)) (hb191.get (by decide) (hc185.get (by decide) h82_154)) rfl) ?_
            have hR199 : RU B nn = (k_100, 0, 4294967295) := by rw [← heq109]; exact rx_0 hend hc175
            have ho200 : ∀ j, j ≠ 902 → (j < 1020 ∨ 1340 ≤ j) → g193 j = g83_167 j := fun j h1 h2 => (hk196 j h1).trans (hc187 j (by omega))
            have h16_ := hRD.1
            have hnk201 : f82_142 = k_100 := by omega
            have hq202 : rwv w189 83 902 = f82_142 := (rwv_of hr190 (by decide)).trans he195
            exact xg_e ⟨f82_142, w189, ⟨rfl, rfl⟩, ⟨by rw [hR199]; exact hnk201, by rw [hR199]; exact ((rwv_of hr190 (by decide)).trans ((ho200 16 (by omega) (by omega)).trans (rwv_of h83_168 (by decide)).symm)).trans (hF_106.1.trans hc175), by rw [hR199]; exact ((rwv_of hr190 (by decide)).trans ((ho200 17 (by omega) (by omega)).trans (rwv_of h83_168 (by decide)).symm)).trans (hF_106.2.2.2 hc175), ((rwv_of hr190 (by decide)).trans ((ho200 15 (by omega) (by omega)).trans (rwv_of h83_168 (by decide)).symm)).trans kb99.1, fun j h1 h2 h3 h4 => (rwv_of hr190 h4).trans ((ho200 j h2 h3).trans ((rwv_of h83_168 h4).symm.trans (kb99.2 j h4 (by omega) (by omega) (by omega)))), fun y => absurd y (by omega), fun _ => ⟨by omega, by omega⟩⟩, xMnv.up (S := [83]) hI94 ((xFr.of (S := [83]) hc185 (by decide)).tr (xFr.of (S := [83]) hb191 (by decide))) (List.forall_mem_cons.mpr ⟨(show cpx83 (wget w189 83) from ⟨_, hr190, hb192, hx197⟩), fun _ h => absurd h List.not_mem_nil⟩), (hF95.tr ((xFr.of (S := [82, 83, 112, 113]) hc185 (by decide)).tr (xFr.of (S := [82, 83, 112, 113]) hb191 (by decide))))⟩
          · refine xg_t (xg_aload (va := (2, 82)) rfl rfl) ?_
            refine xg_t (xg_getf (va := (2, 83)) h82_154 rfl) ?_
            refine xg_t (xg_bip) ?_
            refine xg_ialdB (n := 16) (B := 4294967295) h83_168 (hb169) xnm0 (by omega) (fun u203 hu204 he205 => ?_)
            have hq206 : rwv w93 83 16 = u203 := (rwv_of h83_168 (by decide)).trans he205
            refine xg_t (xg_ifF (u := u203) rfl xnm0 (xj_eqF (by omega))) ?_
            refine xg_t (xg_const) ?_
            have hR207 : RU B nn = (4294967295, f_102.1, f_102.2) := by rw [← heq109]; exact rx_1 hend hc175
            exact xg_e ⟨4294967295, w93, ⟨rfl, rfl⟩, ⟨(congrArg Prod.fst hR207).symm, by rw [hR207]; exact hF_106.1, by rw [hR207]; exact (hF_106.2.1 hc175).1, kb99.1, fun j h1 h2 h3 h4 => kb99.2 j h4 (by omega) (by omega) (by omega), fun _ => kb99.2 902 (by decide) (by decide) (by decide) (by decide), fun y => absurd rfl y⟩, hI94, hF95⟩
        · refine xg_t (xg_ifF (u := f82_134) rfl xnm0 (xj_eqF hc166)) ?_
          refine xg_t (xg_aload (va := (2, 82)) rfl rfl) ?_
          have hnz208 : tkd B nn q_101 ≠ 0 := by omega
          refine xg_cVv mX12_aRule (vs := []) (rest := []) (cn1 := 0) (sl1 := 0) rfl (mRuleX (k := k_100) (hI94) (hB.kb kb99) hT_104 k10_105 hF_106 hfi107 h14_103 (by omega)) rfl h82_154 rfl rfl rfl rfl rfl rfl (fun w209 hq210 => ?_)
          obtain ⟨hI211, hF212, hx213⟩ := hq210
          obtain ⟨hx214, k8_215⟩ := hx213
          have kb224 := kb99.kp k8_215
          obtain ⟨t_216, ht217⟩ : ∃ x, x = rlR B nn k_100 q_101 f_102 := ⟨_, rfl⟩
          rw [← ht217] at hx214
          rcases hx214 with ⟨hy218, hy219, hy220, hy221, hy222, hy223⟩ | ⟨hy218, hy219, hy220⟩
          · have hfi225 : fpi t_216.2.2 t_216.2.1 := by rw [ht217]; exact rlR_i hqn hfi107 (by rw [← ht217]; exact hy218)
            have hb226 := (rlR_b (B := B) (k := k_100) (fp := f_102) hqn).2.2 (by rw [← ht217]; exact hy218)
            rw [← ht217] at hb226
            have hrd227 : t_216.2.2.1 = 0 → RD w209 := fun z => by
              by_cases y0 : f_102.1 = 0
              · exact hy223 z (hRD110 y0)
              · exact absurd z (by rw [ht217]; exact rlR_nz2 y0)
            refine xg_t (xg_goto) ?_
            exact ih91 w209 (by omega) (hI211) ((hF95.tr (hF212.up (by decide)))) (⟨Or.inl ⟨k_100 + 1, t_216.2.1, t_216.2.2, hy221, hy219, hy220, hy222, hfi225, by omega, by rw [← heq109, rx_y hqn hnz208 (by rw [← ht217]; exact hy218), ← ht217], hrd227⟩, kb224⟩)
          · have hz228 := hy219.1
            refine xg_t (xg_goto) ?_
            exact ih91 w209 (by omega) (hI211) ((hF95.tr (hF212.up (by decide)))) (⟨Or.inr ⟨_, hy219, by omega, by rw [← heq109, rx_n hnz208 (by rw [← ht217]; exact hy218), ← ht217]⟩, kb224⟩)
      · obtain ⟨f82_229, f82_231, f82_233, f82_235, f82_237, f82_239, f82_241, f82_243, f82_245, f82_247, f82_249, f82_250, f82_251, f82_253, f82_255, f82_257, h82_259, hb230, hb232, hb234, hb236, hb238, hb240, hb242, hb244, hb246, hb248, hb252, hb254, hb256, hb258, hb260⟩ := (hI94 82 (by decide) (by decide) : cp82 (wget w93 82))
        replace hb232 := xHid.of hb232
        replace hb238 := xHid.of hb238
        replace hb242 := xHid.of hb242
        replace hb244 := xHid.of hb244
        replace hb248 := xHid.of hb248
        replace hb252 := xHid.of hb252
        replace hb254 := xHid.of hb254
        replace hb256 := xHid.of hb256
        replace hb258 := xHid.of hb258
        have hf261 : fld w93 82 10 = f82_245 := fld_of h82_259
        have hz262 := hW_112.1
        refine xg_t (xg_aload (va := (2, 82)) rfl rfl) ?_
        refine xg_t (xg_getf (va := (0, f82_245)) h82_259 rfl) ?_
        refine xg_t (xg_ifT (u := f82_245) rfl xnm0 (xj_neT (by omega))) ?_
        refine xg_t (xg_blk (b := [(30, 1, 0, 0, 0, 0), (31, 3, 1, 12, 0, 7), (34, 2, 4, 16, 0, 0), (36, 1, 10, 0, 0, 0), (37, 3, 7, 42, 0, 0), (40, 1, 3, 4294967295, 0, 0), (41, 1, 12, 0, 1, 0)]) rfl) ?_
        obtain ⟨g83_263, h83_264, hb265, hx266⟩ := (hI94 83 (by decide) (by decide) : cpx83 (wget w93 83))
        have h83_264 : xRow w93 83 5360 50 g83_263 := h83_264
        obtain ⟨g112_267, h112_268, hb269⟩ := (hI94 112 (by decide) (by decide) : cpI 320 79 4294967295 (wget w93 112))
        have h112_268 : xRow w93 112 320 79 g112_267 := h112_268
        have hz270 := hW_112.2.1
        refine xg_t (xg_aload (va := (2, 82)) rfl rfl) ?_
        refine xg_t (xg_getf (va := (2, 83)) h82_259 rfl) ?_
        refine xg_t (xg_bip) ?_
        refine xg_ialdB (n := 16) (B := 4294967295) h83_264 (hb265) xnm0 (by omega) (fun u271 hu272 he273 => ?_)
        have hq274 : rwv w93 83 16 = u271 := (rwv_of h83_264 (by decide)).trans he273
        refine xg_t (xg_ifF (u := u271) rfl xnm0 (xj_eqF (by omega))) ?_
        refine xg_t (xg_const) ?_
        exact xg_e ⟨4294967295, w93, ⟨rfl, rfl⟩, ⟨(congrArg Prod.fst heq114).symm, by rw [heq114]; exact hW_112.2.1, by rw [heq114]; exact hW_112.2.2, kb99.1, fun j h1 h2 h3 h4 => kb99.2 j h4 (by omega) (by omega) (by omega), fun _ => kb99.2 902 (by decide) (by decide) (by decide) (by decide), fun y => absurd rfl y⟩, hI94, hF95⟩
  exact key90 _ w78 (Nat.lt_succ_self _) (hI80) (((hF36.up (by decide)).tr (hF81.up (by decide)))) (⟨Or.inl ⟨0, 0, (0, 0), hz87, ht83, hz86, hz88, fun z => absurd rfl z, Nat.zero_le _, rfl, fun _ => ⟨by omega, fun l hl => absurd hl (by omega)⟩⟩, hz89⟩)
end XRMC
