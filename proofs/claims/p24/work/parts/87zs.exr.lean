/-! the class: what rules leave; a picture told -/
section XER
variable {d : Nat} {w : List (List xE)} {bd : List (Nat × Nat)} {fc : List (Nat × Nat × Bool)} {rr : Nat × Nat}
theorem rtReadY (hI : xInv w)  : xPi (d + 9) mX6_readRules [(2, 43)] w bd fc rr (fun n w' => (n ≤ 4294967295 ∧ fld w' 1 1 = 0 ∧ fld w' 1 6 = fld w 1 6 ∧ fld w' 1 7 = fld w 1 7 ∧ fld w' 1 9 = fld w 1 9) ∧ xInv w' ∧ xFr [1, 22, 23, 24, 25, 43, 44, 45, 46, 47, 48] w w') := by
  refine xPi.of ?_
  show xTo (d + 9) mX6_readRules (0, [], [(0, (2, 43))], [], (w, bd, fc, 0, 0, rr)) (fun φ => ∃ n w', xEnd 1 [(0, n)] (w', bd, fc, 0, 0, rr) φ ∧ (n ≤ 4294967295 ∧ fld w' 1 1 = 0 ∧ fld w' 1 6 = fld w 1 6 ∧ fld w' 1 7 = fld w 1 7 ∧ fld w' 1 9 = fld w 1 9) ∧ xInv w' ∧ xFr [1, 22, 23, 24, 25, 43, 44, 45, 46, 47, 48] w w')
  obtain ⟨f43_1, f43_3, h43_5, hb2, hb4⟩ := (hI 43 (by decide) : cp43 (wget w 43))
  obtain ⟨f1_6, f1_8, f1_10, f1_12, f1_14, f1_16, h1_18, hb7, hb9, hb11, hb13, hb15, hb17⟩ := (hI 1 (by decide) : cp1 (wget w 1))
  obtain ⟨f22_19, h22_21, hb20⟩ := (hI 22 (by decide) : cp22 (wget w 22))
  obtain ⟨g23_22, h23_23, hb24⟩ := (hI 23 (by decide) : cpI 32 10 4294967295 (wget w 23))
  have h23_23 : xRow w 23 32 10 g23_22 := h23_23
  obtain ⟨f24_25, h24_27, hb26⟩ := (hI 24 (by decide) : cp24 (wget w 24))
  obtain ⟨g25_28, h25_29, hb30⟩ := (hI 25 (by decide) : cpI 320 11 4294967295 (wget w 25))
  have h25_29 : xRow w 25 320 11 g25_28 := h25_29
  obtain ⟨f44_31, h44_33, hb32⟩ := (hI 44 (by decide) : cp44 (wget w 44))
  obtain ⟨g45_34, h45_35, hb36⟩ := (hI 45 (by decide) : cpI 32 21 4294967295 (wget w 45))
  have h45_35 : xRow w 45 32 21 g45_34 := h45_35
  obtain ⟨f46_37, h46_39, hb38⟩ := (hI 46 (by decide) : cp46 (wget w 46))
  obtain ⟨g47_40, h47_41, hb42⟩ := (hI 47 (by decide) : cpI 320 22 4294967295 (wget w 47))
  have h47_41 : xRow w 47 320 22 g47_40 := h47_41
  refine xg_t (xg_blk (b := [(0, 1, 0, 0, 0, 0), (1, 3, 1, 6, 2, 16), (4, 3, 13, 283, 40, 42), (7, 1, 0, 0, 0, 0), (8, 3, 1, 6, 3, 20), (11, 3, 13, 283, 40, 42), (14, 1, 0, 0, 0, 0), (15, 1, 3, 0, 0, 0), (16, 3, 14, 6, 4, 45), (19, 1, 0, 0, 0, 0), (20, 3, 1, 6, 1, 38), (23, 1, 0, 0, 0, 0), (24, 3, 1, 6, 0, 23), (27, 3, 1, 9, 1, 49), (30, 3, 13, 319, 64, 52), (33, 1, 3, 0, 0, 0), (34, 1, 15, 1, 0, 0)]) rfl) ?_
  refine xg_t (xg_aload (va := (2, 43)) rfl rfl) ?_
  refine xg_t (xg_getf (va := (2, 44)) h43_5 rfl) ?_
  refine xg_cV mX5_clear (vs := []) (rest := []) (rs := []) (cn1 := 0) (sl1 := 0) rfl (rclear_ok h44_33) rfl h44_33 rfl rfl rfl rfl rfl rfl rfl (fun w43 hq44 => ?_)
  refine xg_t (xg_aload (va := (2, 43)) rfl rfl) ?_
  refine xg_t (xg_getf (va := (2, 46)) (hq44.2.get (by decide) h43_5) rfl) ?_
  refine xg_cV mX5_clear (vs := []) (rest := []) (rs := []) (cn1 := 0) (sl1 := 0) rfl (rclear_ok (hq44.2.get (by decide) h46_39)) rfl (hq44.2.get (by decide) h46_39) rfl rfl rfl rfl rfl rfl rfl (fun w45 hq46 => ?_)
  refine xg_t (xg_aload (va := (2, 43)) rfl rfl) ?_
  refine xg_t (xg_const) ?_
  refine xg_putI (fl1 := [(2, 1), (2, 48), (2, 44), (2, 46), (0, 0), (0, f43_3)]) (hq46.2.get (by decide) (hq44.2.get (by decide) h43_5)) rfl rfl rfl (fun w47 hk48 hb49 => ?_)
  refine xg_t (xg_aload (va := (2, 43)) rfl rfl) ?_
  refine xg_t (xg_getf (va := (2, 48)) hk48 rfl) ?_
  refine xg_t (xg_aload (va := (2, 43)) rfl rfl) ?_
  refine xg_t (xg_getf (va := (2, 1)) hk48 rfl) ?_
  refine xg_t (xg_getf (va := (0, f1_6)) (hb49.get (by decide) (hq46.2.get (by decide) (hq44.2.get (by decide) h1_18))) rfl) ?_
  obtain ⟨f48_50, f48_52, f48_54, f48_56, f48_58, h48_60, hb51, hb53, hb55, hb57, hb59, hb61⟩ := (hI 48 (by decide) : cp48 (wget w 48))
  refine xg_cVv mX8_start (vs := [(0, f1_6)]) (rest := []) (cn1 := 0) (sl1 := 0) rfl (tkStart48 (xInv.up (S := [44, 46, 43]) hI (((xFr.of (S := [44, 46, 43]) hq44.2 (by decide)).tr (xFr.of (S := [44, 46, 43]) hq46.2 (by decide))).tr (xFr.of (S := [44, 46, 43]) hb49 (by decide))) (List.forall_mem_cons.mpr ⟨(show cp44 (wget w47 44) from ⟨0, (hb49.get (by decide) (hq46.2.get (by decide) hq44.1)), by omega⟩), List.forall_mem_cons.mpr ⟨(show cp46 (wget w47 46) from ⟨0, (hb49.get (by decide) hq46.1), by omega⟩), List.forall_mem_cons.mpr ⟨(show cp43 (wget w47 43) from ⟨0, f43_3, hk48, by omega, by omega⟩), fun _ h => absurd h List.not_mem_nil⟩⟩⟩)) (by omega)) rfl (hb49.get (by decide) (hq46.2.get (by decide) (hq44.2.get (by decide) h48_60))) rfl rfl rfl rfl rfl rfl (fun w62 hq63 => ?_)
  obtain ⟨hI64, hF65⟩ := hq63
  refine xg_t (xg_const) ?_
  refine xg_t (xg_istore (l1 := [(0, (2, 43))]) rfl rfl rfl) ?_
  refine xg_t (xg_drop (l1 := [(0, (2, 43)), (1, (0, 0))]) (List.forall_mem_cons.mpr ⟨List.mem_cons_of_mem _ (List.mem_cons_self), List.forall_mem_cons.mpr ⟨List.mem_cons_self, fun _ h => absurd h List.not_mem_nil⟩⟩)) ?_
  have key66 : ∀ (m68 : Nat) (ki : Nat) (w69 : List (List xE)), 501 - ki < m68 → ki ≤ 501 → xInv w69 → xFr [1, 22, 23, 24, 25, 43, 44, 45, 46, 47, 48] w w69 → wget w69 1 = wget w 1 → xTo (d + 9) mX6_readRules (35, [], [(0, (2, 43)), (1, (0, ki))], [], (w69, bd, fc, 0, 0, rr)) (fun φ => ∃ n w', xEnd 1 [(0, n)] (w', bd, fc, 0, 0, rr) φ ∧ (n ≤ 4294967295 ∧ fld w' 1 1 = 0 ∧ fld w' 1 6 = fld w 1 6 ∧ fld w' 1 7 = fld w 1 7 ∧ fld w' 1 9 = fld w 1 9) ∧ xInv w' ∧ xFr [1, 22, 23, 24, 25, 43, 44, 45, 46, 47, 48] w w') := by
    intro m68
    induction m68 with
    | zero => intro ki w69 hz; exact absurd hz (Nat.not_lt_zero _)
    | succ m68 ih67 =>
      intro ki w69 hm74 hn72 hI70 hF71 he73
      refine xg_t (xg_blk (b := [(35, 1, 2, 1, 0, 0), (36, 3, 5, 500, 0, 0), (39, 3, 6, 82, 4, 0), (42, 1, 0, 0, 0, 0), (43, 3, 1, 6, 1, 38), (46, 3, 1, 8, 2, 56), (49, 3, 7, 82, 0, 0), (52, 1, 0, 0, 0, 0), (53, 3, 13, 294, 48, 59), (56, 3, 7, 76, 1, 0), (59, 1, 0, 0, 0, 0), (60, 3, 1, 6, 0, 23), (63, 1, 3, 1, 0, 0), (64, 1, 0, 0, 0, 0), (65, 3, 1, 6, 1, 38), (68, 3, 1, 8, 3, 63), (71, 3, 13, 326, 72, 66), (74, 1, 3, 4294967295, 0, 0), (75, 1, 12, 0, 1, 0)]) rfl) ?_
      refine xg_t (xg_iload (va := (0, ki)) rfl rfl) ?_
      refine xg_t (xg_sip) ?_
      by_cases hc75 : 500 < ki
      · refine xg_t (xg_icT (u := ki) (v := 500) rfl xnm0 xnm0 (xj_gtT hc75 (by omega))) ?_
        refine xg_t (xg_blk (b := [(82, 1, 0, 0, 0, 0), (83, 3, 1, 6, 0, 23), (86, 1, 0, 0, 0, 0), (87, 3, 1, 6, 4, 45), (90, 1, 0, 0, 0, 0), (91, 3, 1, 6, 5, 69), (94, 3, 13, 326, 72, 66), (97, 1, 0, 0, 0, 0), (98, 3, 1, 6, 4, 45), (101, 3, 7, 106, 0, 0), (104, 1, 3, 4294967295, 0, 0), (105, 1, 12, 0, 1, 0)]) rfl) ?_
        refine xg_t (xg_aload (va := (2, 43)) rfl rfl) ?_
        obtain ⟨f43_76, f43_78, h43_80, hb77, hb79⟩ := (hI70 43 (by decide) : cp43 (wget w69 43))
        refine xg_t (xg_getf (va := (2, 1)) h43_80 rfl) ?_
        refine xg_t (xg_aload (va := (2, 43)) rfl rfl) ?_
        refine xg_t (xg_getf (va := (0, f43_76)) h43_80 rfl) ?_
        refine xg_t (xg_aload (va := (2, 43)) rfl rfl) ?_
        refine xg_t (xg_getf (va := (0, f43_78)) h43_80 rfl) ?_
        have hq81 : wget w69 1 = wget w 1 := he73
        obtain ⟨f1_82, f1_84, f1_86, f1_88, f1_90, f1_92, h1_94, hb83, hb85, hb87, hb89, hb91, hb93⟩ := (hI70 1 (by decide) : cp1 (wget w69 1))
        refine xg_cVv mX9_take (vs := [(0, f43_76), (0, f43_78)]) (rest := []) (cn1 := 0) (sl1 := 0) rfl (tdTakeF (hI70) (by omega) (by omega)) rfl h1_94 rfl rfl rfl rfl rfl rfl (fun w95 hq96 => ?_)
        obtain ⟨hI97, hF98, hx99⟩ := hq96
        obtain ⟨ht100, ht101, ht102, ht103, ht104, ht105⟩ := hx99
        refine xg_t (xg_aload (va := (2, 43)) rfl rfl) ?_
        refine xg_t (xg_getf (va := (0, f43_76)) (hF98.get (by decide) h43_80) rfl) ?_
        by_cases hc106 : f43_76 = 0
        · refine xg_t (xg_ifT (u := f43_76) rfl xnm0 (xj_eqT hc106)) ?_
          refine xg_t (xg_blk (b := [(106, 1, 0, 0, 0, 0), (107, 3, 1, 6, 0, 23), (110, 3, 1, 9, 12, 72), (113, 1, 0, 0, 0, 0), (114, 3, 1, 6, 2, 16), (117, 3, 13, 284, 40, 75), (120, 1, 0, 0, 0, 0), (121, 3, 1, 6, 0, 23), (124, 3, 1, 9, 13, 79), (127, 1, 0, 0, 0, 0), (128, 3, 1, 6, 3, 20), (131, 3, 13, 284, 40, 75), (134, 1, 0, 0, 0, 0), (135, 3, 1, 6, 2, 16), (138, 3, 1, 5, 3, 82), (141, 1, 12, 0, 1, 0)]) rfl) ?_
          refine xg_t (xg_aload (va := (2, 43)) rfl rfl) ?_
          refine xg_t (xg_getf (va := (2, 1)) (hF98.get (by decide) h43_80) rfl) ?_
          obtain ⟨f1_107, f1_109, f1_111, f1_113, f1_115, f1_117, h1_119, hb108, hb110, hb112, hb114, hb116, hb118⟩ := (hI97 1 (by decide) : cp1 (wget w95 1))
          refine xg_t (xg_getf (va := (2, 22)) h1_119 rfl) ?_
          refine xg_t (xg_aload (va := (2, 43)) rfl rfl) ?_
          refine xg_t (xg_getf (va := (2, 44)) (hF98.get (by decide) h43_80) rfl) ?_
          obtain ⟨f22_120, h22_122, hb121⟩ := (hI97 22 (by decide) : cp22 (wget w95 22))
          obtain ⟨f44_123, h44_125, hb124⟩ := (hI97 44 (by decide) : cp44 (wget w95 44))
          obtain ⟨g23_126, h23_127, hb128⟩ := (hI97 23 (by decide) : cpI 32 10 4294967295 (wget w95 23))
          have h23_127 : xRow w95 23 32 10 g23_126 := h23_127
          obtain ⟨g45_129, h45_130, hb131⟩ := (hI97 45 (by decide) : cpI 32 21 4294967295 (wget w95 45))
          have h45_130 : xRow w95 45 32 21 g45_129 := h45_130
          refine xg_cVv mX5_copy (vs := [(2, 44)]) (rest := []) (cn1 := 0) (sl1 := 0) rfl (rcopyI (lim := 16) (wd := 2) (B := 4294967295) h22_122 h44_125 h23_127 h45_130 (hb128) (hb131) (by decide) (by omega) (by decide) (by decide) (by decide) (by decide) (by decide) (by decide)) rfl h22_122 rfl rfl rfl rfl rfl rfl (fun w132 hq133 => ?_)
          obtain ⟨hk134, g135, hr136, hb137, hF138⟩ := hq133
          refine xg_t (xg_aload (va := (2, 43)) rfl rfl) ?_
          refine xg_t (xg_getf (va := (2, 1)) (hF138.get (by decide) (hF98.get (by decide) h43_80)) rfl) ?_
          refine xg_t (xg_getf (va := (2, 24)) (hF138.get (by decide) h1_119) rfl) ?_
          refine xg_t (xg_aload (va := (2, 43)) rfl rfl) ?_
          refine xg_t (xg_getf (va := (2, 46)) (hF138.get (by decide) (hF98.get (by decide) h43_80)) rfl) ?_
          obtain ⟨f24_139, h24_141, hb140⟩ := (hI97 24 (by decide) : cp24 (wget w95 24))
          obtain ⟨f46_142, h46_144, hb143⟩ := (hI97 46 (by decide) : cp46 (wget w95 46))
          obtain ⟨g25_145, h25_146, hb147⟩ := (hI97 25 (by decide) : cpI 320 11 4294967295 (wget w95 25))
          have h25_146 : xRow w95 25 320 11 g25_145 := h25_146
          obtain ⟨g47_148, h47_149, hb150⟩ := (hI97 47 (by decide) : cpI 320 22 4294967295 (wget w95 47))
          have h47_149 : xRow w95 47 320 22 g47_148 := h47_149
          refine xg_cVv mX5_copy (vs := [(2, 46)]) (rest := []) (cn1 := 0) (sl1 := 0) rfl (rcopyI (lim := 64) (wd := 5) (B := 4294967295) (hF138.get (by decide) h24_141) (hF138.get (by decide) h46_144) (h25_146.fr hF138 (by decide)) (h47_149.fr hF138 (by decide)) (hb147) (hb150) (by decide) (by omega) (by decide) (by decide) (by decide) (by decide) (by decide) (by decide)) rfl (hF138.get (by decide) h24_141) rfl rfl rfl rfl rfl rfl (fun w151 hq152 => ?_)
          obtain ⟨hk153, g154, hr155, hb156, hF157⟩ := hq152
          refine xg_t (xg_aload (va := (2, 43)) rfl rfl) ?_
          refine xg_t (xg_getf (va := (2, 44)) (hF157.get (by decide) (hF138.get (by decide) (hF98.get (by decide) h43_80))) rfl) ?_
          refine xg_t (xg_getf (va := (0, f44_123)) (hF157.get (by decide) (hF138.get (by decide) h44_125)) rfl) ?_
          exact xg_e ⟨f44_123, w151, ⟨rfl, rfl⟩, ⟨by omega, ((fld_fr hF157 (by decide)).trans (fld_fr hF138 (by decide))).trans ht100, ((fld_fr hF157 (by decide)).trans (fld_fr hF138 (by decide))).trans (ht103.trans (fld_eq (j := 6) hq81)), ((fld_fr hF157 (by decide)).trans (fld_fr hF138 (by decide))).trans (ht104.trans (fld_eq (j := 7) hq81)), ((fld_fr hF157 (by decide)).trans (fld_fr hF138 (by decide))).trans (ht105.trans (fld_eq (j := 9) hq81))⟩, xInv.up (S := [22, 23, 24, 25]) hI97 ((hF138.up (T := [22, 23, 24, 25]) (by decide)).tr (hF157.up (T := [22, 23, 24, 25]) (by decide))) (List.forall_mem_cons.mpr ⟨(show cp22 (wget w151 22) from ⟨f44_123, (hF157.get (by decide) hk134), by omega⟩), List.forall_mem_cons.mpr ⟨(show cpI 32 10 4294967295 (wget w151 23) from ⟨_, (hr136.fr hF157 (by decide)), hb137⟩), List.forall_mem_cons.mpr ⟨(show cp24 (wget w151 24) from ⟨f46_142, hk153, by omega⟩), List.forall_mem_cons.mpr ⟨(show cpI 320 11 4294967295 (wget w151 25) from ⟨_, hr155, hb156⟩), fun _ h => absurd h List.not_mem_nil⟩⟩⟩⟩), ((hF71.tr (hF98.up (by decide))).tr ((hF138.up (T := [1, 22, 23, 24, 25, 43, 44, 45, 46, 47, 48]) (by decide)).tr (hF157.up (T := [1, 22, 23, 24, 25, 43, 44, 45, 46, 47, 48]) (by decide))))⟩
        · refine xg_t (xg_ifF (u := f43_76) rfl xnm0 (xj_eqF hc106)) ?_
          refine xg_t (xg_const) ?_
          exact xg_e ⟨4294967295, w95, ⟨rfl, rfl⟩, ⟨by omega, ht100, (ht103.trans (fld_eq (j := 6) hq81)), (ht104.trans (fld_eq (j := 7) hq81)), (ht105.trans (fld_eq (j := 9) hq81))⟩, hI97, (hF71.tr (hF98.up (by decide)))⟩
      · refine xg_t (xg_icF (u := ki) (v := 500) rfl xnm0 xnm0 (xj_gtF (by omega) (by omega))) ?_
        refine xg_t (xg_aload (va := (2, 43)) rfl rfl) ?_
        obtain ⟨f43_158, f43_160, h43_162, hb159, hb161⟩ := (hI70 43 (by decide) : cp43 (wget w69 43))
        refine xg_t (xg_getf (va := (2, 48)) h43_162 rfl) ?_
        obtain ⟨f48_163, f48_165, f48_167, f48_169, f48_171, h48_173, hb164, hb166, hb168, hb170, hb172, hb174⟩ := (hI70 48 (by decide) : cp48 (wget w69 48))
        refine xg_t (xg_getf (va := (0, f48_165)) h48_173 rfl) ?_
        by_cases hc175 : f48_165 = 0
        · refine xg_t (xg_ifT (u := f48_165) rfl xnm0 (xj_eqT hc175)) ?_
          refine xg_t (xg_blk (b := [(82, 1, 0, 0, 0, 0), (83, 3, 1, 6, 0, 23), (86, 1, 0, 0, 0, 0), (87, 3, 1, 6, 4, 45), (90, 1, 0, 0, 0, 0), (91, 3, 1, 6, 5, 69), (94, 3, 13, 326, 72, 66), (97, 1, 0, 0, 0, 0), (98, 3, 1, 6, 4, 45), (101, 3, 7, 106, 0, 0), (104, 1, 3, 4294967295, 0, 0), (105, 1, 12, 0, 1, 0)]) rfl) ?_
          refine xg_t (xg_aload (va := (2, 43)) rfl rfl) ?_
          refine xg_t (xg_getf (va := (2, 1)) h43_162 rfl) ?_
          refine xg_t (xg_aload (va := (2, 43)) rfl rfl) ?_
          refine xg_t (xg_getf (va := (0, f43_158)) h43_162 rfl) ?_
          refine xg_t (xg_aload (va := (2, 43)) rfl rfl) ?_
          refine xg_t (xg_getf (va := (0, f43_160)) h43_162 rfl) ?_
          have hq176 : wget w69 1 = wget w 1 := he73
          obtain ⟨f1_177, f1_179, f1_181, f1_183, f1_185, f1_187, h1_189, hb178, hb180, hb182, hb184, hb186, hb188⟩ := (hI70 1 (by decide) : cp1 (wget w69 1))
          refine xg_cVv mX9_take (vs := [(0, f43_158), (0, f43_160)]) (rest := []) (cn1 := 0) (sl1 := 0) rfl (tdTakeF (hI70) (by omega) (by omega)) rfl h1_189 rfl rfl rfl rfl rfl rfl (fun w190 hq191 => ?_)
          obtain ⟨hI192, hF193, hx194⟩ := hq191
          obtain ⟨ht195, ht196, ht197, ht198, ht199, ht200⟩ := hx194
          refine xg_t (xg_aload (va := (2, 43)) rfl rfl) ?_
          refine xg_t (xg_getf (va := (0, f43_158)) (hF193.get (by decide) h43_162) rfl) ?_
          by_cases hc201 : f43_158 = 0
          · refine xg_t (xg_ifT (u := f43_158) rfl xnm0 (xj_eqT hc201)) ?_
            refine xg_t (xg_blk (b := [(106, 1, 0, 0, 0, 0), (107, 3, 1, 6, 0, 23), (110, 3, 1, 9, 12, 72), (113, 1, 0, 0, 0, 0), (114, 3, 1, 6, 2, 16), (117, 3, 13, 284, 40, 75), (120, 1, 0, 0, 0, 0), (121, 3, 1, 6, 0, 23), (124, 3, 1, 9, 13, 79), (127, 1, 0, 0, 0, 0), (128, 3, 1, 6, 3, 20), (131, 3, 13, 284, 40, 75), (134, 1, 0, 0, 0, 0), (135, 3, 1, 6, 2, 16), (138, 3, 1, 5, 3, 82), (141, 1, 12, 0, 1, 0)]) rfl) ?_
            refine xg_t (xg_aload (va := (2, 43)) rfl rfl) ?_
            refine xg_t (xg_getf (va := (2, 1)) (hF193.get (by decide) h43_162) rfl) ?_
            obtain ⟨f1_202, f1_204, f1_206, f1_208, f1_210, f1_212, h1_214, hb203, hb205, hb207, hb209, hb211, hb213⟩ := (hI192 1 (by decide) : cp1 (wget w190 1))
            refine xg_t (xg_getf (va := (2, 22)) h1_214 rfl) ?_
            refine xg_t (xg_aload (va := (2, 43)) rfl rfl) ?_
            refine xg_t (xg_getf (va := (2, 44)) (hF193.get (by decide) h43_162) rfl) ?_
            obtain ⟨f22_215, h22_217, hb216⟩ := (hI192 22 (by decide) : cp22 (wget w190 22))
            obtain ⟨f44_218, h44_220, hb219⟩ := (hI192 44 (by decide) : cp44 (wget w190 44))
            obtain ⟨g23_221, h23_222, hb223⟩ := (hI192 23 (by decide) : cpI 32 10 4294967295 (wget w190 23))
            have h23_222 : xRow w190 23 32 10 g23_221 := h23_222
            obtain ⟨g45_224, h45_225, hb226⟩ := (hI192 45 (by decide) : cpI 32 21 4294967295 (wget w190 45))
            have h45_225 : xRow w190 45 32 21 g45_224 := h45_225
            refine xg_cVv mX5_copy (vs := [(2, 44)]) (rest := []) (cn1 := 0) (sl1 := 0) rfl (rcopyI (lim := 16) (wd := 2) (B := 4294967295) h22_217 h44_220 h23_222 h45_225 (hb223) (hb226) (by decide) (by omega) (by decide) (by decide) (by decide) (by decide) (by decide) (by decide)) rfl h22_217 rfl rfl rfl rfl rfl rfl (fun w227 hq228 => ?_)
            obtain ⟨hk229, g230, hr231, hb232, hF233⟩ := hq228
            refine xg_t (xg_aload (va := (2, 43)) rfl rfl) ?_
            refine xg_t (xg_getf (va := (2, 1)) (hF233.get (by decide) (hF193.get (by decide) h43_162)) rfl) ?_
            refine xg_t (xg_getf (va := (2, 24)) (hF233.get (by decide) h1_214) rfl) ?_
            refine xg_t (xg_aload (va := (2, 43)) rfl rfl) ?_
            refine xg_t (xg_getf (va := (2, 46)) (hF233.get (by decide) (hF193.get (by decide) h43_162)) rfl) ?_
            obtain ⟨f24_234, h24_236, hb235⟩ := (hI192 24 (by decide) : cp24 (wget w190 24))
            obtain ⟨f46_237, h46_239, hb238⟩ := (hI192 46 (by decide) : cp46 (wget w190 46))
            obtain ⟨g25_240, h25_241, hb242⟩ := (hI192 25 (by decide) : cpI 320 11 4294967295 (wget w190 25))
            have h25_241 : xRow w190 25 320 11 g25_240 := h25_241
            obtain ⟨g47_243, h47_244, hb245⟩ := (hI192 47 (by decide) : cpI 320 22 4294967295 (wget w190 47))
            have h47_244 : xRow w190 47 320 22 g47_243 := h47_244
            refine xg_cVv mX5_copy (vs := [(2, 46)]) (rest := []) (cn1 := 0) (sl1 := 0) rfl (rcopyI (lim := 64) (wd := 5) (B := 4294967295) (hF233.get (by decide) h24_236) (hF233.get (by decide) h46_239) (h25_241.fr hF233 (by decide)) (h47_244.fr hF233 (by decide)) (hb242) (hb245) (by decide) (by omega) (by decide) (by decide) (by decide) (by decide) (by decide) (by decide)) rfl (hF233.get (by decide) h24_236) rfl rfl rfl rfl rfl rfl (fun w246 hq247 => ?_)
            obtain ⟨hk248, g249, hr250, hb251, hF252⟩ := hq247
            refine xg_t (xg_aload (va := (2, 43)) rfl rfl) ?_
            refine xg_t (xg_getf (va := (2, 44)) (hF252.get (by decide) (hF233.get (by decide) (hF193.get (by decide) h43_162))) rfl) ?_
            refine xg_t (xg_getf (va := (0, f44_218)) (hF252.get (by decide) (hF233.get (by decide) h44_220)) rfl) ?_
            exact xg_e ⟨f44_218, w246, ⟨rfl, rfl⟩, ⟨by omega, ((fld_fr hF252 (by decide)).trans (fld_fr hF233 (by decide))).trans ht195, ((fld_fr hF252 (by decide)).trans (fld_fr hF233 (by decide))).trans (ht198.trans (fld_eq (j := 6) hq176)), ((fld_fr hF252 (by decide)).trans (fld_fr hF233 (by decide))).trans (ht199.trans (fld_eq (j := 7) hq176)), ((fld_fr hF252 (by decide)).trans (fld_fr hF233 (by decide))).trans (ht200.trans (fld_eq (j := 9) hq176))⟩, xInv.up (S := [22, 23, 24, 25]) hI192 ((hF233.up (T := [22, 23, 24, 25]) (by decide)).tr (hF252.up (T := [22, 23, 24, 25]) (by decide))) (List.forall_mem_cons.mpr ⟨(show cp22 (wget w246 22) from ⟨f44_218, (hF252.get (by decide) hk229), by omega⟩), List.forall_mem_cons.mpr ⟨(show cpI 32 10 4294967295 (wget w246 23) from ⟨_, (hr231.fr hF252 (by decide)), hb232⟩), List.forall_mem_cons.mpr ⟨(show cp24 (wget w246 24) from ⟨f46_237, hk248, by omega⟩), List.forall_mem_cons.mpr ⟨(show cpI 320 11 4294967295 (wget w246 25) from ⟨_, hr250, hb251⟩), fun _ h => absurd h List.not_mem_nil⟩⟩⟩⟩), ((hF71.tr (hF193.up (by decide))).tr ((hF233.up (T := [1, 22, 23, 24, 25, 43, 44, 45, 46, 47, 48]) (by decide)).tr (hF252.up (T := [1, 22, 23, 24, 25, 43, 44, 45, 46, 47, 48]) (by decide))))⟩
          · refine xg_t (xg_ifF (u := f43_158) rfl xnm0 (xj_eqF hc201)) ?_
            refine xg_t (xg_const) ?_
            exact xg_e ⟨4294967295, w190, ⟨rfl, rfl⟩, ⟨by omega, ht195, (ht198.trans (fld_eq (j := 6) hq176)), (ht199.trans (fld_eq (j := 7) hq176)), (ht200.trans (fld_eq (j := 9) hq176))⟩, hI192, (hF71.tr (hF193.up (by decide)))⟩
        · refine xg_t (xg_ifF (u := f48_165) rfl xnm0 (xj_eqF hc175)) ?_
          refine xg_t (xg_aload (va := (2, 43)) rfl rfl) ?_
          refine xg_cVi mX6_readLine (vs := []) (rest := []) (cn1 := 0) (sl1 := 0) rfl (rtLine (hI70)) rfl h43_162 rfl rfl rfl rfl rfl rfl (fun n257 w253 hq254 => ?_)
          obtain ⟨hn258, hI255, hF256⟩ := hq254
          by_cases hc259 : n257 = 0
          · refine xg_t (xg_ifF (u := n257) rfl xnm0 (xj_neF hc259)) ?_
            refine xg_t (xg_aload (va := (2, 43)) rfl rfl) ?_
            obtain ⟨f43_260, f43_262, h43_264, hb261, hb263⟩ := (hI255 43 (by decide) : cp43 (wget w253 43))
            refine xg_t (xg_getf (va := (2, 1)) h43_264 rfl) ?_
            refine xg_t (xg_const) ?_
            refine xg_t (xg_aload (va := (2, 43)) rfl rfl) ?_
            refine xg_t (xg_getf (va := (2, 48)) h43_264 rfl) ?_
            obtain ⟨f48_265, f48_267, f48_269, f48_271, f48_273, h48_275, hb266, hb268, hb270, hb272, hb274, hb276⟩ := (hI255 48 (by decide) : cp48 (wget w253 48))
            refine xg_t (xg_getf (va := (0, f48_269)) h48_275 rfl) ?_
            have hq277 : wget w253 1 = wget w 1 := (hF256.1 1 (by decide)).trans he73
            obtain ⟨f1_278, f1_280, f1_282, f1_284, f1_286, f1_288, h1_290, hb279, hb281, hb283, hb285, hb287, hb289⟩ := (hI255 1 (by decide) : cp1 (wget w253 1))
            refine xg_cVv mX9_take (vs := [(0, 1), (0, f48_269)]) (rest := []) (cn1 := 0) (sl1 := 0) rfl (tdTakeF (hI255) (by omega) (by omega)) rfl h1_290 rfl rfl rfl rfl rfl rfl (fun w291 hq292 => ?_)
            obtain ⟨hI293, hF294, hx295⟩ := hq292
            obtain ⟨ht296, ht297, ht298, ht299, ht300, ht301⟩ := hx295
            refine xg_t (xg_const) ?_
            exact xg_e ⟨4294967295, w291, ⟨rfl, rfl⟩, ⟨by omega, ht296, (ht299.trans (fld_eq (j := 6) hq277)), (ht300.trans (fld_eq (j := 7) hq277)), (ht301.trans (fld_eq (j := 9) hq277))⟩, hI293, ((hF71.tr (hF256.up (by decide))).tr (hF294.up (by decide)))⟩
          · refine xg_t (xg_ifT (u := n257) rfl xnm0 (xj_neT hc259)) ?_
            refine xg_t (xg_blk (b := [(76, 3, 9, 1, 1, 0), (79, 3, 8, 35, 0, 0)]) rfl) ?_
            refine xg_t (xg_iinc (u := ki) (z := ki + 1) (l1 := [(0, (2, 43))]) rfl rfl (by omega) rfl) ?_
            refine xg_t (xg_goto) ?_
            refine xg_t (xg_drop (l1 := [(0, (2, 43)), (1, (0, ki + 1))]) (List.forall_mem_cons.mpr ⟨List.mem_cons_of_mem _ (List.mem_cons_self), List.forall_mem_cons.mpr ⟨List.mem_cons_self, fun _ h => absurd h List.not_mem_nil⟩⟩)) ?_
            exact ih67 (ki + 1) w253 (by omega) (by omega) (hI255) ((hF71.tr (hF256.up (by decide)))) ((hF256.1 1 (by decide)).trans he73)
  exact key66 _ 0 w62 (Nat.lt_succ_self _) (by omega) (hI64) (((((xFr.of (S := [1, 22, 23, 24, 25, 43, 44, 45, 46, 47, 48]) hq44.2 (by decide)).tr (xFr.of (S := [1, 22, 23, 24, 25, 43, 44, 45, 46, 47, 48]) hq46.2 (by decide))).tr (xFr.of (S := [1, 22, 23, 24, 25, 43, 44, 45, 46, 47, 48]) hb49 (by decide))).tr (hF65.up (by decide)))) (((hF65.1 1 (by decide)).trans ((hb49.1 1 (by decide)).trans ((hq46.2.1 1 (by decide)).trans (hq44.2.1 1 (by decide))))))
theorem bsRulesY (hI : xInv w)  : xPi (d + 10) mX11_rules [(2, 0)] w bd fc rr (fun n w' => (n ≤ 4294967295 ∧ fld w' 1 1 = 0 ∧ fld w' 1 6 = fld w 1 6 ∧ fld w' 1 7 = fld w 1 7 ∧ fld w' 1 9 = fld w 1 9) ∧ xInv w' ∧ xFr [1, 22, 23, 24, 25, 43, 44, 45, 46, 47, 48] w w') := by
  refine xPi.of ?_
  show xTo (d + 10) mX11_rules (0, [], [(0, (2, 0))], [], (w, bd, fc, 0, 0, rr)) (fun φ => ∃ n w', xEnd 1 [(0, n)] (w', bd, fc, 0, 0, rr) φ ∧ (n ≤ 4294967295 ∧ fld w' 1 1 = 0 ∧ fld w' 1 6 = fld w 1 6 ∧ fld w' 1 7 = fld w 1 7 ∧ fld w' 1 9 = fld w 1 9) ∧ xInv w' ∧ xFr [1, 22, 23, 24, 25, 43, 44, 45, 46, 47, 48] w w')
  have h0_1 := (hI 0 (by decide) : cp0 (wget w 0))
  refine xg_t (xg_blk (b := [(0, 1, 0, 0, 0, 0), (1, 3, 1, 11, 3, 32), (4, 3, 13, 295, 48, 358), (7, 1, 12, 0, 1, 0)]) rfl) ?_
  refine xg_t (xg_aload (va := (2, 0)) rfl rfl) ?_
  refine xg_t (xg_getf (va := (2, 43)) h0_1 rfl) ?_
  obtain ⟨f43_2, f43_4, h43_6, hb3, hb5⟩ := (hI 43 (by decide) : cp43 (wget w 43))
  refine xg_cVi mX6_readRules (vs := []) (rest := []) (cn1 := 0) (sl1 := 0) rfl (rtReadY (hI)) rfl h43_6 rfl rfl rfl rfl rfl rfl (fun n11 w7 hq8 => ?_)
  obtain ⟨hn12, hI9, hF10⟩ := hq8
  obtain ⟨ht13, ht14, ht15, ht16, ht17⟩ := hn12
  exact xg_e ⟨n11, w7, ⟨rfl, rfl⟩, ⟨by omega, ht14, ht15, ht16, ht17⟩, hI9, (hF10.up (by decide))⟩
theorem scPictureX {pa pb pc_ pd li ho : Nat} (hI : xInv w) (hpa : pa ≤ 4294967295) (hpb : pb ≤ 4294967295) (hpc_ : pc_ ≤ 4294967295) (hpd : pd ≤ 4294967295) (hli : li ≤ 4294967295) (hho : ho ≤ 4294967295) : xPi (d + 2) mX11_picture [(2, 0), (0, pa), (0, pb), (0, pc_), (0, pd), (0, li), (0, ho)] w bd fc rr (fun n w' => (((n = fld w 16 3 + 1 ∧ fld w 16 3 < 12 ∧ ((pa ≤ pb ∧ pb < fld w 3 7) ∧ (pc_ ≤ pd ∧ pd < fld w 3 8) ∧ (1 ≤ li ∧ li ≤ 9) ∧ (1 ≤ ho ∧ ho ≤ 999)) ∧ fld w' 16 3 = fld w 16 3 + 1 ∧ fld w' 68 4 = 0) ∨ (n = 4294967295 ∧ ¬ (fld w 16 3 < 12 ∧ ((pa ≤ pb ∧ pb < fld w 3 7) ∧ (pc_ ≤ pd ∧ pd < fld w 3 8) ∧ (1 ≤ li ∧ li ≤ 9) ∧ (1 ≤ ho ∧ ho ≤ 999))) ∧ w' = w)) ∧ (n ≠ 4294967295 → rwv w' 17 (5 * fld w 16 3) = pa ∧ rwv w' 17 (5 * fld w 16 3 + 1) = pb ∧ rwv w' 17 (5 * fld w 16 3 + 2) = pc_ ∧ rwv w' 17 (5 * fld w 16 3 + 3) = pd ∧ rwv w' 17 (5 * fld w 16 3 + 4) = li * ho) ∧ (∀ j, (j < 5 * fld w 16 3 ∨ 5 * fld w 16 3 + 5 ≤ j) → j < 60 → rwv w' 17 j = rwv w 17 j)) ∧ xInv w' ∧ xFr [16, 17, 68] w w') := by
  refine xPi.of ?_
  show xTo (d + 2) mX11_picture (0, [], [(0, (2, 0)), (1, (0, pa)), (2, (0, pb)), (3, (0, pc_)), (4, (0, pd)), (5, (0, li)), (6, (0, ho))], [], (w, bd, fc, 0, 0, rr)) (fun φ => ∃ n w', xEnd 1 [(0, n)] (w', bd, fc, 0, 0, rr) φ ∧ (((n = fld w 16 3 + 1 ∧ fld w 16 3 < 12 ∧ ((pa ≤ pb ∧ pb < fld w 3 7) ∧ (pc_ ≤ pd ∧ pd < fld w 3 8) ∧ (1 ≤ li ∧ li ≤ 9) ∧ (1 ≤ ho ∧ ho ≤ 999)) ∧ fld w' 16 3 = fld w 16 3 + 1 ∧ fld w' 68 4 = 0) ∨ (n = 4294967295 ∧ ¬ (fld w 16 3 < 12 ∧ ((pa ≤ pb ∧ pb < fld w 3 7) ∧ (pc_ ≤ pd ∧ pd < fld w 3 8) ∧ (1 ≤ li ∧ li ≤ 9) ∧ (1 ≤ ho ∧ ho ≤ 999))) ∧ w' = w)) ∧ (n ≠ 4294967295 → rwv w' 17 (5 * fld w 16 3) = pa ∧ rwv w' 17 (5 * fld w 16 3 + 1) = pb ∧ rwv w' 17 (5 * fld w 16 3 + 2) = pc_ ∧ rwv w' 17 (5 * fld w 16 3 + 3) = pd ∧ rwv w' 17 (5 * fld w 16 3 + 4) = li * ho) ∧ (∀ j, (j < 5 * fld w 16 3 ∨ 5 * fld w 16 3 + 5 ≤ j) → j < 60 → rwv w' 17 j = rwv w 17 j)) ∧ xInv w' ∧ xFr [16, 17, 68] w w')
  have h0_1 := (hI 0 (by decide) : cp0 (wget w 0))
  obtain ⟨f1_2, f1_4, f1_6, f1_8, f1_10, f1_12, h1_14, hb3, hb5, hb7, hb9, hb11, hb13⟩ := (hI 1 (by decide) : cp1 (wget w 1))
  obtain ⟨f3_15, f3_17, f3_19, f3_21, f3_23, h3_25, hb16, hb18, hb20, hb22, hb24⟩ := (hI 3 (by decide) : cp3 (wget w 3))
  obtain ⟨f16_26, h16_28, hb27⟩ := (hI 16 (by decide) : cp16 (wget w 16))
  obtain ⟨g17_29, h17_30, hb31⟩ := (hI 17 (by decide) : cpI 60 7 4294967295 (wget w 17))
  have h17_30 : xRow w 17 60 7 g17_29 := h17_30
  refine xg_t (xg_blk (b := [(0, 1, 0, 0, 0, 0), (1, 3, 1, 11, 0, 10), (4, 3, 1, 9, 8, 252), (7, 2, 27, 7, 0, 0), (9, 1, 2, 1, 0, 0), (10, 3, 7, 61, 2, 0), (13, 1, 2, 1, 0, 0), (14, 1, 2, 2, 0, 0), (15, 3, 6, 61, 4, 0), (18, 1, 2, 2, 0, 0), (19, 1, 0, 0, 0, 0), (20, 3, 1, 11, 0, 10), (23, 3, 1, 9, 4, 38), (26, 3, 1, 1, 7, 225), (29, 3, 6, 61, 3, 0), (32, 1, 2, 3, 0, 0), (33, 3, 7, 61, 2, 0), (36, 1, 2, 3, 0, 0), (37, 2, 2, 4, 0, 0), (39, 3, 6, 61, 4, 0), (42, 2, 2, 4, 0, 0), (44, 1, 0, 0, 0, 0), (45, 3, 1, 11, 0, 10), (48, 3, 1, 9, 4, 38), (51, 3, 1, 1, 8, 255), (54, 3, 6, 61, 3, 0), (57, 1, 3, 1, 0, 0), (58, 3, 8, 62, 0, 0)]) rfl) ?_
  refine xg_t (xg_aload (va := (2, 0)) rfl rfl) ?_
  refine xg_t (xg_getf (va := (2, 1)) h0_1 rfl) ?_
  refine xg_t (xg_getf (va := (2, 16)) h1_14 rfl) ?_
  refine xg_t (xg_astore (l1 := [(0, (2, 0)), (1, (0, pa)), (2, (0, pb)), (3, (0, pc_)), (4, (0, pd)), (5, (0, li)), (6, (0, ho))]) rfl rfl rfl) ?_
  refine xg_t (xg_iload (va := (0, pa)) rfl rfl) ?_
  by_cases hc32 : pa < 2147483648
  · refine xg_t (xg_ifF (u := pa) rfl xnm0 (xjz_ltF hc32)) ?_
    refine xg_t (xg_iload (va := (0, pa)) rfl rfl) ?_
    refine xg_t (xg_iload (va := (0, pb)) rfl rfl) ?_
    by_cases hc33 : xbs pb < xbs pa
    · have hc33u := hc33
      unfold xbs at hc33u
      have hn34 : pa ≤ 2147483647 := by omega
      refine xg_t (xg_icT (u := pa) (v := pb) rfl xnm0 xnm0 (xjs_gtT hc33)) ?_
      refine xg_t (xg_blk (b := [(61, 1, 3, 0, 0, 0)]) rfl) ?_
      refine xg_t (xg_const) ?_
      refine xg_t (xg_blk (b := [(62, 2, 15, 8, 0, 0), (64, 2, 0, 7, 0, 0), (66, 3, 13, 289, 40, 198), (69, 3, 7, 100, 1, 0), (72, 2, 2, 8, 0, 0), (74, 3, 7, 100, 0, 0), (77, 2, 2, 5, 0, 0), (79, 1, 3, 1, 0, 0), (80, 2, 4, 9, 0, 0), (82, 3, 13, 70, 90, 238), (85, 3, 7, 100, 0, 0), (88, 2, 2, 6, 0, 0), (90, 1, 3, 1, 0, 0), (91, 3, 5, 999, 0, 0), (94, 3, 13, 70, 90, 238), (97, 3, 7, 102, 1, 0)]) rfl) ?_
      refine xg_t (xg_istore (l1 := [(7, (2, 16)), (0, (2, 0)), (1, (0, pa)), (2, (0, pb)), (3, (0, pc_)), (4, (0, pd)), (5, (0, li)), (6, (0, ho))]) rfl rfl rfl) ?_
      refine xg_t (xg_aload (va := (2, 16)) rfl rfl) ?_
      refine xg_t (xg_cVr mX5_isFull (vs := []) (rest := []) (rs := [(0, if 12 ≤ f16_26 then 1 else 0)]) (cn1 := 0) (sl1 := 0) rfl (rfull_ok h16_28 (by decide) (by omega)) rfl h16_28 rfl rfl rfl rfl rfl rfl rfl) ?_
      by_cases hc35 : 12 ≤ f16_26
      · refine xg_t (xg_ifT (u := (if 12 ≤ f16_26 then 1 else 0)) rfl xnm0 (xj_neT (xite1 hc35))) ?_
        refine xg_t (xg_blk (b := [(100, 1, 3, 4294967295, 0, 0), (101, 1, 12, 0, 1, 0)]) rfl) ?_
        refine xg_t (xg_const) ?_
        have hq36 : fld w 3 7 = f3_19 := fld_of h3_25
        have hq37 : fld w 3 8 = f3_21 := fld_of h3_25
        have hq38 : fld w 16 3 = f16_26 := fld_of h16_28
        exact xg_e ⟨4294967295, w, ⟨rfl, rfl⟩, ⟨Or.inr ⟨by omega, by omega, rfl⟩, fun h => absurd h (by omega), fun j _ _ => rfl⟩, hI, xFr.rf⟩
      · refine xg_t (xg_ifF (u := (if 12 ≤ f16_26 then 1 else 0)) rfl xnm0 (xj_neF (xite0 hc35))) ?_
        refine xg_t (xg_iload (va := (0, 0)) rfl rfl) ?_
        refine xg_t (xg_ifT (u := 0) rfl xnm0 (by decide)) ?_
        refine xg_t (xg_blk (b := [(100, 1, 3, 4294967295, 0, 0), (101, 1, 12, 0, 1, 0)]) rfl) ?_
        refine xg_t (xg_const) ?_
        have hq39 : fld w 3 7 = f3_19 := fld_of h3_25
        have hq40 : fld w 3 8 = f3_21 := fld_of h3_25
        have hq41 : fld w 16 3 = f16_26 := fld_of h16_28
        exact xg_e ⟨4294967295, w, ⟨rfl, rfl⟩, ⟨Or.inr ⟨by omega, by omega, rfl⟩, fun h => absurd h (by omega), fun j _ _ => rfl⟩, hI, xFr.rf⟩
    · have hc33u := hc33
      unfold xbs at hc33u
      have hn42 : pb ≤ 2147483647 := by omega
      have hn43 : pa ≤ 2147483647 := by omega
      refine xg_t (xg_icF (u := pa) (v := pb) rfl xnm0 xnm0 (xjs_gtF hc33)) ?_
      refine xg_t (xg_iload (va := (0, pb)) rfl rfl) ?_
      refine xg_t (xg_aload (va := (2, 0)) rfl rfl) ?_
      refine xg_t (xg_getf (va := (2, 1)) h0_1 rfl) ?_
      refine xg_t (xg_getf (va := (2, 3)) h1_14 rfl) ?_
      refine xg_t (xg_getf (va := (0, f3_19)) h3_25 rfl) ?_
      by_cases hc44 : pb < f3_19
      · refine xg_t (xg_icF (u := pb) (v := f3_19) rfl xnm0 xnm0 (xj_geF hc44 (by omega))) ?_
        refine xg_t (xg_iload (va := (0, pc_)) rfl rfl) ?_
        by_cases hc45 : pc_ < 2147483648
        · refine xg_t (xg_ifF (u := pc_) rfl xnm0 (xjz_ltF hc45)) ?_
          refine xg_t (xg_iload (va := (0, pc_)) rfl rfl) ?_
          refine xg_t (xg_iload (va := (0, pd)) rfl rfl) ?_
          by_cases hc46 : xbs pd < xbs pc_
          · have hc46u := hc46
            unfold xbs at hc46u
            have hn47 : pc_ ≤ 2147483647 := by omega
            refine xg_t (xg_icT (u := pc_) (v := pd) rfl xnm0 xnm0 (xjs_gtT hc46)) ?_
            refine xg_t (xg_blk (b := [(61, 1, 3, 0, 0, 0)]) rfl) ?_
            refine xg_t (xg_const) ?_
            refine xg_t (xg_blk (b := [(62, 2, 15, 8, 0, 0), (64, 2, 0, 7, 0, 0), (66, 3, 13, 289, 40, 198), (69, 3, 7, 100, 1, 0), (72, 2, 2, 8, 0, 0), (74, 3, 7, 100, 0, 0), (77, 2, 2, 5, 0, 0), (79, 1, 3, 1, 0, 0), (80, 2, 4, 9, 0, 0), (82, 3, 13, 70, 90, 238), (85, 3, 7, 100, 0, 0), (88, 2, 2, 6, 0, 0), (90, 1, 3, 1, 0, 0), (91, 3, 5, 999, 0, 0), (94, 3, 13, 70, 90, 238), (97, 3, 7, 102, 1, 0)]) rfl) ?_
            refine xg_t (xg_istore (l1 := [(7, (2, 16)), (0, (2, 0)), (1, (0, pa)), (2, (0, pb)), (3, (0, pc_)), (4, (0, pd)), (5, (0, li)), (6, (0, ho))]) rfl rfl rfl) ?_
            refine xg_t (xg_aload (va := (2, 16)) rfl rfl) ?_
            refine xg_t (xg_cVr mX5_isFull (vs := []) (rest := []) (rs := [(0, if 12 ≤ f16_26 then 1 else 0)]) (cn1 := 0) (sl1 := 0) rfl (rfull_ok h16_28 (by decide) (by omega)) rfl h16_28 rfl rfl rfl rfl rfl rfl rfl) ?_
            by_cases hc48 : 12 ≤ f16_26
            · refine xg_t (xg_ifT (u := (if 12 ≤ f16_26 then 1 else 0)) rfl xnm0 (xj_neT (xite1 hc48))) ?_
              refine xg_t (xg_blk (b := [(100, 1, 3, 4294967295, 0, 0), (101, 1, 12, 0, 1, 0)]) rfl) ?_
              refine xg_t (xg_const) ?_
              have hq49 : fld w 3 7 = f3_19 := fld_of h3_25
              have hq50 : fld w 3 8 = f3_21 := fld_of h3_25
              have hq51 : fld w 16 3 = f16_26 := fld_of h16_28
              exact xg_e ⟨4294967295, w, ⟨rfl, rfl⟩, ⟨Or.inr ⟨by omega, by omega, rfl⟩, fun h => absurd h (by omega), fun j _ _ => rfl⟩, hI, xFr.rf⟩
            · refine xg_t (xg_ifF (u := (if 12 ≤ f16_26 then 1 else 0)) rfl xnm0 (xj_neF (xite0 hc48))) ?_
              refine xg_t (xg_iload (va := (0, 0)) rfl rfl) ?_
              refine xg_t (xg_ifT (u := 0) rfl xnm0 (by decide)) ?_
              refine xg_t (xg_blk (b := [(100, 1, 3, 4294967295, 0, 0), (101, 1, 12, 0, 1, 0)]) rfl) ?_
              refine xg_t (xg_const) ?_
              have hq52 : fld w 3 7 = f3_19 := fld_of h3_25
              have hq53 : fld w 3 8 = f3_21 := fld_of h3_25
              have hq54 : fld w 16 3 = f16_26 := fld_of h16_28
              exact xg_e ⟨4294967295, w, ⟨rfl, rfl⟩, ⟨Or.inr ⟨by omega, by omega, rfl⟩, fun h => absurd h (by omega), fun j _ _ => rfl⟩, hI, xFr.rf⟩
          · have hc46u := hc46
            unfold xbs at hc46u
            have hn55 : pd ≤ 2147483647 := by omega
            have hn56 : pc_ ≤ 2147483647 := by omega
            refine xg_t (xg_icF (u := pc_) (v := pd) rfl xnm0 xnm0 (xjs_gtF hc46)) ?_
            refine xg_t (xg_iload (va := (0, pd)) rfl rfl) ?_
            refine xg_t (xg_aload (va := (2, 0)) rfl rfl) ?_
            refine xg_t (xg_getf (va := (2, 1)) h0_1 rfl) ?_
            refine xg_t (xg_getf (va := (2, 3)) h1_14 rfl) ?_
            refine xg_t (xg_getf (va := (0, f3_21)) h3_25 rfl) ?_
            by_cases hc57 : pd < f3_21
            · refine xg_t (xg_icF (u := pd) (v := f3_21) rfl xnm0 xnm0 (xj_geF hc57 (by omega))) ?_
              refine xg_t (xg_const) ?_
              refine xg_t (xg_goto) ?_
              refine xg_t (xg_blk (b := [(62, 2, 15, 8, 0, 0), (64, 2, 0, 7, 0, 0), (66, 3, 13, 289, 40, 198), (69, 3, 7, 100, 1, 0), (72, 2, 2, 8, 0, 0), (74, 3, 7, 100, 0, 0), (77, 2, 2, 5, 0, 0), (79, 1, 3, 1, 0, 0), (80, 2, 4, 9, 0, 0), (82, 3, 13, 70, 90, 238), (85, 3, 7, 100, 0, 0), (88, 2, 2, 6, 0, 0), (90, 1, 3, 1, 0, 0), (91, 3, 5, 999, 0, 0), (94, 3, 13, 70, 90, 238), (97, 3, 7, 102, 1, 0)]) rfl) ?_
              refine xg_t (xg_istore (l1 := [(7, (2, 16)), (0, (2, 0)), (1, (0, pa)), (2, (0, pb)), (3, (0, pc_)), (4, (0, pd)), (5, (0, li)), (6, (0, ho))]) rfl rfl rfl) ?_
              refine xg_t (xg_aload (va := (2, 16)) rfl rfl) ?_
              refine xg_t (xg_cVr mX5_isFull (vs := []) (rest := []) (rs := [(0, if 12 ≤ f16_26 then 1 else 0)]) (cn1 := 0) (sl1 := 0) rfl (rfull_ok h16_28 (by decide) (by omega)) rfl h16_28 rfl rfl rfl rfl rfl rfl rfl) ?_
              by_cases hc58 : 12 ≤ f16_26
              · refine xg_t (xg_ifT (u := (if 12 ≤ f16_26 then 1 else 0)) rfl xnm0 (xj_neT (xite1 hc58))) ?_
                refine xg_t (xg_blk (b := [(100, 1, 3, 4294967295, 0, 0), (101, 1, 12, 0, 1, 0)]) rfl) ?_
                refine xg_t (xg_const) ?_
                have hq59 : fld w 3 7 = f3_19 := fld_of h3_25
                have hq60 : fld w 3 8 = f3_21 := fld_of h3_25
                have hq61 : fld w 16 3 = f16_26 := fld_of h16_28
                exact xg_e ⟨4294967295, w, ⟨rfl, rfl⟩, ⟨Or.inr ⟨by omega, by omega, rfl⟩, fun h => absurd h (by omega), fun j _ _ => rfl⟩, hI, xFr.rf⟩
              · refine xg_t (xg_ifF (u := (if 12 ≤ f16_26 then 1 else 0)) rfl xnm0 (xj_neF (xite0 hc58))) ?_
                refine xg_t (xg_iload (va := (0, 1)) rfl rfl) ?_
                refine xg_t (xg_ifF (u := 1) rfl xnm0 (by decide)) ?_
                refine xg_t (xg_iload (va := (0, li)) rfl rfl) ?_
                refine xg_t (xg_const) ?_
                refine xg_t (xg_bip) ?_
                refine xg_t (xg_cSr mX11_isIn (vs := [(0, li), (0, 1), (0, 9)]) (rest := []) (rs := [(0, if 1 ≤ li ∧ li ≤ 9 then 1 else 0)]) (cn1 := 0) (sl1 := 0) rfl (isIn_ok (by omega) (by omega) (by omega)) rfl rfl rfl rfl rfl rfl rfl rfl) ?_
                by_cases hc62 : 1 ≤ li ∧ li ≤ 9
                · refine xg_t (xg_ifF (u := (if 1 ≤ li ∧ li ≤ 9 then 1 else 0)) rfl xnm0 (xj_eqF (xite1 hc62))) ?_
                  refine xg_t (xg_iload (va := (0, ho)) rfl rfl) ?_
                  refine xg_t (xg_const) ?_
                  refine xg_t (xg_sip) ?_
                  refine xg_t (xg_cSr mX11_isIn (vs := [(0, ho), (0, 1), (0, 999)]) (rest := []) (rs := [(0, if 1 ≤ ho ∧ ho ≤ 999 then 1 else 0)]) (cn1 := 0) (sl1 := 0) rfl (isIn_ok (by omega) (by omega) (by omega)) rfl rfl rfl rfl rfl rfl rfl rfl) ?_
                  by_cases hc63 : 1 ≤ ho ∧ ho ≤ 999
                  · refine xg_t (xg_ifT (u := (if 1 ≤ ho ∧ ho ≤ 999 then 1 else 0)) rfl xnm0 (xj_neT (xite1 hc63))) ?_
                    refine xg_t (xg_blk (b := [(102, 2, 0, 7, 0, 0), (104, 3, 13, 286, 40, 209), (107, 2, 15, 9, 0, 0), (109, 2, 0, 7, 0, 0), (111, 2, 2, 9, 0, 0), (113, 1, 3, 0, 0, 0), (114, 1, 2, 1, 0, 0), (115, 3, 13, 290, 40, 212), (118, 2, 0, 7, 0, 0), (120, 2, 2, 9, 0, 0), (122, 1, 3, 1, 0, 0), (123, 1, 2, 2, 0, 0), (124, 3, 13, 290, 40, 212), (127, 2, 0, 7, 0, 0), (129, 2, 2, 9, 0, 0), (131, 1, 3, 2, 0, 0), (132, 1, 2, 3, 0, 0), (133, 3, 13, 290, 40, 212), (136, 2, 0, 7, 0, 0), (138, 2, 2, 9, 0, 0), (140, 1, 3, 3, 0, 0), (141, 2, 2, 4, 0, 0), (143, 3, 13, 290, 40, 212), (146, 2, 0, 7, 0, 0), (148, 2, 2, 9, 0, 0), (150, 1, 3, 4, 0, 0), (151, 2, 2, 5, 0, 0), (153, 2, 2, 6, 0, 0), (155, 1, 16, 0, 0, 0), (156, 3, 13, 290, 40, 212), (159, 1, 0, 0, 0, 0), (160, 3, 1, 11, 6, 59), (163, 3, 13, 259, 24, 258), (166, 2, 0, 7, 0, 0), (168, 3, 1, 5, 3, 151), (171, 1, 12, 0, 1, 0)]) rfl) ?_
                    refine xg_t (xg_aload (va := (2, 16)) rfl rfl) ?_
                    refine xg_cV mX5_grow (vs := []) (rest := []) (rs := [(0, f16_26)]) (cn1 := 0) (sl1 := 0) rfl (rgrowX h16_28 (by decide) (by omega)) rfl h16_28 rfl rfl rfl rfl rfl rfl rfl (fun w64 hq65 => ?_)
                    refine xg_t (xg_istore (l1 := [(8, (0, 1)), (7, (2, 16)), (0, (2, 0)), (1, (0, pa)), (2, (0, pb)), (3, (0, pc_)), (4, (0, pd)), (5, (0, li)), (6, (0, ho))]) rfl rfl rfl) ?_
                    refine xg_t (xg_aload (va := (2, 16)) rfl rfl) ?_
                    refine xg_t (xg_iload (va := (0, f16_26)) rfl rfl) ?_
                    refine xg_t (xg_const) ?_
                    refine xg_t (xg_iload (va := (0, pa)) rfl rfl) ?_
                    refine xg_cVv mX5_put (vs := [(0, f16_26), (0, 0), (0, pa)]) (rest := []) (cn1 := 0) (sl1 := 0) rfl (rputX (lim := 12) (wd := 5) (B := 4294967295) hq65.1 (h17_30.but hq65.2 (by decide)) (hb31) (by decide) (by omega) (by decide) (by decide) (by omega) (by decide) (by omega)) rfl hq65.1 rfl rfl rfl rfl rfl rfl (fun w66 hq67 => ?_)
                    obtain ⟨g68, hr69, hb70, he72, hk73, hb71⟩ := hq67
                    refine xg_t (xg_aload (va := (2, 16)) rfl rfl) ?_
                    refine xg_t (xg_iload (va := (0, f16_26)) rfl rfl) ?_
                    refine xg_t (xg_const) ?_
                    refine xg_t (xg_iload (va := (0, pb)) rfl rfl) ?_
                    refine xg_cVv mX5_put (vs := [(0, f16_26), (0, 1), (0, pb)]) (rest := []) (cn1 := 0) (sl1 := 0) rfl (rputX (lim := 12) (wd := 5) (B := 4294967295) (hb71.get (by decide) hq65.1) hr69 (hb70) (by decide) (by omega) (by decide) (by decide) (by omega) (by decide) (by omega)) rfl (hb71.get (by decide) hq65.1) rfl rfl rfl rfl rfl rfl (fun w74 hq75 => ?_)
                    obtain ⟨g76, hr77, hb78, he80, hk81, hb79⟩ := hq75
                    refine xg_t (xg_aload (va := (2, 16)) rfl rfl) ?_
                    refine xg_t (xg_iload (va := (0, f16_26)) rfl rfl) ?_
                    refine xg_t (xg_const) ?_
                    refine xg_t (xg_iload (va := (0, pc_)) rfl rfl) ?_
                    refine xg_cVv mX5_put (vs := [(0, f16_26), (0, 2), (0, pc_)]) (rest := []) (cn1 := 0) (sl1 := 0) rfl (rputX (lim := 12) (wd := 5) (B := 4294967295) (hb79.get (by decide) (hb71.get (by decide) hq65.1)) hr77 (hb78) (by decide) (by omega) (by decide) (by decide) (by omega) (by decide) (by omega)) rfl (hb79.get (by decide) (hb71.get (by decide) hq65.1)) rfl rfl rfl rfl rfl rfl (fun w82 hq83 => ?_)
                    obtain ⟨g84, hr85, hb86, he88, hk89, hb87⟩ := hq83
                    refine xg_t (xg_aload (va := (2, 16)) rfl rfl) ?_
                    refine xg_t (xg_iload (va := (0, f16_26)) rfl rfl) ?_
                    refine xg_t (xg_const) ?_
                    refine xg_t (xg_iload (va := (0, pd)) rfl rfl) ?_
                    refine xg_cVv mX5_put (vs := [(0, f16_26), (0, 3), (0, pd)]) (rest := []) (cn1 := 0) (sl1 := 0) rfl (rputX (lim := 12) (wd := 5) (B := 4294967295) (hb87.get (by decide) (hb79.get (by decide) (hb71.get (by decide) hq65.1))) hr85 (hb86) (by decide) (by omega) (by decide) (by decide) (by omega) (by decide) (by omega)) rfl (hb87.get (by decide) (hb79.get (by decide) (hb71.get (by decide) hq65.1))) rfl rfl rfl rfl rfl rfl (fun w90 hq91 => ?_)
                    obtain ⟨g92, hr93, hb94, he96, hk97, hb95⟩ := hq91
                    refine xg_t (xg_aload (va := (2, 16)) rfl rfl) ?_
                    refine xg_t (xg_iload (va := (0, f16_26)) rfl rfl) ?_
                    refine xg_t (xg_const) ?_
                    refine xg_t (xg_iload (va := (0, li)) rfl rfl) ?_
                    refine xg_t (xg_iload (va := (0, ho)) rfl rfl) ?_
                    have hm98 : li * ho ≤ 9 * 999 := Nat.mul_le_mul (by omega) (by omega)
                    refine xg_t (xg_imul (u := li) (v := ho) (z := li * ho) xnm0 xnm0 (Nat.mod_eq_of_lt (by omega))) ?_
                    refine xg_cVv mX5_put (vs := [(0, f16_26), (0, 4), (0, li * ho)]) (rest := []) (cn1 := 0) (sl1 := 0) rfl (rputX (lim := 12) (wd := 5) (B := 4294967295) (hb95.get (by decide) (hb87.get (by decide) (hb79.get (by decide) (hb71.get (by decide) hq65.1)))) hr93 (hb94) (by decide) (by omega) (by decide) (by decide) (by omega) (by decide) (by omega)) rfl (hb95.get (by decide) (hb87.get (by decide) (hb79.get (by decide) (hb71.get (by decide) hq65.1)))) rfl rfl rfl rfl rfl rfl (fun w99 hq100 => ?_)
                    obtain ⟨g101, hr102, hb103, he105, hk106, hb104⟩ := hq100
                    refine xg_t (xg_aload (va := (2, 0)) rfl rfl) ?_
                    refine xg_t (xg_getf (va := (2, 68)) (hb104.get (by decide) (hb95.get (by decide) (hb87.get (by decide) (hb79.get (by decide) (hb71.get (by decide) (hq65.2.get (by decide) h0_1)))))) rfl) ?_
                    obtain ⟨f68_107, f68_109, h68_111, hb108, hb110⟩ := (hI 68 (by decide) : cp68 (wget w 68))
                    refine xg_cVv mX3_forgetAges (vs := []) (rest := []) (cn1 := 0) (sl1 := 0) rfl (lmForgetAE (xInv.up (S := [16, 17]) hI ((((((xFr.of (S := [16, 17]) hq65.2 (by decide)).tr (xFr.of (S := [16, 17]) hb71 (by decide))).tr (xFr.of (S := [16, 17]) hb79 (by decide))).tr (xFr.of (S := [16, 17]) hb87 (by decide))).tr (xFr.of (S := [16, 17]) hb95 (by decide))).tr (xFr.of (S := [16, 17]) hb104 (by decide))) (List.forall_mem_cons.mpr ⟨(show cp16 (wget w99 16) from ⟨(f16_26 + 1), (hb104.get (by decide) (hb95.get (by decide) (hb87.get (by decide) (hb79.get (by decide) (hb71.get (by decide) hq65.1))))), by omega⟩), List.forall_mem_cons.mpr ⟨(show cpI 60 7 4294967295 (wget w99 17) from ⟨_, hr102, hb103⟩), fun _ h => absurd h List.not_mem_nil⟩⟩))) rfl (hb104.get (by decide) (hb95.get (by decide) (hb87.get (by decide) (hb79.get (by decide) (hb71.get (by decide) (hq65.2.get (by decide) h68_111)))))) rfl rfl rfl rfl rfl rfl (fun w112 hq113 => ?_)
                    obtain ⟨hI114, hF115, hx116⟩ := hq113
                    refine xg_t (xg_aload (va := (2, 16)) rfl rfl) ?_
                    refine xg_t (xg_getf (va := (0, (f16_26 + 1))) (hF115.get (by decide) (hb104.get (by decide) (hb95.get (by decide) (hb87.get (by decide) (hb79.get (by decide) (hb71.get (by decide) hq65.1)))))) rfl) ?_
                    have hq117 : fld w 3 7 = f3_19 := fld_of h3_25
                    have hq118 : fld w112 3 7 = f3_19 := fld_of (hF115.get (by decide) (hb104.get (by decide) (hb95.get (by decide) (hb87.get (by decide) (hb79.get (by decide) (hb71.get (by decide) (hq65.2.get (by decide) h3_25)))))))
                    have hq119 : fld w 3 8 = f3_21 := fld_of h3_25
                    have hq120 : fld w112 3 8 = f3_21 := fld_of (hF115.get (by decide) (hb104.get (by decide) (hb95.get (by decide) (hb87.get (by decide) (hb79.get (by decide) (hb71.get (by decide) (hq65.2.get (by decide) h3_25)))))))
                    have hq121 : fld w 16 3 = f16_26 := fld_of h16_28
                    have hq122 : fld w112 16 3 = (f16_26 + 1) := fld_of (hF115.get (by decide) (hb104.get (by decide) (hb95.get (by decide) (hb87.get (by decide) (hb79.get (by decide) (hb71.get (by decide) hq65.1))))))
                    have hq124 : 5 * fld w 16 3 = f16_26 * 5 + 0 := by omega
                    have hq123 : rwv w112 17 (5 * fld w 16 3) = pa := by
                      rw [hq124, rwv_of (hr102.fr hF115 (by decide)) (by omega), hk106 _ (by omega), hk97 _ (by omega), hk89 _ (by omega), hk81 _ (by omega), he72]
                    have hq126 : 5 * fld w 16 3 + 1 = f16_26 * 5 + 1 := by omega
                    have hq125 : rwv w112 17 (5 * fld w 16 3 + 1) = pb := by
                      rw [hq126, rwv_of (hr102.fr hF115 (by decide)) (by omega), hk106 _ (by omega), hk97 _ (by omega), hk89 _ (by omega), he80]
                    have hq128 : 5 * fld w 16 3 + 2 = f16_26 * 5 + 2 := by omega
                    have hq127 : rwv w112 17 (5 * fld w 16 3 + 2) = pc_ := by
                      rw [hq128, rwv_of (hr102.fr hF115 (by decide)) (by omega), hk106 _ (by omega), hk97 _ (by omega), he88]
                    have hq130 : 5 * fld w 16 3 + 3 = f16_26 * 5 + 3 := by omega
                    have hq129 : rwv w112 17 (5 * fld w 16 3 + 3) = pd := by
                      rw [hq130, rwv_of (hr102.fr hF115 (by decide)) (by omega), hk106 _ (by omega), he96]
                    have hq132 : 5 * fld w 16 3 + 4 = f16_26 * 5 + 4 := by omega
                    have hq131 : rwv w112 17 (5 * fld w 16 3 + 4) = li * ho := by
                      rw [hq132, rwv_of (hr102.fr hF115 (by decide)) (by omega), he105]
                    exact xg_e ⟨(f16_26 + 1), w112, ⟨rfl, rfl⟩, ⟨Or.inl ⟨by omega, by omega, by omega, by omega, hx116⟩, fun _ => ⟨hq123, hq125, hq127, hq129, hq131⟩, fun j hj h => (rwv_of (hr102.fr hF115 (by decide)) h).trans (Eq.trans (by rw [hk106 j (by omega), hk97 j (by omega), hk89 j (by omega), hk81 j (by omega), hk73 j (by omega)]) (rwv_of h17_30 h).symm)⟩, hI114, (((((((xFr.of (S := [16, 17, 68]) hq65.2 (by decide)).tr (xFr.of (S := [16, 17, 68]) hb71 (by decide))).tr (xFr.of (S := [16, 17, 68]) hb79 (by decide))).tr (xFr.of (S := [16, 17, 68]) hb87 (by decide))).tr (xFr.of (S := [16, 17, 68]) hb95 (by decide))).tr (xFr.of (S := [16, 17, 68]) hb104 (by decide))).tr (hF115.up (by decide)))⟩
                  · refine xg_t (xg_ifF (u := (if 1 ≤ ho ∧ ho ≤ 999 then 1 else 0)) rfl xnm0 (xj_neF (xite0 hc63))) ?_
                    refine xg_t (xg_blk (b := [(100, 1, 3, 4294967295, 0, 0), (101, 1, 12, 0, 1, 0)]) rfl) ?_
                    refine xg_t (xg_const) ?_
                    have hq133 : fld w 3 7 = f3_19 := fld_of h3_25
                    have hq134 : fld w 3 8 = f3_21 := fld_of h3_25
                    have hq135 : fld w 16 3 = f16_26 := fld_of h16_28
                    exact xg_e ⟨4294967295, w, ⟨rfl, rfl⟩, ⟨Or.inr ⟨by omega, by omega, rfl⟩, fun h => absurd h (by omega), fun j _ _ => rfl⟩, hI, xFr.rf⟩
                · refine xg_t (xg_ifT (u := (if 1 ≤ li ∧ li ≤ 9 then 1 else 0)) rfl xnm0 (xj_eqT (xite0 hc62))) ?_
                  refine xg_t (xg_blk (b := [(100, 1, 3, 4294967295, 0, 0), (101, 1, 12, 0, 1, 0)]) rfl) ?_
                  refine xg_t (xg_const) ?_
                  have hq136 : fld w 3 7 = f3_19 := fld_of h3_25
                  have hq137 : fld w 3 8 = f3_21 := fld_of h3_25
                  have hq138 : fld w 16 3 = f16_26 := fld_of h16_28
                  exact xg_e ⟨4294967295, w, ⟨rfl, rfl⟩, ⟨Or.inr ⟨by omega, by omega, rfl⟩, fun h => absurd h (by omega), fun j _ _ => rfl⟩, hI, xFr.rf⟩
            · refine xg_t (xg_icT (u := pd) (v := f3_21) rfl xnm0 xnm0 (xj_geT (by omega) (by omega))) ?_
              refine xg_t (xg_blk (b := [(61, 1, 3, 0, 0, 0)]) rfl) ?_
              refine xg_t (xg_const) ?_
              refine xg_t (xg_blk (b := [(62, 2, 15, 8, 0, 0), (64, 2, 0, 7, 0, 0), (66, 3, 13, 289, 40, 198), (69, 3, 7, 100, 1, 0), (72, 2, 2, 8, 0, 0), (74, 3, 7, 100, 0, 0), (77, 2, 2, 5, 0, 0), (79, 1, 3, 1, 0, 0), (80, 2, 4, 9, 0, 0), (82, 3, 13, 70, 90, 238), (85, 3, 7, 100, 0, 0), (88, 2, 2, 6, 0, 0), (90, 1, 3, 1, 0, 0), (91, 3, 5, 999, 0, 0), (94, 3, 13, 70, 90, 238), (97, 3, 7, 102, 1, 0)]) rfl) ?_
              refine xg_t (xg_istore (l1 := [(7, (2, 16)), (0, (2, 0)), (1, (0, pa)), (2, (0, pb)), (3, (0, pc_)), (4, (0, pd)), (5, (0, li)), (6, (0, ho))]) rfl rfl rfl) ?_
              refine xg_t (xg_aload (va := (2, 16)) rfl rfl) ?_
              refine xg_t (xg_cVr mX5_isFull (vs := []) (rest := []) (rs := [(0, if 12 ≤ f16_26 then 1 else 0)]) (cn1 := 0) (sl1 := 0) rfl (rfull_ok h16_28 (by decide) (by omega)) rfl h16_28 rfl rfl rfl rfl rfl rfl rfl) ?_
              by_cases hc139 : 12 ≤ f16_26
              · refine xg_t (xg_ifT (u := (if 12 ≤ f16_26 then 1 else 0)) rfl xnm0 (xj_neT (xite1 hc139))) ?_
                refine xg_t (xg_blk (b := [(100, 1, 3, 4294967295, 0, 0), (101, 1, 12, 0, 1, 0)]) rfl) ?_
                refine xg_t (xg_const) ?_
                have hq140 : fld w 3 7 = f3_19 := fld_of h3_25
                have hq141 : fld w 3 8 = f3_21 := fld_of h3_25
                have hq142 : fld w 16 3 = f16_26 := fld_of h16_28
                exact xg_e ⟨4294967295, w, ⟨rfl, rfl⟩, ⟨Or.inr ⟨by omega, by omega, rfl⟩, fun h => absurd h (by omega), fun j _ _ => rfl⟩, hI, xFr.rf⟩
              · refine xg_t (xg_ifF (u := (if 12 ≤ f16_26 then 1 else 0)) rfl xnm0 (xj_neF (xite0 hc139))) ?_
                refine xg_t (xg_iload (va := (0, 0)) rfl rfl) ?_
                refine xg_t (xg_ifT (u := 0) rfl xnm0 (by decide)) ?_
                refine xg_t (xg_blk (b := [(100, 1, 3, 4294967295, 0, 0), (101, 1, 12, 0, 1, 0)]) rfl) ?_
                refine xg_t (xg_const) ?_
                have hq143 : fld w 3 7 = f3_19 := fld_of h3_25
                have hq144 : fld w 3 8 = f3_21 := fld_of h3_25
                have hq145 : fld w 16 3 = f16_26 := fld_of h16_28
                exact xg_e ⟨4294967295, w, ⟨rfl, rfl⟩, ⟨Or.inr ⟨by omega, by omega, rfl⟩, fun h => absurd h (by omega), fun j _ _ => rfl⟩, hI, xFr.rf⟩
        · refine xg_t (xg_ifT (u := pc_) rfl xnm0 (xjz_ltT (by omega) (by omega))) ?_
          refine xg_t (xg_blk (b := [(61, 1, 3, 0, 0, 0)]) rfl) ?_
          refine xg_t (xg_const) ?_
          refine xg_t (xg_blk (b := [(62, 2, 15, 8, 0, 0), (64, 2, 0, 7, 0, 0), (66, 3, 13, 289, 40, 198), (69, 3, 7, 100, 1, 0), (72, 2, 2, 8, 0, 0), (74, 3, 7, 100, 0, 0), (77, 2, 2, 5, 0, 0), (79, 1, 3, 1, 0, 0), (80, 2, 4, 9, 0, 0), (82, 3, 13, 70, 90, 238), (85, 3, 7, 100, 0, 0), (88, 2, 2, 6, 0, 0), (90, 1, 3, 1, 0, 0), (91, 3, 5, 999, 0, 0), (94, 3, 13, 70, 90, 238), (97, 3, 7, 102, 1, 0)]) rfl) ?_
          refine xg_t (xg_istore (l1 := [(7, (2, 16)), (0, (2, 0)), (1, (0, pa)), (2, (0, pb)), (3, (0, pc_)), (4, (0, pd)), (5, (0, li)), (6, (0, ho))]) rfl rfl rfl) ?_
          refine xg_t (xg_aload (va := (2, 16)) rfl rfl) ?_
          refine xg_t (xg_cVr mX5_isFull (vs := []) (rest := []) (rs := [(0, if 12 ≤ f16_26 then 1 else 0)]) (cn1 := 0) (sl1 := 0) rfl (rfull_ok h16_28 (by decide) (by omega)) rfl h16_28 rfl rfl rfl rfl rfl rfl rfl) ?_
          by_cases hc146 : 12 ≤ f16_26
          · refine xg_t (xg_ifT (u := (if 12 ≤ f16_26 then 1 else 0)) rfl xnm0 (xj_neT (xite1 hc146))) ?_
            refine xg_t (xg_blk (b := [(100, 1, 3, 4294967295, 0, 0), (101, 1, 12, 0, 1, 0)]) rfl) ?_
            refine xg_t (xg_const) ?_
            have hq147 : fld w 3 7 = f3_19 := fld_of h3_25
            have hq148 : fld w 3 8 = f3_21 := fld_of h3_25
            have hq149 : fld w 16 3 = f16_26 := fld_of h16_28
            exact xg_e ⟨4294967295, w, ⟨rfl, rfl⟩, ⟨Or.inr ⟨by omega, by omega, rfl⟩, fun h => absurd h (by omega), fun j _ _ => rfl⟩, hI, xFr.rf⟩
          · refine xg_t (xg_ifF (u := (if 12 ≤ f16_26 then 1 else 0)) rfl xnm0 (xj_neF (xite0 hc146))) ?_
            refine xg_t (xg_iload (va := (0, 0)) rfl rfl) ?_
            refine xg_t (xg_ifT (u := 0) rfl xnm0 (by decide)) ?_
            refine xg_t (xg_blk (b := [(100, 1, 3, 4294967295, 0, 0), (101, 1, 12, 0, 1, 0)]) rfl) ?_
            refine xg_t (xg_const) ?_
            have hq150 : fld w 3 7 = f3_19 := fld_of h3_25
            have hq151 : fld w 3 8 = f3_21 := fld_of h3_25
            have hq152 : fld w 16 3 = f16_26 := fld_of h16_28
            exact xg_e ⟨4294967295, w, ⟨rfl, rfl⟩, ⟨Or.inr ⟨by omega, by omega, rfl⟩, fun h => absurd h (by omega), fun j _ _ => rfl⟩, hI, xFr.rf⟩
      · refine xg_t (xg_icT (u := pb) (v := f3_19) rfl xnm0 xnm0 (xj_geT (by omega) (by omega))) ?_
        refine xg_t (xg_blk (b := [(61, 1, 3, 0, 0, 0)]) rfl) ?_
        refine xg_t (xg_const) ?_
        refine xg_t (xg_blk (b := [(62, 2, 15, 8, 0, 0), (64, 2, 0, 7, 0, 0), (66, 3, 13, 289, 40, 198), (69, 3, 7, 100, 1, 0), (72, 2, 2, 8, 0, 0), (74, 3, 7, 100, 0, 0), (77, 2, 2, 5, 0, 0), (79, 1, 3, 1, 0, 0), (80, 2, 4, 9, 0, 0), (82, 3, 13, 70, 90, 238), (85, 3, 7, 100, 0, 0), (88, 2, 2, 6, 0, 0), (90, 1, 3, 1, 0, 0), (91, 3, 5, 999, 0, 0), (94, 3, 13, 70, 90, 238), (97, 3, 7, 102, 1, 0)]) rfl) ?_
        refine xg_t (xg_istore (l1 := [(7, (2, 16)), (0, (2, 0)), (1, (0, pa)), (2, (0, pb)), (3, (0, pc_)), (4, (0, pd)), (5, (0, li)), (6, (0, ho))]) rfl rfl rfl) ?_
        refine xg_t (xg_aload (va := (2, 16)) rfl rfl) ?_
        refine xg_t (xg_cVr mX5_isFull (vs := []) (rest := []) (rs := [(0, if 12 ≤ f16_26 then 1 else 0)]) (cn1 := 0) (sl1 := 0) rfl (rfull_ok h16_28 (by decide) (by omega)) rfl h16_28 rfl rfl rfl rfl rfl rfl rfl) ?_
        by_cases hc153 : 12 ≤ f16_26
        · refine xg_t (xg_ifT (u := (if 12 ≤ f16_26 then 1 else 0)) rfl xnm0 (xj_neT (xite1 hc153))) ?_
          refine xg_t (xg_blk (b := [(100, 1, 3, 4294967295, 0, 0), (101, 1, 12, 0, 1, 0)]) rfl) ?_
          refine xg_t (xg_const) ?_
          have hq154 : fld w 3 7 = f3_19 := fld_of h3_25
          have hq155 : fld w 3 8 = f3_21 := fld_of h3_25
          have hq156 : fld w 16 3 = f16_26 := fld_of h16_28
          exact xg_e ⟨4294967295, w, ⟨rfl, rfl⟩, ⟨Or.inr ⟨by omega, by omega, rfl⟩, fun h => absurd h (by omega), fun j _ _ => rfl⟩, hI, xFr.rf⟩
        · refine xg_t (xg_ifF (u := (if 12 ≤ f16_26 then 1 else 0)) rfl xnm0 (xj_neF (xite0 hc153))) ?_
          refine xg_t (xg_iload (va := (0, 0)) rfl rfl) ?_
          refine xg_t (xg_ifT (u := 0) rfl xnm0 (by decide)) ?_
          refine xg_t (xg_blk (b := [(100, 1, 3, 4294967295, 0, 0), (101, 1, 12, 0, 1, 0)]) rfl) ?_
          refine xg_t (xg_const) ?_
          have hq157 : fld w 3 7 = f3_19 := fld_of h3_25
          have hq158 : fld w 3 8 = f3_21 := fld_of h3_25
          have hq159 : fld w 16 3 = f16_26 := fld_of h16_28
          exact xg_e ⟨4294967295, w, ⟨rfl, rfl⟩, ⟨Or.inr ⟨by omega, by omega, rfl⟩, fun h => absurd h (by omega), fun j _ _ => rfl⟩, hI, xFr.rf⟩
  · refine xg_t (xg_ifT (u := pa) rfl xnm0 (xjz_ltT (by omega) (by omega))) ?_
    refine xg_t (xg_blk (b := [(61, 1, 3, 0, 0, 0)]) rfl) ?_
    refine xg_t (xg_const) ?_
    refine xg_t (xg_blk (b := [(62, 2, 15, 8, 0, 0), (64, 2, 0, 7, 0, 0), (66, 3, 13, 289, 40, 198), (69, 3, 7, 100, 1, 0), (72, 2, 2, 8, 0, 0), (74, 3, 7, 100, 0, 0), (77, 2, 2, 5, 0, 0), (79, 1, 3, 1, 0, 0), (80, 2, 4, 9, 0, 0), (82, 3, 13, 70, 90, 238), (85, 3, 7, 100, 0, 0), (88, 2, 2, 6, 0, 0), (90, 1, 3, 1, 0, 0), (91, 3, 5, 999, 0, 0), (94, 3, 13, 70, 90, 238), (97, 3, 7, 102, 1, 0)]) rfl) ?_
    refine xg_t (xg_istore (l1 := [(7, (2, 16)), (0, (2, 0)), (1, (0, pa)), (2, (0, pb)), (3, (0, pc_)), (4, (0, pd)), (5, (0, li)), (6, (0, ho))]) rfl rfl rfl) ?_
    refine xg_t (xg_aload (va := (2, 16)) rfl rfl) ?_
    refine xg_t (xg_cVr mX5_isFull (vs := []) (rest := []) (rs := [(0, if 12 ≤ f16_26 then 1 else 0)]) (cn1 := 0) (sl1 := 0) rfl (rfull_ok h16_28 (by decide) (by omega)) rfl h16_28 rfl rfl rfl rfl rfl rfl rfl) ?_
    by_cases hc160 : 12 ≤ f16_26
    · refine xg_t (xg_ifT (u := (if 12 ≤ f16_26 then 1 else 0)) rfl xnm0 (xj_neT (xite1 hc160))) ?_
      refine xg_t (xg_blk (b := [(100, 1, 3, 4294967295, 0, 0), (101, 1, 12, 0, 1, 0)]) rfl) ?_
      refine xg_t (xg_const) ?_
      have hq161 : fld w 3 7 = f3_19 := fld_of h3_25
      have hq162 : fld w 3 8 = f3_21 := fld_of h3_25
      have hq163 : fld w 16 3 = f16_26 := fld_of h16_28
      exact xg_e ⟨4294967295, w, ⟨rfl, rfl⟩, ⟨Or.inr ⟨by omega, by omega, rfl⟩, fun h => absurd h (by omega), fun j _ _ => rfl⟩, hI, xFr.rf⟩
    · refine xg_t (xg_ifF (u := (if 12 ≤ f16_26 then 1 else 0)) rfl xnm0 (xj_neF (xite0 hc160))) ?_
      refine xg_t (xg_iload (va := (0, 0)) rfl rfl) ?_
      refine xg_t (xg_ifT (u := 0) rfl xnm0 (by decide)) ?_
      refine xg_t (xg_blk (b := [(100, 1, 3, 4294967295, 0, 0), (101, 1, 12, 0, 1, 0)]) rfl) ?_
      refine xg_t (xg_const) ?_
      have hq164 : fld w 3 7 = f3_19 := fld_of h3_25
      have hq165 : fld w 3 8 = f3_21 := fld_of h3_25
      have hq166 : fld w 16 3 = f16_26 := fld_of h16_28
      exact xg_e ⟨4294967295, w, ⟨rfl, rfl⟩, ⟨Or.inr ⟨by omega, by omega, rfl⟩, fun h => absurd h (by omega), fun j _ _ => rfl⟩, hI, xFr.rf⟩
end XER
