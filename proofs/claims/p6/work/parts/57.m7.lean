section
/-! the model: blocks, what bends -/
theorem bl_cp {H U : Nat → Nat} {n p z : Nat} (hV : ∀ q, q < n → 1 ≤ U (H q) ∧ U (H q) ≤ 117612) (hW : ∀ q, q < p → 1 ≤ U q ∧ U q ≤ 117612) (z1 : 1 ≤ z) (z2 : z ≤ 117612) : (∀ q, q < n → 1 ≤ (fun j => if j = p then z else U j) (H q) ∧ (fun j => if j = p then z else U j) (H q) ≤ 117612) ∧ ∀ q, q < p + 1 → 1 ≤ (fun j => if j = p then z else U j) q ∧ (fun j => if j = p then z else U j) q ≤ 117612 := by
  refine ⟨fun q hq => ?_, fun q hq => ?_⟩
  · show 1 ≤ (if H q = p then z else U (H q)) ∧ (if H q = p then z else U (H q)) ≤ 117612
    split
    · exact ⟨z1, z2⟩
    · exact hV q hq
  · show 1 ≤ (if q = p then z else U q) ∧ (if q = p then z else U q) ≤ 117612
    split
    · exact ⟨z1, z2⟩
    · exact hW q (by omega)
section XM7
variable {d : Nat} {w : List (List xE)} {bd : List (Nat × Nat)} {fc : List (Nat × Nat × Bool)} {rr : Nat × Nat}
theorem mBlocks {o0 g0 : Nat → Nat} (hI : xMnv w) (hR88 : xRow w 88 6 55 o0) (hob : ∀ j, o0 j ≤ 5) (hR83 : xRow w 83 5360 50 g0) (hgb : ∀ j, g0 j ≤ 4294967295) (hok : okA g0) (hord : ∀ q, q < g0 0 → o0 q < g0 0) : xPq (d + 1) mX12_blocks [(2, 82)] w bd fc rr [] (fun w' => xMnv w' ∧ xFr [90, 91, 92, 93, 94] w w' ∧ (∃ U : Nat → Nat, xRk 3 4 w' 93 6 60 U ∧ ∀ q, q < g0 0 → 1 ≤ U q ∧ U q ≤ 117612)) := by
  refine xPq.of ?_
  show xTo (d + 1) mX12_blocks (0, [], [(0, (2, 82))], [], (w, bd, fc, 0, 0, rr)) (fun φ => ∃ w', xEnd 0 [] (w', bd, fc, 0, 0, rr) φ ∧ xMnv w' ∧ xFr [90, 91, 92, 93, 94] w w' ∧ (∃ U : Nat → Nat, xRk 3 4 w' 93 6 60 U ∧ ∀ q, q < g0 0 → 1 ≤ U q ∧ U q ≤ 117612))
  refine xoCh82 (xqc82 hI : cp82 (wget w 82)) (fun f82_1 f82_3 f82_5 f82_7 f82_9 f82_11 f82_13 f82_15 f82_17 f82_19 f82_21 f82_22 f82_23 f82_25 f82_27 f82_29 h82_31 hb2 hb4 hb6 hb8 hb10 hb12 hb14 hb16 hb18 hb20 hb24 hb26 hb28 hb30 hb32 => ?_)
  refine xg_t (xg_blq rfl) ?_
  refine xg_t (xg_const) ?_
  refine xg_t (xg_istore (l1 := [(0, (2, 82))]) rfl rfl rfl) ?_
  refine xg_t (xg_const) ?_
  refine xg_t (xg_istore (l1 := [(1, (0, 0)), (0, (2, 82))]) rfl rfl rfl) ?_
  refine xg_t (xg_drop (l1 := [(0, (2, 82)), (1, (0, 0)), (2, (0, 0))]) (List.forall_mem_cons.mpr ⟨List.mem_cons_of_mem _ (List.mem_cons_of_mem _ (List.mem_cons_self)), List.forall_mem_cons.mpr ⟨List.mem_cons_of_mem _ (List.mem_cons_self), List.forall_mem_cons.mpr ⟨List.mem_cons_self, fun _ h => absurd h List.not_mem_nil⟩⟩⟩)) ?_
  refine xoI (xqc91 hI : cpI 6 58 5 (wget w 91)) (fun g91_39 h91_40 hb41 => ?_)
  obtain ⟨g93_42, h93_43⟩ := (xqc93 hI : cpJ 6 60 (wget w 93))
  have h93_43 : xRk 3 4 w 93 6 60 g93_42 := h93_43
  have key33 : ∀ (m35 : Nat) (hh pi_ : Nat) (w36 : List (List xE)), 6 - pi_ < m35 → hh ≤ 4294967295 → pi_ ≤ 6 → xMnv w36 → xFr [90, 91, 92, 93, 94] w w36 → (∃ H U : Nat → Nat, xRow w36 91 6 58 H ∧ (∀ j, H j ≤ 5) ∧ xRk 3 4 w36 93 6 60 U ∧ ∀ q, q < pi_ → H q < pi_ ∧ 1 ≤ U (H q) ∧ U (H q) ≤ 19602 * pi_) → xTo (d + 1) mX12_blocks (4, [], [(0, (2, 82)), (1, (0, hh)), (2, (0, pi_))], [], (w36, bd, fc, 0, 0, rr)) (fun φ => ∃ w', xEnd 0 [] (w', bd, fc, 0, 0, rr) φ ∧ xMnv w' ∧ xFr [90, 91, 92, 93, 94] w w' ∧ (∃ U : Nat → Nat, xRk 3 4 w' 93 6 60 U ∧ ∀ q, q < g0 0 → 1 ≤ U q ∧ U q ≤ 117612)) := by
    intro m35
    induction m35 with
    | zero => intro hh pi_ w36 hz; exact absurd hz (Nat.not_lt_zero _)
    | succ m35 ih34 =>
      intro hh pi_ w36 hm48 hn45 hn46 hI37 hF38 he47
      obtain ⟨H49, U50, hr51, hb52, hr53, hB54⟩ := he47
      refine xg_t (xg_blq rfl) ?_
      refine xg_t (xg_iload (va := (0, pi_)) rfl rfl) ?_
      refine xg_t (xg_aload (va := (2, 82)) rfl rfl) ?_
      refine xg_t (xg_getf (va := (2, 83)) (hF38.get (by decide) h82_31) rfl) ?_
      refine xg_t (xg_const) ?_
      refine xg_ialdB (n := 0) (B := 4294967295) (hR83.fr hF38 (by decide)) (hgb) xnm0 (by first | decide | omega) (fun u55 hu56 he57 => ?_)
      have hl58 : u55 ≤ 6 := by rw [← he57]; exact hok.l0
      by_cases hc59 : pi_ < u55
      · refine xg_t (xg_icF (u := pi_) (v := u55) rfl xnm0 xnm0 (xj_geF hc59 (by omega))) ?_
        refine xg_t (xg_iload (va := (0, pi_)) rfl rfl) ?_
        by_cases hc60 : pi_ = 0
        · refine xg_t (xg_ifT (u := pi_) rfl xnm0 (xj_eqT hc60)) ?_
          refine xg_t (xg_blq rfl) ?_
          refine xg_t (xg_const) ?_
          refine xg_t (xg_goto) ?_
          refine xg_t (xg_blq rfl) ?_
          refine xg_t (xg_istore (l1 := [(0, (2, 82)), (1, (0, hh)), (2, (0, pi_))]) rfl rfl rfl) ?_
          refine xg_t (xg_aload (va := (2, 82)) rfl rfl) ?_
          refine xg_t (xg_getf (va := (2, 91)) (hF38.get (by decide) h82_31) rfl) ?_
          refine xg_t (xg_iload (va := (0, pi_)) rfl rfl) ?_
          refine xg_t (xg_iload (va := (0, 1)) rfl rfl) ?_
          refine xg_t (xg_ifF (u := 1) rfl xnm0 (by decide)) ?_
          refine xg_t (xg_iload (va := (0, pi_)) rfl rfl) ?_
          refine xg_t (xg_goto) ?_
          refine xg_t (xg_blq rfl) ?_
          refine xg_iastK (n := pi_) (u := pi_) hr51 xnm0 xnm0 rfl (by omega) (fun w61 hr62 hb63 => ?_)
          refine xg_t (xg_aload (va := (2, 82)) rfl rfl) ?_
          refine xg_t (xg_getf (va := (2, 90)) (hb63.get (by decide) (hF38.get (by decide) h82_31)) rfl) ?_
          refine xg_t (xg_iload (va := (0, pi_)) rfl rfl) ?_
          refine xg_t (xg_iload (va := (0, hh)) rfl rfl) ?_
          refine xoI (xqc90 hI37 : cpI 6 57 4294967295 (wget w36 90)) (fun g90_64 h90_65 hb66 => ?_)
          refine xg_iastK (n := pi_) (u := hh) (h90_65.but hb63 (by decide)) xnm0 xnm0 rfl (by omega) (fun w67 hr68 hb69 => ?_)
          refine xg_t (xg_iload (va := (0, hh)) rfl rfl) ?_
          refine xg_t (xg_aload (va := (2, 82)) rfl rfl) ?_
          refine xg_t (xg_iload (va := (0, pi_)) rfl rfl) ?_
          refine xg_t (xg_const) ?_
          refine xg_cVi mX12_layerOf (vs := [(0, pi_), (0, 0)]) (rest := [(0, hh)]) (cn1 := 0) (sl1 := 0) rfl (mLayerOf (xMnv.up (S := [91, 90]) hI37 ((xFr.of (S := [91, 90]) hb63 (by decide)).tr (xFr.of (S := [91, 90]) hb69 (by decide))) (List.forall_mem_cons.mpr ⟨xqu91 (show cpI 6 58 5 (wget w67 91) from ⟨_, (hr62.but hb69 (by decide)), xrb (by omega) (hb52)⟩), List.forall_mem_cons.mpr ⟨xqu90 (show cpI 6 57 4294967295 (wget w67 90) from ⟨_, hr68, xrb (by omega) (hb66)⟩), fun _ h => absurd h List.not_mem_nil⟩⟩)) (by omega) (by omega) (((hR88.fr hF38 (by decide)).but hb63 (by decide)).but hb69 (by decide)) hob (((hR83.fr hF38 (by decide)).but hb63 (by decide)).but hb69 (by decide)) hgb hok) rfl (hb69.get (by decide) (hb63.get (by decide) (hF38.get (by decide) h82_31))) rfl rfl rfl rfl rfl rfl (fun n74 w70 hq71 => ?_)
          obtain ⟨hn75, hI72, hF73⟩ := hq71
          have hv76 := hn75.2 (by decide) (hord pi_ (by omega))
          have hv77 := hv76.1
          have hv78 := hv76.2
          refine xg_k (xg_iadd (u := hh) (v := n74) (z := (hh + n74) % 4294967296) xnm0 xnm0 rfl) (Nat.mod_lt _ (by decide)) (fun z79 hz80 => ?_)
          refine xg_t (xg_istore (l1 := [(3, (0, 1)), (0, (2, 82)), (2, (0, pi_))]) rfl rfl rfl) ?_
          refine xg_t (xg_iload (va := (0, 1)) rfl rfl) ?_
          refine xg_t (xg_ifF (u := 1) rfl xnm0 (by decide)) ?_
          refine xg_t (xg_aload (va := (2, 82)) rfl rfl) ?_
          refine xg_t (xg_getf (va := (2, 92)) (hF73.get (by decide) (hb69.get (by decide) (hb63.get (by decide) (hF38.get (by decide) h82_31)))) rfl) ?_
          refine xg_t (xg_iload (va := (0, pi_)) rfl rfl) ?_
          refine xg_t (xg_lconst) ?_
          obtain ⟨g92_81, h92_82⟩ := (xqc92 hI72 : cpJ 6 59 (wget w70 92))
          have h92_82 : xRk 3 4 w70 92 6 59 g92_81 := h92_82
          refine xg_last (n := pi_) (u := 0) h92_82 xnm0 (by omega) (fun w84 hr85 hb86 => ?_)
          refine xg_t (xg_aload (va := (2, 82)) rfl rfl) ?_
          refine xg_t (xg_getf (va := (2, 93)) (hb86.get (by decide) (hF73.get (by decide) (hb69.get (by decide) (hb63.get (by decide) (hF38.get (by decide) h82_31))))) rfl) ?_
          refine xg_t (xg_iload (va := (0, pi_)) rfl rfl) ?_
          refine xg_t (xg_lconst) ?_
          refine xg_last (n := pi_) (u := 0) ((((hr53.but hb63 (by decide)).but hb69 (by decide)).fr hF73 (by decide)).but hb86 (by decide)) xnm0 (by omega) (fun w87 hr88 hb89 => ?_)
          refine xg_t (xg_blq rfl) ?_
          refine xg_t (xg_aload (va := (2, 82)) rfl rfl) ?_
          refine xg_t (xg_iload (va := (0, pi_)) rfl rfl) ?_
          refine xg_t (xg_const) ?_
          refine xg_cVi mX12_layerOf (vs := [(0, pi_), (0, 0)]) (rest := []) (cn1 := 0) (sl1 := 0) rfl (mLayerOf (xMnv.up (S := [92, 93]) hI72 ((xFr.of (S := [92, 93]) hb86 (by decide)).tr (xFr.of (S := [92, 93]) hb89 (by decide))) (List.forall_mem_cons.mpr ⟨xqu92 (show cpJ 6 59 (wget w87 92) from ⟨_, (hr85.but hb89 (by decide))⟩), List.forall_mem_cons.mpr ⟨xqu93 (show cpJ 6 60 (wget w87 93) from ⟨_, hr88⟩), fun _ h => absurd h List.not_mem_nil⟩⟩)) (by omega) (by omega) ((((((hR88.fr hF38 (by decide)).but hb63 (by decide)).but hb69 (by decide)).fr hF73 (by decide)).but hb86 (by decide)).but hb89 (by decide)) hob ((((((hR83.fr hF38 (by decide)).but hb63 (by decide)).but hb69 (by decide)).fr hF73 (by decide)).but hb86 (by decide)).but hb89 (by decide)) hgb hok) rfl (hb89.get (by decide) (hb86.get (by decide) (hF73.get (by decide) (hb69.get (by decide) (hb63.get (by decide) (hF38.get (by decide) h82_31)))))) rfl rfl rfl rfl rfl rfl (fun n94 w90 hq91 => ?_)
          obtain ⟨hn95, hI92, hF93⟩ := hq91
          have hv96 := hn95.2 (by decide) (hord pi_ (by omega))
          have hv97 := hv96.1
          have hv98 := hv96.2
          refine xg_t (xg_aload (va := (2, 82)) rfl rfl) ?_
          refine xg_t (xg_iload (va := (0, pi_)) rfl rfl) ?_
          refine xg_t (xg_const) ?_
          refine xg_cVi mX12_layerOf (vs := [(0, pi_), (0, 1)]) (rest := [(0, n94)]) (cn1 := 0) (sl1 := 0) rfl (mLayerOf (hI92) (by omega) (by omega) (((((((hR88.fr hF38 (by decide)).but hb63 (by decide)).but hb69 (by decide)).fr hF73 (by decide)).but hb86 (by decide)).but hb89 (by decide)).fr hF93 (by decide)) hob (((((((hR83.fr hF38 (by decide)).but hb63 (by decide)).but hb69 (by decide)).fr hF73 (by decide)).but hb86 (by decide)).but hb89 (by decide)).fr hF93 (by decide)) hgb hok) rfl (hF93.get (by decide) (hb89.get (by decide) (hb86.get (by decide) (hF73.get (by decide) (hb69.get (by decide) (hb63.get (by decide) (hF38.get (by decide) h82_31))))))) rfl rfl rfl rfl rfl rfl (fun n103 w99 hq100 => ?_)
          obtain ⟨hn104, hI101, hF102⟩ := hq100
          have hv105 := hn104.2 (by decide) (hord pi_ (by omega))
          have hv106 := hv105.1
          have hv107 := hv105.2
          have hm108 : n94 * n103 ≤ 99 * 99 := Nat.mul_le_mul (by omega) (by omega)
          have hm109 : 1 * 1 ≤ n94 * n103 := Nat.mul_le_mul (by omega) (by omega)
          refine xg_t (xg_imul (u := n94) (v := n103) (z := n94 * n103) xnm0 xnm0 (Nat.mod_eq_of_lt (by omega))) ?_
          refine xg_t (xg_i2l (u := n94 * n103) xnm0) ?_
          refine xg_t (xg_lre (b := n94 * n103) (by rw [xlp_eq]; exact nI_l (by omega))) ?_
          refine xg_t (xg_lstore (l1 := [(1, (0, z79)), (3, (0, 1)), (0, (2, 82)), (2, (0, pi_))]) rfl rfl) ?_
          refine xg_t (xg_aload (va := (2, 82)) rfl rfl) ?_
          refine xg_t (xg_getf (va := (2, 92)) (hF102.get (by decide) (hF93.get (by decide) (hb89.get (by decide) (hb86.get (by decide) (hF73.get (by decide) (hb69.get (by decide) (hb63.get (by decide) (hF38.get (by decide) h82_31)))))))) rfl) ?_
          refine xg_t (xg_aload (va := (2, 82)) rfl rfl) ?_
          refine xg_t (xg_getf (va := (2, 91)) (hF102.get (by decide) (hF93.get (by decide) (hb89.get (by decide) (hb86.get (by decide) (hF73.get (by decide) (hb69.get (by decide) (hb63.get (by decide) (hF38.get (by decide) h82_31)))))))) rfl) ?_
          refine xg_t (xg_iload (va := (0, pi_)) rfl rfl) ?_
          refine xg_ialdB (n := pi_) (B := 5) ((((((hr62.but hb69 (by decide)).fr hF73 (by decide)).but hb86 (by decide)).but hb89 (by decide)).fr hF93 (by decide)).fr hF102 (by decide)) (xrb (by omega) (hb52)) xnm0 (by omega) (fun u110 hu111 he112 => ?_)
          have hx113 : pi_ = u110 := by rw [← he112]; exact (if_pos rfl).symm
          refine xg_t (xg_dup2 rfl) ?_
          refine xg_kl (xg_lald (n := u110) (((hr85.but hb89 (by decide)).fr hF93 (by decide)).fr hF102 (by decide)) xnm0 (by omega) rfl) (fun l114 => ?_)
          refine xg_t (xg_lload (u := n94 * n103) rfl) ?_
          refine xg_t (xg_const) ?_
          refine xg_t (xg_aload (va := (2, 82)) rfl rfl) ?_
          refine xg_t (xg_getf (va := (2, 90)) (hF102.get (by decide) (hF93.get (by decide) (hb89.get (by decide) (hb86.get (by decide) (hF73.get (by decide) (hb69.get (by decide) (hb63.get (by decide) (hF38.get (by decide) h82_31)))))))) rfl) ?_
          refine xg_t (xg_iload (va := (0, pi_)) rfl rfl) ?_
          refine xg_ialdB (n := pi_) (B := 4294967295) (((((hr68.fr hF73 (by decide)).but hb86 (by decide)).but hb89 (by decide)).fr hF93 (by decide)).fr hF102 (by decide)) (xrb (by omega) (hb66)) xnm0 (by omega) (fun u115 hu116 he117 => ?_)
          refine xg_k (xg_imul (u := 2) (v := u115) (z := (2 * u115) % 4294967296) xnm0 xnm0 rfl) (Nat.mod_lt _ (by decide)) (fun z118 hz119 => ?_)
          refine xg_t (xg_aload (va := (2, 82)) rfl rfl) ?_
          refine xg_t (xg_iload (va := (0, pi_)) rfl rfl) ?_
          refine xg_t (xg_const) ?_
          refine xg_cVi mX12_layerOf (vs := [(0, pi_), (0, 0)]) (rest := [(0, z118), (4, n94 * n103), (4, l114), (0, u110), (2, 92)]) (cn1 := 0) (sl1 := 0) rfl (mLayerOf (hI101) (by omega) (by omega) ((((((((hR88.fr hF38 (by decide)).but hb63 (by decide)).but hb69 (by decide)).fr hF73 (by decide)).but hb86 (by decide)).but hb89 (by decide)).fr hF93 (by decide)).fr hF102 (by decide)) hob ((((((((hR83.fr hF38 (by decide)).but hb63 (by decide)).but hb69 (by decide)).fr hF73 (by decide)).but hb86 (by decide)).but hb89 (by decide)).fr hF93 (by decide)).fr hF102 (by decide)) hgb hok) rfl (hF102.get (by decide) (hF93.get (by decide) (hb89.get (by decide) (hb86.get (by decide) (hF73.get (by decide) (hb69.get (by decide) (hb63.get (by decide) (hF38.get (by decide) h82_31)))))))) rfl rfl rfl rfl rfl rfl (fun n124 w120 hq121 => ?_)
          obtain ⟨hn125, hI122, hF123⟩ := hq121
          have hv126 := hn125.2 (by decide) (hord pi_ (by omega))
          have hv127 := hv126.1
          have hv128 := hv126.2
          refine xg_k (xg_iadd (u := z118) (v := n124) (z := (z118 + n124) % 4294967296) xnm0 xnm0 rfl) (Nat.mod_lt _ (by decide)) (fun z129 hz130 => ?_)
          refine xg_kl (xg_i2l (u := z129) xnm0) (fun l131 => ?_)
          refine xg_kl (xg_lmul (u := n94 * n103) (v := l131)) (fun l132 => ?_)
          refine xg_kl (xg_ladd (u := l114) (v := l132)) (fun l133 => ?_)
          refine xg_last (n := u110) (u := l133) ((((hr85.but hb89 (by decide)).fr hF93 (by decide)).fr hF102 (by decide)).fr hF123 (by decide)) xnm0 (by omega) (fun w134 hr135 hb136 => ?_)
          refine xg_t (xg_aload (va := (2, 82)) rfl rfl) ?_
          refine xg_t (xg_getf (va := (2, 93)) (hb136.get (by decide) (hF123.get (by decide) (hF102.get (by decide) (hF93.get (by decide) (hb89.get (by decide) (hb86.get (by decide) (hF73.get (by decide) (hb69.get (by decide) (hb63.get (by decide) (hF38.get (by decide) h82_31)))))))))) rfl) ?_
          refine xg_t (xg_aload (va := (2, 82)) rfl rfl) ?_
          refine xg_t (xg_getf (va := (2, 91)) (hb136.get (by decide) (hF123.get (by decide) (hF102.get (by decide) (hF93.get (by decide) (hb89.get (by decide) (hb86.get (by decide) (hF73.get (by decide) (hb69.get (by decide) (hb63.get (by decide) (hF38.get (by decide) h82_31)))))))))) rfl) ?_
          refine xg_t (xg_iload (va := (0, pi_)) rfl rfl) ?_
          refine xg_ialdB (n := pi_) (B := 5) ((((((((hr62.but hb69 (by decide)).fr hF73 (by decide)).but hb86 (by decide)).but hb89 (by decide)).fr hF93 (by decide)).fr hF102 (by decide)).fr hF123 (by decide)).but hb136 (by decide)) (xrb (by omega) (hb52)) xnm0 (by omega) (fun u137 hu138 he139 => ?_)
          have hx140 : pi_ = u137 := by rw [← he139]; exact (if_pos rfl).symm
          refine xg_t (xg_dup2 rfl) ?_
          obtain ⟨l141, hz142⟩ : ∃ z, (fun j => if j = pi_ then 0 else U50 j) u137 = z := ⟨_, rfl⟩
          refine xg_t (xg_lald (n := u137) ((((hr88.fr hF93 (by decide)).fr hF102 (by decide)).fr hF123 (by decide)).but hb136 (by decide)) xnm0 (by omega) hz142) ?_
          have hz143 : l141 = 0 := by rw [← hz142]; show (if u137 = pi_ then 0 else U50 u137) = 0; exact if_pos (by omega)
          refine xg_t (xg_ldc2) ?_
          refine xg_t (xg_lload (u := n94 * n103) rfl) ?_
          refine xg_t (xg_lmul (u := 2) (v := n94 * n103)) ?_
          refine xg_t (xg_lre (b := 2 * (n94 * n103)) (by rw [xlp_eq]; exact lN_mul _ _)) ?_
          refine xg_t (xg_ladd (u := l141) (v := 2 * (n94 * n103))) ?_
          refine xg_t (xg_lre (b := l141 + (2 * (n94 * n103))) (by rw [xlp_eq]; exact lN_add _ _)) ?_
          refine xg_last (n := u137) (u := l141 + (2 * (n94 * n103))) ((((hr88.fr hF93 (by decide)).fr hF102 (by decide)).fr hF123 (by decide)).but hb136 (by decide)) xnm0 (by omega) (fun w144 hr145 hb146 => ?_)
          refine xg_t (xg_iinc (u := pi_) (z := pi_ + 1) (l1 := [(4, (4, n94 * n103)), (1, (0, z79)), (3, (0, 1)), (0, (2, 82))]) rfl rfl (by omega) rfl) ?_
          refine xg_t (xg_goto) ?_
          refine xg_t (xg_drop (l1 := [(0, (2, 82)), (1, (0, z79)), (2, (0, pi_ + 1))]) (List.forall_mem_cons.mpr ⟨List.mem_cons_of_mem _ (List.mem_cons_of_mem _ (List.mem_cons_of_mem _ (List.mem_cons_of_mem _ (List.mem_cons_self)))), List.forall_mem_cons.mpr ⟨List.mem_cons_of_mem _ (List.mem_cons_of_mem _ (List.mem_cons_self)), List.forall_mem_cons.mpr ⟨List.mem_cons_self, fun _ h => absurd h List.not_mem_nil⟩⟩⟩)) ?_
          exact ih34 z79 (pi_ + 1) w144 (by omega) (by omega) (by omega) (xMnv.up (S := [92, 93]) hI122 ((xFr.of (S := [92, 93]) hb136 (by decide)).tr (xFr.of (S := [92, 93]) hb146 (by decide))) (List.forall_mem_cons.mpr ⟨xqu92 (show cpJ 6 59 (wget w144 92) from ⟨_, (hr135.but hb146 (by decide))⟩), List.forall_mem_cons.mpr ⟨xqu93 (show cpJ 6 60 (wget w144 93) from ⟨_, hr145⟩), fun _ h => absurd h List.not_mem_nil⟩⟩)) ((((((((hF38.tr ((xFr.of (S := [90, 91, 92, 93, 94]) hb63 (by decide)).tr (xFr.of (S := [90, 91, 92, 93, 94]) hb69 (by decide)))).tr (hF73.up (by decide))).tr ((xFr.of (S := [90, 91, 92, 93, 94]) hb86 (by decide)).tr (xFr.of (S := [90, 91, 92, 93, 94]) hb89 (by decide)))).tr (hF93.up (by decide))).tr (hF102.up (by decide))).tr (hF123.up (by decide))).tr ((xFr.of (S := [90, 91, 92, 93, 94]) hb136 (by decide)).tr (xFr.of (S := [90, 91, 92, 93, 94]) hb146 (by decide))))) (⟨_, _, (((((((((hr62.but hb69 (by decide)).fr hF73 (by decide)).but hb86 (by decide)).but hb89 (by decide)).fr hF93 (by decide)).fr hF102 (by decide)).fr hF123 (by decide)).but hb136 (by decide)).but hb146 (by decide)), xrb (by omega) (hb52), hr145, bl_next hB54 (fun j hj => if_neg hj) he139 (Or.inl ⟨by omega, by omega, fun j hj => if_neg hj⟩) (by omega) (by omega)⟩)
        · refine xg_t (xg_ifF (u := pi_) rfl xnm0 (xj_eqF hc60)) ?_
          refine xg_t (xg_aload (va := (2, 82)) rfl rfl) ?_
          refine xg_t (xg_getf (va := (2, 83)) (hF38.get (by decide) h82_31) rfl) ?_
          refine xg_t (xg_bip) ?_
          refine xg_t (xg_const) ?_
          refine xg_t (xg_iload (va := (0, pi_)) rfl rfl) ?_
          refine xg_t (xg_const) ?_
          refine xg_t (xg_isub (u := pi_) (v := 1) (z := pi_ - 1) xnm0 xnm0 (by omega)) ?_
          refine xg_t (xg_imul (u := 4) (v := pi_ - 1) (z := 4 * (pi_ - 1)) xnm0 xnm0 (by omega)) ?_
          refine xg_t (xg_iadd (u := 20) (v := 4 * (pi_ - 1)) (z := 20 + (4 * (pi_ - 1))) xnm0 xnm0 (by omega)) ?_
          refine xg_t (xg_const) ?_
          refine xg_t (xg_iadd (u := 20 + (4 * (pi_ - 1))) (v := 3) (z := (20 + (4 * (pi_ - 1))) + 3) xnm0 xnm0 (by omega)) ?_
          refine xg_ialdB (n := (20 + (4 * (pi_ - 1))) + 3) (B := 4294967295) (hR83.fr hF38 (by decide)) (hgb) xnm0 (by omega) (fun u147 hu148 he149 => ?_)
          refine xg_t (xg_const) ?_
          by_cases hc150 : u147 = 1
          · refine xg_t (xg_icF (u := u147) (v := 1) rfl xnm0 xnm0 (xj_neF hc150)) ?_
            refine xg_t (xg_blq rfl) ?_
            refine xg_t (xg_const) ?_
            refine xg_t (xg_goto) ?_
            refine xg_t (xg_blq rfl) ?_
            refine xg_t (xg_istore (l1 := [(0, (2, 82)), (1, (0, hh)), (2, (0, pi_))]) rfl rfl rfl) ?_
            refine xg_t (xg_aload (va := (2, 82)) rfl rfl) ?_
            refine xg_t (xg_getf (va := (2, 91)) (hF38.get (by decide) h82_31) rfl) ?_
            refine xg_t (xg_iload (va := (0, pi_)) rfl rfl) ?_
            refine xg_t (xg_iload (va := (0, 1)) rfl rfl) ?_
            refine xg_t (xg_ifF (u := 1) rfl xnm0 (by decide)) ?_
            refine xg_t (xg_iload (va := (0, pi_)) rfl rfl) ?_
            refine xg_t (xg_goto) ?_
            refine xg_t (xg_blq rfl) ?_
            refine xg_iastK (n := pi_) (u := pi_) hr51 xnm0 xnm0 rfl (by omega) (fun w151 hr152 hb153 => ?_)
            refine xg_t (xg_aload (va := (2, 82)) rfl rfl) ?_
            refine xg_t (xg_getf (va := (2, 90)) (hb153.get (by decide) (hF38.get (by decide) h82_31)) rfl) ?_
            refine xg_t (xg_iload (va := (0, pi_)) rfl rfl) ?_
            refine xg_t (xg_iload (va := (0, hh)) rfl rfl) ?_
            refine xoI (xqc90 hI37 : cpI 6 57 4294967295 (wget w36 90)) (fun g90_154 h90_155 hb156 => ?_)
            refine xg_iastK (n := pi_) (u := hh) (h90_155.but hb153 (by decide)) xnm0 xnm0 rfl (by omega) (fun w157 hr158 hb159 => ?_)
            refine xg_t (xg_iload (va := (0, hh)) rfl rfl) ?_
            refine xg_t (xg_aload (va := (2, 82)) rfl rfl) ?_
            refine xg_t (xg_iload (va := (0, pi_)) rfl rfl) ?_
            refine xg_t (xg_const) ?_
            refine xg_cVi mX12_layerOf (vs := [(0, pi_), (0, 0)]) (rest := [(0, hh)]) (cn1 := 0) (sl1 := 0) rfl (mLayerOf (xMnv.up (S := [91, 90]) hI37 ((xFr.of (S := [91, 90]) hb153 (by decide)).tr (xFr.of (S := [91, 90]) hb159 (by decide))) (List.forall_mem_cons.mpr ⟨xqu91 (show cpI 6 58 5 (wget w157 91) from ⟨_, (hr152.but hb159 (by decide)), xrb (by omega) (hb52)⟩), List.forall_mem_cons.mpr ⟨xqu90 (show cpI 6 57 4294967295 (wget w157 90) from ⟨_, hr158, xrb (by omega) (hb156)⟩), fun _ h => absurd h List.not_mem_nil⟩⟩)) (by omega) (by omega) (((hR88.fr hF38 (by decide)).but hb153 (by decide)).but hb159 (by decide)) hob (((hR83.fr hF38 (by decide)).but hb153 (by decide)).but hb159 (by decide)) hgb hok) rfl (hb159.get (by decide) (hb153.get (by decide) (hF38.get (by decide) h82_31))) rfl rfl rfl rfl rfl rfl (fun n164 w160 hq161 => ?_)
            obtain ⟨hn165, hI162, hF163⟩ := hq161
            have hv166 := hn165.2 (by decide) (hord pi_ (by omega))
            have hv167 := hv166.1
            have hv168 := hv166.2
            refine xg_k (xg_iadd (u := hh) (v := n164) (z := (hh + n164) % 4294967296) xnm0 xnm0 rfl) (Nat.mod_lt _ (by decide)) (fun z169 hz170 => ?_)
            refine xg_t (xg_istore (l1 := [(3, (0, 1)), (0, (2, 82)), (2, (0, pi_))]) rfl rfl rfl) ?_
            refine xg_t (xg_iload (va := (0, 1)) rfl rfl) ?_
            refine xg_t (xg_ifF (u := 1) rfl xnm0 (by decide)) ?_
            refine xg_t (xg_aload (va := (2, 82)) rfl rfl) ?_
            refine xg_t (xg_getf (va := (2, 92)) (hF163.get (by decide) (hb159.get (by decide) (hb153.get (by decide) (hF38.get (by decide) h82_31)))) rfl) ?_
            refine xg_t (xg_iload (va := (0, pi_)) rfl rfl) ?_
            refine xg_t (xg_lconst) ?_
            obtain ⟨g92_171, h92_172⟩ := (xqc92 hI162 : cpJ 6 59 (wget w160 92))
            have h92_172 : xRk 3 4 w160 92 6 59 g92_171 := h92_172
            refine xg_last (n := pi_) (u := 0) h92_172 xnm0 (by omega) (fun w174 hr175 hb176 => ?_)
            refine xg_t (xg_aload (va := (2, 82)) rfl rfl) ?_
            refine xg_t (xg_getf (va := (2, 93)) (hb176.get (by decide) (hF163.get (by decide) (hb159.get (by decide) (hb153.get (by decide) (hF38.get (by decide) h82_31))))) rfl) ?_
            refine xg_t (xg_iload (va := (0, pi_)) rfl rfl) ?_
            refine xg_t (xg_lconst) ?_
            refine xg_last (n := pi_) (u := 0) ((((hr53.but hb153 (by decide)).but hb159 (by decide)).fr hF163 (by decide)).but hb176 (by decide)) xnm0 (by omega) (fun w177 hr178 hb179 => ?_)
            refine xg_t (xg_blq rfl) ?_
            refine xg_t (xg_aload (va := (2, 82)) rfl rfl) ?_
            refine xg_t (xg_iload (va := (0, pi_)) rfl rfl) ?_
            refine xg_t (xg_const) ?_
            refine xg_cVi mX12_layerOf (vs := [(0, pi_), (0, 0)]) (rest := []) (cn1 := 0) (sl1 := 0) rfl (mLayerOf (xMnv.up (S := [92, 93]) hI162 ((xFr.of (S := [92, 93]) hb176 (by decide)).tr (xFr.of (S := [92, 93]) hb179 (by decide))) (List.forall_mem_cons.mpr ⟨xqu92 (show cpJ 6 59 (wget w177 92) from ⟨_, (hr175.but hb179 (by decide))⟩), List.forall_mem_cons.mpr ⟨xqu93 (show cpJ 6 60 (wget w177 93) from ⟨_, hr178⟩), fun _ h => absurd h List.not_mem_nil⟩⟩)) (by omega) (by omega) ((((((hR88.fr hF38 (by decide)).but hb153 (by decide)).but hb159 (by decide)).fr hF163 (by decide)).but hb176 (by decide)).but hb179 (by decide)) hob ((((((hR83.fr hF38 (by decide)).but hb153 (by decide)).but hb159 (by decide)).fr hF163 (by decide)).but hb176 (by decide)).but hb179 (by decide)) hgb hok) rfl (hb179.get (by decide) (hb176.get (by decide) (hF163.get (by decide) (hb159.get (by decide) (hb153.get (by decide) (hF38.get (by decide) h82_31)))))) rfl rfl rfl rfl rfl rfl (fun n184 w180 hq181 => ?_)
            obtain ⟨hn185, hI182, hF183⟩ := hq181
            have hv186 := hn185.2 (by decide) (hord pi_ (by omega))
            have hv187 := hv186.1
            have hv188 := hv186.2
            refine xg_t (xg_aload (va := (2, 82)) rfl rfl) ?_
            refine xg_t (xg_iload (va := (0, pi_)) rfl rfl) ?_
            refine xg_t (xg_const) ?_
            refine xg_cVi mX12_layerOf (vs := [(0, pi_), (0, 1)]) (rest := [(0, n184)]) (cn1 := 0) (sl1 := 0) rfl (mLayerOf (hI182) (by omega) (by omega) (((((((hR88.fr hF38 (by decide)).but hb153 (by decide)).but hb159 (by decide)).fr hF163 (by decide)).but hb176 (by decide)).but hb179 (by decide)).fr hF183 (by decide)) hob (((((((hR83.fr hF38 (by decide)).but hb153 (by decide)).but hb159 (by decide)).fr hF163 (by decide)).but hb176 (by decide)).but hb179 (by decide)).fr hF183 (by decide)) hgb hok) rfl (hF183.get (by decide) (hb179.get (by decide) (hb176.get (by decide) (hF163.get (by decide) (hb159.get (by decide) (hb153.get (by decide) (hF38.get (by decide) h82_31))))))) rfl rfl rfl rfl rfl rfl (fun n193 w189 hq190 => ?_)
            obtain ⟨hn194, hI191, hF192⟩ := hq190
            have hv195 := hn194.2 (by decide) (hord pi_ (by omega))
            have hv196 := hv195.1
            have hv197 := hv195.2
            have hm198 : n184 * n193 ≤ 99 * 99 := Nat.mul_le_mul (by omega) (by omega)
            have hm199 : 1 * 1 ≤ n184 * n193 := Nat.mul_le_mul (by omega) (by omega)
            refine xg_t (xg_imul (u := n184) (v := n193) (z := n184 * n193) xnm0 xnm0 (Nat.mod_eq_of_lt (by omega))) ?_
            refine xg_t (xg_i2l (u := n184 * n193) xnm0) ?_
            refine xg_t (xg_lre (b := n184 * n193) (by rw [xlp_eq]; exact nI_l (by omega))) ?_
            refine xg_t (xg_lstore (l1 := [(1, (0, z169)), (3, (0, 1)), (0, (2, 82)), (2, (0, pi_))]) rfl rfl) ?_
            refine xg_t (xg_aload (va := (2, 82)) rfl rfl) ?_
            refine xg_t (xg_getf (va := (2, 92)) (hF192.get (by decide) (hF183.get (by decide) (hb179.get (by decide) (hb176.get (by decide) (hF163.get (by decide) (hb159.get (by decide) (hb153.get (by decide) (hF38.get (by decide) h82_31)))))))) rfl) ?_
            refine xg_t (xg_aload (va := (2, 82)) rfl rfl) ?_
            refine xg_t (xg_getf (va := (2, 91)) (hF192.get (by decide) (hF183.get (by decide) (hb179.get (by decide) (hb176.get (by decide) (hF163.get (by decide) (hb159.get (by decide) (hb153.get (by decide) (hF38.get (by decide) h82_31)))))))) rfl) ?_
            refine xg_t (xg_iload (va := (0, pi_)) rfl rfl) ?_
            refine xg_ialdB (n := pi_) (B := 5) ((((((hr152.but hb159 (by decide)).fr hF163 (by decide)).but hb176 (by decide)).but hb179 (by decide)).fr hF183 (by decide)).fr hF192 (by decide)) (xrb (by omega) (hb52)) xnm0 (by omega) (fun u200 hu201 he202 => ?_)
            have hx203 : pi_ = u200 := by rw [← he202]; exact (if_pos rfl).symm
            refine xg_t (xg_dup2 rfl) ?_
            refine xg_kl (xg_lald (n := u200) (((hr175.but hb179 (by decide)).fr hF183 (by decide)).fr hF192 (by decide)) xnm0 (by omega) rfl) (fun l204 => ?_)
            refine xg_t (xg_lload (u := n184 * n193) rfl) ?_
            refine xg_t (xg_const) ?_
            refine xg_t (xg_aload (va := (2, 82)) rfl rfl) ?_
            refine xg_t (xg_getf (va := (2, 90)) (hF192.get (by decide) (hF183.get (by decide) (hb179.get (by decide) (hb176.get (by decide) (hF163.get (by decide) (hb159.get (by decide) (hb153.get (by decide) (hF38.get (by decide) h82_31)))))))) rfl) ?_
            refine xg_t (xg_iload (va := (0, pi_)) rfl rfl) ?_
            refine xg_ialdB (n := pi_) (B := 4294967295) (((((hr158.fr hF163 (by decide)).but hb176 (by decide)).but hb179 (by decide)).fr hF183 (by decide)).fr hF192 (by decide)) (xrb (by omega) (hb156)) xnm0 (by omega) (fun u205 hu206 he207 => ?_)
            refine xg_k (xg_imul (u := 2) (v := u205) (z := (2 * u205) % 4294967296) xnm0 xnm0 rfl) (Nat.mod_lt _ (by decide)) (fun z208 hz209 => ?_)
            refine xg_t (xg_aload (va := (2, 82)) rfl rfl) ?_
            refine xg_t (xg_iload (va := (0, pi_)) rfl rfl) ?_
            refine xg_t (xg_const) ?_
            refine xg_cVi mX12_layerOf (vs := [(0, pi_), (0, 0)]) (rest := [(0, z208), (4, n184 * n193), (4, l204), (0, u200), (2, 92)]) (cn1 := 0) (sl1 := 0) rfl (mLayerOf (hI191) (by omega) (by omega) ((((((((hR88.fr hF38 (by decide)).but hb153 (by decide)).but hb159 (by decide)).fr hF163 (by decide)).but hb176 (by decide)).but hb179 (by decide)).fr hF183 (by decide)).fr hF192 (by decide)) hob ((((((((hR83.fr hF38 (by decide)).but hb153 (by decide)).but hb159 (by decide)).fr hF163 (by decide)).but hb176 (by decide)).but hb179 (by decide)).fr hF183 (by decide)).fr hF192 (by decide)) hgb hok) rfl (hF192.get (by decide) (hF183.get (by decide) (hb179.get (by decide) (hb176.get (by decide) (hF163.get (by decide) (hb159.get (by decide) (hb153.get (by decide) (hF38.get (by decide) h82_31)))))))) rfl rfl rfl rfl rfl rfl (fun n214 w210 hq211 => ?_)
            obtain ⟨hn215, hI212, hF213⟩ := hq211
            have hv216 := hn215.2 (by decide) (hord pi_ (by omega))
            have hv217 := hv216.1
            have hv218 := hv216.2
            refine xg_k (xg_iadd (u := z208) (v := n214) (z := (z208 + n214) % 4294967296) xnm0 xnm0 rfl) (Nat.mod_lt _ (by decide)) (fun z219 hz220 => ?_)
            refine xg_kl (xg_i2l (u := z219) xnm0) (fun l221 => ?_)
            refine xg_kl (xg_lmul (u := n184 * n193) (v := l221)) (fun l222 => ?_)
            refine xg_kl (xg_ladd (u := l204) (v := l222)) (fun l223 => ?_)
            refine xg_last (n := u200) (u := l223) ((((hr175.but hb179 (by decide)).fr hF183 (by decide)).fr hF192 (by decide)).fr hF213 (by decide)) xnm0 (by omega) (fun w224 hr225 hb226 => ?_)
            refine xg_t (xg_aload (va := (2, 82)) rfl rfl) ?_
            refine xg_t (xg_getf (va := (2, 93)) (hb226.get (by decide) (hF213.get (by decide) (hF192.get (by decide) (hF183.get (by decide) (hb179.get (by decide) (hb176.get (by decide) (hF163.get (by decide) (hb159.get (by decide) (hb153.get (by decide) (hF38.get (by decide) h82_31)))))))))) rfl) ?_
            refine xg_t (xg_aload (va := (2, 82)) rfl rfl) ?_
            refine xg_t (xg_getf (va := (2, 91)) (hb226.get (by decide) (hF213.get (by decide) (hF192.get (by decide) (hF183.get (by decide) (hb179.get (by decide) (hb176.get (by decide) (hF163.get (by decide) (hb159.get (by decide) (hb153.get (by decide) (hF38.get (by decide) h82_31)))))))))) rfl) ?_
            refine xg_t (xg_iload (va := (0, pi_)) rfl rfl) ?_
            refine xg_ialdB (n := pi_) (B := 5) ((((((((hr152.but hb159 (by decide)).fr hF163 (by decide)).but hb176 (by decide)).but hb179 (by decide)).fr hF183 (by decide)).fr hF192 (by decide)).fr hF213 (by decide)).but hb226 (by decide)) (xrb (by omega) (hb52)) xnm0 (by omega) (fun u227 hu228 he229 => ?_)
            have hx230 : pi_ = u227 := by rw [← he229]; exact (if_pos rfl).symm
            refine xg_t (xg_dup2 rfl) ?_
            obtain ⟨l231, hz232⟩ : ∃ z, (fun j => if j = pi_ then 0 else U50 j) u227 = z := ⟨_, rfl⟩
            refine xg_t (xg_lald (n := u227) ((((hr178.fr hF183 (by decide)).fr hF192 (by decide)).fr hF213 (by decide)).but hb226 (by decide)) xnm0 (by omega) hz232) ?_
            have hz233 : l231 = 0 := by rw [← hz232]; show (if u227 = pi_ then 0 else U50 u227) = 0; exact if_pos (by omega)
            refine xg_t (xg_ldc2) ?_
            refine xg_t (xg_lload (u := n184 * n193) rfl) ?_
            refine xg_t (xg_lmul (u := 2) (v := n184 * n193)) ?_
            refine xg_t (xg_lre (b := 2 * (n184 * n193)) (by rw [xlp_eq]; exact lN_mul _ _)) ?_
            refine xg_t (xg_ladd (u := l231) (v := 2 * (n184 * n193))) ?_
            refine xg_t (xg_lre (b := l231 + (2 * (n184 * n193))) (by rw [xlp_eq]; exact lN_add _ _)) ?_
            refine xg_last (n := u227) (u := l231 + (2 * (n184 * n193))) ((((hr178.fr hF183 (by decide)).fr hF192 (by decide)).fr hF213 (by decide)).but hb226 (by decide)) xnm0 (by omega) (fun w234 hr235 hb236 => ?_)
            refine xg_t (xg_iinc (u := pi_) (z := pi_ + 1) (l1 := [(4, (4, n184 * n193)), (1, (0, z169)), (3, (0, 1)), (0, (2, 82))]) rfl rfl (by omega) rfl) ?_
            refine xg_t (xg_goto) ?_
            refine xg_t (xg_drop (l1 := [(0, (2, 82)), (1, (0, z169)), (2, (0, pi_ + 1))]) (List.forall_mem_cons.mpr ⟨List.mem_cons_of_mem _ (List.mem_cons_of_mem _ (List.mem_cons_of_mem _ (List.mem_cons_of_mem _ (List.mem_cons_self)))), List.forall_mem_cons.mpr ⟨List.mem_cons_of_mem _ (List.mem_cons_of_mem _ (List.mem_cons_self)), List.forall_mem_cons.mpr ⟨List.mem_cons_self, fun _ h => absurd h List.not_mem_nil⟩⟩⟩)) ?_
            exact ih34 z169 (pi_ + 1) w234 (by omega) (by omega) (by omega) (xMnv.up (S := [92, 93]) hI212 ((xFr.of (S := [92, 93]) hb226 (by decide)).tr (xFr.of (S := [92, 93]) hb236 (by decide))) (List.forall_mem_cons.mpr ⟨xqu92 (show cpJ 6 59 (wget w234 92) from ⟨_, (hr225.but hb236 (by decide))⟩), List.forall_mem_cons.mpr ⟨xqu93 (show cpJ 6 60 (wget w234 93) from ⟨_, hr235⟩), fun _ h => absurd h List.not_mem_nil⟩⟩)) ((((((((hF38.tr ((xFr.of (S := [90, 91, 92, 93, 94]) hb153 (by decide)).tr (xFr.of (S := [90, 91, 92, 93, 94]) hb159 (by decide)))).tr (hF163.up (by decide))).tr ((xFr.of (S := [90, 91, 92, 93, 94]) hb176 (by decide)).tr (xFr.of (S := [90, 91, 92, 93, 94]) hb179 (by decide)))).tr (hF183.up (by decide))).tr (hF192.up (by decide))).tr (hF213.up (by decide))).tr ((xFr.of (S := [90, 91, 92, 93, 94]) hb226 (by decide)).tr (xFr.of (S := [90, 91, 92, 93, 94]) hb236 (by decide))))) (⟨_, _, (((((((((hr152.but hb159 (by decide)).fr hF163 (by decide)).but hb176 (by decide)).but hb179 (by decide)).fr hF183 (by decide)).fr hF192 (by decide)).fr hF213 (by decide)).but hb226 (by decide)).but hb236 (by decide)), xrb (by omega) (hb52), hr235, bl_next hB54 (fun j hj => if_neg hj) he229 (Or.inl ⟨by omega, by omega, fun j hj => if_neg hj⟩) (by omega) (by omega)⟩)
          · refine xg_t (xg_icT (u := u147) (v := 1) rfl xnm0 xnm0 (xj_neT hc150)) ?_
            refine xg_t (xg_blq rfl) ?_
            refine xg_t (xg_const) ?_
            refine xg_t (xg_blq rfl) ?_
            refine xg_t (xg_istore (l1 := [(0, (2, 82)), (1, (0, hh)), (2, (0, pi_))]) rfl rfl rfl) ?_
            refine xg_t (xg_aload (va := (2, 82)) rfl rfl) ?_
            refine xg_t (xg_getf (va := (2, 91)) (hF38.get (by decide) h82_31) rfl) ?_
            refine xg_t (xg_iload (va := (0, pi_)) rfl rfl) ?_
            refine xg_t (xg_iload (va := (0, 0)) rfl rfl) ?_
            refine xg_t (xg_ifT (u := 0) rfl xnm0 (by decide)) ?_
            refine xg_t (xg_blq rfl) ?_
            refine xg_t (xg_aload (va := (2, 82)) rfl rfl) ?_
            refine xg_t (xg_getf (va := (2, 91)) (hF38.get (by decide) h82_31) rfl) ?_
            refine xg_t (xg_iload (va := (0, pi_)) rfl rfl) ?_
            refine xg_t (xg_const) ?_
            refine xg_t (xg_isub (u := pi_) (v := 1) (z := pi_ - 1) xnm0 xnm0 (by omega)) ?_
            refine xg_ialdB (n := pi_ - 1) (B := 5) hr51 (hb52) xnm0 (by omega) (fun u237 hu238 he239 => ?_)
            have hv240 := hB54 (pi_ - 1) (by omega)
            rw [he239] at hv240
            refine xg_t (xg_blq rfl) ?_
            refine xg_iastK (n := pi_) (u := u237) hr51 xnm0 xnm0 rfl (by omega) (fun w241 hr242 hb243 => ?_)
            refine xg_t (xg_aload (va := (2, 82)) rfl rfl) ?_
            refine xg_t (xg_getf (va := (2, 90)) (hb243.get (by decide) (hF38.get (by decide) h82_31)) rfl) ?_
            refine xg_t (xg_iload (va := (0, pi_)) rfl rfl) ?_
            refine xg_t (xg_iload (va := (0, hh)) rfl rfl) ?_
            refine xoI (xqc90 hI37 : cpI 6 57 4294967295 (wget w36 90)) (fun g90_244 h90_245 hb246 => ?_)
            refine xg_iastK (n := pi_) (u := hh) (h90_245.but hb243 (by decide)) xnm0 xnm0 rfl (by omega) (fun w247 hr248 hb249 => ?_)
            refine xg_t (xg_iload (va := (0, hh)) rfl rfl) ?_
            refine xg_t (xg_aload (va := (2, 82)) rfl rfl) ?_
            refine xg_t (xg_iload (va := (0, pi_)) rfl rfl) ?_
            refine xg_t (xg_const) ?_
            refine xg_cVi mX12_layerOf (vs := [(0, pi_), (0, 0)]) (rest := [(0, hh)]) (cn1 := 0) (sl1 := 0) rfl (mLayerOf (xMnv.up (S := [91, 90]) hI37 ((xFr.of (S := [91, 90]) hb243 (by decide)).tr (xFr.of (S := [91, 90]) hb249 (by decide))) (List.forall_mem_cons.mpr ⟨xqu91 (show cpI 6 58 5 (wget w247 91) from ⟨_, (hr242.but hb249 (by decide)), xrb (by omega) (hb52)⟩), List.forall_mem_cons.mpr ⟨xqu90 (show cpI 6 57 4294967295 (wget w247 90) from ⟨_, hr248, xrb (by omega) (hb246)⟩), fun _ h => absurd h List.not_mem_nil⟩⟩)) (by omega) (by omega) (((hR88.fr hF38 (by decide)).but hb243 (by decide)).but hb249 (by decide)) hob (((hR83.fr hF38 (by decide)).but hb243 (by decide)).but hb249 (by decide)) hgb hok) rfl (hb249.get (by decide) (hb243.get (by decide) (hF38.get (by decide) h82_31))) rfl rfl rfl rfl rfl rfl (fun n254 w250 hq251 => ?_)
            obtain ⟨hn255, hI252, hF253⟩ := hq251
            have hv256 := hn255.2 (by decide) (hord pi_ (by omega))
            have hv257 := hv256.1
            have hv258 := hv256.2
            refine xg_k (xg_iadd (u := hh) (v := n254) (z := (hh + n254) % 4294967296) xnm0 xnm0 rfl) (Nat.mod_lt _ (by decide)) (fun z259 hz260 => ?_)
            refine xg_t (xg_istore (l1 := [(3, (0, 0)), (0, (2, 82)), (2, (0, pi_))]) rfl rfl rfl) ?_
            refine xg_t (xg_iload (va := (0, 0)) rfl rfl) ?_
            refine xg_t (xg_ifT (u := 0) rfl xnm0 (by decide)) ?_
            refine xg_t (xg_blq rfl) ?_
            refine xg_t (xg_aload (va := (2, 82)) rfl rfl) ?_
            refine xg_t (xg_iload (va := (0, pi_)) rfl rfl) ?_
            refine xg_t (xg_const) ?_
            refine xg_cVi mX12_layerOf (vs := [(0, pi_), (0, 0)]) (rest := []) (cn1 := 0) (sl1 := 0) rfl (mLayerOf (hI252) (by omega) (by omega) ((((hR88.fr hF38 (by decide)).but hb243 (by decide)).but hb249 (by decide)).fr hF253 (by decide)) hob ((((hR83.fr hF38 (by decide)).but hb243 (by decide)).but hb249 (by decide)).fr hF253 (by decide)) hgb hok) rfl (hF253.get (by decide) (hb249.get (by decide) (hb243.get (by decide) (hF38.get (by decide) h82_31)))) rfl rfl rfl rfl rfl rfl (fun n265 w261 hq262 => ?_)
            obtain ⟨hn266, hI263, hF264⟩ := hq262
            have hv267 := hn266.2 (by decide) (hord pi_ (by omega))
            have hv268 := hv267.1
            have hv269 := hv267.2
            refine xg_t (xg_aload (va := (2, 82)) rfl rfl) ?_
            refine xg_t (xg_iload (va := (0, pi_)) rfl rfl) ?_
            refine xg_t (xg_const) ?_
            refine xg_cVi mX12_layerOf (vs := [(0, pi_), (0, 1)]) (rest := [(0, n265)]) (cn1 := 0) (sl1 := 0) rfl (mLayerOf (hI263) (by omega) (by omega) (((((hR88.fr hF38 (by decide)).but hb243 (by decide)).but hb249 (by decide)).fr hF253 (by decide)).fr hF264 (by decide)) hob (((((hR83.fr hF38 (by decide)).but hb243 (by decide)).but hb249 (by decide)).fr hF253 (by decide)).fr hF264 (by decide)) hgb hok) rfl (hF264.get (by decide) (hF253.get (by decide) (hb249.get (by decide) (hb243.get (by decide) (hF38.get (by decide) h82_31))))) rfl rfl rfl rfl rfl rfl (fun n274 w270 hq271 => ?_)
            obtain ⟨hn275, hI272, hF273⟩ := hq271
            have hv276 := hn275.2 (by decide) (hord pi_ (by omega))
            have hv277 := hv276.1
            have hv278 := hv276.2
            have hm279 : n265 * n274 ≤ 99 * 99 := Nat.mul_le_mul (by omega) (by omega)
            have hm280 : 1 * 1 ≤ n265 * n274 := Nat.mul_le_mul (by omega) (by omega)
            refine xg_t (xg_imul (u := n265) (v := n274) (z := n265 * n274) xnm0 xnm0 (Nat.mod_eq_of_lt (by omega))) ?_
            refine xg_t (xg_i2l (u := n265 * n274) xnm0) ?_
            refine xg_t (xg_lre (b := n265 * n274) (by rw [xlp_eq]; exact nI_l (by omega))) ?_
            refine xg_t (xg_lstore (l1 := [(1, (0, z259)), (3, (0, 0)), (0, (2, 82)), (2, (0, pi_))]) rfl rfl) ?_
            refine xg_t (xg_aload (va := (2, 82)) rfl rfl) ?_
            refine xg_t (xg_getf (va := (2, 92)) (hF273.get (by decide) (hF264.get (by decide) (hF253.get (by decide) (hb249.get (by decide) (hb243.get (by decide) (hF38.get (by decide) h82_31)))))) rfl) ?_
            refine xg_t (xg_aload (va := (2, 82)) rfl rfl) ?_
            refine xg_t (xg_getf (va := (2, 91)) (hF273.get (by decide) (hF264.get (by decide) (hF253.get (by decide) (hb249.get (by decide) (hb243.get (by decide) (hF38.get (by decide) h82_31)))))) rfl) ?_
            refine xg_t (xg_iload (va := (0, pi_)) rfl rfl) ?_
            refine xg_ialdB (n := pi_) (B := 5) ((((hr242.but hb249 (by decide)).fr hF253 (by decide)).fr hF264 (by decide)).fr hF273 (by decide)) (xrb (by omega) (hb52)) xnm0 (by omega) (fun u281 hu282 he283 => ?_)
            have hx284 : u237 = u281 := by rw [← he283]; exact (if_pos rfl).symm
            refine xg_t (xg_dup2 rfl) ?_
            obtain ⟨g92_285, h92_286⟩ := (xqc92 hI272 : cpJ 6 59 (wget w270 92))
            have h92_286 : xRk 3 4 w270 92 6 59 g92_285 := h92_286
            refine xg_kl (xg_lald (n := u281) h92_286 xnm0 (by omega) rfl) (fun l288 => ?_)
            refine xg_t (xg_lload (u := n265 * n274) rfl) ?_
            refine xg_t (xg_const) ?_
            refine xg_t (xg_aload (va := (2, 82)) rfl rfl) ?_
            refine xg_t (xg_getf (va := (2, 90)) (hF273.get (by decide) (hF264.get (by decide) (hF253.get (by decide) (hb249.get (by decide) (hb243.get (by decide) (hF38.get (by decide) h82_31)))))) rfl) ?_
            refine xg_t (xg_iload (va := (0, pi_)) rfl rfl) ?_
            refine xg_ialdB (n := pi_) (B := 4294967295) (((hr248.fr hF253 (by decide)).fr hF264 (by decide)).fr hF273 (by decide)) (xrb (by omega) (hb246)) xnm0 (by omega) (fun u289 hu290 he291 => ?_)
            refine xg_k (xg_imul (u := 2) (v := u289) (z := (2 * u289) % 4294967296) xnm0 xnm0 rfl) (Nat.mod_lt _ (by decide)) (fun z292 hz293 => ?_)
            refine xg_t (xg_aload (va := (2, 82)) rfl rfl) ?_
            refine xg_t (xg_iload (va := (0, pi_)) rfl rfl) ?_
            refine xg_t (xg_const) ?_
            refine xg_cVi mX12_layerOf (vs := [(0, pi_), (0, 0)]) (rest := [(0, z292), (4, n265 * n274), (4, l288), (0, u281), (2, 92)]) (cn1 := 0) (sl1 := 0) rfl (mLayerOf (hI272) (by omega) (by omega) ((((((hR88.fr hF38 (by decide)).but hb243 (by decide)).but hb249 (by decide)).fr hF253 (by decide)).fr hF264 (by decide)).fr hF273 (by decide)) hob ((((((hR83.fr hF38 (by decide)).but hb243 (by decide)).but hb249 (by decide)).fr hF253 (by decide)).fr hF264 (by decide)).fr hF273 (by decide)) hgb hok) rfl (hF273.get (by decide) (hF264.get (by decide) (hF253.get (by decide) (hb249.get (by decide) (hb243.get (by decide) (hF38.get (by decide) h82_31)))))) rfl rfl rfl rfl rfl rfl (fun n298 w294 hq295 => ?_)
            obtain ⟨hn299, hI296, hF297⟩ := hq295
            have hv300 := hn299.2 (by decide) (hord pi_ (by omega))
            have hv301 := hv300.1
            have hv302 := hv300.2
            refine xg_k (xg_iadd (u := z292) (v := n298) (z := (z292 + n298) % 4294967296) xnm0 xnm0 rfl) (Nat.mod_lt _ (by decide)) (fun z303 hz304 => ?_)
            refine xg_kl (xg_i2l (u := z303) xnm0) (fun l305 => ?_)
            refine xg_kl (xg_lmul (u := n265 * n274) (v := l305)) (fun l306 => ?_)
            refine xg_kl (xg_ladd (u := l288) (v := l306)) (fun l307 => ?_)
            refine xg_last (n := u281) (u := l307) (h92_286.fr hF297 (by decide)) xnm0 (by omega) (fun w308 hr309 hb310 => ?_)
            refine xg_t (xg_aload (va := (2, 82)) rfl rfl) ?_
            refine xg_t (xg_getf (va := (2, 93)) (hb310.get (by decide) (hF297.get (by decide) (hF273.get (by decide) (hF264.get (by decide) (hF253.get (by decide) (hb249.get (by decide) (hb243.get (by decide) (hF38.get (by decide) h82_31)))))))) rfl) ?_
            refine xg_t (xg_aload (va := (2, 82)) rfl rfl) ?_
            refine xg_t (xg_getf (va := (2, 91)) (hb310.get (by decide) (hF297.get (by decide) (hF273.get (by decide) (hF264.get (by decide) (hF253.get (by decide) (hb249.get (by decide) (hb243.get (by decide) (hF38.get (by decide) h82_31)))))))) rfl) ?_
            refine xg_t (xg_iload (va := (0, pi_)) rfl rfl) ?_
            refine xg_ialdB (n := pi_) (B := 5) ((((((hr242.but hb249 (by decide)).fr hF253 (by decide)).fr hF264 (by decide)).fr hF273 (by decide)).fr hF297 (by decide)).but hb310 (by decide)) (xrb (by omega) (hb52)) xnm0 (by omega) (fun u311 hu312 he313 => ?_)
            have hx314 : u237 = u311 := by rw [← he313]; exact (if_pos rfl).symm
            refine xg_t (xg_dup2 rfl) ?_
            obtain ⟨l315, hz316⟩ : ∃ z, U50 u311 = z := ⟨_, rfl⟩
            refine xg_t (xg_lald (n := u311) (((((((hr53.but hb243 (by decide)).but hb249 (by decide)).fr hF253 (by decide)).fr hF264 (by decide)).fr hF273 (by decide)).fr hF297 (by decide)).but hb310 (by decide)) xnm0 (by omega) hz316) ?_
            rw [hx314] at hv240
            refine xg_t (xg_ldc2) ?_
            refine xg_t (xg_lload (u := n265 * n274) rfl) ?_
            refine xg_t (xg_lmul (u := 2) (v := n265 * n274)) ?_
            refine xg_t (xg_lre (b := 2 * (n265 * n274)) (by rw [xlp_eq]; exact lN_mul _ _)) ?_
            refine xg_t (xg_ladd (u := l315) (v := 2 * (n265 * n274))) ?_
            refine xg_t (xg_lre (b := l315 + (2 * (n265 * n274))) (by rw [xlp_eq]; exact lN_add _ _)) ?_
            refine xg_last (n := u311) (u := l315 + (2 * (n265 * n274))) (((((((hr53.but hb243 (by decide)).but hb249 (by decide)).fr hF253 (by decide)).fr hF264 (by decide)).fr hF273 (by decide)).fr hF297 (by decide)).but hb310 (by decide)) xnm0 (by omega) (fun w317 hr318 hb319 => ?_)
            refine xg_t (xg_iinc (u := pi_) (z := pi_ + 1) (l1 := [(4, (4, n265 * n274)), (1, (0, z259)), (3, (0, 0)), (0, (2, 82))]) rfl rfl (by omega) rfl) ?_
            refine xg_t (xg_goto) ?_
            refine xg_t (xg_drop (l1 := [(0, (2, 82)), (1, (0, z259)), (2, (0, pi_ + 1))]) (List.forall_mem_cons.mpr ⟨List.mem_cons_of_mem _ (List.mem_cons_of_mem _ (List.mem_cons_of_mem _ (List.mem_cons_of_mem _ (List.mem_cons_self)))), List.forall_mem_cons.mpr ⟨List.mem_cons_of_mem _ (List.mem_cons_of_mem _ (List.mem_cons_self)), List.forall_mem_cons.mpr ⟨List.mem_cons_self, fun _ h => absurd h List.not_mem_nil⟩⟩⟩)) ?_
            exact ih34 z259 (pi_ + 1) w317 (by omega) (by omega) (by omega) (xMnv.up (S := [92, 93]) hI296 ((xFr.of (S := [92, 93]) hb310 (by decide)).tr (xFr.of (S := [92, 93]) hb319 (by decide))) (List.forall_mem_cons.mpr ⟨xqu92 (show cpJ 6 59 (wget w317 92) from ⟨_, (hr309.but hb319 (by decide))⟩), List.forall_mem_cons.mpr ⟨xqu93 (show cpJ 6 60 (wget w317 93) from ⟨_, hr318⟩), fun _ h => absurd h List.not_mem_nil⟩⟩)) (((((((hF38.tr ((xFr.of (S := [90, 91, 92, 93, 94]) hb243 (by decide)).tr (xFr.of (S := [90, 91, 92, 93, 94]) hb249 (by decide)))).tr (hF253.up (by decide))).tr (hF264.up (by decide))).tr (hF273.up (by decide))).tr (hF297.up (by decide))).tr ((xFr.of (S := [90, 91, 92, 93, 94]) hb310 (by decide)).tr (xFr.of (S := [90, 91, 92, 93, 94]) hb319 (by decide))))) (⟨_, _, (((((((hr242.but hb249 (by decide)).fr hF253 (by decide)).fr hF264 (by decide)).fr hF273 (by decide)).fr hF297 (by decide)).but hb310 (by decide)).but hb319 (by decide)), xrb (by omega) (hb52), hr318, bl_next hB54 (fun j hj => if_neg hj) he313 (Or.inr ⟨by omega, hz316.symm, by omega, by omega, fun _ => rfl⟩) (by omega) (by omega)⟩)
      · refine xg_t (xg_icT (u := pi_) (v := u55) rfl xnm0 xnm0 (xj_geT (by omega) (by omega))) ?_
        refine xg_t (xg_blq rfl) ?_
        refine xg_t (xg_const) ?_
        refine xg_t (xg_istore (l1 := [(0, (2, 82)), (1, (0, hh))]) rfl rfl rfl) ?_
        refine xg_t (xg_drop (l1 := [(0, (2, 82)), (2, (0, 0))]) (List.forall_mem_cons.mpr ⟨List.mem_cons_of_mem _ (List.mem_cons_self), List.forall_mem_cons.mpr ⟨List.mem_cons_self, fun _ h => absurd h List.not_mem_nil⟩⟩)) ?_
        have key320 : ∀ (m322 : Nat) (pj : Nat) (w323 : List (List xE)), 6 - pj < m322 → pj ≤ 6 → xMnv w323 → xFr [90, 91, 92, 93, 94] w w323 → (∃ H U : Nat → Nat, xRow w323 91 6 58 H ∧ (∀ j, H j ≤ 5) ∧ xRk 3 4 w323 93 6 60 U ∧ (∀ q, q < g0 0 → 1 ≤ U (H q) ∧ U (H q) ≤ 117612) ∧ ∀ q, q < pj → 1 ≤ U q ∧ U q ≤ 117612) → xTo (d + 1) mX12_blocks (176, [], [(0, (2, 82)), (2, (0, pj))], [], (w323, bd, fc, 0, 0, rr)) (fun φ => ∃ w', xEnd 0 [] (w', bd, fc, 0, 0, rr) φ ∧ xMnv w' ∧ xFr [90, 91, 92, 93, 94] w w' ∧ (∃ U : Nat → Nat, xRk 3 4 w' 93 6 60 U ∧ ∀ q, q < g0 0 → 1 ≤ U q ∧ U q ≤ 117612)) := by
          intro m322
          induction m322 with
          | zero => intro pj w323 hz; exact absurd hz (Nat.not_lt_zero _)
          | succ m322 ih321 =>
            intro pj w323 hm328 hn326 hI324 hF325 he327
            obtain ⟨H329, U330, hr331, hb332, hr333, hV334, hW335⟩ := he327
            refine xg_t (xg_blq rfl) ?_
            refine xg_t (xg_iload (va := (0, pj)) rfl rfl) ?_
            refine xg_t (xg_aload (va := (2, 82)) rfl rfl) ?_
            refine xg_t (xg_getf (va := (2, 83)) (hF325.get (by decide) h82_31) rfl) ?_
            refine xg_t (xg_const) ?_
            refine xg_ialdB (n := 0) (B := 4294967295) (hR83.fr hF325 (by decide)) (hgb) xnm0 (by first | decide | omega) (fun u336 hu337 he338 => ?_)
            have hl339 : u336 ≤ 6 := by rw [← he338]; exact hok.l0
            by_cases hc340 : pj < u336
            · refine xg_t (xg_icF (u := pj) (v := u336) rfl xnm0 xnm0 (xj_geF hc340 (by omega))) ?_
              refine xg_t (xg_aload (va := (2, 82)) rfl rfl) ?_
              refine xg_t (xg_getf (va := (2, 92)) (hF325.get (by decide) h82_31) rfl) ?_
              refine xg_t (xg_iload (va := (0, pj)) rfl rfl) ?_
              refine xg_t (xg_aload (va := (2, 82)) rfl rfl) ?_
              refine xg_t (xg_getf (va := (2, 92)) (hF325.get (by decide) h82_31) rfl) ?_
              refine xg_t (xg_aload (va := (2, 82)) rfl rfl) ?_
              refine xg_t (xg_getf (va := (2, 91)) (hF325.get (by decide) h82_31) rfl) ?_
              refine xg_t (xg_iload (va := (0, pj)) rfl rfl) ?_
              refine xg_ialdB (n := pj) (B := 5) hr331 (hb332) xnm0 (by omega) (fun u341 hu342 he343 => ?_)
              have hv344 := hV334 pj (by omega)
              rw [he343] at hv344
              obtain ⟨g92_345, h92_346⟩ := (xqc92 hI324 : cpJ 6 59 (wget w323 92))
              have h92_346 : xRk 3 4 w323 92 6 59 g92_345 := h92_346
              refine xg_kl (xg_lald (n := u341) h92_346 xnm0 (by omega) rfl) (fun l348 => ?_)
              refine xg_last (n := pj) (u := l348) h92_346 xnm0 (by omega) (fun w349 hr350 hb351 => ?_)
              refine xg_t (xg_aload (va := (2, 82)) rfl rfl) ?_
              refine xg_t (xg_getf (va := (2, 93)) (hb351.get (by decide) (hF325.get (by decide) h82_31)) rfl) ?_
              refine xg_t (xg_iload (va := (0, pj)) rfl rfl) ?_
              refine xg_t (xg_aload (va := (2, 82)) rfl rfl) ?_
              refine xg_t (xg_getf (va := (2, 93)) (hb351.get (by decide) (hF325.get (by decide) h82_31)) rfl) ?_
              refine xg_t (xg_aload (va := (2, 82)) rfl rfl) ?_
              refine xg_t (xg_getf (va := (2, 91)) (hb351.get (by decide) (hF325.get (by decide) h82_31)) rfl) ?_
              refine xg_t (xg_iload (va := (0, pj)) rfl rfl) ?_
              refine xg_ialdB (n := pj) (B := 5) (hr331.but hb351 (by decide)) (hb332) xnm0 (by omega) (fun u352 hu353 he354 => ?_)
              have hv355 := hV334 pj (by omega)
              rw [he354] at hv355
              obtain ⟨l356, hz357⟩ : ∃ z, U330 u352 = z := ⟨_, rfl⟩
              refine xg_t (xg_lald (n := u352) (hr333.but hb351 (by decide)) xnm0 (by omega) hz357) ?_
              refine xg_last (n := pj) (u := l356) (hr333.but hb351 (by decide)) xnm0 (by omega) (fun w358 hr359 hb360 => ?_)
              refine xg_t (xg_aload (va := (2, 82)) rfl rfl) ?_
              refine xg_t (xg_getf (va := (2, 90)) (hb360.get (by decide) (hb351.get (by decide) (hF325.get (by decide) h82_31))) rfl) ?_
              refine xg_t (xg_iload (va := (0, pj)) rfl rfl) ?_
              refine xoI (xqc90 hI324 : cpI 6 57 4294967295 (wget w323 90)) (fun g90_361 h90_362 hb363 => ?_)
              refine xg_ialdB (n := pj) (B := 4294967295) ((h90_362.but hb351 (by decide)).but hb360 (by decide)) (hb363) xnm0 (by omega) (fun u364 hu365 he366 => ?_)
              refine xg_t (xg_aload (va := (2, 82)) rfl rfl) ?_
              refine xg_t (xg_iload (va := (0, pj)) rfl rfl) ?_
              refine xg_t (xg_const) ?_
              refine xg_cVi mX12_layerOf (vs := [(0, pj), (0, 0)]) (rest := [(0, u364)]) (cn1 := 0) (sl1 := 0) rfl (mLayerOf (xMnv.up (S := [92, 93]) hI324 ((xFr.of (S := [92, 93]) hb351 (by decide)).tr (xFr.of (S := [92, 93]) hb360 (by decide))) (List.forall_mem_cons.mpr ⟨xqu92 (show cpJ 6 59 (wget w358 92) from ⟨_, (hr350.but hb360 (by decide))⟩), List.forall_mem_cons.mpr ⟨xqu93 (show cpJ 6 60 (wget w358 93) from ⟨_, hr359⟩), fun _ h => absurd h List.not_mem_nil⟩⟩)) (by omega) (by omega) (((hR88.fr hF325 (by decide)).but hb351 (by decide)).but hb360 (by decide)) hob (((hR83.fr hF325 (by decide)).but hb351 (by decide)).but hb360 (by decide)) hgb hok) rfl (hb360.get (by decide) (hb351.get (by decide) (hF325.get (by decide) h82_31))) rfl rfl rfl rfl rfl rfl (fun n371 w367 hq368 => ?_)
              obtain ⟨hn372, hI369, hF370⟩ := hq368
              have hv373 := hn372.2 (by decide) (hord pj (by omega))
              have hv374 := hv373.1
              have hv375 := hv373.2
              refine xg_k (xg_iadd (u := u364) (v := n371) (z := (u364 + n371) % 4294967296) xnm0 xnm0 rfl) (Nat.mod_lt _ (by decide)) (fun z376 hz377 => ?_)
              refine xg_kl (xg_i2l (u := z376) xnm0) (fun l378 => ?_)
              refine xg_t (xg_aload (va := (2, 82)) rfl rfl) ?_
              refine xg_t (xg_getf (va := (2, 93)) (hF370.get (by decide) (hb360.get (by decide) (hb351.get (by decide) (hF325.get (by decide) h82_31)))) rfl) ?_
              refine xg_t (xg_iload (va := (0, pj)) rfl rfl) ?_
              refine xg_kl (xg_lald (n := pj) (hr359.fr hF370 (by decide)) xnm0 (by omega) rfl) (fun l379 => ?_)
              refine xg_kl (xg_lmul (u := l378) (v := l379)) (fun l380 => ?_)
              refine xg_t (xg_aload (va := (2, 82)) rfl rfl) ?_
              refine xg_t (xg_getf (va := (2, 92)) (hF370.get (by decide) (hb360.get (by decide) (hb351.get (by decide) (hF325.get (by decide) h82_31)))) rfl) ?_
              refine xg_t (xg_iload (va := (0, pj)) rfl rfl) ?_
              refine xg_kl (xg_lald (n := pj) ((hr350.but hb360 (by decide)).fr hF370 (by decide)) xnm0 (by omega) rfl) (fun l381 => ?_)
              refine xg_kl (xg_lsub (u := l380) (v := l381)) (fun l382 => ?_)
              refine xg_t (xg_lstore (l1 := [(0, (2, 82)), (2, (0, pj))]) rfl rfl) ?_
              refine xg_t (xg_aload (va := (2, 82)) rfl rfl) ?_
              refine xg_t (xg_getf (va := (2, 90)) (hF370.get (by decide) (hb360.get (by decide) (hb351.get (by decide) (hF325.get (by decide) h82_31)))) rfl) ?_
              refine xg_t (xg_iload (va := (0, pj)) rfl rfl) ?_
              refine xg_ialdB (n := pj) (B := 4294967295) (((h90_362.but hb351 (by decide)).but hb360 (by decide)).fr hF370 (by decide)) (hb363) xnm0 (by omega) (fun u383 hu384 he385 => ?_)
              refine xg_kl (xg_i2l (u := u383) xnm0) (fun l386 => ?_)
              refine xg_t (xg_aload (va := (2, 82)) rfl rfl) ?_
              refine xg_t (xg_getf (va := (2, 93)) (hF370.get (by decide) (hb360.get (by decide) (hb351.get (by decide) (hF325.get (by decide) h82_31)))) rfl) ?_
              refine xg_t (xg_iload (va := (0, pj)) rfl rfl) ?_
              refine xg_kl (xg_lald (n := pj) (hr359.fr hF370 (by decide)) xnm0 (by omega) rfl) (fun l387 => ?_)
              refine xg_kl (xg_lmul (u := l386) (v := l387)) (fun l388 => ?_)
              refine xg_t (xg_aload (va := (2, 82)) rfl rfl) ?_
              refine xg_t (xg_getf (va := (2, 92)) (hF370.get (by decide) (hb360.get (by decide) (hb351.get (by decide) (hF325.get (by decide) h82_31)))) rfl) ?_
              refine xg_t (xg_iload (va := (0, pj)) rfl rfl) ?_
              refine xg_kl (xg_lald (n := pj) ((hr350.but hb360 (by decide)).fr hF370 (by decide)) xnm0 (by omega) rfl) (fun l389 => ?_)
              refine xg_kl (xg_lsub (u := l388) (v := l389)) (fun l390 => ?_)
              refine xg_t (xg_lstore (l1 := [(3, (4, l382)), (0, (2, 82)), (2, (0, pj))]) rfl rfl) ?_
              refine xg_t (xg_aload (va := (2, 82)) rfl rfl) ?_
              refine xg_t (xg_getf (va := (2, 94)) (hF370.get (by decide) (hb360.get (by decide) (hb351.get (by decide) (hF325.get (by decide) h82_31)))) rfl) ?_
              refine xg_t (xg_iload (va := (0, pj)) rfl rfl) ?_
              refine xg_t (xg_lload (u := l390) rfl) ?_
              refine xg_cSj mX12_size0 (vs := [(4, l390)]) (rest := [(0, pj), (2, 94)]) (cn1 := 0) (sl1 := 0) rfl (mSize0 (hI369)) rfl rfl rfl rfl rfl rfl rfl (fun l395 w391 hq392 => ?_)
              obtain ⟨hn396, hI393, hF394⟩ := hq392
              refine xg_t (xg_lload (u := l382) rfl) ?_
              refine xg_cSj mX12_size0 (vs := [(4, l382)]) (rest := [(4, l395), (0, pj), (2, 94)]) (cn1 := 0) (sl1 := 0) rfl (mSize0 (hI393)) rfl rfl rfl rfl rfl rfl rfl (fun l401 w397 hq398 => ?_)
              obtain ⟨hn402, hI399, hF400⟩ := hq398
              refine xg_k (xg_lcmp (u := l395) (v := l401)) (xpt_lt _) (fun z403 hz404 => ?_)
              by_cases hc405 : xbs 0 < xbs z403
              · have hc405u := hc405
                unfold xbs at hc405u
                have hn406 : z403 ≤ 2147483647 := by omega
                refine xg_t (xg_ifF (u := z403) rfl xnm0 (xjs_leF hc405)) ?_
                refine xg_t (xg_lload (u := l390) rfl) ?_
                refine xg_t (xg_goto) ?_
                refine xg_t (xg_blq rfl) ?_
                obtain ⟨g94_407, h94_408⟩ := (xqc94 hI399 : cpJ 6 61 (wget w397 94))
                have h94_408 : xRk 3 4 w397 94 6 61 g94_407 := h94_408
                refine xg_last (n := pj) (u := l390) h94_408 xnm0 (by omega) (fun w410 hr411 hb412 => ?_)
                refine xg_t (xg_iinc (u := pj) (z := pj + 1) (l1 := [(5, (4, l390)), (3, (4, l382)), (0, (2, 82))]) rfl rfl (by omega) rfl) ?_
                refine xg_t (xg_goto) ?_
                refine xg_t (xg_drop (l1 := [(0, (2, 82)), (2, (0, pj + 1))]) (List.forall_mem_cons.mpr ⟨List.mem_cons_of_mem _ (List.mem_cons_of_mem _ (List.mem_cons_of_mem _ (List.mem_cons_self))), List.forall_mem_cons.mpr ⟨List.mem_cons_self, fun _ h => absurd h List.not_mem_nil⟩⟩)) ?_
                have hq413 := bl_cp (p := pj) (z := l356) hV334 hW335 (by omega) (by omega)
                exact ih321 (pj + 1) w410 (by omega) (by omega) (xMnv.up (S := [94]) hI399 (xFr.of (S := [94]) hb412 (by decide)) (List.forall_mem_cons.mpr ⟨xqu94 (show cpJ 6 61 (wget w410 94) from ⟨_, hr411⟩), fun _ h => absurd h List.not_mem_nil⟩)) ((((((hF325.tr ((xFr.of (S := [90, 91, 92, 93, 94]) hb351 (by decide)).tr (xFr.of (S := [90, 91, 92, 93, 94]) hb360 (by decide)))).tr (hF370.up (by decide))).tr (hF394.up (by decide))).tr (hF400.up (by decide))).tr (xFr.of (S := [90, 91, 92, 93, 94]) hb412 (by decide)))) (⟨_, _, ((((((hr331.but hb351 (by decide)).but hb360 (by decide)).fr hF370 (by decide)).fr hF394 (by decide)).fr hF400 (by decide)).but hb412 (by decide)), hb332, ((((hr359.fr hF370 (by decide)).fr hF394 (by decide)).fr hF400 (by decide)).but hb412 (by decide)), hq413.1, hq413.2⟩)
              · have hc405u := hc405
                unfold xbs at hc405u
                refine xg_t (xg_ifT (u := z403) rfl xnm0 (xjs_leT hc405)) ?_
                refine xg_t (xg_blq rfl) ?_
                refine xg_t (xg_lload (u := l382) rfl) ?_
                refine xg_t (xg_blq rfl) ?_
                obtain ⟨g94_414, h94_415⟩ := (xqc94 hI399 : cpJ 6 61 (wget w397 94))
                have h94_415 : xRk 3 4 w397 94 6 61 g94_414 := h94_415
                refine xg_last (n := pj) (u := l382) h94_415 xnm0 (by omega) (fun w417 hr418 hb419 => ?_)
                refine xg_t (xg_iinc (u := pj) (z := pj + 1) (l1 := [(5, (4, l390)), (3, (4, l382)), (0, (2, 82))]) rfl rfl (by omega) rfl) ?_
                refine xg_t (xg_goto) ?_
                refine xg_t (xg_drop (l1 := [(0, (2, 82)), (2, (0, pj + 1))]) (List.forall_mem_cons.mpr ⟨List.mem_cons_of_mem _ (List.mem_cons_of_mem _ (List.mem_cons_of_mem _ (List.mem_cons_self))), List.forall_mem_cons.mpr ⟨List.mem_cons_self, fun _ h => absurd h List.not_mem_nil⟩⟩)) ?_
                have hq420 := bl_cp (p := pj) (z := l356) hV334 hW335 (by omega) (by omega)
                exact ih321 (pj + 1) w417 (by omega) (by omega) (xMnv.up (S := [94]) hI399 (xFr.of (S := [94]) hb419 (by decide)) (List.forall_mem_cons.mpr ⟨xqu94 (show cpJ 6 61 (wget w417 94) from ⟨_, hr418⟩), fun _ h => absurd h List.not_mem_nil⟩)) ((((((hF325.tr ((xFr.of (S := [90, 91, 92, 93, 94]) hb351 (by decide)).tr (xFr.of (S := [90, 91, 92, 93, 94]) hb360 (by decide)))).tr (hF370.up (by decide))).tr (hF394.up (by decide))).tr (hF400.up (by decide))).tr (xFr.of (S := [90, 91, 92, 93, 94]) hb419 (by decide)))) (⟨_, _, ((((((hr331.but hb351 (by decide)).but hb360 (by decide)).fr hF370 (by decide)).fr hF394 (by decide)).fr hF400 (by decide)).but hb419 (by decide)), hb332, ((((hr359.fr hF370 (by decide)).fr hF394 (by decide)).fr hF400 (by decide)).but hb419 (by decide)), hq420.1, hq420.2⟩)
            · refine xg_t (xg_icT (u := pj) (v := u336) rfl xnm0 xnm0 (xj_geT (by omega) (by omega))) ?_
              refine xg_t (xg_blq rfl) ?_
              exact xg_e ⟨w323, ⟨rfl, rfl⟩, hI324, hF325, ⟨_, hr333, fun q hq => hW335 q (by omega)⟩⟩
        exact key320 _ 0 w36 (Nat.lt_succ_self _) (by omega) (hI37) (hF38) (⟨_, _, hr51, hb52, hr53, fun q hq => (by have h := hB54 q (by omega); omega), fun q hq => absurd hq (Nat.not_lt_zero _)⟩)
  exact key33 _ 0 0 w (Nat.lt_succ_self _) (by omega) (by omega) (hI) (xFr.rf) (⟨_, _, h91_40, hb41, h93_43, fun q hq => absurd hq (Nat.not_lt_zero _)⟩)
theorem mAsTold {g0 : Nat → Nat} (hI : xMnv w) (hR83 : xRow w 83 5360 50 g0) (hgb : ∀ j, g0 j ≤ 4294967295) (hok : okA g0) : xPq (d + 2) mX12_asTold [(2, 82)] w bd fc rr [] (fun w' => xMnv w' ∧ xFr [88, 90, 91, 92, 93, 94] w w' ∧ (∃ o U : Nat → Nat, xRow w' 88 6 55 o ∧ (∀ j, o j ≤ 5) ∧ (∀ q, q < g0 0 → o q < g0 0) ∧ xRk 3 4 w' 93 6 60 U ∧ ∀ q, q < g0 0 → 1 ≤ U q ∧ U q ≤ 117612)) := by
  refine xPq.of ?_
  show xTo (d + 2) mX12_asTold (0, [], [(0, (2, 82))], [], (w, bd, fc, 0, 0, rr)) (fun φ => ∃ w', xEnd 0 [] (w', bd, fc, 0, 0, rr) φ ∧ xMnv w' ∧ xFr [88, 90, 91, 92, 93, 94] w w' ∧ (∃ o U : Nat → Nat, xRow w' 88 6 55 o ∧ (∀ j, o j ≤ 5) ∧ (∀ q, q < g0 0 → o q < g0 0) ∧ xRk 3 4 w' 93 6 60 U ∧ ∀ q, q < g0 0 → 1 ≤ U q ∧ U q ≤ 117612))
  refine xoCh82 (xqc82 hI : cp82 (wget w 82)) (fun f82_1 f82_3 f82_5 f82_7 f82_9 f82_11 f82_13 f82_15 f82_17 f82_19 f82_21 f82_22 f82_23 f82_25 f82_27 f82_29 h82_31 hb2 hb4 hb6 hb8 hb10 hb12 hb14 hb16 hb18 hb20 hb24 hb26 hb28 hb30 hb32 => ?_)
  refine xg_t (xg_blq rfl) ?_
  refine xg_t (xg_aload (va := (2, 82)) rfl rfl) ?_
  refine xg_cVv mX12_inOrder (vs := []) (rest := []) (cn1 := 0) (sl1 := 0) rfl (mInOrder (hI)) rfl h82_31 rfl rfl rfl rfl rfl rfl (fun w33 hq34 => ?_)
  obtain ⟨hI35, hF36, hx37⟩ := hq34
  obtain ⟨o38, hr39, hb40, ho41⟩ := hx37
  refine xg_t (xg_aload (va := (2, 82)) rfl rfl) ?_
  have hl43 := hok.l0
  have hord42 : ∀ q, q < g0 0 → o38 q < g0 0 := fun q hq => by rw [ho41 q (by omega)]; exact hq
  refine xg_cVv mX12_blocks (vs := []) (rest := []) (cn1 := 0) (sl1 := 0) rfl (mBlocks (hI35) hr39 hb40 (hR83.fr hF36 (by decide)) hgb hok hord42) rfl (hF36.get (by decide) h82_31) rfl rfl rfl rfl rfl rfl (fun w44 hq45 => ?_)
  obtain ⟨hI46, hF47, hx48⟩ := hq45
  obtain ⟨U49, hr50, hU51⟩ := hx48
  exact xg_e ⟨w44, ⟨rfl, rfl⟩, hI46, ((hF36.up (by decide)).tr (hF47.up (by decide))), ⟨_, _, (hr39.fr hF47 (by decide)), hb40, hord42, hr50, hU51⟩⟩
theorem mLeastNow {o0 g0 U0 : Nat → Nat} (hI : xMnv w) (hR88 : xRow w 88 6 55 o0) (hob : ∀ j, o0 j ≤ 5) (hR83 : xRow w 83 5360 50 g0) (hgb : ∀ j, g0 j ≤ 4294967295) (hok : okA g0) (hord : ∀ q, q < g0 0 → o0 q < g0 0) (hR93 : xRk 3 4 w 93 6 60 U0) (hU : ∀ q, q < g0 0 → 1 ≤ U0 q ∧ U0 q ≤ 117612) : xPi (d + 1) mX12_leastNow [(2, 82)] w bd fc rr (fun n w' => (n ≤ 4294967295) ∧ xMnv w' ∧ xFr [] w w') := by
  refine xPi.of ?_
  show xTo (d + 1) mX12_leastNow (0, [], [(0, (2, 82))], [], (w, bd, fc, 0, 0, rr)) (fun φ => ∃ n w', xEnd 1 [(0, n)] (w', bd, fc, 0, 0, rr) φ ∧ (n ≤ 4294967295) ∧ xMnv w' ∧ xFr [] w w')
  refine xoCh82 (xqc82 hI : cp82 (wget w 82)) (fun f82_1 f82_3 f82_5 f82_7 f82_9 f82_11 f82_13 f82_15 f82_17 f82_19 f82_21 f82_22 f82_23 f82_25 f82_27 f82_29 h82_31 hb2 hb4 hb6 hb8 hb10 hb12 hb14 hb16 hb18 hb20 hb24 hb26 hb28 hb30 hb32 => ?_)
  refine xg_t (xg_blq rfl) ?_
  refine xg_t (xg_const) ?_
  refine xg_t (xg_istore (l1 := [(0, (2, 82))]) rfl rfl rfl) ?_
  refine xg_t (xg_const) ?_
  refine xg_t (xg_istore (l1 := [(1, (0, 1)), (0, (2, 82))]) rfl rfl rfl) ?_
  refine xg_t (xg_drop (l1 := [(0, (2, 82)), (1, (0, 1)), (2, (0, 0))]) (List.forall_mem_cons.mpr ⟨List.mem_cons_of_mem _ (List.mem_cons_of_mem _ (List.mem_cons_self)), List.forall_mem_cons.mpr ⟨List.mem_cons_of_mem _ (List.mem_cons_self), List.forall_mem_cons.mpr ⟨List.mem_cons_self, fun _ h => absurd h List.not_mem_nil⟩⟩⟩)) ?_
  have key33 : ∀ (m35 : Nat) (le pi_ : Nat) (w36 : List (List xE)), 6 - pi_ < m35 → le ≤ 4294967295 → pi_ ≤ 6 → xMnv w36 → xFr [] w w36 → xTo (d + 1) mX12_leastNow (4, [], [(0, (2, 82)), (1, (0, le)), (2, (0, pi_))], [], (w36, bd, fc, 0, 0, rr)) (fun φ => ∃ n w', xEnd 1 [(0, n)] (w', bd, fc, 0, 0, rr) φ ∧ (n ≤ 4294967295) ∧ xMnv w' ∧ xFr [] w w') := by
    intro m35
    induction m35 with
    | zero => intro le pi_ w36 hz; exact absurd hz (Nat.not_lt_zero _)
    | succ m35 ih34 =>
      intro le pi_ w36 hm41 hn39 hn40 hI37 hF38
      refine xg_t (xg_blq rfl) ?_
      refine xg_t (xg_iload (va := (0, pi_)) rfl rfl) ?_
      refine xg_t (xg_aload (va := (2, 82)) rfl rfl) ?_
      refine xg_t (xg_getf (va := (2, 83)) (hF38.get (by decide) h82_31) rfl) ?_
      refine xg_t (xg_const) ?_
      refine xg_ialdB (n := 0) (B := 4294967295) (hR83.fr hF38 (by decide)) (hgb) xnm0 (by first | decide | omega) (fun u42 hu43 he44 => ?_)
      have hl45 : u42 ≤ 6 := by rw [← he44]; exact hok.l0
      by_cases hc46 : pi_ < u42
      · refine xg_t (xg_icF (u := pi_) (v := u42) rfl xnm0 xnm0 (xj_geF hc46 (by omega))) ?_
        refine xg_t (xg_aload (va := (2, 82)) rfl rfl) ?_
        refine xg_t (xg_iload (va := (0, pi_)) rfl rfl) ?_
        refine xg_t (xg_const) ?_
        refine xg_cVi mX12_layerOf (vs := [(0, pi_), (0, 2)]) (rest := []) (cn1 := 0) (sl1 := 0) rfl (mLayerOf (hI37) (by omega) (by omega) (hR88.fr hF38 (by decide)) hob (hR83.fr hF38 (by decide)) hgb hok) rfl (hF38.get (by decide) h82_31) rfl rfl rfl rfl rfl rfl (fun n51 w47 hq48 => ?_)
        obtain ⟨hn52, hI49, hF50⟩ := hq48
        have hv53 := hn52.2 (by decide) (hord pi_ (by omega))
        have hv54 := hv53.1
        have hv55 := hv53.2
        refine xg_t (xg_i2l (u := n51) xnm0) ?_
        refine xg_t (xg_lre (b := n51) (by rw [xlp_eq]; exact nI_l (by omega))) ?_
        refine xg_t (xg_aload (va := (2, 82)) rfl rfl) ?_
        refine xg_t (xg_getf (va := (2, 93)) (hF50.get (by decide) (hF38.get (by decide) h82_31)) rfl) ?_
        refine xg_t (xg_iload (va := (0, pi_)) rfl rfl) ?_
        obtain ⟨l56, hz57⟩ : ∃ z, U0 pi_ = z := ⟨_, rfl⟩
        refine xg_t (xg_lald (n := pi_) ((hR93.fr hF38 (by decide)).fr hF50 (by decide)) xnm0 (by omega) hz57) ?_
        have hv58 := hU pi_ (by omega)
        rw [hz57] at hv58
        refine xg_t (xg_lmul (u := n51) (v := l56)) ?_
        refine xg_t (xg_lre (b := n51 * l56) (by rw [xlp_eq]; exact lN_mul _ _)) ?_
        have hm59 : 1 * 1 ≤ n51 * l56 := Nat.mul_le_mul (by omega) (by omega)
        have hm60 : n51 * l56 ≤ 99 * 117612 := Nat.mul_le_mul (by omega) (by omega)
        refine xg_t (xg_lstore (l1 := [(0, (2, 82)), (1, (0, le)), (2, (0, pi_))]) rfl rfl) ?_
        refine xg_t (xg_ldc2) ?_
        refine xg_t (xg_aload (va := (2, 82)) rfl rfl) ?_
        refine xg_t (xg_getf (va := (2, 94)) (hF50.get (by decide) (hF38.get (by decide) h82_31)) rfl) ?_
        refine xg_t (xg_iload (va := (0, pi_)) rfl rfl) ?_
        obtain ⟨g94_61, h94_62⟩ := (xqc94 hI49 : cpJ 6 61 (wget w47 94))
        have h94_62 : xRk 3 4 w47 94 6 61 g94_61 := h94_62
        refine xg_kl (xg_lald (n := pi_) h94_62 xnm0 (by omega) rfl) (fun l64 => ?_)
        refine xg_cSj mX12_size0 (vs := [(4, l64)]) (rest := [(4, 1000)]) (cn1 := 0) (sl1 := 0) rfl (mSize0 (hI49)) rfl rfl rfl rfl rfl rfl rfl (fun l69 w65 hq66 => ?_)
        obtain ⟨hn70, hI67, hF68⟩ := hq66
        refine xg_kl (xg_lmul (u := 1000) (v := l69)) (fun l71 => ?_)
        refine xg_t (xg_lload (u := n51 * l56) rfl) ?_
        refine xg_kl (xg_ladd (u := l71) (v := n51 * l56)) (fun l72 => ?_)
        refine xg_t (xg_lconst) ?_
        refine xg_kl (xg_lsub (u := l72) (v := 1)) (fun l73 => ?_)
        refine xg_t (xg_lload (u := n51 * l56) rfl) ?_
        refine xg_kl (xg_ldiv (u := l73) (v := n51 * l56) (lN_ne0 (by omega) (by omega))) (fun l74 => ?_)
        refine xg_t (xg_lstore (l1 := [(3, (4, n51 * l56)), (0, (2, 82)), (1, (0, le)), (2, (0, pi_))]) rfl rfl) ?_
        refine xg_t (xg_lload (u := l74) rfl) ?_
        refine xg_t (xg_iload (va := (0, le)) rfl rfl) ?_
        refine xg_kl (xg_i2l (u := le) xnm0) (fun l75 => ?_)
        refine xg_k (xg_lcmp (u := l74) (v := l75)) (xpt_lt _) (fun z76 hz77 => ?_)
        by_cases hc78 : xbs 0 < xbs z76
        · have hc78u := hc78
          unfold xbs at hc78u
          have hn79 : z76 ≤ 2147483647 := by omega
          refine xg_t (xg_ifF (u := z76) rfl xnm0 (xjs_leF hc78)) ?_
          refine xg_t (xg_lload (u := l74) rfl) ?_
          refine xg_t (xg_ldc2) ?_
          refine xg_k (xg_lcmp (u := l74) (v := 9999)) (xpt_lt _) (fun z80 hz81 => ?_)
          by_cases hc82 : xbs 0 < xbs z80
          · have hc82u := hc82
            unfold xbs at hc82u
            have hn83 : z80 ≤ 2147483647 := by omega
            refine xg_t (xg_ifF (u := z80) rfl xnm0 (xjs_leF hc82)) ?_
            refine xg_t (xg_sip) ?_
            refine xg_t (xg_goto) ?_
            refine xg_t (xg_blq rfl) ?_
            refine xg_t (xg_istore (l1 := [(5, (4, l74)), (3, (4, n51 * l56)), (0, (2, 82)), (2, (0, pi_))]) rfl rfl rfl) ?_
            refine xg_t (xg_blq rfl) ?_
            refine xg_t (xg_iinc (u := pi_) (z := pi_ + 1) (l1 := [(1, (0, 10000)), (5, (4, l74)), (3, (4, n51 * l56)), (0, (2, 82))]) rfl rfl (by omega) rfl) ?_
            refine xg_t (xg_goto) ?_
            refine xg_t (xg_drop (l1 := [(0, (2, 82)), (1, (0, 10000)), (2, (0, pi_ + 1))]) (List.forall_mem_cons.mpr ⟨List.mem_cons_of_mem _ (List.mem_cons_of_mem _ (List.mem_cons_of_mem _ (List.mem_cons_of_mem _ (List.mem_cons_self)))), List.forall_mem_cons.mpr ⟨List.mem_cons_of_mem _ (List.mem_cons_self), List.forall_mem_cons.mpr ⟨List.mem_cons_self, fun _ h => absurd h List.not_mem_nil⟩⟩⟩)) ?_
            exact ih34 10000 (pi_ + 1) w65 (by omega) (by omega) (by omega) (hI67) (((hF38.tr (hF50.up (by decide))).tr (hF68.up (by decide))))
          · have hc82u := hc82
            unfold xbs at hc82u
            refine xg_t (xg_ifT (u := z80) rfl xnm0 (xjs_leT hc82)) ?_
            refine xg_t (xg_blq rfl) ?_
            refine xg_t (xg_lload (u := l74) rfl) ?_
            refine xg_k (xg_l2i (u := l74)) (xpt_lt _) (fun z84 hz85 => ?_)
            refine xg_t (xg_blq rfl) ?_
            refine xg_t (xg_istore (l1 := [(5, (4, l74)), (3, (4, n51 * l56)), (0, (2, 82)), (2, (0, pi_))]) rfl rfl rfl) ?_
            refine xg_t (xg_blq rfl) ?_
            refine xg_t (xg_iinc (u := pi_) (z := pi_ + 1) (l1 := [(1, (0, z84)), (5, (4, l74)), (3, (4, n51 * l56)), (0, (2, 82))]) rfl rfl (by omega) rfl) ?_
            refine xg_t (xg_goto) ?_
            refine xg_t (xg_drop (l1 := [(0, (2, 82)), (1, (0, z84)), (2, (0, pi_ + 1))]) (List.forall_mem_cons.mpr ⟨List.mem_cons_of_mem _ (List.mem_cons_of_mem _ (List.mem_cons_of_mem _ (List.mem_cons_of_mem _ (List.mem_cons_self)))), List.forall_mem_cons.mpr ⟨List.mem_cons_of_mem _ (List.mem_cons_self), List.forall_mem_cons.mpr ⟨List.mem_cons_self, fun _ h => absurd h List.not_mem_nil⟩⟩⟩)) ?_
            exact ih34 z84 (pi_ + 1) w65 (by omega) (by omega) (by omega) (hI67) (((hF38.tr (hF50.up (by decide))).tr (hF68.up (by decide))))
        · have hc78u := hc78
          unfold xbs at hc78u
          refine xg_t (xg_ifT (u := z76) rfl xnm0 (xjs_leT hc78)) ?_
          refine xg_t (xg_blq rfl) ?_
          refine xg_t (xg_iinc (u := pi_) (z := pi_ + 1) (l1 := [(5, (4, l74)), (3, (4, n51 * l56)), (0, (2, 82)), (1, (0, le))]) rfl rfl (by omega) rfl) ?_
          refine xg_t (xg_goto) ?_
          refine xg_t (xg_drop (l1 := [(0, (2, 82)), (1, (0, le)), (2, (0, pi_ + 1))]) (List.forall_mem_cons.mpr ⟨List.mem_cons_of_mem _ (List.mem_cons_of_mem _ (List.mem_cons_of_mem _ (List.mem_cons_self))), List.forall_mem_cons.mpr ⟨List.mem_cons_of_mem _ (List.mem_cons_of_mem _ (List.mem_cons_of_mem _ (List.mem_cons_of_mem _ (List.mem_cons_self)))), List.forall_mem_cons.mpr ⟨List.mem_cons_self, fun _ h => absurd h List.not_mem_nil⟩⟩⟩)) ?_
          exact ih34 le (pi_ + 1) w65 (by omega) (by omega) (by omega) (hI67) (((hF38.tr (hF50.up (by decide))).tr (hF68.up (by decide))))
      · refine xg_t (xg_icT (u := pi_) (v := u42) rfl xnm0 xnm0 (xj_geT (by omega) (by omega))) ?_
        refine xg_t (xg_blq rfl) ?_
        refine xg_t (xg_iload (va := (0, le)) rfl rfl) ?_
        exact xg_e ⟨le, w36, ⟨rfl, rfl⟩, by omega, hI37, hF38⟩
  exact key33 _ 1 0 w (Nat.lt_succ_self _) (by omega) (by omega) (hI) (xFr.rf)
theorem mNeutral {la : Nat} (hI : xMnv w) (hla : la ≤ 4294967295) : xPi (d + 3) mX12_neutral [(2, 82), (0, la)] w bd fc rr (fun n w' => (n ≤ 4294967295) ∧ xMnv w' ∧ xFr [88, 90, 91, 92, 93, 94] w w') := by
  refine xPi.of ?_
  show xTo (d + 3) mX12_neutral (0, [], [(0, (2, 82)), (1, (0, la))], [], (w, bd, fc, 0, 0, rr)) (fun φ => ∃ n w', xEnd 1 [(0, n)] (w', bd, fc, 0, 0, rr) φ ∧ (n ≤ 4294967295) ∧ xMnv w' ∧ xFr [88, 90, 91, 92, 93, 94] w w')
  refine xoCh82 (xqc82 hI : cp82 (wget w 82)) (fun f82_1 f82_3 f82_5 f82_7 f82_9 f82_11 f82_13 f82_15 f82_17 f82_19 f82_21 f82_22 f82_23 f82_25 f82_27 f82_29 h82_31 hb2 hb4 hb6 hb8 hb10 hb12 hb14 hb16 hb18 hb20 hb24 hb26 hb28 hb30 hb32 => ?_)
  refine xoX83 (xqc83 hI : cpx83 (wget w 83)) (fun g83_33 h83_34 hb35 hx36 => ?_)
  refine xg_t (xg_blq rfl) ?_
  refine xg_t (xg_aload (va := (2, 82)) rfl rfl) ?_
  refine xg_t (xg_iload (va := (0, la)) rfl rfl) ?_
  refine xg_t (xg_const) ?_
  have hl37 := hx36.l0
  refine xg_cVi mX12_isOf (vs := [(0, la), (0, 0)]) (rest := []) (cn1 := 0) (sl1 := 0) rfl (mOf0 (hI) (by omega) h83_34 hb35 hx36) rfl h82_31 rfl rfl rfl rfl rfl rfl (fun n42 w38 hq39 => ?_)
  obtain ⟨hn43, hI40, hF41⟩ := hq39
  by_cases hc44 : n42 = 0
  · refine xg_t (xg_ifF (u := n42) rfl xnm0 (xj_neF hc44)) ?_
    refine xg_t (xg_const) ?_
    exact xg_e ⟨4294967295, w38, ⟨rfl, rfl⟩, by first | decide | omega, hI40, (hF41.up (by decide))⟩
  · refine xg_t (xg_ifT (u := n42) rfl xnm0 (xj_neT hc44)) ?_
    refine xg_t (xg_blq rfl) ?_
    refine xg_t (xg_aload (va := (2, 82)) rfl rfl) ?_
    refine xg_cVv mX12_asTold (vs := []) (rest := []) (cn1 := 0) (sl1 := 0) rfl (mAsTold (hI40) (h83_34.fr hF41 (by decide)) hb35 hx36) rfl (hF41.get (by decide) h82_31) rfl rfl rfl rfl rfl rfl (fun w45 hq46 => ?_)
    obtain ⟨hI47, hF48, hx49⟩ := hq46
    obtain ⟨o50, U51, hr52, hr53, hr54, hr55, hr56⟩ := hx49
    refine xg_t (xg_ldc2) ?_
    refine xg_t (xg_aload (va := (2, 82)) rfl rfl) ?_
    refine xg_t (xg_getf (va := (2, 92)) (hF48.get (by decide) (hF41.get (by decide) h82_31)) rfl) ?_
    refine xg_t (xg_iload (va := (0, la)) rfl rfl) ?_
    obtain ⟨g92_57, h92_58⟩ := (xqc92 hI47 : cpJ 6 59 (wget w45 92))
    have h92_58 : xRk 3 4 w45 92 6 59 g92_57 := h92_58
    refine xg_kl (xg_lald (n := la) h92_58 xnm0 (by omega) rfl) (fun l60 => ?_)
    refine xg_kl (xg_lmul (u := 1000) (v := l60)) (fun l61 => ?_)
    refine xg_t (xg_aload (va := (2, 82)) rfl rfl) ?_
    refine xg_t (xg_getf (va := (2, 93)) (hF48.get (by decide) (hF41.get (by decide) h82_31)) rfl) ?_
    refine xg_t (xg_iload (va := (0, la)) rfl rfl) ?_
    obtain ⟨l62, hz63⟩ : ∃ z, U51 la = z := ⟨_, rfl⟩
    refine xg_t (xg_lald (n := la) hr55 xnm0 (by omega) hz63) ?_
    have hv64 := hr56 la (by omega)
    rw [hz63] at hv64
    refine xg_kl (xg_ldiv (u := l61) (v := l62) (lN_ne0 (by omega) (by omega))) (fun l65 => ?_)
    refine xg_k (xg_l2i (u := l65)) (xpt_lt _) (fun z66 hz67 => ?_)
    exact xg_e ⟨z66, w45, ⟨rfl, rfl⟩, by omega, hI47, ((hF41.up (by decide)).tr (hF48.up (by decide)))⟩
theorem mStretch {la ro : Nat} (hI : xMnv w) (hla : la ≤ 4294967295) (hro : ro ≤ 4294967295) : xPi (d + 3) mX12_stretch [(2, 82), (0, la), (0, ro)] w bd fc rr (fun n w' => (n ≤ 4294967295) ∧ xMnv w' ∧ xFr [88, 90, 91, 92, 93, 94] w w') := by
  refine xPi.of ?_
  show xTo (d + 3) mX12_stretch (0, [], [(0, (2, 82)), (1, (0, la)), (2, (0, ro))], [], (w, bd, fc, 0, 0, rr)) (fun φ => ∃ n w', xEnd 1 [(0, n)] (w', bd, fc, 0, 0, rr) φ ∧ (n ≤ 4294967295) ∧ xMnv w' ∧ xFr [88, 90, 91, 92, 93, 94] w w')
  refine xoCh82 (xqc82 hI : cp82 (wget w 82)) (fun f82_1 f82_3 f82_5 f82_7 f82_9 f82_11 f82_13 f82_15 f82_17 f82_19 f82_21 f82_22 f82_23 f82_25 f82_27 f82_29 h82_31 hb2 hb4 hb6 hb8 hb10 hb12 hb14 hb16 hb18 hb20 hb24 hb26 hb28 hb30 hb32 => ?_)
  refine xoX83 (xqc83 hI : cpx83 (wget w 83)) (fun g83_33 h83_34 hb35 hx36 => ?_)
  refine xg_t (xg_blq rfl) ?_
  refine xg_t (xg_aload (va := (2, 82)) rfl rfl) ?_
  refine xg_t (xg_iload (va := (0, la)) rfl rfl) ?_
  refine xg_t (xg_const) ?_
  have hl37 := hx36.l0
  refine xg_cVi mX12_isOf (vs := [(0, la), (0, 0)]) (rest := []) (cn1 := 0) (sl1 := 0) rfl (mOf0 (hI) (by omega) h83_34 hb35 hx36) rfl h82_31 rfl rfl rfl rfl rfl rfl (fun n42 w38 hq39 => ?_)
  obtain ⟨hn43, hI40, hF41⟩ := hq39
  by_cases hc44 : n42 = 0
  · refine xg_t (xg_ifT (u := n42) rfl xnm0 (xj_eqT hc44)) ?_
    refine xg_t (xg_blq rfl) ?_
    refine xg_t (xg_ldc) ?_
    exact xg_e ⟨2294967296, w38, ⟨rfl, rfl⟩, by first | decide | omega, hI40, (hF41.up (by decide))⟩
  · refine xg_t (xg_ifF (u := n42) rfl xnm0 (xj_eqF hc44)) ?_
    refine xg_t (xg_aload (va := (2, 82)) rfl rfl) ?_
    refine xg_t (xg_iload (va := (0, ro)) rfl rfl) ?_
    refine xg_cVi mX12_isRound (vs := [(0, ro)]) (rest := []) (cn1 := 0) (sl1 := 0) rfl (mRound (hI40) (by omega)) rfl (hF41.get (by decide) h82_31) rfl rfl rfl rfl rfl rfl (fun n49 w45 hq46 => ?_)
    obtain ⟨hn50, hI47, hF48⟩ := hq46
    by_cases hc51 : n49 = 0
    · refine xg_t (xg_ifF (u := n49) rfl xnm0 (xj_neF hc51)) ?_
      refine xg_t (xg_blq rfl) ?_
      refine xg_t (xg_ldc) ?_
      exact xg_e ⟨2294967296, w45, ⟨rfl, rfl⟩, by first | decide | omega, hI47, ((hF41.up (by decide)).tr (hF48.up (by decide)))⟩
    · refine xg_t (xg_ifT (u := n49) rfl xnm0 (xj_neT hc51)) ?_
      refine xg_t (xg_blq rfl) ?_
      refine xg_t (xg_aload (va := (2, 82)) rfl rfl) ?_
      refine xg_cVv mX12_asTold (vs := []) (rest := []) (cn1 := 0) (sl1 := 0) rfl (mAsTold (hI47) ((h83_34.fr hF41 (by decide)).fr hF48 (by decide)) hb35 hx36) rfl (hF48.get (by decide) (hF41.get (by decide) h82_31)) rfl rfl rfl rfl rfl rfl (fun w52 hq53 => ?_)
      obtain ⟨hI54, hF55, hx56⟩ := hq53
      obtain ⟨o57, U58, hr59, hr60, hr61, hr62, hr63⟩ := hx56
      refine xg_t (xg_ldc2) ?_
      refine xg_t (xg_aload (va := (2, 82)) rfl rfl) ?_
      refine xg_t (xg_getf (va := (2, 94)) (hF55.get (by decide) (hF48.get (by decide) (hF41.get (by decide) h82_31))) rfl) ?_
      refine xg_t (xg_iload (va := (0, la)) rfl rfl) ?_
      obtain ⟨g94_64, h94_65⟩ := (xqc94 hI54 : cpJ 6 61 (wget w52 94))
      have h94_65 : xRk 3 4 w52 94 6 61 g94_64 := h94_65
      refine xg_kl (xg_lald (n := la) h94_65 xnm0 (by omega) rfl) (fun l67 => ?_)
      refine xg_kl (xg_lmul (u := 1000000) (v := l67)) (fun l68 => ?_)
      refine xg_t (xg_iload (va := (0, ro)) rfl rfl) ?_
      refine xg_t (xg_i2l (u := ro) xnm0) ?_
      refine xg_t (xg_lre (b := ro) (by rw [xlp_eq]; exact nI_l (by omega))) ?_
      refine xg_t (xg_aload (va := (2, 82)) rfl rfl) ?_
      refine xg_t (xg_getf (va := (2, 93)) (hF55.get (by decide) (hF48.get (by decide) (hF41.get (by decide) h82_31))) rfl) ?_
      refine xg_t (xg_iload (va := (0, la)) rfl rfl) ?_
      obtain ⟨l69, hz70⟩ : ∃ z, U58 la = z := ⟨_, rfl⟩
      refine xg_t (xg_lald (n := la) hr62 xnm0 (by omega) hz70) ?_
      have hv71 := hr63 la (by omega)
      rw [hz70] at hv71
      refine xg_t (xg_lmul (u := ro) (v := l69)) ?_
      refine xg_t (xg_lre (b := ro * l69) (by rw [xlp_eq]; exact lN_mul _ _)) ?_
      have hm72 : 1 * 1 ≤ ro * l69 := Nat.mul_le_mul (by omega) (by omega)
      have hm73 : ro * l69 ≤ 9999 * 117612 := Nat.mul_le_mul (by omega) (by omega)
      refine xg_kl (xg_ldiv (u := l68) (v := ro * l69) (lN_ne0 (by omega) (by omega))) (fun l74 => ?_)
      refine xg_k (xg_l2i (u := l74)) (xpt_lt _) (fun z75 hz76 => ?_)
      exact xg_e ⟨z75, w52, ⟨rfl, rfl⟩, by omega, hI54, (((hF41.up (by decide)).tr (hF48.up (by decide))).tr (hF55.up (by decide)))⟩
theorem mBears {la ro : Nat} (hI : xMnv w) (hla : la ≤ 4294967295) (hro : ro ≤ 4294967295) : xPi (d + 3) mX12_bears [(2, 82), (0, la), (0, ro)] w bd fc rr (fun n w' => (n ≤ 1) ∧ xMnv w' ∧ xFr [88, 90, 91, 92, 93, 94] w w') := by
  refine xPi.of ?_
  show xTo (d + 3) mX12_bears (0, [], [(0, (2, 82)), (1, (0, la)), (2, (0, ro))], [], (w, bd, fc, 0, 0, rr)) (fun φ => ∃ n w', xEnd 4 [(0, n)] (w', bd, fc, 0, 0, rr) φ ∧ (n ≤ 1) ∧ xMnv w' ∧ xFr [88, 90, 91, 92, 93, 94] w w')
  refine xoCh82 (xqc82 hI : cp82 (wget w 82)) (fun f82_1 f82_3 f82_5 f82_7 f82_9 f82_11 f82_13 f82_15 f82_17 f82_19 f82_21 f82_22 f82_23 f82_25 f82_27 f82_29 h82_31 hb2 hb4 hb6 hb8 hb10 hb12 hb14 hb16 hb18 hb20 hb24 hb26 hb28 hb30 hb32 => ?_)
  refine xoX83 (xqc83 hI : cpx83 (wget w 83)) (fun g83_33 h83_34 hb35 hx36 => ?_)
  refine xg_t (xg_blq rfl) ?_
  refine xg_t (xg_aload (va := (2, 82)) rfl rfl) ?_
  refine xg_t (xg_iload (va := (0, la)) rfl rfl) ?_
  refine xg_t (xg_const) ?_
  have hl37 := hx36.l0
  refine xg_cVi mX12_isOf (vs := [(0, la), (0, 0)]) (rest := []) (cn1 := 0) (sl1 := 0) rfl (mOf0 (hI) (by omega) h83_34 hb35 hx36) rfl h82_31 rfl rfl rfl rfl rfl rfl (fun n42 w38 hq39 => ?_)
  obtain ⟨hn43, hI40, hF41⟩ := hq39
  by_cases hc44 : n42 = 0
  · refine xg_t (xg_ifT (u := n42) rfl xnm0 (xj_eqT hc44)) ?_
    refine xg_t (xg_blq rfl) ?_
    refine xg_t (xg_const) ?_
    exact xg_e ⟨0, w38, ⟨rfl, rfl⟩, by first | decide | omega, hI40, (hF41.up (by decide))⟩
  · refine xg_t (xg_ifF (u := n42) rfl xnm0 (xj_eqF hc44)) ?_
    refine xg_t (xg_aload (va := (2, 82)) rfl rfl) ?_
    refine xg_t (xg_iload (va := (0, ro)) rfl rfl) ?_
    refine xg_cVi mX12_isRound (vs := [(0, ro)]) (rest := []) (cn1 := 0) (sl1 := 0) rfl (mRound (hI40) (by omega)) rfl (hF41.get (by decide) h82_31) rfl rfl rfl rfl rfl rfl (fun n49 w45 hq46 => ?_)
    obtain ⟨hn50, hI47, hF48⟩ := hq46
    by_cases hc51 : n49 = 0
    · refine xg_t (xg_ifF (u := n49) rfl xnm0 (xj_neF hc51)) ?_
      refine xg_t (xg_blq rfl) ?_
      refine xg_t (xg_const) ?_
      exact xg_e ⟨0, w45, ⟨rfl, rfl⟩, by first | decide | omega, hI47, ((hF41.up (by decide)).tr (hF48.up (by decide)))⟩
    · refine xg_t (xg_ifT (u := n49) rfl xnm0 (xj_neT hc51)) ?_
      refine xg_t (xg_blq rfl) ?_
      refine xg_t (xg_aload (va := (2, 82)) rfl rfl) ?_
      refine xg_cVv mX12_asTold (vs := []) (rest := []) (cn1 := 0) (sl1 := 0) rfl (mAsTold (hI47) ((h83_34.fr hF41 (by decide)).fr hF48 (by decide)) hb35 hx36) rfl (hF48.get (by decide) (hF41.get (by decide) h82_31)) rfl rfl rfl rfl rfl rfl (fun w52 hq53 => ?_)
      obtain ⟨hI54, hF55, hx56⟩ := hq53
      obtain ⟨o57, U58, hr59, hr60, hr61, hr62, hr63⟩ := hx56
      refine xg_t (xg_ldc2) ?_
      refine xg_t (xg_aload (va := (2, 82)) rfl rfl) ?_
      refine xg_t (xg_getf (va := (2, 94)) (hF55.get (by decide) (hF48.get (by decide) (hF41.get (by decide) h82_31))) rfl) ?_
      refine xg_t (xg_iload (va := (0, la)) rfl rfl) ?_
      obtain ⟨g94_64, h94_65⟩ := (xqc94 hI54 : cpJ 6 61 (wget w52 94))
      have h94_65 : xRk 3 4 w52 94 6 61 g94_64 := h94_65
      refine xg_kl (xg_lald (n := la) h94_65 xnm0 (by omega) rfl) (fun l67 => ?_)
      refine xg_cSj mX12_size0 (vs := [(4, l67)]) (rest := [(4, 1000)]) (cn1 := 0) (sl1 := 0) rfl (mSize0 (hI54)) rfl rfl rfl rfl rfl rfl rfl (fun l72 w68 hq69 => ?_)
      obtain ⟨hn73, hI70, hF71⟩ := hq69
      refine xg_kl (xg_lmul (u := 1000) (v := l72)) (fun l74 => ?_)
      refine xg_t (xg_iload (va := (0, ro)) rfl rfl) ?_
      refine xg_kl (xg_i2l (u := ro) xnm0) (fun l75 => ?_)
      refine xg_t (xg_aload (va := (2, 82)) rfl rfl) ?_
      refine xg_t (xg_iload (va := (0, la)) rfl rfl) ?_
      refine xg_t (xg_const) ?_
      refine xg_cVi mX12_layerOf (vs := [(0, la), (0, 2)]) (rest := [(4, l75), (4, l74)]) (cn1 := 0) (sl1 := 0) rfl (mLayerOf (hI70) (by omega) (by omega) (hr59.fr hF71 (by decide)) hr60 ((((h83_34.fr hF41 (by decide)).fr hF48 (by decide)).fr hF55 (by decide)).fr hF71 (by decide)) hb35 hx36) rfl (hF71.get (by decide) (hF55.get (by decide) (hF48.get (by decide) (hF41.get (by decide) h82_31)))) rfl rfl rfl rfl rfl rfl (fun n80 w76 hq77 => ?_)
      obtain ⟨hn81, hI78, hF79⟩ := hq77
      have hv82 := hn81.2 (by decide) (hr61 la (by omega))
      have hv83 := hv82.1
      have hv84 := hv82.2
      refine xg_kl (xg_i2l (u := n80) xnm0) (fun l85 => ?_)
      refine xg_kl (xg_lmul (u := l75) (v := l85)) (fun l86 => ?_)
      refine xg_t (xg_aload (va := (2, 82)) rfl rfl) ?_
      refine xg_t (xg_getf (va := (2, 93)) (hF79.get (by decide) (hF71.get (by decide) (hF55.get (by decide) (hF48.get (by decide) (hF41.get (by decide) h82_31))))) rfl) ?_
      refine xg_t (xg_iload (va := (0, la)) rfl rfl) ?_
      refine xg_kl (xg_lald (n := la) ((hr62.fr hF71 (by decide)).fr hF79 (by decide)) xnm0 (by omega) rfl) (fun l87 => ?_)
      refine xg_kl (xg_lmul (u := l86) (v := l87)) (fun l88 => ?_)
      refine xg_k (xg_lcmp (u := l74) (v := l88)) (xpt_lt _) (fun z89 hz90 => ?_)
      by_cases hc91 : xbs 0 < xbs z89
      · have hc91u := hc91
        unfold xbs at hc91u
        have hn92 : z89 ≤ 2147483647 := by omega
        refine xg_t (xg_ifT (u := z89) rfl xnm0 (xjs_gtT hc91)) ?_
        refine xg_t (xg_blq rfl) ?_
        refine xg_t (xg_const) ?_
        refine xg_t (xg_blq rfl) ?_
        exact xg_e ⟨0, w76, ⟨rfl, rfl⟩, by first | decide | omega, hI78, (((((hF41.up (by decide)).tr (hF48.up (by decide))).tr (hF55.up (by decide))).tr (hF71.up (by decide))).tr (hF79.up (by decide)))⟩
      · have hc91u := hc91
        unfold xbs at hc91u
        refine xg_t (xg_ifF (u := z89) rfl xnm0 (xjs_gtF hc91)) ?_
        refine xg_t (xg_const) ?_
        refine xg_t (xg_goto) ?_
        refine xg_t (xg_blq rfl) ?_
        exact xg_e ⟨1, w76, ⟨rfl, rfl⟩, by first | decide | omega, hI78, (((((hF41.up (by decide)).tr (hF48.up (by decide))).tr (hF55.up (by decide))).tr (hF71.up (by decide))).tr (hF79.up (by decide)))⟩
theorem mLeast (hI : xMnv w)  : xPi (d + 3) mX12_least [(2, 82)] w bd fc rr (fun n w' => (n ≤ 4294967295) ∧ xMnv w' ∧ xFr [88, 90, 91, 92, 93, 94] w w') := by
  refine xPi.of ?_
  show xTo (d + 3) mX12_least (0, [], [(0, (2, 82))], [], (w, bd, fc, 0, 0, rr)) (fun φ => ∃ n w', xEnd 1 [(0, n)] (w', bd, fc, 0, 0, rr) φ ∧ (n ≤ 4294967295) ∧ xMnv w' ∧ xFr [88, 90, 91, 92, 93, 94] w w')
  refine xoCh82 (xqc82 hI : cp82 (wget w 82)) (fun f82_1 f82_3 f82_5 f82_7 f82_9 f82_11 f82_13 f82_15 f82_17 f82_19 f82_21 f82_22 f82_23 f82_25 f82_27 f82_29 h82_31 hb2 hb4 hb6 hb8 hb10 hb12 hb14 hb16 hb18 hb20 hb24 hb26 hb28 hb30 hb32 => ?_)
  refine xoX83 (xqc83 hI : cpx83 (wget w 83)) (fun g83_33 h83_34 hb35 hx36 => ?_)
  refine xg_t (xg_blq rfl) ?_
  refine xg_t (xg_aload (va := (2, 82)) rfl rfl) ?_
  refine xg_t (xg_getf (va := (2, 83)) h82_31 rfl) ?_
  refine xg_t (xg_const) ?_
  refine xg_ialdB (n := 0) (B := 4294967295) h83_34 (hb35) xnm0 (by first | decide | omega) (fun u37 hu38 he39 => ?_)
  have hl40 : u37 ≤ 6 := by rw [← he39]; exact hx36.l0
  by_cases hc41 : u37 = 0
  · refine xg_t (xg_ifF (u := u37) rfl xnm0 (xj_neF hc41)) ?_
    refine xg_t (xg_const) ?_
    exact xg_e ⟨4294967295, w, ⟨rfl, rfl⟩, by first | decide | omega, hI, xFr.rf⟩
  · refine xg_t (xg_ifT (u := u37) rfl xnm0 (xj_neT hc41)) ?_
    refine xg_t (xg_blq rfl) ?_
    refine xg_t (xg_aload (va := (2, 82)) rfl rfl) ?_
    refine xg_cVv mX12_asTold (vs := []) (rest := []) (cn1 := 0) (sl1 := 0) rfl (mAsTold (hI) h83_34 hb35 hx36) rfl h82_31 rfl rfl rfl rfl rfl rfl (fun w42 hq43 => ?_)
    obtain ⟨hI44, hF45, hx46⟩ := hq43
    obtain ⟨o47, U48, hr49, hr50, hr51, hr52, hr53⟩ := hx46
    refine xg_t (xg_aload (va := (2, 82)) rfl rfl) ?_
    refine xg_cVi mX12_leastNow (vs := []) (rest := []) (cn1 := 0) (sl1 := 0) rfl (mLeastNow (hI44) hr49 hr50 (h83_34.fr hF45 (by decide)) hb35 hx36 hr51 hr52 hr53) rfl (hF45.get (by decide) h82_31) rfl rfl rfl rfl rfl rfl (fun n58 w54 hq55 => ?_)
    obtain ⟨hn59, hI56, hF57⟩ := hq55
    exact xg_e ⟨n58, w54, ⟨rfl, rfl⟩, by omega, hI56, ((hF45.up (by decide)).tr (hF57.up (by decide)))⟩
theorem mWorst {ro : Nat} (hI : xMnv w) (hro : ro ≤ 4294967295) : xPi (d + 3) mX12_worst [(2, 82), (0, ro)] w bd fc rr (fun n w' => (n ≤ 4294967295) ∧ xMnv w' ∧ xFr [88, 90, 91, 92, 93, 94] w w') := by
  refine xPi.of ?_
  show xTo (d + 3) mX12_worst (0, [], [(0, (2, 82)), (1, (0, ro))], [], (w, bd, fc, 0, 0, rr)) (fun φ => ∃ n w', xEnd 1 [(0, n)] (w', bd, fc, 0, 0, rr) φ ∧ (n ≤ 4294967295) ∧ xMnv w' ∧ xFr [88, 90, 91, 92, 93, 94] w w')
  refine xoCh82 (xqc82 hI : cp82 (wget w 82)) (fun f82_1 f82_3 f82_5 f82_7 f82_9 f82_11 f82_13 f82_15 f82_17 f82_19 f82_21 f82_22 f82_23 f82_25 f82_27 f82_29 h82_31 hb2 hb4 hb6 hb8 hb10 hb12 hb14 hb16 hb18 hb20 hb24 hb26 hb28 hb30 hb32 => ?_)
  refine xoX83 (xqc83 hI : cpx83 (wget w 83)) (fun g83_33 h83_34 hb35 hx36 => ?_)
  refine xg_t (xg_blq rfl) ?_
  refine xg_t (xg_aload (va := (2, 82)) rfl rfl) ?_
  refine xg_t (xg_getf (va := (2, 83)) h82_31 rfl) ?_
  refine xg_t (xg_const) ?_
  refine xg_ialdB (n := 0) (B := 4294967295) h83_34 (hb35) xnm0 (by first | decide | omega) (fun u37 hu38 he39 => ?_)
  have hl40 : u37 ≤ 6 := by rw [← he39]; exact hx36.l0
  by_cases hc41 : u37 = 0
  · refine xg_t (xg_ifT (u := u37) rfl xnm0 (xj_eqT hc41)) ?_
    refine xg_t (xg_blq rfl) ?_
    refine xg_t (xg_const) ?_
    exact xg_e ⟨4294967295, w, ⟨rfl, rfl⟩, by first | decide | omega, hI, xFr.rf⟩
  · refine xg_t (xg_ifF (u := u37) rfl xnm0 (xj_eqF hc41)) ?_
    refine xg_t (xg_aload (va := (2, 82)) rfl rfl) ?_
    refine xg_t (xg_iload (va := (0, ro)) rfl rfl) ?_
    refine xg_cVi mX12_isRound (vs := [(0, ro)]) (rest := []) (cn1 := 0) (sl1 := 0) rfl (mRound (hI) (by omega)) rfl h82_31 rfl rfl rfl rfl rfl rfl (fun n46 w42 hq43 => ?_)
    obtain ⟨hn47, hI44, hF45⟩ := hq43
    by_cases hc48 : n46 = 0
    · refine xg_t (xg_ifF (u := n46) rfl xnm0 (xj_neF hc48)) ?_
      refine xg_t (xg_blq rfl) ?_
      refine xg_t (xg_const) ?_
      exact xg_e ⟨4294967295, w42, ⟨rfl, rfl⟩, by first | decide | omega, hI44, (hF45.up (by decide))⟩
    · refine xg_t (xg_ifT (u := n46) rfl xnm0 (xj_neT hc48)) ?_
      refine xg_t (xg_blq rfl) ?_
      refine xg_t (xg_aload (va := (2, 82)) rfl rfl) ?_
      refine xg_cVv mX12_asTold (vs := []) (rest := []) (cn1 := 0) (sl1 := 0) rfl (mAsTold (hI44) (h83_34.fr hF45 (by decide)) hb35 hx36) rfl (hF45.get (by decide) h82_31) rfl rfl rfl rfl rfl rfl (fun w49 hq50 => ?_)
      obtain ⟨hI51, hF52, hx53⟩ := hq50
      obtain ⟨o54, U55, hr56, hr57, hr58, hr59, hr60⟩ := hx53
      refine xg_t (xg_const) ?_
      refine xg_t (xg_istore (l1 := [(0, (2, 82)), (1, (0, ro))]) rfl rfl rfl) ?_
      refine xg_t (xg_const) ?_
      refine xg_t (xg_istore (l1 := [(2, (0, 0)), (0, (2, 82)), (1, (0, ro))]) rfl rfl rfl) ?_
      refine xg_t (xg_drop (l1 := [(0, (2, 82)), (1, (0, ro)), (2, (0, 0)), (3, (0, 1))]) (List.forall_mem_cons.mpr ⟨List.mem_cons_of_mem _ (List.mem_cons_of_mem _ (List.mem_cons_self)), List.forall_mem_cons.mpr ⟨List.mem_cons_of_mem _ (List.mem_cons_of_mem _ (List.mem_cons_of_mem _ (List.mem_cons_self))), List.forall_mem_cons.mpr ⟨List.mem_cons_of_mem _ (List.mem_cons_self), List.forall_mem_cons.mpr ⟨List.mem_cons_self, fun _ h => absurd h List.not_mem_nil⟩⟩⟩⟩)) ?_
      have key61 : ∀ (m63 : Nat) (wo pi_ : Nat) (w64 : List (List xE)), 6 - pi_ < m63 → wo ≤ 5 → pi_ ≤ 6 → xMnv w64 → xFr [88, 90, 91, 92, 93, 94] w w64 → xTo (d + 3) mX12_worst (27, [], [(0, (2, 82)), (1, (0, ro)), (2, (0, wo)), (3, (0, pi_))], [], (w64, bd, fc, 0, 0, rr)) (fun φ => ∃ n w', xEnd 1 [(0, n)] (w', bd, fc, 0, 0, rr) φ ∧ (n ≤ 4294967295) ∧ xMnv w' ∧ xFr [88, 90, 91, 92, 93, 94] w w') := by
        intro m63
        induction m63 with
        | zero => intro wo pi_ w64 hz; exact absurd hz (Nat.not_lt_zero _)
        | succ m63 ih62 =>
          intro wo pi_ w64 hm69 hn67 hn68 hI65 hF66
          refine xg_t (xg_blq rfl) ?_
          refine xg_t (xg_iload (va := (0, pi_)) rfl rfl) ?_
          refine xg_t (xg_aload (va := (2, 82)) rfl rfl) ?_
          refine xg_t (xg_getf (va := (2, 83)) (hF66.get (by decide) h82_31) rfl) ?_
          refine xg_t (xg_const) ?_
          refine xg_ialdB (n := 0) (B := 4294967295) (h83_34.fr hF66 (by decide)) (hb35) xnm0 (by first | decide | omega) (fun u70 hu71 he72 => ?_)
          have hl73 : u70 ≤ 6 := by rw [← he72]; exact hx36.l0
          by_cases hc74 : pi_ < u70
          · refine xg_t (xg_icF (u := pi_) (v := u70) rfl xnm0 xnm0 (xj_geF hc74 (by omega))) ?_
            refine xg_t (xg_aload (va := (2, 82)) rfl rfl) ?_
            refine xg_t (xg_getf (va := (2, 94)) (hF66.get (by decide) h82_31) rfl) ?_
            refine xg_t (xg_iload (va := (0, pi_)) rfl rfl) ?_
            obtain ⟨g94_75, h94_76⟩ := (xqc94 hI65 : cpJ 6 61 (wget w64 94))
            have h94_76 : xRk 3 4 w64 94 6 61 g94_75 := h94_76
            refine xg_kl (xg_lald (n := pi_) h94_76 xnm0 (by omega) rfl) (fun l78 => ?_)
            refine xg_cSj mX12_size0 (vs := [(4, l78)]) (rest := []) (cn1 := 0) (sl1 := 0) rfl (mSize0 (hI65)) rfl rfl rfl rfl rfl rfl rfl (fun l83 w79 hq80 => ?_)
            obtain ⟨hn84, hI81, hF82⟩ := hq80
            refine xg_t (xg_aload (va := (2, 82)) rfl rfl) ?_
            refine xg_t (xg_getf (va := (2, 93)) (hF82.get (by decide) (hF66.get (by decide) h82_31)) rfl) ?_
            refine xg_t (xg_iload (va := (0, wo)) rfl rfl) ?_
            obtain ⟨g93_85, h93_86⟩ := (xqc93 hI81 : cpJ 6 60 (wget w79 93))
            have h93_86 : xRk 3 4 w79 93 6 60 g93_85 := h93_86
            refine xg_kl (xg_lald (n := wo) h93_86 xnm0 (by omega) rfl) (fun l88 => ?_)
            refine xg_kl (xg_lmul (u := l83) (v := l88)) (fun l89 => ?_)
            refine xg_t (xg_aload (va := (2, 82)) rfl rfl) ?_
            refine xg_t (xg_iload (va := (0, wo)) rfl rfl) ?_
            refine xg_t (xg_const) ?_
            refine xoI (xqc88 hI81 : cpI 6 55 5 (wget w79 88)) (fun g88_90 h88_91 hb92 => ?_)
            refine xg_cVi mX12_layerOf (vs := [(0, wo), (0, 2)]) (rest := [(4, l89)]) (cn1 := 0) (sl1 := 0) rfl (mLayerOf (hI81) (by omega) (by omega) h88_91 hb92 ((h83_34.fr hF66 (by decide)).fr hF82 (by decide)) hb35 hx36) rfl (hF82.get (by decide) (hF66.get (by decide) h82_31)) rfl rfl rfl rfl rfl rfl (fun n97 w93 hq94 => ?_)
            obtain ⟨hn98, hI95, hF96⟩ := hq94
            refine xg_kl (xg_i2l (u := n97) xnm0) (fun l99 => ?_)
            refine xg_kl (xg_lmul (u := l89) (v := l99)) (fun l100 => ?_)
            refine xg_t (xg_aload (va := (2, 82)) rfl rfl) ?_
            refine xg_t (xg_getf (va := (2, 94)) (hF96.get (by decide) (hF82.get (by decide) (hF66.get (by decide) h82_31))) rfl) ?_
            refine xg_t (xg_iload (va := (0, wo)) rfl rfl) ?_
            refine xg_kl (xg_lald (n := wo) ((h94_76.fr hF82 (by decide)).fr hF96 (by decide)) xnm0 (by omega) rfl) (fun l101 => ?_)
            refine xg_cSj mX12_size0 (vs := [(4, l101)]) (rest := [(4, l100)]) (cn1 := 0) (sl1 := 0) rfl (mSize0 (hI95)) rfl rfl rfl rfl rfl rfl rfl (fun l106 w102 hq103 => ?_)
            obtain ⟨hn107, hI104, hF105⟩ := hq103
            refine xg_t (xg_aload (va := (2, 82)) rfl rfl) ?_
            refine xg_t (xg_getf (va := (2, 93)) (hF105.get (by decide) (hF96.get (by decide) (hF82.get (by decide) (hF66.get (by decide) h82_31)))) rfl) ?_
            refine xg_t (xg_iload (va := (0, pi_)) rfl rfl) ?_
            refine xg_kl (xg_lald (n := pi_) ((h93_86.fr hF96 (by decide)).fr hF105 (by decide)) xnm0 (by omega) rfl) (fun l108 => ?_)
            refine xg_kl (xg_lmul (u := l106) (v := l108)) (fun l109 => ?_)
            refine xg_t (xg_aload (va := (2, 82)) rfl rfl) ?_
            refine xg_t (xg_iload (va := (0, pi_)) rfl rfl) ?_
            refine xg_t (xg_const) ?_
            refine xg_cVi mX12_layerOf (vs := [(0, pi_), (0, 2)]) (rest := [(4, l109), (4, l100)]) (cn1 := 0) (sl1 := 0) rfl (mLayerOf (hI104) (by omega) (by omega) ((h88_91.fr hF96 (by decide)).fr hF105 (by decide)) hb92 ((((h83_34.fr hF66 (by decide)).fr hF82 (by decide)).fr hF96 (by decide)).fr hF105 (by decide)) hb35 hx36) rfl (hF105.get (by decide) (hF96.get (by decide) (hF82.get (by decide) (hF66.get (by decide) h82_31)))) rfl rfl rfl rfl rfl rfl (fun n114 w110 hq111 => ?_)
            obtain ⟨hn115, hI112, hF113⟩ := hq111
            refine xg_kl (xg_i2l (u := n114) xnm0) (fun l116 => ?_)
            refine xg_kl (xg_lmul (u := l109) (v := l116)) (fun l117 => ?_)
            refine xg_k (xg_lcmp (u := l100) (v := l117)) (xpt_lt _) (fun z118 hz119 => ?_)
            by_cases hc120 : xbs 0 < xbs z118
            · have hc120u := hc120
              unfold xbs at hc120u
              have hn121 : z118 ≤ 2147483647 := by omega
              refine xg_t (xg_ifF (u := z118) rfl xnm0 (xjs_leF hc120)) ?_
              refine xg_t (xg_iload (va := (0, pi_)) rfl rfl) ?_
              refine xg_t (xg_istore (l1 := [(0, (2, 82)), (1, (0, ro)), (3, (0, pi_))]) rfl rfl rfl) ?_
              refine xg_t (xg_blq rfl) ?_
              refine xg_t (xg_iinc (u := pi_) (z := pi_ + 1) (l1 := [(2, (0, pi_)), (0, (2, 82)), (1, (0, ro))]) rfl rfl (by omega) rfl) ?_
              refine xg_t (xg_goto) ?_
              refine xg_t (xg_drop (l1 := [(0, (2, 82)), (1, (0, ro)), (2, (0, pi_)), (3, (0, pi_ + 1))]) (List.forall_mem_cons.mpr ⟨List.mem_cons_of_mem _ (List.mem_cons_of_mem _ (List.mem_cons_self)), List.forall_mem_cons.mpr ⟨List.mem_cons_of_mem _ (List.mem_cons_of_mem _ (List.mem_cons_of_mem _ (List.mem_cons_self))), List.forall_mem_cons.mpr ⟨List.mem_cons_of_mem _ (List.mem_cons_self), List.forall_mem_cons.mpr ⟨List.mem_cons_self, fun _ h => absurd h List.not_mem_nil⟩⟩⟩⟩)) ?_
              exact ih62 pi_ (pi_ + 1) w110 (by omega) (by omega) (by omega) (hI112) (((((hF66.tr (hF82.up (by decide))).tr (hF96.up (by decide))).tr (hF105.up (by decide))).tr (hF113.up (by decide))))
            · have hc120u := hc120
              unfold xbs at hc120u
              refine xg_t (xg_ifT (u := z118) rfl xnm0 (xjs_leT hc120)) ?_
              refine xg_t (xg_blq rfl) ?_
              refine xg_t (xg_iinc (u := pi_) (z := pi_ + 1) (l1 := [(0, (2, 82)), (1, (0, ro)), (2, (0, wo))]) rfl rfl (by omega) rfl) ?_
              refine xg_t (xg_goto) ?_
              refine xg_t (xg_drop (l1 := [(0, (2, 82)), (1, (0, ro)), (2, (0, wo)), (3, (0, pi_ + 1))]) (List.forall_mem_cons.mpr ⟨List.mem_cons_of_mem _ (List.mem_cons_self), List.forall_mem_cons.mpr ⟨List.mem_cons_of_mem _ (List.mem_cons_of_mem _ (List.mem_cons_self)), List.forall_mem_cons.mpr ⟨List.mem_cons_of_mem _ (List.mem_cons_of_mem _ (List.mem_cons_of_mem _ (List.mem_cons_self))), List.forall_mem_cons.mpr ⟨List.mem_cons_self, fun _ h => absurd h List.not_mem_nil⟩⟩⟩⟩)) ?_
              exact ih62 wo (pi_ + 1) w110 (by omega) (by omega) (by omega) (hI112) (((((hF66.tr (hF82.up (by decide))).tr (hF96.up (by decide))).tr (hF105.up (by decide))).tr (hF113.up (by decide))))
          · refine xg_t (xg_icT (u := pi_) (v := u70) rfl xnm0 xnm0 (xj_geT (by omega) (by omega))) ?_
            refine xg_t (xg_blq rfl) ?_
            refine xg_t (xg_iload (va := (0, wo)) rfl rfl) ?_
            exact xg_e ⟨wo, w64, ⟨rfl, rfl⟩, by omega, hI65, hF66⟩
      exact key61 _ 0 1 w49 (Nat.lt_succ_self _) (by omega) (by omega) (hI51) (((hF45.up (by decide)).tr (hF52.up (by decide))))
end XM7
end
section
/-! the model: what tires; orders -/
theorem pw_le {k : Nat} (h : k ≤ 4) : 1000 ^ k ≤ 1000000000000 := by
  have q : ∀ k, k ≤ 4 → 1000 ^ k ≤ 1000000000000 := by decide
  exact q k h
theorem pw_step {a b k : Nat} (h : a ≤ 1000 ^ k) (hb : b ≤ 999) (h1 : 1 ≤ a) (h2 : 1 ≤ b) : 1 ≤ a * b ∧ a * b ≤ 1000 ^ (k + 1) := by
  refine ⟨Nat.mul_le_mul h1 h2, ?_⟩
  rw [Nat.pow_succ]
  exact Nat.mul_le_mul h (by omega)
/-- orders: the first n are each other's places -/
def PERM (o : Nat → Nat) (n : Nat) : Prop := (∀ q, q < n → o q < n) ∧ ∀ p q, p < n → q < n → o p = o q → p = q
theorem PERM.swap {o o' : Nat → Nat} {n a b : Nat} (h : PERM o n) (ha : a < n) (hb : b < n) (e1 : o' a = o b) (e2 : o' b = o a) (e3 : ∀ j, j ≠ a → j ≠ b → o' j = o j) : PERM o' n := by
  obtain ⟨h1, h2⟩ := h
  have key : ∀ q, q < n → ∃ r, r < n ∧ o' q = o r ∧ ((q = a ∧ r = b) ∨ (q = b ∧ r = a) ∨ (q ≠ a ∧ q ≠ b ∧ r = q)) := by
    intro q hq
    by_cases z : q = a
    · exact ⟨b, hb, by rw [z]; exact e1, Or.inl ⟨z, rfl⟩⟩
    · by_cases y : q = b
      · exact ⟨a, ha, by rw [y]; exact e2, Or.inr (Or.inl ⟨y, rfl⟩)⟩
      · exact ⟨q, hq, e3 q z y, Or.inr (Or.inr ⟨z, y, rfl⟩)⟩
  refine ⟨fun q hq => ?_, fun p q hp hq e => ?_⟩
  · obtain ⟨r, hr, e, -⟩ := key q hq
    rw [e]; exact h1 r hr
  · obtain ⟨r, hr, er, cr⟩ := key p hp
    obtain ⟨t, ht, et, ct⟩ := key q hq
    have := h2 r t hr ht (by rw [← er, ← et]; exact e)
    omega
theorem PERM.id {o : Nat → Nat} {n : Nat} (h : ∀ j, j < 6 → o j = j) (hn : n ≤ 6) : PERM o n := ⟨fun q hq => by rw [h q (by omega)]; exact hq, fun p q hp hq e => by rw [h p (by omega), h q (by omega)] at e; exact e⟩
noncomputable def LX (w : List (List xE)) : Nat := ((((rwv w 88 0 * 6 + rwv w 88 1) * 6 + rwv w 88 2) * 6 + rwv w 88 3) * 6 + rwv w 88 4) * 6 + rwv w 88 5
theorem LX_of {w : List (List xE)} {o : Nat → Nat} (h : xRow w 88 6 55 o) : LX w = ((((o 0 * 6 + o 1) * 6 + o 2) * 6 + o 3) * 6 + o 4) * 6 + o 5 := by
  unfold LX
  rw [rwv_of h (by decide), rwv_of h (by decide), rwv_of h (by decide), rwv_of h (by decide), rwv_of h (by decide), rwv_of h (by decide)]
theorem LX_fr {S : List Nat} {w w' : List (List xE)} (h : xFr S w w') (hc : 88 ∉ S) : LX w' = LX w := by
  unfold LX rwv
  rw [h.1 88 hc]
theorem LX_le {w : List (List xE)} {o : Nat → Nat} (h : xRow w 88 6 55 o) (hb : ∀ j, o j ≤ 5) : LX w ≤ 46655 := by
  rw [LX_of h]
  have := hb 0
  have := hb 1
  have := hb 2
  have := hb 3
  have := hb 4
  have := hb 5
  omega
theorem LX_lt {w w' : List (List xE)} {o o' : Nat → Nat} {i : Nat} (h : xRow w 88 6 55 o) (h' : xRow w' 88 6 55 o') (hb : ∀ j, o j ≤ 5) (hi : i < 6) (hp : ∀ q, q < i → o' q = o q) (hl : o i < o' i) : LX w < LX w' := by
  rw [LX_of h, LX_of h']
  have b0 := hb 0
  have b1 := hb 1
  have b2 := hb 2
  have b3 := hb 3
  have b4 := hb 4
  have b5 := hb 5
  rcases (show i = 0 ∨ i = 1 ∨ i = 2 ∨ i = 3 ∨ i = 4 ∨ i = 5 by omega) with rfl | rfl | rfl | rfl | rfl | rfl
  · omega
  · have := hp 0 (by decide)
    omega
  · have := hp 0 (by decide)
    have := hp 1 (by decide)
    omega
  · have := hp 0 (by decide)
    have := hp 1 (by decide)
    have := hp 2 (by decide)
    omega
  · have := hp 0 (by decide)
    have := hp 1 (by decide)
    have := hp 2 (by decide)
    have := hp 3 (by decide)
    omega
  · have := hp 0 (by decide)
    have := hp 1 (by decide)
    have := hp 2 (by decide)
    have := hp 3 (by decide)
    have := hp 4 (by decide)
    omega
section XM8
variable {d : Nat} {w : List (List xE)} {bd : List (Nat × Nat)} {fc : List (Nat × Nat × Bool)} {rr : Nat × Nat}
theorem mLifeOf {g0 : Nat → Nat} {la ro : Nat} (hI : xMnv w) (hla : la ≤ 5) (hro : ro ≤ 4294967295) (hR83 : xRow w 83 5360 50 g0) (hgb : ∀ j, g0 j ≤ 4294967295) (hok : okA g0) : xPi (d + 1) mX12_lifeOf [(2, 82), (0, la), (0, ro)] w bd fc rr (fun n w' => (n = 4294967295 ∨ n < g0 1) ∧ xMnv w' ∧ xFr [] w w') := by
  refine xPi.of ?_
  show xTo (d + 1) mX12_lifeOf (0, [], [(0, (2, 82)), (1, (0, la)), (2, (0, ro))], [], (w, bd, fc, 0, 0, rr)) (fun φ => ∃ n w', xEnd 1 [(0, n)] (w', bd, fc, 0, 0, rr) φ ∧ (n = 4294967295 ∨ n < g0 1) ∧ xMnv w' ∧ xFr [] w w')
  refine xoCh82 (xqc82 hI : cp82 (wget w 82)) (fun f82_1 f82_3 f82_5 f82_7 f82_9 f82_11 f82_13 f82_15 f82_17 f82_19 f82_21 f82_22 f82_23 f82_25 f82_27 f82_29 h82_31 hb2 hb4 hb6 hb8 hb10 hb12 hb14 hb16 hb18 hb20 hb24 hb26 hb28 hb30 hb32 => ?_)
  have hl1 := hok.l1
  refine xg_t (xg_blq rfl) ?_
  refine xg_t (xg_const) ?_
  refine xg_t (xg_istore (l1 := [(0, (2, 82)), (1, (0, la)), (2, (0, ro))]) rfl rfl rfl) ?_
  refine xg_t (xg_const) ?_
  refine xg_t (xg_istore (l1 := [(3, (0, 4294967295)), (0, (2, 82)), (1, (0, la)), (2, (0, ro))]) rfl rfl rfl) ?_
  refine xg_t (xg_drop (l1 := [(0, (2, 82)), (1, (0, la)), (2, (0, ro)), (3, (0, 4294967295)), (4, (0, 0))]) (List.forall_mem_cons.mpr ⟨List.mem_cons_of_mem _ (List.mem_cons_of_mem _ (List.mem_cons_self)), List.forall_mem_cons.mpr ⟨List.mem_cons_of_mem _ (List.mem_cons_of_mem _ (List.mem_cons_of_mem _ (List.mem_cons_self))), List.forall_mem_cons.mpr ⟨List.mem_cons_of_mem _ (List.mem_cons_of_mem _ (List.mem_cons_of_mem _ (List.mem_cons_of_mem _ (List.mem_cons_self)))), List.forall_mem_cons.mpr ⟨List.mem_cons_of_mem _ (List.mem_cons_self), List.forall_mem_cons.mpr ⟨List.mem_cons_self, fun _ h => absurd h List.not_mem_nil⟩⟩⟩⟩⟩)) ?_
  have key33 : ∀ (m35 : Nat) (bp ki : Nat) (w36 : List (List xE)), 4 - ki < m35 → bp ≤ 4294967295 → ki ≤ 4 → xMnv w36 → xFr [] w w36 → (bp = 4294967295 ∨ bp < g0 1) → xTo (d + 1) mX12_lifeOf (5, [], [(0, (2, 82)), (1, (0, la)), (2, (0, ro)), (3, (0, bp)), (4, (0, ki))], [], (w36, bd, fc, 0, 0, rr)) (fun φ => ∃ n w', xEnd 1 [(0, n)] (w', bd, fc, 0, 0, rr) φ ∧ (n = 4294967295 ∨ n < g0 1) ∧ xMnv w' ∧ xFr [] w w') := by
    intro m35
    induction m35 with
    | zero => intro bp ki w36 hz; exact absurd hz (Nat.not_lt_zero _)
    | succ m35 ih34 =>
      intro bp ki w36 hm42 hn39 hn40 hI37 hF38 he41
      refine xg_t (xg_blq rfl) ?_
      refine xg_t (xg_iload (va := (0, ki)) rfl rfl) ?_
      refine xg_t (xg_aload (va := (2, 82)) rfl rfl) ?_
      refine xg_t (xg_getf (va := (2, 83)) (hF38.get (by decide) h82_31) rfl) ?_
      refine xg_t (xg_const) ?_
      refine xg_ialdB (n := 1) (B := 4294967295) (hR83.fr hF38 (by decide)) (hgb) xnm0 (by first | decide | omega) (fun u43 hu44 he45 => ?_)
      have hl46 : u43 ≤ 4 := by rw [← he45]; exact hok.l1
      by_cases hc47 : ki < u43
      · refine xg_t (xg_icF (u := ki) (v := u43) rfl xnm0 xnm0 (xj_geF hc47 (by omega))) ?_
        refine xg_t (xg_aload (va := (2, 82)) rfl rfl) ?_
        refine xg_t (xg_getf (va := (2, 83)) (hF38.get (by decide) h82_31) rfl) ?_
        refine xg_t (xg_bip) ?_
        refine xg_t (xg_const) ?_
        refine xg_t (xg_iload (va := (0, ki)) rfl rfl) ?_
        refine xg_t (xg_imul (u := 2) (v := ki) (z := 2 * ki) xnm0 xnm0 (by omega)) ?_
        refine xg_t (xg_iadd (u := 50) (v := 2 * ki) (z := 50 + (2 * ki)) xnm0 xnm0 (by omega)) ?_
        refine xg_ialdB (n := 50 + (2 * ki)) (B := 4294967295) (hR83.fr hF38 (by decide)) (hgb) xnm0 (by omega) (fun u48 hu49 he50 => ?_)
        refine xg_t (xg_istore (l1 := [(0, (2, 82)), (1, (0, la)), (2, (0, ro)), (3, (0, bp)), (4, (0, ki))]) rfl rfl rfl) ?_
        refine xg_t (xg_ldc2) ?_
        refine xg_t (xg_aload (va := (2, 82)) rfl rfl) ?_
        refine xg_t (xg_getf (va := (2, 94)) (hF38.get (by decide) h82_31) rfl) ?_
        refine xg_t (xg_iload (va := (0, la)) rfl rfl) ?_
        obtain ⟨g94_51, h94_52⟩ := (xqc94 hI37 : cpJ 6 61 (wget w36 94))
        have h94_52 : xRk 3 4 w36 94 6 61 g94_51 := h94_52
        refine xg_kl (xg_lald (n := la) h94_52 xnm0 (by omega) rfl) (fun l54 => ?_)
        refine xg_cSj mX12_size0 (vs := [(4, l54)]) (rest := [(4, 1000)]) (cn1 := 0) (sl1 := 0) rfl (mSize0 (hI37)) rfl rfl rfl rfl rfl rfl rfl (fun l59 w55 hq56 => ?_)
        obtain ⟨hn60, hI57, hF58⟩ := hq56
        refine xg_kl (xg_lmul (u := 1000) (v := l59)) (fun l61 => ?_)
        refine xg_t (xg_iload (va := (0, u48)) rfl rfl) ?_
        refine xg_kl (xg_i2l (u := u48) xnm0) (fun l62 => ?_)
        refine xg_t (xg_iload (va := (0, ro)) rfl rfl) ?_
        refine xg_kl (xg_i2l (u := ro) xnm0) (fun l63 => ?_)
        refine xg_kl (xg_lmul (u := l62) (v := l63)) (fun l64 => ?_)
        refine xg_t (xg_aload (va := (2, 82)) rfl rfl) ?_
        refine xg_t (xg_getf (va := (2, 93)) (hF58.get (by decide) (hF38.get (by decide) h82_31)) rfl) ?_
        refine xg_t (xg_iload (va := (0, la)) rfl rfl) ?_
        obtain ⟨g93_65, h93_66⟩ := (xqc93 hI57 : cpJ 6 60 (wget w55 93))
        have h93_66 : xRk 3 4 w55 93 6 60 g93_65 := h93_66
        refine xg_kl (xg_lald (n := la) h93_66 xnm0 (by omega) rfl) (fun l68 => ?_)
        refine xg_kl (xg_lmul (u := l64) (v := l68)) (fun l69 => ?_)
        refine xg_k (xg_lcmp (u := l61) (v := l69)) (xpt_lt _) (fun z70 hz71 => ?_)
        by_cases hc72 : z70 < 2147483648
        · refine xg_t (xg_ifT (u := z70) rfl xnm0 (xjz_geT hc72)) ?_
          refine xg_t (xg_blq rfl) ?_
          refine xg_t (xg_iload (va := (0, bp)) rfl rfl) ?_
          by_cases hc73 : bp < 2147483648
          · have hn74 : bp ≤ 3 := by omega
            refine xg_t (xg_ifF (u := bp) rfl xnm0 (xjz_ltF hc73)) ?_
            refine xg_t (xg_iload (va := (0, u48)) rfl rfl) ?_
            refine xg_t (xg_aload (va := (2, 82)) rfl rfl) ?_
            refine xg_t (xg_getf (va := (2, 83)) (hF58.get (by decide) (hF38.get (by decide) h82_31)) rfl) ?_
            refine xg_t (xg_bip) ?_
            refine xg_t (xg_const) ?_
            refine xg_t (xg_iload (va := (0, bp)) rfl rfl) ?_
            refine xg_t (xg_imul (u := 2) (v := bp) (z := 2 * bp) xnm0 xnm0 (by omega)) ?_
            refine xg_t (xg_iadd (u := 50) (v := 2 * bp) (z := 50 + (2 * bp)) xnm0 xnm0 (by omega)) ?_
            refine xg_ialdB (n := 50 + (2 * bp)) (B := 4294967295) ((hR83.fr hF38 (by decide)).fr hF58 (by decide)) (hgb) xnm0 (by omega) (fun u75 hu76 he77 => ?_)
            by_cases hc78 : xbs u75 < xbs u48
            · have hc78u := hc78
              unfold xbs at hc78u
              refine xg_t (xg_icF (u := u48) (v := u75) rfl xnm0 xnm0 (xjs_leF hc78)) ?_
              refine xg_t (xg_blq rfl) ?_
              refine xg_t (xg_iload (va := (0, ki)) rfl rfl) ?_
              refine xg_t (xg_istore (l1 := [(5, (0, u48)), (0, (2, 82)), (1, (0, la)), (2, (0, ro)), (4, (0, ki))]) rfl rfl rfl) ?_
              refine xg_t (xg_blq rfl) ?_
              refine xg_t (xg_iinc (u := ki) (z := ki + 1) (l1 := [(3, (0, ki)), (5, (0, u48)), (0, (2, 82)), (1, (0, la)), (2, (0, ro))]) rfl rfl (by omega) rfl) ?_
              refine xg_t (xg_goto) ?_
              refine xg_t (xg_drop (l1 := [(0, (2, 82)), (1, (0, la)), (2, (0, ro)), (3, (0, ki)), (4, (0, ki + 1))]) (List.forall_mem_cons.mpr ⟨List.mem_cons_of_mem _ (List.mem_cons_of_mem _ (List.mem_cons_of_mem _ (List.mem_cons_self))), List.forall_mem_cons.mpr ⟨List.mem_cons_of_mem _ (List.mem_cons_of_mem _ (List.mem_cons_of_mem _ (List.mem_cons_of_mem _ (List.mem_cons_self)))), List.forall_mem_cons.mpr ⟨List.mem_cons_of_mem _ (List.mem_cons_of_mem _ (List.mem_cons_of_mem _ (List.mem_cons_of_mem _ (List.mem_cons_of_mem _ (List.mem_cons_self))))), List.forall_mem_cons.mpr ⟨List.mem_cons_of_mem _ (List.mem_cons_self), List.forall_mem_cons.mpr ⟨List.mem_cons_self, fun _ h => absurd h List.not_mem_nil⟩⟩⟩⟩⟩)) ?_
              exact ih34 ki (ki + 1) w55 (by omega) (by omega) (by omega) (hI57) ((hF38.tr (hF58.up (by decide)))) (by omega)
            · have hc78u := hc78
              unfold xbs at hc78u
              refine xg_t (xg_icT (u := u48) (v := u75) rfl xnm0 xnm0 (xjs_leT hc78)) ?_
              refine xg_t (xg_blq rfl) ?_
              refine xg_t (xg_iinc (u := ki) (z := ki + 1) (l1 := [(5, (0, u48)), (0, (2, 82)), (1, (0, la)), (2, (0, ro)), (3, (0, bp))]) rfl rfl (by omega) rfl) ?_
              refine xg_t (xg_goto) ?_
              refine xg_t (xg_drop (l1 := [(0, (2, 82)), (1, (0, la)), (2, (0, ro)), (3, (0, bp)), (4, (0, ki + 1))]) (List.forall_mem_cons.mpr ⟨List.mem_cons_of_mem _ (List.mem_cons_of_mem _ (List.mem_cons_self)), List.forall_mem_cons.mpr ⟨List.mem_cons_of_mem _ (List.mem_cons_of_mem _ (List.mem_cons_of_mem _ (List.mem_cons_self))), List.forall_mem_cons.mpr ⟨List.mem_cons_of_mem _ (List.mem_cons_of_mem _ (List.mem_cons_of_mem _ (List.mem_cons_of_mem _ (List.mem_cons_self)))), List.forall_mem_cons.mpr ⟨List.mem_cons_of_mem _ (List.mem_cons_of_mem _ (List.mem_cons_of_mem _ (List.mem_cons_of_mem _ (List.mem_cons_of_mem _ (List.mem_cons_self))))), List.forall_mem_cons.mpr ⟨List.mem_cons_self, fun _ h => absurd h List.not_mem_nil⟩⟩⟩⟩⟩)) ?_
              exact ih34 bp (ki + 1) w55 (by omega) (by omega) (by omega) (hI57) ((hF38.tr (hF58.up (by decide)))) (by omega)
          · refine xg_t (xg_ifT (u := bp) rfl xnm0 (xjz_ltT (by omega) (by omega))) ?_
            refine xg_t (xg_blq rfl) ?_
            refine xg_t (xg_iload (va := (0, ki)) rfl rfl) ?_
            refine xg_t (xg_istore (l1 := [(5, (0, u48)), (0, (2, 82)), (1, (0, la)), (2, (0, ro)), (4, (0, ki))]) rfl rfl rfl) ?_
            refine xg_t (xg_blq rfl) ?_
            refine xg_t (xg_iinc (u := ki) (z := ki + 1) (l1 := [(3, (0, ki)), (5, (0, u48)), (0, (2, 82)), (1, (0, la)), (2, (0, ro))]) rfl rfl (by omega) rfl) ?_
            refine xg_t (xg_goto) ?_
            refine xg_t (xg_drop (l1 := [(0, (2, 82)), (1, (0, la)), (2, (0, ro)), (3, (0, ki)), (4, (0, ki + 1))]) (List.forall_mem_cons.mpr ⟨List.mem_cons_of_mem _ (List.mem_cons_of_mem _ (List.mem_cons_of_mem _ (List.mem_cons_self))), List.forall_mem_cons.mpr ⟨List.mem_cons_of_mem _ (List.mem_cons_of_mem _ (List.mem_cons_of_mem _ (List.mem_cons_of_mem _ (List.mem_cons_self)))), List.forall_mem_cons.mpr ⟨List.mem_cons_of_mem _ (List.mem_cons_of_mem _ (List.mem_cons_of_mem _ (List.mem_cons_of_mem _ (List.mem_cons_of_mem _ (List.mem_cons_self))))), List.forall_mem_cons.mpr ⟨List.mem_cons_of_mem _ (List.mem_cons_self), List.forall_mem_cons.mpr ⟨List.mem_cons_self, fun _ h => absurd h List.not_mem_nil⟩⟩⟩⟩⟩)) ?_
            exact ih34 ki (ki + 1) w55 (by omega) (by omega) (by omega) (hI57) ((hF38.tr (hF58.up (by decide)))) (by omega)
        · refine xg_t (xg_ifF (u := z70) rfl xnm0 (xjz_geF (by omega) (by omega))) ?_
          refine xg_t (xg_goto) ?_
          refine xg_t (xg_blq rfl) ?_
          refine xg_t (xg_iinc (u := ki) (z := ki + 1) (l1 := [(5, (0, u48)), (0, (2, 82)), (1, (0, la)), (2, (0, ro)), (3, (0, bp))]) rfl rfl (by omega) rfl) ?_
          refine xg_t (xg_goto) ?_
          refine xg_t (xg_drop (l1 := [(0, (2, 82)), (1, (0, la)), (2, (0, ro)), (3, (0, bp)), (4, (0, ki + 1))]) (List.forall_mem_cons.mpr ⟨List.mem_cons_of_mem _ (List.mem_cons_of_mem _ (List.mem_cons_self)), List.forall_mem_cons.mpr ⟨List.mem_cons_of_mem _ (List.mem_cons_of_mem _ (List.mem_cons_of_mem _ (List.mem_cons_self))), List.forall_mem_cons.mpr ⟨List.mem_cons_of_mem _ (List.mem_cons_of_mem _ (List.mem_cons_of_mem _ (List.mem_cons_of_mem _ (List.mem_cons_self)))), List.forall_mem_cons.mpr ⟨List.mem_cons_of_mem _ (List.mem_cons_of_mem _ (List.mem_cons_of_mem _ (List.mem_cons_of_mem _ (List.mem_cons_of_mem _ (List.mem_cons_self))))), List.forall_mem_cons.mpr ⟨List.mem_cons_self, fun _ h => absurd h List.not_mem_nil⟩⟩⟩⟩⟩)) ?_
          exact ih34 bp (ki + 1) w55 (by omega) (by omega) (by omega) (hI57) ((hF38.tr (hF58.up (by decide)))) (by omega)
      · refine xg_t (xg_icT (u := ki) (v := u43) rfl xnm0 xnm0 (xj_geT (by omega) (by omega))) ?_
        refine xg_t (xg_blq rfl) ?_
        refine xg_t (xg_iload (va := (0, bp)) rfl rfl) ?_
        exact xg_e ⟨bp, w36, ⟨rfl, rfl⟩, by omega, hI37, hF38⟩
  exact key33 _ 4294967295 0 w (Nat.lt_succ_self _) (by omega) (by omega) (hI) (xFr.rf) (by omega)
theorem mTires {g0 : Nat → Nat} {la nn : Nat} (hI : xMnv w) (hla : la ≤ 5) (hnn : nn ≤ 6) (hR83 : xRow w 83 5360 50 g0) (hgb : ∀ j, g0 j ≤ 4294967295) (hok : okA g0) : xPq (d + 2) mX12_tires [(2, 82), (0, la), (0, nn)] w bd fc rr [] (fun w' => xMnv w' ∧ xFr [82] w w' ∧ (1 ≤ fld w' 82 23 ∧ fld w' 82 23 ≤ 1000000000000)) := by
  refine xPq.of ?_
  show xTo (d + 2) mX12_tires (0, [], [(0, (2, 82)), (1, (0, la)), (2, (0, nn))], [], (w, bd, fc, 0, 0, rr)) (fun φ => ∃ w', xEnd 0 [] (w', bd, fc, 0, 0, rr) φ ∧ xMnv w' ∧ xFr [82] w w' ∧ (1 ≤ fld w' 82 23 ∧ fld w' 82 23 ≤ 1000000000000))
  refine xoCh82 (xqc82 hI : cp82 (wget w 82)) (fun f82_1 f82_3 f82_5 f82_7 f82_9 f82_11 f82_13 f82_15 f82_17 f82_19 f82_21 f82_22 f82_23 f82_25 f82_27 f82_29 h82_31 hb2 hb4 hb6 hb8 hb10 hb12 hb14 hb16 hb18 hb20 hb24 hb26 hb28 hb30 hb32 => ?_)
  have hl1 := hok.l1
  refine xg_t (xg_blq rfl) ?_
  refine xg_t (xg_aload (va := (2, 82)) rfl rfl) ?_
  refine xg_t (xg_lconst) ?_
  refine xg_putJ (fl1 := [(2, 83), (2, 84), (0, f82_1), (0, f82_3), (0, f82_5), (0, f82_7), (0, f82_9), (0, f82_11), (0, f82_13), (0, f82_15), (0, f82_17), (2, 85), (2, 86), (2, 87), (0, f82_19), (2, 88), (2, 89), (2, 90), (2, 91), (2, 92), (2, 93), (2, 94), (4, f82_21), (4, 1), (0, f82_23), (2, 95), (2, 96), (2, 97), (2, 98), (2, 99), (2, 100), (2, 101), (2, 102), (0, f82_25), (2, 103), (2, 104), (2, 105), (2, 106), (2, 107), (2, 108), (2, 109), (0, f82_27), (0, f82_29), (2, 110), (2, 111), (2, 112), (2, 113)]) h82_31 rfl rfl (fun w33 hk34 hb35 => ?_)
  refine xg_t (xg_aload (va := (2, 82)) rfl rfl) ?_
  refine xg_t (xg_lconst) ?_
  refine xg_putJ (fl1 := [(2, 83), (2, 84), (0, f82_1), (0, f82_3), (0, f82_5), (0, f82_7), (0, f82_9), (0, f82_11), (0, f82_13), (0, f82_15), (0, f82_17), (2, 85), (2, 86), (2, 87), (0, f82_19), (2, 88), (2, 89), (2, 90), (2, 91), (2, 92), (2, 93), (2, 94), (4, 0), (4, 1), (0, f82_23), (2, 95), (2, 96), (2, 97), (2, 98), (2, 99), (2, 100), (2, 101), (2, 102), (0, f82_25), (2, 103), (2, 104), (2, 105), (2, 106), (2, 107), (2, 108), (2, 109), (0, f82_27), (0, f82_29), (2, 110), (2, 111), (2, 112), (2, 113)]) hk34 rfl rfl (fun w36 hk37 hb38 => ?_)
  refine xg_t (xg_const) ?_
  refine xg_t (xg_istore (l1 := [(0, (2, 82)), (1, (0, la)), (2, (0, nn))]) rfl rfl rfl) ?_
  refine xg_t (xg_drop (l1 := [(0, (2, 82)), (1, (0, la)), (2, (0, nn)), (3, (0, 0))]) (List.forall_mem_cons.mpr ⟨List.mem_cons_of_mem _ (List.mem_cons_self), List.forall_mem_cons.mpr ⟨List.mem_cons_of_mem _ (List.mem_cons_of_mem _ (List.mem_cons_self)), List.forall_mem_cons.mpr ⟨List.mem_cons_of_mem _ (List.mem_cons_of_mem _ (List.mem_cons_of_mem _ (List.mem_cons_self))), List.forall_mem_cons.mpr ⟨List.mem_cons_self, fun _ h => absurd h List.not_mem_nil⟩⟩⟩⟩)) ?_
  have key39 : ∀ (m41 : Nat) (ki : Nat) (w42 : List (List xE)), 4 - ki < m41 → ki ≤ 4 → xMnv w42 → xFr [82] w w42 → (1 ≤ fld w42 82 23 ∧ fld w42 82 23 ≤ 1000 ^ ki) → xTo (d + 2) mX12_tires (12, [], [(0, (2, 82)), (1, (0, la)), (2, (0, nn)), (3, (0, ki))], [], (w42, bd, fc, 0, 0, rr)) (fun φ => ∃ w', xEnd 0 [] (w', bd, fc, 0, 0, rr) φ ∧ xMnv w' ∧ xFr [82] w w' ∧ (1 ≤ fld w' 82 23 ∧ fld w' 82 23 ≤ 1000000000000)) := by
    intro m41
    induction m41 with
    | zero => intro ki w42 hz; exact absurd hz (Nat.not_lt_zero _)
    | succ m41 ih40 =>
      intro ki w42 hm47 hn45 hI43 hF44 he46
      have he46_ := he46
      refine xoCh82 (xqc82 hI43 : cp82 (wget w42 82)) (fun f82_48 f82_50 f82_52 f82_54 f82_56 f82_58 f82_60 f82_62 f82_64 f82_66 f82_68 f82_69 f82_70 f82_72 f82_74 f82_76 h82_78 hb49 hb51 hb53 hb55 hb57 hb59 hb61 hb63 hb65 hb67 hb71 hb73 hb75 hb77 hb79 => ?_)
      have hw23 : fld w42 82 23 = f82_69 := fld_of h82_78
      obtain ⟨hw1, hw2⟩ := he46_
      rw [hw23] at hw1 hw2
      refine xg_t (xg_blq rfl) ?_
      refine xg_t (xg_iload (va := (0, ki)) rfl rfl) ?_
      refine xg_t (xg_aload (va := (2, 82)) rfl rfl) ?_
      refine xg_t (xg_getf (va := (2, 83)) h82_78 rfl) ?_
      refine xg_t (xg_const) ?_
      refine xg_ialdB (n := 1) (B := 4294967295) (hR83.fr hF44 (by decide)) (hgb) xnm0 (by first | decide | omega) (fun u80 hu81 he82 => ?_)
      have hl83 : u80 ≤ 4 := by rw [← he82]; exact hok.l1
      by_cases hc84 : ki < u80
      · refine xg_t (xg_icF (u := ki) (v := u80) rfl xnm0 xnm0 (xj_geF hc84 (by omega))) ?_
        refine xg_t (xg_aload (va := (2, 82)) rfl rfl) ?_
        refine xg_t (xg_dup rfl) ?_
        refine xg_t (xg_getf (va := (4, f82_69)) h82_78 rfl) ?_
        refine xg_t (xg_aload (va := (2, 82)) rfl rfl) ?_
        refine xg_t (xg_getf (va := (2, 83)) h82_78 rfl) ?_
        refine xg_t (xg_bip) ?_
        refine xg_t (xg_const) ?_
        refine xg_t (xg_iload (va := (0, ki)) rfl rfl) ?_
        refine xg_t (xg_imul (u := 2) (v := ki) (z := 2 * ki) xnm0 xnm0 (by omega)) ?_
        refine xg_t (xg_iadd (u := 50) (v := 2 * ki) (z := 50 + (2 * ki)) xnm0 xnm0 (by omega)) ?_
        refine xg_t (xg_const) ?_
        refine xg_t (xg_iadd (u := 50 + (2 * ki)) (v := 1) (z := (50 + (2 * ki)) + 1) xnm0 xnm0 (by omega)) ?_
        refine xg_ialdB (n := (50 + (2 * ki)) + 1) (B := 4294967295) (hR83.fr hF44 (by decide)) (hgb) xnm0 (by omega) (fun u85 hu86 he87 => ?_)
        have hv88 := hok.lif (k := ki) (by omega)
        rw [show 51 + 2 * ki = (50 + (2 * ki)) + 1 by omega, he87] at hv88
        refine xg_t (xg_i2l (u := u85) xnm0) ?_
        refine xg_t (xg_lre (b := u85) (by rw [xlp_eq]; exact nI_l (by omega))) ?_
        refine xg_t (xg_lmul (u := f82_69) (v := u85)) ?_
        refine xg_t (xg_lre (b := f82_69 * u85) (by rw [xlp_eq]; exact lN_mul _ _)) ?_
        have hst := pw_step (b := u85) hw2 (by omega) hw1 (by omega)
        refine xg_putJ (fl1 := [(2, 83), (2, 84), (0, f82_48), (0, f82_50), (0, f82_52), (0, f82_54), (0, f82_56), (0, f82_58), (0, f82_60), (0, f82_62), (0, f82_64), (2, 85), (2, 86), (2, 87), (0, f82_66), (2, 88), (2, 89), (2, 90), (2, 91), (2, 92), (2, 93), (2, 94), (4, f82_68), (4, f82_69 * u85), (0, f82_70), (2, 95), (2, 96), (2, 97), (2, 98), (2, 99), (2, 100), (2, 101), (2, 102), (0, f82_72), (2, 103), (2, 104), (2, 105), (2, 106), (2, 107), (2, 108), (2, 109), (0, f82_74), (0, f82_76), (2, 110), (2, 111), (2, 112), (2, 113)]) h82_78 rfl rfl (fun w89 hk90 hb91 => ?_)
        refine xg_t (xg_iinc (u := ki) (z := ki + 1) (l1 := [(0, (2, 82)), (1, (0, la)), (2, (0, nn))]) rfl rfl (by omega) rfl) ?_
        refine xg_t (xg_goto) ?_
        refine xg_t (xg_drop (l1 := [(0, (2, 82)), (1, (0, la)), (2, (0, nn)), (3, (0, ki + 1))]) (List.forall_mem_cons.mpr ⟨List.mem_cons_of_mem _ (List.mem_cons_self), List.forall_mem_cons.mpr ⟨List.mem_cons_of_mem _ (List.mem_cons_of_mem _ (List.mem_cons_self)), List.forall_mem_cons.mpr ⟨List.mem_cons_of_mem _ (List.mem_cons_of_mem _ (List.mem_cons_of_mem _ (List.mem_cons_self))), List.forall_mem_cons.mpr ⟨List.mem_cons_self, fun _ h => absurd h List.not_mem_nil⟩⟩⟩⟩)) ?_
        exact ih40 (ki + 1) w89 (by omega) (by omega) (xMnv.up (S := [82]) hI43 (xFr.of (S := [82]) hb91 (by decide)) (List.forall_mem_cons.mpr ⟨xqu82 (show cp82 (wget w89 82) from xmC82 f82_48 f82_50 f82_52 f82_54 f82_56 f82_58 f82_60 f82_62 f82_64 f82_66 f82_68 (f82_69 * u85) f82_70 f82_72 f82_74 f82_76 hk90 hb49 hb51 hb53 hb55 hb57 hb59 hb61 hb63 hb65 hb67 hb71 hb73 hb75 hb77 (by omega)), fun _ h => absurd h List.not_mem_nil⟩)) ((hF44.tr (xFr.of (S := [82]) hb91 (by decide)))) (⟨by rw [fld_of hk90]; exact hst.1, by rw [fld_of hk90]; exact hst.2⟩)
      · refine xg_t (xg_icT (u := ki) (v := u80) rfl xnm0 xnm0 (xj_geT (by omega) (by omega))) ?_
        refine xg_t (xg_blq rfl) ?_
        refine xg_t (xg_const) ?_
        refine xg_t (xg_istore (l1 := [(0, (2, 82)), (1, (0, la)), (2, (0, nn))]) rfl rfl rfl) ?_
        refine xg_t (xg_drop (l1 := [(0, (2, 82)), (1, (0, la)), (2, (0, nn)), (3, (0, 0))]) (List.forall_mem_cons.mpr ⟨List.mem_cons_of_mem _ (List.mem_cons_self), List.forall_mem_cons.mpr ⟨List.mem_cons_of_mem _ (List.mem_cons_of_mem _ (List.mem_cons_self)), List.forall_mem_cons.mpr ⟨List.mem_cons_of_mem _ (List.mem_cons_of_mem _ (List.mem_cons_of_mem _ (List.mem_cons_self))), List.forall_mem_cons.mpr ⟨List.mem_cons_self, fun _ h => absurd h List.not_mem_nil⟩⟩⟩⟩)) ?_
        have key92 : ∀ (m94 : Nat) (ii : Nat) (w95 : List (List xE)), 6 - ii < m94 → ii ≤ 6 → xMnv w95 → xFr [82] w w95 → (1 ≤ fld w95 82 23 ∧ fld w95 82 23 ≤ 1000000000000) → xTo (d + 2) mX12_tires (53, [], [(0, (2, 82)), (1, (0, la)), (2, (0, nn)), (3, (0, ii))], [], (w95, bd, fc, 0, 0, rr)) (fun φ => ∃ w', xEnd 0 [] (w', bd, fc, 0, 0, rr) φ ∧ xMnv w' ∧ xFr [82] w w' ∧ (1 ≤ fld w' 82 23 ∧ fld w' 82 23 ≤ 1000000000000)) := by
          intro m94
          induction m94 with
          | zero => intro ii w95 hz; exact absurd hz (Nat.not_lt_zero _)
          | succ m94 ih93 =>
            intro ii w95 hm100 hn98 hI96 hF97 he99
            refine xoCh82 (xqc82 hI96 : cp82 (wget w95 82)) (fun f82_101 f82_103 f82_105 f82_107 f82_109 f82_111 f82_113 f82_115 f82_117 f82_119 f82_121 f82_122 f82_123 f82_125 f82_127 f82_129 h82_131 hb102 hb104 hb106 hb108 hb110 hb112 hb114 hb116 hb118 hb120 hb124 hb126 hb128 hb130 hb132 => ?_)
            have hx23 : fld w95 82 23 = f82_122 := fld_of h82_131
            obtain ⟨hx1, hx2⟩ := he99
            rw [hx23] at hx1 hx2
            refine xg_t (xg_blq rfl) ?_
            refine xg_t (xg_iload (va := (0, ii)) rfl rfl) ?_
            refine xg_t (xg_iload (va := (0, nn)) rfl rfl) ?_
            by_cases hc133 : ii < nn
            · refine xg_t (xg_icF (u := ii) (v := nn) rfl xnm0 xnm0 (xj_geF hc133 (by omega))) ?_
              refine xg_t (xg_aload (va := (2, 82)) rfl rfl) ?_
              refine xg_t (xg_iload (va := (0, la)) rfl rfl) ?_
              refine xg_t (xg_aload (va := (2, 82)) rfl rfl) ?_
              refine xg_t (xg_getf (va := (2, 83)) h82_131 rfl) ?_
              refine xg_t (xg_bip) ?_
              refine xg_t (xg_const) ?_
              refine xg_t (xg_iload (va := (0, ii)) rfl rfl) ?_
              refine xg_t (xg_imul (u := 2) (v := ii) (z := 2 * ii) xnm0 xnm0 (by omega)) ?_
              refine xg_t (xg_iadd (u := 60) (v := 2 * ii) (z := 60 + (2 * ii)) xnm0 xnm0 (by omega)) ?_
              refine xg_t (xg_const) ?_
              refine xg_t (xg_iadd (u := 60 + (2 * ii)) (v := 1) (z := (60 + (2 * ii)) + 1) xnm0 xnm0 (by omega)) ?_
              refine xg_ialdB (n := (60 + (2 * ii)) + 1) (B := 4294967295) (hR83.fr hF97 (by decide)) (hgb) xnm0 (by omega) (fun u134 hu135 he136 => ?_)
              refine xg_cVi mX12_lifeOf (vs := [(0, la), (0, u134)]) (rest := []) (cn1 := 0) (sl1 := 0) rfl (mLifeOf (hI96) (by omega) (by omega) (hR83.fr hF97 (by decide)) hgb hok) rfl h82_131 rfl rfl rfl rfl rfl rfl (fun n141 w137 hq138 => ?_)
              obtain ⟨hn142, hI139, hF140⟩ := hq138
              have hl143 := hok.l1
              refine xg_t (xg_istore (l1 := [(0, (2, 82)), (1, (0, la)), (2, (0, nn)), (3, (0, ii))]) rfl rfl rfl) ?_
              refine xg_t (xg_iload (va := (0, n141)) rfl rfl) ?_
              by_cases hc144 : n141 < 2147483648
              · have hn145 : n141 ≤ 3 := by omega
                refine xg_t (xg_ifF (u := n141) rfl xnm0 (xjz_ltF hc144)) ?_
                refine xg_t (xg_aload (va := (2, 82)) rfl rfl) ?_
                refine xg_t (xg_dup rfl) ?_
                refine xg_t (xg_getf (va := (4, f82_121)) (hF140.get (by decide) h82_131) rfl) ?_
                refine xg_t (xg_aload (va := (2, 82)) rfl rfl) ?_
                refine xg_t (xg_getf (va := (4, f82_122)) (hF140.get (by decide) h82_131) rfl) ?_
                refine xg_t (xg_aload (va := (2, 82)) rfl rfl) ?_
                refine xg_t (xg_getf (va := (2, 83)) (hF140.get (by decide) h82_131) rfl) ?_
                refine xg_t (xg_bip) ?_
                refine xg_t (xg_const) ?_
                refine xg_t (xg_iload (va := (0, n141)) rfl rfl) ?_
                refine xg_t (xg_imul (u := 2) (v := n141) (z := 2 * n141) xnm0 xnm0 (by omega)) ?_
                refine xg_t (xg_iadd (u := 50) (v := 2 * n141) (z := 50 + (2 * n141)) xnm0 xnm0 (by omega)) ?_
                refine xg_t (xg_const) ?_
                refine xg_t (xg_iadd (u := 50 + (2 * n141)) (v := 1) (z := (50 + (2 * n141)) + 1) xnm0 xnm0 (by omega)) ?_
                refine xg_ialdB (n := (50 + (2 * n141)) + 1) (B := 4294967295) ((hR83.fr hF97 (by decide)).fr hF140 (by decide)) (hgb) xnm0 (by omega) (fun u146 hu147 he148 => ?_)
                have hv149 := hok.lif (k := n141) (by omega)
                rw [show 51 + 2 * n141 = (50 + (2 * n141)) + 1 by omega, he148] at hv149
                refine xg_t (xg_i2l (u := u146) xnm0) ?_
                refine xg_t (xg_lre (b := u146) (by rw [xlp_eq]; exact nI_l (by omega))) ?_
                refine xg_kl (xg_ldiv (u := f82_122) (v := u146) (lN_ne0 (by omega) (by omega))) (fun l150 => ?_)
                refine xg_t (xg_aload (va := (2, 82)) rfl rfl) ?_
                refine xg_t (xg_getf (va := (2, 83)) (hF140.get (by decide) h82_131) rfl) ?_
                refine xg_t (xg_bip) ?_
                refine xg_t (xg_const) ?_
                refine xg_t (xg_iload (va := (0, ii)) rfl rfl) ?_
                refine xg_t (xg_imul (u := 2) (v := ii) (z := 2 * ii) xnm0 xnm0 (by omega)) ?_
                refine xg_t (xg_iadd (u := 60) (v := 2 * ii) (z := 60 + (2 * ii)) xnm0 xnm0 (by omega)) ?_
                refine xg_ialdB (n := 60 + (2 * ii)) (B := 4294967295) ((hR83.fr hF97 (by decide)).fr hF140 (by decide)) (hgb) xnm0 (by omega) (fun u151 hu152 he153 => ?_)
                refine xg_kl (xg_i2l (u := u151) xnm0) (fun l154 => ?_)
                refine xg_kl (xg_lmul (u := l150) (v := l154)) (fun l155 => ?_)
                refine xg_kl (xg_ladd (u := f82_121) (v := l155)) (fun l156 => ?_)
                refine xg_putJ (fl1 := [(2, 83), (2, 84), (0, f82_101), (0, f82_103), (0, f82_105), (0, f82_107), (0, f82_109), (0, f82_111), (0, f82_113), (0, f82_115), (0, f82_117), (2, 85), (2, 86), (2, 87), (0, f82_119), (2, 88), (2, 89), (2, 90), (2, 91), (2, 92), (2, 93), (2, 94), (4, l156), (4, f82_122), (0, f82_123), (2, 95), (2, 96), (2, 97), (2, 98), (2, 99), (2, 100), (2, 101), (2, 102), (0, f82_125), (2, 103), (2, 104), (2, 105), (2, 106), (2, 107), (2, 108), (2, 109), (0, f82_127), (0, f82_129), (2, 110), (2, 111), (2, 112), (2, 113)]) (hF140.get (by decide) h82_131) rfl rfl (fun w157 hk158 hb159 => ?_)
                refine xg_t (xg_blq rfl) ?_
                refine xg_t (xg_iinc (u := ii) (z := ii + 1) (l1 := [(4, (0, n141)), (0, (2, 82)), (1, (0, la)), (2, (0, nn))]) rfl rfl (by omega) rfl) ?_
                refine xg_t (xg_goto) ?_
                refine xg_t (xg_drop (l1 := [(0, (2, 82)), (1, (0, la)), (2, (0, nn)), (3, (0, ii + 1))]) (List.forall_mem_cons.mpr ⟨List.mem_cons_of_mem _ (List.mem_cons_of_mem _ (List.mem_cons_self)), List.forall_mem_cons.mpr ⟨List.mem_cons_of_mem _ (List.mem_cons_of_mem _ (List.mem_cons_of_mem _ (List.mem_cons_self))), List.forall_mem_cons.mpr ⟨List.mem_cons_of_mem _ (List.mem_cons_of_mem _ (List.mem_cons_of_mem _ (List.mem_cons_of_mem _ (List.mem_cons_self)))), List.forall_mem_cons.mpr ⟨List.mem_cons_self, fun _ h => absurd h List.not_mem_nil⟩⟩⟩⟩)) ?_
                exact ih93 (ii + 1) w157 (by omega) (by omega) (xMnv.up (S := [82]) hI139 (xFr.of (S := [82]) hb159 (by decide)) (List.forall_mem_cons.mpr ⟨xqu82 (show cp82 (wget w157 82) from xmC82 f82_101 f82_103 f82_105 f82_107 f82_109 f82_111 f82_113 f82_115 f82_117 f82_119 l156 f82_122 f82_123 f82_125 f82_127 f82_129 hk158 hb102 hb104 hb106 hb108 hb110 hb112 hb114 hb116 hb118 hb120 hb124 hb126 hb128 hb130 (by omega)), fun _ h => absurd h List.not_mem_nil⟩)) (((hF97.tr (hF140.up (by decide))).tr (xFr.of (S := [82]) hb159 (by decide)))) (⟨by rw [fld_of hk158]; exact hx1, by rw [fld_of hk158]; exact hx2⟩)
              · refine xg_t (xg_ifT (u := n141) rfl xnm0 (xjz_ltT (by omega) (by omega))) ?_
                refine xg_t (xg_blq rfl) ?_
                refine xg_t (xg_iinc (u := ii) (z := ii + 1) (l1 := [(4, (0, n141)), (0, (2, 82)), (1, (0, la)), (2, (0, nn))]) rfl rfl (by omega) rfl) ?_
                refine xg_t (xg_goto) ?_
                refine xg_t (xg_drop (l1 := [(0, (2, 82)), (1, (0, la)), (2, (0, nn)), (3, (0, ii + 1))]) (List.forall_mem_cons.mpr ⟨List.mem_cons_of_mem _ (List.mem_cons_of_mem _ (List.mem_cons_self)), List.forall_mem_cons.mpr ⟨List.mem_cons_of_mem _ (List.mem_cons_of_mem _ (List.mem_cons_of_mem _ (List.mem_cons_self))), List.forall_mem_cons.mpr ⟨List.mem_cons_of_mem _ (List.mem_cons_of_mem _ (List.mem_cons_of_mem _ (List.mem_cons_of_mem _ (List.mem_cons_self)))), List.forall_mem_cons.mpr ⟨List.mem_cons_self, fun _ h => absurd h List.not_mem_nil⟩⟩⟩⟩)) ?_
                exact ih93 (ii + 1) w137 (by omega) (by omega) (hI139) ((hF97.tr (hF140.up (by decide)))) (⟨by rw [fld_of (hF140.get (by decide) h82_131)]; exact hx1, by rw [fld_of (hF140.get (by decide) h82_131)]; exact hx2⟩)
            · refine xg_t (xg_icT (u := ii) (v := nn) rfl xnm0 xnm0 (xj_geT (by omega) (by omega))) ?_
              refine xg_t (xg_blq rfl) ?_
              exact xg_e ⟨w95, ⟨rfl, rfl⟩, hI96, hF97, ⟨by rw [fld_of h82_131]; exact hx1, by rw [fld_of h82_131]; exact hx2⟩⟩
        exact key92 _ 0 w42 (Nat.lt_succ_self _) (by omega) (hI43) (hF44) (⟨he46.1, Nat.le_trans he46.2 (pw_le (by omega))⟩)
  exact key39 _ 0 w36 (Nat.lt_succ_self _) (by omega) (xMnv.up (S := [82]) hI ((xFr.of (S := [82]) hb35 (by decide)).tr (xFr.of (S := [82]) hb38 (by decide))) (List.forall_mem_cons.mpr ⟨xqu82 (show cp82 (wget w36 82) from xmC82 f82_1 f82_3 f82_5 f82_7 f82_9 f82_11 f82_13 f82_15 f82_17 f82_19 0 1 f82_23 f82_25 f82_27 f82_29 hk37 hb2 hb4 hb6 hb8 hb10 hb12 hb14 hb16 hb18 hb20 hb24 hb26 hb28 hb30 (by omega)), fun _ h => absurd h List.not_mem_nil⟩)) (((xFr.of (S := [82]) hb35 (by decide)).tr (xFr.of (S := [82]) hb38 (by decide)))) (⟨by rw [fld_of hk37]; exact Nat.le_refl 1, by rw [fld_of hk37]; exact Nat.le_refl 1⟩)
theorem mTired {la nn : Nat} (hI : xMnv w) (hla : la ≤ 4294967295) (hnn : nn ≤ 4294967295) : xPi (d + 3) mX12_tired [(2, 82), (0, la), (0, nn)] w bd fc rr (fun n w' => (n ≤ 4294967295) ∧ xMnv w' ∧ xFr [82, 88, 90, 91, 92, 93, 94] w w') := by
  refine xPi.of ?_
  show xTo (d + 3) mX12_tired (0, [], [(0, (2, 82)), (1, (0, la)), (2, (0, nn))], [], (w, bd, fc, 0, 0, rr)) (fun φ => ∃ n w', xEnd 1 [(0, n)] (w', bd, fc, 0, 0, rr) φ ∧ (n ≤ 4294967295) ∧ xMnv w' ∧ xFr [82, 88, 90, 91, 92, 93, 94] w w')
  refine xoCh82 (xqc82 hI : cp82 (wget w 82)) (fun f82_1 f82_3 f82_5 f82_7 f82_9 f82_11 f82_13 f82_15 f82_17 f82_19 f82_21 f82_22 f82_23 f82_25 f82_27 f82_29 h82_31 hb2 hb4 hb6 hb8 hb10 hb12 hb14 hb16 hb18 hb20 hb24 hb26 hb28 hb30 hb32 => ?_)
  refine xoX83 (xqc83 hI : cpx83 (wget w 83)) (fun g83_33 h83_34 hb35 hx36 => ?_)
  refine xg_t (xg_blq rfl) ?_
  refine xg_t (xg_aload (va := (2, 82)) rfl rfl) ?_
  refine xg_t (xg_iload (va := (0, la)) rfl rfl) ?_
  refine xg_t (xg_const) ?_
  have hl37 := hx36.l0
  refine xg_cVi mX12_isOf (vs := [(0, la), (0, 0)]) (rest := []) (cn1 := 0) (sl1 := 0) rfl (mOf0 (hI) (by omega) h83_34 hb35 hx36) rfl h82_31 rfl rfl rfl rfl rfl rfl (fun n42 w38 hq39 => ?_)
  obtain ⟨hn43, hI40, hF41⟩ := hq39
  by_cases hc44 : n42 = 0
  · refine xg_t (xg_ifT (u := n42) rfl xnm0 (xj_eqT hc44)) ?_
    refine xg_t (xg_blq rfl) ?_
    refine xg_t (xg_const) ?_
    exact xg_e ⟨4294967295, w38, ⟨rfl, rfl⟩, by first | decide | omega, hI40, (hF41.up (by decide))⟩
  · refine xg_t (xg_ifF (u := n42) rfl xnm0 (xj_eqF hc44)) ?_
    refine xg_t (xg_iload (va := (0, nn)) rfl rfl) ?_
    refine xg_t (xg_const) ?_
    refine xg_t (xg_aload (va := (2, 82)) rfl rfl) ?_
    refine xg_t (xg_getf (va := (2, 83)) (hF41.get (by decide) h82_31) rfl) ?_
    refine xg_t (xg_const) ?_
    refine xg_ialdB (n := 2) (B := 4294967295) (h83_34.fr hF41 (by decide)) (hb35) xnm0 (by first | decide | omega) (fun u45 hu46 he47 => ?_)
    have hl48 : u45 ≤ 6 := by rw [← he47]; exact hx36.l2
    refine xg_t (xg_cSr mX12_isIn (vs := [(0, nn), (0, 0), (0, u45)]) (rest := []) (rs := [(0, if 0 ≤ nn ∧ nn ≤ u45 then 1 else 0)]) (cn1 := 0) (sl1 := 0) rfl (mIsIn (by omega) (by omega) (by omega)) rfl rfl rfl rfl rfl rfl rfl rfl) ?_
    by_cases hc49 : 0 ≤ nn ∧ nn ≤ u45
    · refine xg_t (xg_ifT (u := (if 0 ≤ nn ∧ nn ≤ u45 then 1 else 0)) rfl xnm0 (xj_neT (xite1 hc49))) ?_
      refine xg_t (xg_blq rfl) ?_
      refine xg_t (xg_aload (va := (2, 82)) rfl rfl) ?_
      refine xg_cVv mX12_asTold (vs := []) (rest := []) (cn1 := 0) (sl1 := 0) rfl (mAsTold (hI40) (h83_34.fr hF41 (by decide)) hb35 hx36) rfl (hF41.get (by decide) h82_31) rfl rfl rfl rfl rfl rfl (fun w50 hq51 => ?_)
      obtain ⟨hI52, hF53, hx54⟩ := hq51
      obtain ⟨o55, U56, hr57, hr58, hr59, hr60, hr61⟩ := hx54
      refine xg_t (xg_aload (va := (2, 82)) rfl rfl) ?_
      refine xg_t (xg_iload (va := (0, la)) rfl rfl) ?_
      refine xg_t (xg_iload (va := (0, nn)) rfl rfl) ?_
      refine xg_cVv mX12_tires (vs := [(0, la), (0, nn)]) (rest := []) (cn1 := 0) (sl1 := 0) rfl (mTires (hI52) (by omega) (by omega) ((h83_34.fr hF41 (by decide)).fr hF53 (by decide)) hb35 hx36) rfl (hF53.get (by decide) (hF41.get (by decide) h82_31)) rfl rfl rfl rfl rfl rfl (fun w62 hq63 => ?_)
      obtain ⟨hI64, hF65, hx66⟩ := hq63
      refine xoCh82 (xqc82 hI64 : cp82 (wget w62 82)) (fun f82_67 f82_69 f82_71 f82_73 f82_75 f82_77 f82_79 f82_81 f82_83 f82_85 f82_87 f82_88 f82_89 f82_91 f82_93 f82_95 h82_97 hb68 hb70 hb72 hb74 hb76 hb78 hb80 hb82 hb84 hb86 hb90 hb92 hb94 hb96 hb98 => ?_)
      have hw101 : fld w62 82 23 = f82_88 := fld_of h82_97
      obtain ⟨hw99, hw100⟩ := hx66
      rw [hw101] at hw99 hw100
      refine xg_t (xg_ldc2) ?_
      refine xg_t (xg_aload (va := (2, 82)) rfl rfl) ?_
      refine xg_t (xg_getf (va := (4, f82_87)) h82_97 rfl) ?_
      refine xg_kl (xg_lmul (u := 1000) (v := f82_87)) (fun l102 => ?_)
      refine xg_t (xg_aload (va := (2, 82)) rfl rfl) ?_
      refine xg_t (xg_getf (va := (4, f82_88)) h82_97 rfl) ?_
      refine xg_kl (xg_ldiv (u := l102) (v := f82_88) (lN_ne0 (by omega) (by omega))) (fun l103 => ?_)
      refine xg_k (xg_l2i (u := l103)) (xpt_lt _) (fun z104 hz105 => ?_)
      exact xg_e ⟨z104, w62, ⟨rfl, rfl⟩, by omega, hI64, (((hF41.up (by decide)).tr (hF53.up (by decide))).tr (hF65.up (by decide)))⟩
    · refine xg_t (xg_ifF (u := (if 0 ≤ nn ∧ nn ≤ u45 then 1 else 0)) rfl xnm0 (xj_neF (xite0 hc49))) ?_
      refine xg_t (xg_blq rfl) ?_
      refine xg_t (xg_const) ?_
      exact xg_e ⟨4294967295, w38, ⟨rfl, rfl⟩, by first | decide | omega, hI40, (hF41.up (by decide))⟩
theorem mCracks {la : Nat} (hI : xMnv w) (hla : la ≤ 4294967295) : xPi (d + 3) mX12_cracks [(2, 82), (0, la)] w bd fc rr (fun n w' => (n ≤ 4294967295) ∧ xMnv w' ∧ xFr [82, 88, 90, 91, 92, 93, 94] w w') := by
  refine xPi.of ?_
  show xTo (d + 3) mX12_cracks (0, [], [(0, (2, 82)), (1, (0, la))], [], (w, bd, fc, 0, 0, rr)) (fun φ => ∃ n w', xEnd 1 [(0, n)] (w', bd, fc, 0, 0, rr) φ ∧ (n ≤ 4294967295) ∧ xMnv w' ∧ xFr [82, 88, 90, 91, 92, 93, 94] w w')
  refine xoCh82 (xqc82 hI : cp82 (wget w 82)) (fun f82_1 f82_3 f82_5 f82_7 f82_9 f82_11 f82_13 f82_15 f82_17 f82_19 f82_21 f82_22 f82_23 f82_25 f82_27 f82_29 h82_31 hb2 hb4 hb6 hb8 hb10 hb12 hb14 hb16 hb18 hb20 hb24 hb26 hb28 hb30 hb32 => ?_)
  refine xoX83 (xqc83 hI : cpx83 (wget w 83)) (fun g83_33 h83_34 hb35 hx36 => ?_)
  refine xg_t (xg_blq rfl) ?_
  refine xg_t (xg_aload (va := (2, 82)) rfl rfl) ?_
  refine xg_t (xg_iload (va := (0, la)) rfl rfl) ?_
  refine xg_t (xg_const) ?_
  have hl37 := hx36.l0
  refine xg_cVi mX12_isOf (vs := [(0, la), (0, 0)]) (rest := []) (cn1 := 0) (sl1 := 0) rfl (mOf0 (hI) (by omega) h83_34 hb35 hx36) rfl h82_31 rfl rfl rfl rfl rfl rfl (fun n42 w38 hq39 => ?_)
  obtain ⟨hn43, hI40, hF41⟩ := hq39
  by_cases hc44 : n42 = 0
  · refine xg_t (xg_ifF (u := n42) rfl xnm0 (xj_neF hc44)) ?_
    refine xg_t (xg_const) ?_
    exact xg_e ⟨4294967295, w38, ⟨rfl, rfl⟩, by first | decide | omega, hI40, (hF41.up (by decide))⟩
  · refine xg_t (xg_ifT (u := n42) rfl xnm0 (xj_neT hc44)) ?_
    refine xg_t (xg_blq rfl) ?_
    refine xg_t (xg_aload (va := (2, 82)) rfl rfl) ?_
    refine xg_cVv mX12_asTold (vs := []) (rest := []) (cn1 := 0) (sl1 := 0) rfl (mAsTold (hI40) (h83_34.fr hF41 (by decide)) hb35 hx36) rfl (hF41.get (by decide) h82_31) rfl rfl rfl rfl rfl rfl (fun w45 hq46 => ?_)
    obtain ⟨hI47, hF48, hx49⟩ := hq46
    obtain ⟨o50, U51, hr52, hr53, hr54, hr55, hr56⟩ := hx49
    refine xg_t (xg_const) ?_
    refine xg_t (xg_istore (l1 := [(0, (2, 82)), (1, (0, la))]) rfl rfl rfl) ?_
    refine xg_t (xg_drop (l1 := [(0, (2, 82)), (1, (0, la)), (2, (0, 1))]) (List.forall_mem_cons.mpr ⟨List.mem_cons_of_mem _ (List.mem_cons_self), List.forall_mem_cons.mpr ⟨List.mem_cons_of_mem _ (List.mem_cons_of_mem _ (List.mem_cons_self)), List.forall_mem_cons.mpr ⟨List.mem_cons_self, fun _ h => absurd h List.not_mem_nil⟩⟩⟩)) ?_
    have key57 : ∀ (m59 : Nat) (ni : Nat) (w60 : List (List xE)), 7 - ni < m59 → ni ≤ 7 → xMnv w60 → xFr [82, 88, 90, 91, 92, 93, 94] w w60 → 1 ≤ ni → xTo (d + 3) mX12_cracks (17, [], [(0, (2, 82)), (1, (0, la)), (2, (0, ni))], [], (w60, bd, fc, 0, 0, rr)) (fun φ => ∃ n w', xEnd 1 [(0, n)] (w', bd, fc, 0, 0, rr) φ ∧ (n ≤ 4294967295) ∧ xMnv w' ∧ xFr [82, 88, 90, 91, 92, 93, 94] w w') := by
      intro m59
      induction m59 with
      | zero => intro ni w60 hz; exact absurd hz (Nat.not_lt_zero _)
      | succ m59 ih58 =>
        intro ni w60 hm65 hn63 hI61 hF62 he64
        refine xg_t (xg_blq rfl) ?_
        refine xg_t (xg_iload (va := (0, ni)) rfl rfl) ?_
        refine xg_t (xg_aload (va := (2, 82)) rfl rfl) ?_
        refine xoCh82 (xqc82 hI61 : cp82 (wget w60 82)) (fun f82_66 f82_68 f82_70 f82_72 f82_74 f82_76 f82_78 f82_80 f82_82 f82_84 f82_86 f82_87 f82_88 f82_90 f82_92 f82_94 h82_96 hb67 hb69 hb71 hb73 hb75 hb77 hb79 hb81 hb83 hb85 hb89 hb91 hb93 hb95 hb97 => ?_)
        refine xg_t (xg_getf (va := (2, 83)) h82_96 rfl) ?_
        refine xg_t (xg_const) ?_
        refine xg_ialdB (n := 2) (B := 4294967295) (h83_34.fr hF62 (by decide)) (hb35) xnm0 (by first | decide | omega) (fun u98 hu99 he100 => ?_)
        have hl101 : u98 ≤ 6 := by rw [← he100]; exact hx36.l2
        by_cases hc102 : u98 < ni
        · refine xg_t (xg_icT (u := ni) (v := u98) rfl xnm0 xnm0 (xj_gtT hc102 (by omega))) ?_
          refine xg_t (xg_blq rfl) ?_
          refine xg_t (xg_const) ?_
          exact xg_e ⟨4294967295, w60, ⟨rfl, rfl⟩, by first | decide | omega, hI61, hF62⟩
        · refine xg_t (xg_icF (u := ni) (v := u98) rfl xnm0 xnm0 (xj_gtF (by omega) (by omega))) ?_
          refine xg_t (xg_aload (va := (2, 82)) rfl rfl) ?_
          refine xg_t (xg_iload (va := (0, la)) rfl rfl) ?_
          refine xg_t (xg_iload (va := (0, ni)) rfl rfl) ?_
          refine xg_cVv mX12_tires (vs := [(0, la), (0, ni)]) (rest := []) (cn1 := 0) (sl1 := 0) rfl (mTires (hI61) (by omega) (by omega) (h83_34.fr hF62 (by decide)) hb35 hx36) rfl h82_96 rfl rfl rfl rfl rfl rfl (fun w103 hq104 => ?_)
          obtain ⟨hI105, hF106, hx107⟩ := hq104
          refine xoCh82 (xqc82 hI105 : cp82 (wget w103 82)) (fun f82_108 f82_110 f82_112 f82_114 f82_116 f82_118 f82_120 f82_122 f82_124 f82_126 f82_128 f82_129 f82_130 f82_132 f82_134 f82_136 h82_138 hb109 hb111 hb113 hb115 hb117 hb119 hb121 hb123 hb125 hb127 hb131 hb133 hb135 hb137 hb139 => ?_)
          have hw142 : fld w103 82 23 = f82_129 := fld_of h82_138
          obtain ⟨hw140, hw141⟩ := hx107
          rw [hw142] at hw140 hw141
          refine xg_t (xg_aload (va := (2, 82)) rfl rfl) ?_
          refine xg_t (xg_getf (va := (4, f82_128)) h82_138 rfl) ?_
          refine xg_t (xg_aload (va := (2, 82)) rfl rfl) ?_
          refine xg_t (xg_getf (va := (4, f82_129)) h82_138 rfl) ?_
          refine xg_k (xg_lcmp (u := f82_128) (v := f82_129)) (xpt_lt _) (fun z143 hz144 => ?_)
          by_cases hc145 : z143 < 2147483648
          · refine xg_t (xg_ifF (u := z143) rfl xnm0 (xjz_ltF hc145)) ?_
            refine xg_t (xg_iload (va := (0, ni)) rfl rfl) ?_
            refine xg_t (xg_const) ?_
            refine xg_t (xg_isub (u := ni) (v := 1) (z := ni - 1) xnm0 xnm0 (by omega)) ?_
            exact xg_e ⟨ni - 1, w103, ⟨rfl, rfl⟩, by omega, hI105, (hF62.tr (hF106.up (by decide)))⟩
          · refine xg_t (xg_ifT (u := z143) rfl xnm0 (xjz_ltT (by omega) (by omega))) ?_
            refine xg_t (xg_blq rfl) ?_
            refine xg_t (xg_iinc (u := ni) (z := ni + 1) (l1 := [(0, (2, 82)), (1, (0, la))]) rfl rfl (by omega) rfl) ?_
            refine xg_t (xg_goto) ?_
            refine xg_t (xg_drop (l1 := [(0, (2, 82)), (1, (0, la)), (2, (0, ni + 1))]) (List.forall_mem_cons.mpr ⟨List.mem_cons_of_mem _ (List.mem_cons_self), List.forall_mem_cons.mpr ⟨List.mem_cons_of_mem _ (List.mem_cons_of_mem _ (List.mem_cons_self)), List.forall_mem_cons.mpr ⟨List.mem_cons_self, fun _ h => absurd h List.not_mem_nil⟩⟩⟩)) ?_
            exact ih58 (ni + 1) w103 (by omega) (by omega) (hI105) ((hF62.tr (hF106.up (by decide)))) (by omega)
    exact key57 _ 1 w45 (Nat.lt_succ_self _) (by omega) (hI47) (((hF41.up (by decide)).tr (hF48.up (by decide)))) (by omega)
theorem mBreaks {ha ye : Nat} (hI : xMnv w) (hha : ha ≤ 3) (hye : ye ≤ 4294967295) : xPi (d + 3) mX12_breaks [(2, 82), (0, ha), (0, ye)] w bd fc rr (fun n w' => (n ≤ 1) ∧ xMnv w' ∧ xFr [82] w w') := by
  refine xPi.of ?_
  show xTo (d + 3) mX12_breaks (0, [], [(0, (2, 82)), (1, (0, ha)), (2, (0, ye))], [], (w, bd, fc, 0, 0, rr)) (fun φ => ∃ n w', xEnd 4 [(0, n)] (w', bd, fc, 0, 0, rr) φ ∧ (n ≤ 1) ∧ xMnv w' ∧ xFr [82] w w')
  refine xoCh82 (xqc82 hI : cp82 (wget w 82)) (fun f82_1 f82_3 f82_5 f82_7 f82_9 f82_11 f82_13 f82_15 f82_17 f82_19 f82_21 f82_22 f82_23 f82_25 f82_27 f82_29 h82_31 hb2 hb4 hb6 hb8 hb10 hb12 hb14 hb16 hb18 hb20 hb24 hb26 hb28 hb30 hb32 => ?_)
  refine xoX83 (xqc83 hI : cpx83 (wget w 83)) (fun g83_33 h83_34 hb35 hx36 => ?_)
  refine xg_t (xg_blq rfl) ?_
  refine xg_t (xg_sip) ?_
  refine xg_t (xg_const) ?_
  refine xg_t (xg_iload (va := (0, ha)) rfl rfl) ?_
  refine xg_t (xg_imul (u := 3) (v := ha) (z := 3 * ha) xnm0 xnm0 (by omega)) ?_
  refine xg_t (xg_iadd (u := 950) (v := 3 * ha) (z := 950 + (3 * ha)) xnm0 xnm0 (by omega)) ?_
  refine xg_t (xg_istore (l1 := [(0, (2, 82)), (1, (0, ha)), (2, (0, ye))]) rfl rfl rfl) ?_
  refine xg_t (xg_const) ?_
  refine xg_t (xg_istore (l1 := [(3, (0, 950 + (3 * ha))), (0, (2, 82)), (1, (0, ha)), (2, (0, ye))]) rfl rfl rfl) ?_
  refine xg_t (xg_const) ?_
  refine xg_t (xg_istore (l1 := [(4, (0, 0)), (3, (0, 950 + (3 * ha))), (0, (2, 82)), (1, (0, ha)), (2, (0, ye))]) rfl rfl rfl) ?_
  refine xg_t (xg_drop (l1 := [(0, (2, 82)), (1, (0, ha)), (2, (0, ye)), (3, (0, 950 + (3 * ha))), (4, (0, 0)), (5, (0, 0))]) (List.forall_mem_cons.mpr ⟨List.mem_cons_of_mem _ (List.mem_cons_of_mem _ (List.mem_cons_of_mem _ (List.mem_cons_self))), List.forall_mem_cons.mpr ⟨List.mem_cons_of_mem _ (List.mem_cons_of_mem _ (List.mem_cons_of_mem _ (List.mem_cons_of_mem _ (List.mem_cons_self)))), List.forall_mem_cons.mpr ⟨List.mem_cons_of_mem _ (List.mem_cons_of_mem _ (List.mem_cons_of_mem _ (List.mem_cons_of_mem _ (List.mem_cons_of_mem _ (List.mem_cons_self))))), List.forall_mem_cons.mpr ⟨List.mem_cons_of_mem _ (List.mem_cons_of_mem _ (List.mem_cons_self)), List.forall_mem_cons.mpr ⟨List.mem_cons_of_mem _ (List.mem_cons_self), List.forall_mem_cons.mpr ⟨List.mem_cons_self, fun _ h => absurd h List.not_mem_nil⟩⟩⟩⟩⟩⟩)) ?_
  have key37 : ∀ (m39 : Nat) (is_ pi_ : Nat) (w40 : List (List xE)), 6 - pi_ < m39 → is_ ≤ 1 → pi_ ≤ 6 → xMnv w40 → xFr [82] w w40 → xTo (d + 3) mX12_breaks (14, [], [(0, (2, 82)), (1, (0, ha)), (2, (0, ye)), (3, (0, 950 + (3 * ha))), (4, (0, is_)), (5, (0, pi_))], [], (w40, bd, fc, 0, 0, rr)) (fun φ => ∃ n w', xEnd 4 [(0, n)] (w', bd, fc, 0, 0, rr) φ ∧ (n ≤ 1) ∧ xMnv w' ∧ xFr [82] w w') := by
    intro m39
    induction m39 with
    | zero => intro is_ pi_ w40 hz; exact absurd hz (Nat.not_lt_zero _)
    | succ m39 ih38 =>
      intro is_ pi_ w40 hm45 hn43 hn44 hI41 hF42
      refine xg_t (xg_blq rfl) ?_
      refine xg_t (xg_iload (va := (0, pi_)) rfl rfl) ?_
      refine xg_t (xg_aload (va := (2, 82)) rfl rfl) ?_
      refine xoCh82 (xqc82 hI41 : cp82 (wget w40 82)) (fun f82_46 f82_48 f82_50 f82_52 f82_54 f82_56 f82_58 f82_60 f82_62 f82_64 f82_66 f82_67 f82_68 f82_70 f82_72 f82_74 h82_76 hb47 hb49 hb51 hb53 hb55 hb57 hb59 hb61 hb63 hb65 hb69 hb71 hb73 hb75 hb77 => ?_)
      refine xg_t (xg_getf (va := (2, 83)) h82_76 rfl) ?_
      refine xg_t (xg_const) ?_
      refine xg_ialdB (n := 0) (B := 4294967295) (h83_34.fr hF42 (by decide)) (hb35) xnm0 (by first | decide | omega) (fun u78 hu79 he80 => ?_)
      have hl81 : u78 ≤ 6 := by rw [← he80]; exact hx36.l0
      by_cases hc82 : pi_ < u78
      · refine xg_t (xg_icF (u := pi_) (v := u78) rfl xnm0 xnm0 (xj_geF hc82 (by omega))) ?_
        refine xg_t (xg_iload (va := (0, is_)) rfl rfl) ?_
        by_cases hc83 : is_ = 0
        · refine xg_t (xg_ifF (u := is_) rfl xnm0 (xj_neF hc83)) ?_
          refine xg_t (xg_aload (va := (2, 82)) rfl rfl) ?_
          refine xg_t (xg_iload (va := (0, pi_)) rfl rfl) ?_
          refine xg_t (xg_aload (va := (2, 82)) rfl rfl) ?_
          refine xg_t (xg_getf (va := (2, 83)) h82_76 rfl) ?_
          refine xg_t (xg_const) ?_
          refine xg_ialdB (n := 2) (B := 4294967295) (h83_34.fr hF42 (by decide)) (hb35) xnm0 (by first | decide | omega) (fun u84 hu85 he86 => ?_)
          have hl87 : u84 ≤ 6 := by rw [← he86]; exact hx36.l2
          refine xg_cVv mX12_tires (vs := [(0, pi_), (0, u84)]) (rest := []) (cn1 := 0) (sl1 := 0) rfl (mTires (hI41) (by omega) (by omega) (h83_34.fr hF42 (by decide)) hb35 hx36) rfl h82_76 rfl rfl rfl rfl rfl rfl (fun w88 hq89 => ?_)
          obtain ⟨hI90, hF91, hx92⟩ := hq89
          refine xoCh82 (xqc82 hI90 : cp82 (wget w88 82)) (fun f82_93 f82_95 f82_97 f82_99 f82_101 f82_103 f82_105 f82_107 f82_109 f82_111 f82_113 f82_114 f82_115 f82_117 f82_119 f82_121 h82_123 hb94 hb96 hb98 hb100 hb102 hb104 hb106 hb108 hb110 hb112 hb116 hb118 hb120 hb122 hb124 => ?_)
          have hw127 : fld w88 82 23 = f82_114 := fld_of h82_123
          obtain ⟨hw125, hw126⟩ := hx92
          rw [hw127] at hw125 hw126
          refine xg_t (xg_aload (va := (2, 82)) rfl rfl) ?_
          refine xg_t (xg_iload (va := (0, pi_)) rfl rfl) ?_
          refine xg_t (xg_aload (va := (2, 82)) rfl rfl) ?_
          refine xg_t (xg_getf (va := (2, 83)) h82_123 rfl) ?_
          refine xg_t (xg_iload (va := (0, 950 + (3 * ha))) rfl rfl) ?_
          refine xg_t (xg_const) ?_
          refine xg_t (xg_iadd (u := 950 + (3 * ha)) (v := 2) (z := (950 + (3 * ha)) + 2) xnm0 xnm0 (by omega)) ?_
          refine xg_ialdB (n := (950 + (3 * ha)) + 2) (B := 4294967295) ((h83_34.fr hF42 (by decide)).fr hF91 (by decide)) (hb35) xnm0 (by omega) (fun u128 hu129 he130 => ?_)
          refine xg_cVi mX12_lifeOf (vs := [(0, pi_), (0, u128)]) (rest := []) (cn1 := 0) (sl1 := 0) rfl (mLifeOf (hI90) (by omega) (by omega) ((h83_34.fr hF42 (by decide)).fr hF91 (by decide)) hb35 hx36) rfl h82_123 rfl rfl rfl rfl rfl rfl (fun n135 w131 hq132 => ?_)
          obtain ⟨hn136, hI133, hF134⟩ := hq132
          have hl137 := hx36.l1
          refine xg_t (xg_istore (l1 := [(0, (2, 82)), (1, (0, ha)), (2, (0, ye)), (3, (0, 950 + (3 * ha))), (4, (0, is_)), (5, (0, pi_))]) rfl rfl rfl) ?_
          refine xg_t (xg_iload (va := (0, n135)) rfl rfl) ?_
          by_cases hc138 : n135 < 2147483648
          · have hn139 : n135 ≤ 3 := by omega
            refine xg_t (xg_ifF (u := n135) rfl xnm0 (xjz_ltF hc138)) ?_
            refine xg_t (xg_aload (va := (2, 82)) rfl rfl) ?_
            refine xg_t (xg_dup rfl) ?_
            refine xg_t (xg_getf (va := (4, f82_113)) (hF134.get (by decide) h82_123) rfl) ?_
            refine xg_t (xg_aload (va := (2, 82)) rfl rfl) ?_
            refine xg_t (xg_getf (va := (4, f82_114)) (hF134.get (by decide) h82_123) rfl) ?_
            refine xg_t (xg_aload (va := (2, 82)) rfl rfl) ?_
            refine xg_t (xg_getf (va := (2, 83)) (hF134.get (by decide) h82_123) rfl) ?_
            refine xg_t (xg_bip) ?_
            refine xg_t (xg_const) ?_
            refine xg_t (xg_iload (va := (0, n135)) rfl rfl) ?_
            refine xg_t (xg_imul (u := 2) (v := n135) (z := 2 * n135) xnm0 xnm0 (by omega)) ?_
            refine xg_t (xg_iadd (u := 50) (v := 2 * n135) (z := 50 + (2 * n135)) xnm0 xnm0 (by omega)) ?_
            refine xg_t (xg_const) ?_
            refine xg_t (xg_iadd (u := 50 + (2 * n135)) (v := 1) (z := (50 + (2 * n135)) + 1) xnm0 xnm0 (by omega)) ?_
            refine xg_ialdB (n := (50 + (2 * n135)) + 1) (B := 4294967295) (((h83_34.fr hF42 (by decide)).fr hF91 (by decide)).fr hF134 (by decide)) (hb35) xnm0 (by omega) (fun u140 hu141 he142 => ?_)
            have hv143 := hx36.lif (k := n135) (by omega)
            rw [show 51 + 2 * n135 = (50 + (2 * n135)) + 1 by omega, he142] at hv143
            refine xg_t (xg_i2l (u := u140) xnm0) ?_
            refine xg_t (xg_lre (b := u140) (by rw [xlp_eq]; exact nI_l (by omega))) ?_
            refine xg_kl (xg_ldiv (u := f82_114) (v := u140) (lN_ne0 (by omega) (by omega))) (fun l144 => ?_)
            refine xg_t (xg_ldc2) ?_
            refine xg_t (xg_iload (va := (0, ye)) rfl rfl) ?_
            refine xg_kl (xg_i2l (u := ye) xnm0) (fun l145 => ?_)
            refine xg_kl (xg_lmul (u := 365) (v := l145)) (fun l146 => ?_)
            refine xg_t (xg_aload (va := (2, 82)) rfl rfl) ?_
            refine xg_t (xg_getf (va := (2, 83)) (hF134.get (by decide) h82_123) rfl) ?_
            refine xg_t (xg_iload (va := (0, 950 + (3 * ha))) rfl rfl) ?_
            refine xg_t (xg_const) ?_
            refine xg_t (xg_iadd (u := 950 + (3 * ha)) (v := 1) (z := (950 + (3 * ha)) + 1) xnm0 xnm0 (by omega)) ?_
            refine xg_ialdB (n := (950 + (3 * ha)) + 1) (B := 4294967295) (((h83_34.fr hF42 (by decide)).fr hF91 (by decide)).fr hF134 (by decide)) (hb35) xnm0 (by omega) (fun u147 hu148 he149 => ?_)
            refine xg_kl (xg_i2l (u := u147) xnm0) (fun l150 => ?_)
            refine xg_kl (xg_lmul (u := l146) (v := l150)) (fun l151 => ?_)
            refine xg_kl (xg_lmul (u := l144) (v := l151)) (fun l152 => ?_)
            refine xg_kl (xg_ladd (u := f82_113) (v := l152)) (fun l153 => ?_)
            refine xg_putJ (fl1 := [(2, 83), (2, 84), (0, f82_93), (0, f82_95), (0, f82_97), (0, f82_99), (0, f82_101), (0, f82_103), (0, f82_105), (0, f82_107), (0, f82_109), (2, 85), (2, 86), (2, 87), (0, f82_111), (2, 88), (2, 89), (2, 90), (2, 91), (2, 92), (2, 93), (2, 94), (4, l153), (4, f82_114), (0, f82_115), (2, 95), (2, 96), (2, 97), (2, 98), (2, 99), (2, 100), (2, 101), (2, 102), (0, f82_117), (2, 103), (2, 104), (2, 105), (2, 106), (2, 107), (2, 108), (2, 109), (0, f82_119), (0, f82_121), (2, 110), (2, 111), (2, 112), (2, 113)]) (hF134.get (by decide) h82_123) rfl rfl (fun w154 hk155 hb156 => ?_)
            refine xg_t (xg_blq rfl) ?_
            refine xg_t (xg_aload (va := (2, 82)) rfl rfl) ?_
            refine xg_t (xg_getf (va := (4, l153)) hk155 rfl) ?_
            refine xg_t (xg_aload (va := (2, 82)) rfl rfl) ?_
            refine xg_t (xg_getf (va := (4, f82_114)) hk155 rfl) ?_
            refine xg_k (xg_lcmp (u := l153) (v := f82_114)) (xpt_lt _) (fun z157 hz158 => ?_)
            by_cases hc159 : z157 < 2147483648
            · refine xg_t (xg_ifF (u := z157) rfl xnm0 (xjz_ltF hc159)) ?_
              refine xg_t (xg_const) ?_
              refine xg_t (xg_goto) ?_
              refine xg_t (xg_blq rfl) ?_
              refine xg_t (xg_istore (l1 := [(6, (0, n135)), (0, (2, 82)), (1, (0, ha)), (2, (0, ye)), (3, (0, 950 + (3 * ha))), (5, (0, pi_))]) rfl rfl rfl) ?_
              refine xg_t (xg_iinc (u := pi_) (z := pi_ + 1) (l1 := [(4, (0, 1)), (6, (0, n135)), (0, (2, 82)), (1, (0, ha)), (2, (0, ye)), (3, (0, 950 + (3 * ha)))]) rfl rfl (by omega) rfl) ?_
              refine xg_t (xg_goto) ?_
              refine xg_t (xg_drop (l1 := [(0, (2, 82)), (1, (0, ha)), (2, (0, ye)), (3, (0, 950 + (3 * ha))), (4, (0, 1)), (5, (0, pi_ + 1))]) (List.forall_mem_cons.mpr ⟨List.mem_cons_of_mem _ (List.mem_cons_of_mem _ (List.mem_cons_of_mem _ (List.mem_cons_self))), List.forall_mem_cons.mpr ⟨List.mem_cons_of_mem _ (List.mem_cons_of_mem _ (List.mem_cons_of_mem _ (List.mem_cons_of_mem _ (List.mem_cons_self)))), List.forall_mem_cons.mpr ⟨List.mem_cons_of_mem _ (List.mem_cons_of_mem _ (List.mem_cons_of_mem _ (List.mem_cons_of_mem _ (List.mem_cons_of_mem _ (List.mem_cons_self))))), List.forall_mem_cons.mpr ⟨List.mem_cons_of_mem _ (List.mem_cons_of_mem _ (List.mem_cons_of_mem _ (List.mem_cons_of_mem _ (List.mem_cons_of_mem _ (List.mem_cons_of_mem _ (List.mem_cons_self)))))), List.forall_mem_cons.mpr ⟨List.mem_cons_of_mem _ (List.mem_cons_self), List.forall_mem_cons.mpr ⟨List.mem_cons_self, fun _ h => absurd h List.not_mem_nil⟩⟩⟩⟩⟩⟩)) ?_
              exact ih38 1 (pi_ + 1) w154 (by omega) (by omega) (by omega) (xMnv.up (S := [82]) hI133 (xFr.of (S := [82]) hb156 (by decide)) (List.forall_mem_cons.mpr ⟨xqu82 (show cp82 (wget w154 82) from xmC82 f82_93 f82_95 f82_97 f82_99 f82_101 f82_103 f82_105 f82_107 f82_109 f82_111 l153 f82_114 f82_115 f82_117 f82_119 f82_121 hk155 hb94 hb96 hb98 hb100 hb102 hb104 hb106 hb108 hb110 hb112 hb116 hb118 hb120 hb122 (by omega)), fun _ h => absurd h List.not_mem_nil⟩)) ((((hF42.tr (hF91.up (by decide))).tr (hF134.up (by decide))).tr (xFr.of (S := [82]) hb156 (by decide))))
            · refine xg_t (xg_ifT (u := z157) rfl xnm0 (xjz_ltT (by omega) (by omega))) ?_
              refine xg_t (xg_blq rfl) ?_
              refine xg_t (xg_const) ?_
              refine xg_t (xg_blq rfl) ?_
              refine xg_t (xg_istore (l1 := [(6, (0, n135)), (0, (2, 82)), (1, (0, ha)), (2, (0, ye)), (3, (0, 950 + (3 * ha))), (5, (0, pi_))]) rfl rfl rfl) ?_
              refine xg_t (xg_iinc (u := pi_) (z := pi_ + 1) (l1 := [(4, (0, 0)), (6, (0, n135)), (0, (2, 82)), (1, (0, ha)), (2, (0, ye)), (3, (0, 950 + (3 * ha)))]) rfl rfl (by omega) rfl) ?_
              refine xg_t (xg_goto) ?_
              refine xg_t (xg_drop (l1 := [(0, (2, 82)), (1, (0, ha)), (2, (0, ye)), (3, (0, 950 + (3 * ha))), (4, (0, 0)), (5, (0, pi_ + 1))]) (List.forall_mem_cons.mpr ⟨List.mem_cons_of_mem _ (List.mem_cons_of_mem _ (List.mem_cons_of_mem _ (List.mem_cons_self))), List.forall_mem_cons.mpr ⟨List.mem_cons_of_mem _ (List.mem_cons_of_mem _ (List.mem_cons_of_mem _ (List.mem_cons_of_mem _ (List.mem_cons_self)))), List.forall_mem_cons.mpr ⟨List.mem_cons_of_mem _ (List.mem_cons_of_mem _ (List.mem_cons_of_mem _ (List.mem_cons_of_mem _ (List.mem_cons_of_mem _ (List.mem_cons_self))))), List.forall_mem_cons.mpr ⟨List.mem_cons_of_mem _ (List.mem_cons_of_mem _ (List.mem_cons_of_mem _ (List.mem_cons_of_mem _ (List.mem_cons_of_mem _ (List.mem_cons_of_mem _ (List.mem_cons_self)))))), List.forall_mem_cons.mpr ⟨List.mem_cons_of_mem _ (List.mem_cons_self), List.forall_mem_cons.mpr ⟨List.mem_cons_self, fun _ h => absurd h List.not_mem_nil⟩⟩⟩⟩⟩⟩)) ?_
              exact ih38 0 (pi_ + 1) w154 (by omega) (by omega) (by omega) (xMnv.up (S := [82]) hI133 (xFr.of (S := [82]) hb156 (by decide)) (List.forall_mem_cons.mpr ⟨xqu82 (show cp82 (wget w154 82) from xmC82 f82_93 f82_95 f82_97 f82_99 f82_101 f82_103 f82_105 f82_107 f82_109 f82_111 l153 f82_114 f82_115 f82_117 f82_119 f82_121 hk155 hb94 hb96 hb98 hb100 hb102 hb104 hb106 hb108 hb110 hb112 hb116 hb118 hb120 hb122 (by omega)), fun _ h => absurd h List.not_mem_nil⟩)) ((((hF42.tr (hF91.up (by decide))).tr (hF134.up (by decide))).tr (xFr.of (S := [82]) hb156 (by decide))))
          · refine xg_t (xg_ifT (u := n135) rfl xnm0 (xjz_ltT (by omega) (by omega))) ?_
            refine xg_t (xg_blq rfl) ?_
            refine xg_t (xg_aload (va := (2, 82)) rfl rfl) ?_
            refine xg_t (xg_getf (va := (4, f82_113)) (hF134.get (by decide) h82_123) rfl) ?_
            refine xg_t (xg_aload (va := (2, 82)) rfl rfl) ?_
            refine xg_t (xg_getf (va := (4, f82_114)) (hF134.get (by decide) h82_123) rfl) ?_
            refine xg_k (xg_lcmp (u := f82_113) (v := f82_114)) (xpt_lt _) (fun z160 hz161 => ?_)
            by_cases hc162 : z160 < 2147483648
            · refine xg_t (xg_ifF (u := z160) rfl xnm0 (xjz_ltF hc162)) ?_
              refine xg_t (xg_const) ?_
              refine xg_t (xg_goto) ?_
              refine xg_t (xg_blq rfl) ?_
              refine xg_t (xg_istore (l1 := [(6, (0, n135)), (0, (2, 82)), (1, (0, ha)), (2, (0, ye)), (3, (0, 950 + (3 * ha))), (5, (0, pi_))]) rfl rfl rfl) ?_
              refine xg_t (xg_iinc (u := pi_) (z := pi_ + 1) (l1 := [(4, (0, 1)), (6, (0, n135)), (0, (2, 82)), (1, (0, ha)), (2, (0, ye)), (3, (0, 950 + (3 * ha)))]) rfl rfl (by omega) rfl) ?_
              refine xg_t (xg_goto) ?_
              refine xg_t (xg_drop (l1 := [(0, (2, 82)), (1, (0, ha)), (2, (0, ye)), (3, (0, 950 + (3 * ha))), (4, (0, 1)), (5, (0, pi_ + 1))]) (List.forall_mem_cons.mpr ⟨List.mem_cons_of_mem _ (List.mem_cons_of_mem _ (List.mem_cons_of_mem _ (List.mem_cons_self))), List.forall_mem_cons.mpr ⟨List.mem_cons_of_mem _ (List.mem_cons_of_mem _ (List.mem_cons_of_mem _ (List.mem_cons_of_mem _ (List.mem_cons_self)))), List.forall_mem_cons.mpr ⟨List.mem_cons_of_mem _ (List.mem_cons_of_mem _ (List.mem_cons_of_mem _ (List.mem_cons_of_mem _ (List.mem_cons_of_mem _ (List.mem_cons_self))))), List.forall_mem_cons.mpr ⟨List.mem_cons_of_mem _ (List.mem_cons_of_mem _ (List.mem_cons_of_mem _ (List.mem_cons_of_mem _ (List.mem_cons_of_mem _ (List.mem_cons_of_mem _ (List.mem_cons_self)))))), List.forall_mem_cons.mpr ⟨List.mem_cons_of_mem _ (List.mem_cons_self), List.forall_mem_cons.mpr ⟨List.mem_cons_self, fun _ h => absurd h List.not_mem_nil⟩⟩⟩⟩⟩⟩)) ?_
              exact ih38 1 (pi_ + 1) w131 (by omega) (by omega) (by omega) (hI133) (((hF42.tr (hF91.up (by decide))).tr (hF134.up (by decide))))
            · refine xg_t (xg_ifT (u := z160) rfl xnm0 (xjz_ltT (by omega) (by omega))) ?_
              refine xg_t (xg_blq rfl) ?_
              refine xg_t (xg_const) ?_
              refine xg_t (xg_blq rfl) ?_
              refine xg_t (xg_istore (l1 := [(6, (0, n135)), (0, (2, 82)), (1, (0, ha)), (2, (0, ye)), (3, (0, 950 + (3 * ha))), (5, (0, pi_))]) rfl rfl rfl) ?_
              refine xg_t (xg_iinc (u := pi_) (z := pi_ + 1) (l1 := [(4, (0, 0)), (6, (0, n135)), (0, (2, 82)), (1, (0, ha)), (2, (0, ye)), (3, (0, 950 + (3 * ha)))]) rfl rfl (by omega) rfl) ?_
              refine xg_t (xg_goto) ?_
              refine xg_t (xg_drop (l1 := [(0, (2, 82)), (1, (0, ha)), (2, (0, ye)), (3, (0, 950 + (3 * ha))), (4, (0, 0)), (5, (0, pi_ + 1))]) (List.forall_mem_cons.mpr ⟨List.mem_cons_of_mem _ (List.mem_cons_of_mem _ (List.mem_cons_of_mem _ (List.mem_cons_self))), List.forall_mem_cons.mpr ⟨List.mem_cons_of_mem _ (List.mem_cons_of_mem _ (List.mem_cons_of_mem _ (List.mem_cons_of_mem _ (List.mem_cons_self)))), List.forall_mem_cons.mpr ⟨List.mem_cons_of_mem _ (List.mem_cons_of_mem _ (List.mem_cons_of_mem _ (List.mem_cons_of_mem _ (List.mem_cons_of_mem _ (List.mem_cons_self))))), List.forall_mem_cons.mpr ⟨List.mem_cons_of_mem _ (List.mem_cons_of_mem _ (List.mem_cons_of_mem _ (List.mem_cons_of_mem _ (List.mem_cons_of_mem _ (List.mem_cons_of_mem _ (List.mem_cons_self)))))), List.forall_mem_cons.mpr ⟨List.mem_cons_of_mem _ (List.mem_cons_self), List.forall_mem_cons.mpr ⟨List.mem_cons_self, fun _ h => absurd h List.not_mem_nil⟩⟩⟩⟩⟩⟩)) ?_
              exact ih38 0 (pi_ + 1) w131 (by omega) (by omega) (by omega) (hI133) (((hF42.tr (hF91.up (by decide))).tr (hF134.up (by decide))))
        · refine xg_t (xg_ifT (u := is_) rfl xnm0 (xj_neT hc83)) ?_
          refine xg_t (xg_blq rfl) ?_
          refine xg_t (xg_iload (va := (0, is_)) rfl rfl) ?_
          exact xg_e ⟨is_, w40, ⟨xret_b (by omega), rfl⟩, by omega, hI41, hF42⟩
      · refine xg_t (xg_icT (u := pi_) (v := u78) rfl xnm0 xnm0 (xj_geT (by omega) (by omega))) ?_
        refine xg_t (xg_blq rfl) ?_
        refine xg_t (xg_iload (va := (0, is_)) rfl rfl) ?_
        exact xg_e ⟨is_, w40, ⟨xret_b (by omega), rfl⟩, by omega, hI41, hF42⟩
  exact key37 _ 0 0 w (Nat.lt_succ_self _) (by omega) (by omega) (hI) (xFr.rf)
theorem mBroken {ha ye : Nat} (hI : xMnv w) (hha : ha ≤ 4294967295) (hye : ye ≤ 4294967295) : xPi (d + 4) mX12_broken [(2, 82), (0, ha), (0, ye)] w bd fc rr (fun n w' => (n ≤ 1) ∧ xMnv w' ∧ xFr [82, 88, 90, 91, 92, 93, 94] w w') := by
  refine xPi.of ?_
  show xTo (d + 4) mX12_broken (0, [], [(0, (2, 82)), (1, (0, ha)), (2, (0, ye))], [], (w, bd, fc, 0, 0, rr)) (fun φ => ∃ n w', xEnd 4 [(0, n)] (w', bd, fc, 0, 0, rr) φ ∧ (n ≤ 1) ∧ xMnv w' ∧ xFr [82, 88, 90, 91, 92, 93, 94] w w')
  refine xoCh82 (xqc82 hI : cp82 (wget w 82)) (fun f82_1 f82_3 f82_5 f82_7 f82_9 f82_11 f82_13 f82_15 f82_17 f82_19 f82_21 f82_22 f82_23 f82_25 f82_27 f82_29 h82_31 hb2 hb4 hb6 hb8 hb10 hb12 hb14 hb16 hb18 hb20 hb24 hb26 hb28 hb30 hb32 => ?_)
  refine xoX83 (xqc83 hI : cpx83 (wget w 83)) (fun g83_33 h83_34 hb35 hx36 => ?_)
  refine xg_t (xg_blq rfl) ?_
  refine xg_t (xg_aload (va := (2, 82)) rfl rfl) ?_
  refine xg_t (xg_iload (va := (0, ha)) rfl rfl) ?_
  refine xg_t (xg_sip) ?_
  have hl37 := hx36.l900
  refine xg_cVi mX12_isOf (vs := [(0, ha), (0, 900)]) (rest := []) (cn1 := 0) (sl1 := 0) rfl (mOf900 (hI) (by omega) h83_34 hb35 hx36) rfl h82_31 rfl rfl rfl rfl rfl rfl (fun n42 w38 hq39 => ?_)
  obtain ⟨hn43, hI40, hF41⟩ := hq39
  by_cases hc44 : n42 = 0
  · refine xg_t (xg_ifT (u := n42) rfl xnm0 (xj_eqT hc44)) ?_
    refine xg_t (xg_blq rfl) ?_
    refine xg_t (xg_const) ?_
    exact xg_e ⟨0, w38, ⟨rfl, rfl⟩, by first | decide | omega, hI40, (hF41.up (by decide))⟩
  · refine xg_t (xg_ifF (u := n42) rfl xnm0 (xj_eqF hc44)) ?_
    refine xg_t (xg_iload (va := (0, ye)) rfl rfl) ?_
    refine xg_t (xg_const) ?_
    refine xg_t (xg_bip) ?_
    refine xg_t (xg_cSr mX12_isIn (vs := [(0, ye), (0, 0), (0, 30)]) (rest := []) (rs := [(0, if 0 ≤ ye ∧ ye ≤ 30 then 1 else 0)]) (cn1 := 0) (sl1 := 0) rfl (mIsIn (by omega) (by omega) (by omega)) rfl rfl rfl rfl rfl rfl rfl rfl) ?_
    by_cases hc45 : 0 ≤ ye ∧ ye ≤ 30
    · refine xg_t (xg_ifT (u := (if 0 ≤ ye ∧ ye ≤ 30 then 1 else 0)) rfl xnm0 (xj_neT (xite1 hc45))) ?_
      refine xg_t (xg_blq rfl) ?_
      refine xg_t (xg_aload (va := (2, 82)) rfl rfl) ?_
      refine xg_cVv mX12_asTold (vs := []) (rest := []) (cn1 := 0) (sl1 := 0) rfl (mAsTold (hI40) (h83_34.fr hF41 (by decide)) hb35 hx36) rfl (hF41.get (by decide) h82_31) rfl rfl rfl rfl rfl rfl (fun w46 hq47 => ?_)
      obtain ⟨hI48, hF49, hx50⟩ := hq47
      obtain ⟨o51, U52, hr53, hr54, hr55, hr56, hr57⟩ := hx50
      refine xg_t (xg_aload (va := (2, 82)) rfl rfl) ?_
      refine xg_t (xg_iload (va := (0, ha)) rfl rfl) ?_
      refine xg_t (xg_iload (va := (0, ye)) rfl rfl) ?_
      refine xg_cVi mX12_breaks (vs := [(0, ha), (0, ye)]) (rest := []) (cn1 := 0) (sl1 := 0) rfl (mBreaks (hI48) (by omega) (by omega)) rfl (hF49.get (by decide) (hF41.get (by decide) h82_31)) rfl rfl rfl rfl rfl rfl (fun n62 w58 hq59 => ?_)
      obtain ⟨hn63, hI60, hF61⟩ := hq59
      exact xg_e ⟨n62, w58, ⟨xret_b (by omega), rfl⟩, by omega, hI60, (((hF41.up (by decide)).tr (hF49.up (by decide))).tr (hF61.up (by decide)))⟩
    · refine xg_t (xg_ifF (u := (if 0 ≤ ye ∧ ye ≤ 30 then 1 else 0)) rfl xnm0 (xj_neF (xite0 hc45))) ?_
      refine xg_t (xg_blq rfl) ?_
      refine xg_t (xg_const) ?_
      exact xg_e ⟨0, w38, ⟨rfl, rfl⟩, by first | decide | omega, hI40, (hF41.up (by decide))⟩
theorem mShareOf {ye : Nat} (hI : xMnv w) (hye : ye ≤ 4294967295) : xPi (d + 4) mX12_shareOf [(2, 82), (0, ye)] w bd fc rr (fun n w' => (n ≤ 4294967295) ∧ xMnv w' ∧ xFr [82, 88, 90, 91, 92, 93, 94] w w') := by
  refine xPi.of ?_
  show xTo (d + 4) mX12_shareOf (0, [], [(0, (2, 82)), (1, (0, ye))], [], (w, bd, fc, 0, 0, rr)) (fun φ => ∃ n w', xEnd 1 [(0, n)] (w', bd, fc, 0, 0, rr) φ ∧ (n ≤ 4294967295) ∧ xMnv w' ∧ xFr [82, 88, 90, 91, 92, 93, 94] w w')
  refine xoCh82 (xqc82 hI : cp82 (wget w 82)) (fun f82_1 f82_3 f82_5 f82_7 f82_9 f82_11 f82_13 f82_15 f82_17 f82_19 f82_21 f82_22 f82_23 f82_25 f82_27 f82_29 h82_31 hb2 hb4 hb6 hb8 hb10 hb12 hb14 hb16 hb18 hb20 hb24 hb26 hb28 hb30 hb32 => ?_)
  refine xoX83 (xqc83 hI : cpx83 (wget w 83)) (fun g83_33 h83_34 hb35 hx36 => ?_)
  refine xg_t (xg_blq rfl) ?_
  refine xg_t (xg_aload (va := (2, 82)) rfl rfl) ?_
  refine xg_cVv mX12_asTold (vs := []) (rest := []) (cn1 := 0) (sl1 := 0) rfl (mAsTold (hI) h83_34 hb35 hx36) rfl h82_31 rfl rfl rfl rfl rfl rfl (fun w37 hq38 => ?_)
  obtain ⟨hI39, hF40, hx41⟩ := hq38
  obtain ⟨o42, U43, hr44, hr45, hr46, hr47, hr48⟩ := hx41
  refine xg_t (xg_const) ?_
  refine xg_t (xg_istore (l1 := [(0, (2, 82)), (1, (0, ye))]) rfl rfl rfl) ?_
  refine xg_t (xg_const) ?_
  refine xg_t (xg_istore (l1 := [(2, (0, 0)), (0, (2, 82)), (1, (0, ye))]) rfl rfl rfl) ?_
  refine xg_t (xg_const) ?_
  refine xg_t (xg_istore (l1 := [(3, (0, 0)), (2, (0, 0)), (0, (2, 82)), (1, (0, ye))]) rfl rfl rfl) ?_
  refine xg_t (xg_drop (l1 := [(0, (2, 82)), (1, (0, ye)), (2, (0, 0)), (3, (0, 0)), (4, (0, 0))]) (List.forall_mem_cons.mpr ⟨List.mem_cons_of_mem _ (List.mem_cons_of_mem _ (List.mem_cons_of_mem _ (List.mem_cons_self))), List.forall_mem_cons.mpr ⟨List.mem_cons_of_mem _ (List.mem_cons_of_mem _ (List.mem_cons_of_mem _ (List.mem_cons_of_mem _ (List.mem_cons_self)))), List.forall_mem_cons.mpr ⟨List.mem_cons_of_mem _ (List.mem_cons_of_mem _ (List.mem_cons_self)), List.forall_mem_cons.mpr ⟨List.mem_cons_of_mem _ (List.mem_cons_self), List.forall_mem_cons.mpr ⟨List.mem_cons_self, fun _ h => absurd h List.not_mem_nil⟩⟩⟩⟩⟩)) ?_
  have key49 : ∀ (m51 : Nat) (fi go_ hi_ : Nat) (w52 : List (List xE)), 4 - hi_ < m51 → fi ≤ 4294967295 → go_ ≤ 4294967295 → hi_ ≤ 4 → xMnv w52 → xFr [82, 88, 90, 91, 92, 93, 94] w w52 → xTo (d + 4) mX12_shareOf (11, [], [(0, (2, 82)), (1, (0, ye)), (2, (0, fi)), (3, (0, go_)), (4, (0, hi_))], [], (w52, bd, fc, 0, 0, rr)) (fun φ => ∃ n w', xEnd 1 [(0, n)] (w', bd, fc, 0, 0, rr) φ ∧ (n ≤ 4294967295) ∧ xMnv w' ∧ xFr [82, 88, 90, 91, 92, 93, 94] w w') := by
    intro m51
    induction m51 with
    | zero => intro fi go_ hi_ w52 hz; exact absurd hz (Nat.not_lt_zero _)
    | succ m51 ih50 =>
      intro fi go_ hi_ w52 hm58 hn55 hn56 hn57 hI53 hF54
      refine xg_t (xg_blq rfl) ?_
      refine xg_t (xg_iload (va := (0, hi_)) rfl rfl) ?_
      refine xg_t (xg_aload (va := (2, 82)) rfl rfl) ?_
      refine xoCh82 (xqc82 hI53 : cp82 (wget w52 82)) (fun f82_59 f82_61 f82_63 f82_65 f82_67 f82_69 f82_71 f82_73 f82_75 f82_77 f82_79 f82_80 f82_81 f82_83 f82_85 f82_87 h82_89 hb60 hb62 hb64 hb66 hb68 hb70 hb72 hb74 hb76 hb78 hb82 hb84 hb86 hb88 hb90 => ?_)
      refine xg_t (xg_getf (va := (2, 83)) h82_89 rfl) ?_
      refine xg_t (xg_sip) ?_
      refine xg_ialdB (n := 900) (B := 4294967295) (h83_34.fr hF54 (by decide)) (hb35) xnm0 (by first | decide | omega) (fun u91 hu92 he93 => ?_)
      have hl94 : u91 ≤ 4 := by rw [← he93]; exact hx36.l900
      by_cases hc95 : hi_ < u91
      · refine xg_t (xg_icF (u := hi_) (v := u91) rfl xnm0 xnm0 (xj_geF hc95 (by omega))) ?_
        refine xg_t (xg_iload (va := (0, fi)) rfl rfl) ?_
        refine xg_t (xg_aload (va := (2, 82)) rfl rfl) ?_
        refine xg_t (xg_getf (va := (2, 83)) h82_89 rfl) ?_
        refine xg_t (xg_sip) ?_
        refine xg_t (xg_const) ?_
        refine xg_t (xg_iload (va := (0, hi_)) rfl rfl) ?_
        refine xg_t (xg_imul (u := 3) (v := hi_) (z := 3 * hi_) xnm0 xnm0 (by omega)) ?_
        refine xg_t (xg_iadd (u := 950) (v := 3 * hi_) (z := 950 + (3 * hi_)) xnm0 xnm0 (by omega)) ?_
        refine xg_ialdB (n := 950 + (3 * hi_)) (B := 4294967295) (h83_34.fr hF54 (by decide)) (hb35) xnm0 (by omega) (fun u96 hu97 he98 => ?_)
        refine xg_k (xg_iadd (u := fi) (v := u96) (z := (fi + u96) % 4294967296) xnm0 xnm0 rfl) (Nat.mod_lt _ (by decide)) (fun z99 hz100 => ?_)
        refine xg_t (xg_istore (l1 := [(0, (2, 82)), (1, (0, ye)), (3, (0, go_)), (4, (0, hi_))]) rfl rfl rfl) ?_
        refine xg_t (xg_iload (va := (0, go_)) rfl rfl) ?_
        refine xg_t (xg_aload (va := (2, 82)) rfl rfl) ?_
        refine xg_t (xg_iload (va := (0, hi_)) rfl rfl) ?_
        refine xg_t (xg_iload (va := (0, ye)) rfl rfl) ?_
        refine xg_cVi mX12_breaks (vs := [(0, hi_), (0, ye)]) (rest := [(0, go_)]) (cn1 := 0) (sl1 := 0) rfl (mBreaks (hI53) (by omega) (by omega)) rfl h82_89 rfl rfl rfl rfl rfl rfl (fun n105 w101 hq102 => ?_)
        obtain ⟨hn106, hI103, hF104⟩ := hq102
        by_cases hc107 : n105 = 0
        · refine xg_t (xg_ifT (u := n105) rfl xnm0 (xj_eqT hc107)) ?_
          refine xg_t (xg_blq rfl) ?_
          refine xg_t (xg_const) ?_
          refine xg_t (xg_blq rfl) ?_
          refine xg_k (xg_iadd (u := go_) (v := 0) (z := (go_ + 0) % 4294967296) xnm0 xnm0 rfl) (Nat.mod_lt _ (by decide)) (fun z108 hz109 => ?_)
          refine xg_t (xg_istore (l1 := [(2, (0, z99)), (0, (2, 82)), (1, (0, ye)), (4, (0, hi_))]) rfl rfl rfl) ?_
          refine xg_t (xg_iinc (u := hi_) (z := hi_ + 1) (l1 := [(3, (0, z108)), (2, (0, z99)), (0, (2, 82)), (1, (0, ye))]) rfl rfl (by omega) rfl) ?_
          refine xg_t (xg_goto) ?_
          refine xg_t (xg_drop (l1 := [(0, (2, 82)), (1, (0, ye)), (2, (0, z99)), (3, (0, z108)), (4, (0, hi_ + 1))]) (List.forall_mem_cons.mpr ⟨List.mem_cons_of_mem _ (List.mem_cons_of_mem _ (List.mem_cons_of_mem _ (List.mem_cons_self))), List.forall_mem_cons.mpr ⟨List.mem_cons_of_mem _ (List.mem_cons_of_mem _ (List.mem_cons_of_mem _ (List.mem_cons_of_mem _ (List.mem_cons_self)))), List.forall_mem_cons.mpr ⟨List.mem_cons_of_mem _ (List.mem_cons_of_mem _ (List.mem_cons_self)), List.forall_mem_cons.mpr ⟨List.mem_cons_of_mem _ (List.mem_cons_self), List.forall_mem_cons.mpr ⟨List.mem_cons_self, fun _ h => absurd h List.not_mem_nil⟩⟩⟩⟩⟩)) ?_
          exact ih50 z99 z108 (hi_ + 1) w101 (by omega) (by omega) (by omega) (by omega) (hI103) ((hF54.tr (hF104.up (by decide))))
        · refine xg_t (xg_ifF (u := n105) rfl xnm0 (xj_eqF hc107)) ?_
          refine xg_t (xg_aload (va := (2, 82)) rfl rfl) ?_
          refine xoCh82 (xqc82 hI103 : cp82 (wget w101 82)) (fun f82_110 f82_112 f82_114 f82_116 f82_118 f82_120 f82_122 f82_124 f82_126 f82_128 f82_130 f82_131 f82_132 f82_134 f82_136 f82_138 h82_140 hb111 hb113 hb115 hb117 hb119 hb121 hb123 hb125 hb127 hb129 hb133 hb135 hb137 hb139 hb141 => ?_)
          refine xg_t (xg_getf (va := (2, 83)) h82_140 rfl) ?_
          refine xg_t (xg_sip) ?_
          refine xg_t (xg_const) ?_
          refine xg_t (xg_iload (va := (0, hi_)) rfl rfl) ?_
          refine xg_t (xg_imul (u := 3) (v := hi_) (z := 3 * hi_) xnm0 xnm0 (by omega)) ?_
          refine xg_t (xg_iadd (u := 950) (v := 3 * hi_) (z := 950 + (3 * hi_)) xnm0 xnm0 (by omega)) ?_
          refine xg_ialdB (n := 950 + (3 * hi_)) (B := 4294967295) ((h83_34.fr hF54 (by decide)).fr hF104 (by decide)) (hb35) xnm0 (by omega) (fun u142 hu143 he144 => ?_)
          refine xg_t (xg_goto) ?_
          refine xg_t (xg_blq rfl) ?_
          refine xg_k (xg_iadd (u := go_) (v := u142) (z := (go_ + u142) % 4294967296) xnm0 xnm0 rfl) (Nat.mod_lt _ (by decide)) (fun z145 hz146 => ?_)
          refine xg_t (xg_istore (l1 := [(2, (0, z99)), (0, (2, 82)), (1, (0, ye)), (4, (0, hi_))]) rfl rfl rfl) ?_
          refine xg_t (xg_iinc (u := hi_) (z := hi_ + 1) (l1 := [(3, (0, z145)), (2, (0, z99)), (0, (2, 82)), (1, (0, ye))]) rfl rfl (by omega) rfl) ?_
          refine xg_t (xg_goto) ?_
          refine xg_t (xg_drop (l1 := [(0, (2, 82)), (1, (0, ye)), (2, (0, z99)), (3, (0, z145)), (4, (0, hi_ + 1))]) (List.forall_mem_cons.mpr ⟨List.mem_cons_of_mem _ (List.mem_cons_of_mem _ (List.mem_cons_of_mem _ (List.mem_cons_self))), List.forall_mem_cons.mpr ⟨List.mem_cons_of_mem _ (List.mem_cons_of_mem _ (List.mem_cons_of_mem _ (List.mem_cons_of_mem _ (List.mem_cons_self)))), List.forall_mem_cons.mpr ⟨List.mem_cons_of_mem _ (List.mem_cons_of_mem _ (List.mem_cons_self)), List.forall_mem_cons.mpr ⟨List.mem_cons_of_mem _ (List.mem_cons_self), List.forall_mem_cons.mpr ⟨List.mem_cons_self, fun _ h => absurd h List.not_mem_nil⟩⟩⟩⟩⟩)) ?_
          exact ih50 z99 z145 (hi_ + 1) w101 (by omega) (by omega) (by omega) (by omega) (hI103) ((hF54.tr (hF104.up (by decide))))
      · refine xg_t (xg_icT (u := hi_) (v := u91) rfl xnm0 xnm0 (xj_geT (by omega) (by omega))) ?_
        refine xg_t (xg_blq rfl) ?_
        refine xg_t (xg_iload (va := (0, fi)) rfl rfl) ?_
        by_cases hc147 : fi = 0
        · refine xg_t (xg_ifF (u := fi) rfl xnm0 (xj_neF hc147)) ?_
          refine xg_t (xg_const) ?_
          refine xg_t (xg_goto) ?_
          refine xg_t (xg_blq rfl) ?_
          exact xg_e ⟨0, w52, ⟨rfl, rfl⟩, by first | decide | omega, hI53, hF54⟩
        · refine xg_t (xg_ifT (u := fi) rfl xnm0 (xj_neT hc147)) ?_
          refine xg_t (xg_blq rfl) ?_
          refine xg_t (xg_sip) ?_
          refine xg_t (xg_iload (va := (0, go_)) rfl rfl) ?_
          refine xg_k (xg_imul (u := 1000) (v := go_) (z := (1000 * go_) % 4294967296) xnm0 xnm0 rfl) (Nat.mod_lt _ (by decide)) (fun z148 hz149 => ?_)
          refine xg_t (xg_iload (va := (0, fi)) rfl rfl) ?_
          refine xg_k (xg_idivG (u := z148) (v := fi) (by omega) xnm0 xnm0) (xpt_lt _) (fun z150 hz151 => ?_)
          refine xg_t (xg_blq rfl) ?_
          exact xg_e ⟨z150, w52, ⟨rfl, rfl⟩, by omega, hI53, hF54⟩
  exact key49 _ 0 0 0 w37 (Nat.lt_succ_self _) (by omega) (by omega) (by omega) (hI39) ((hF40.up (by decide)))
theorem mShare {ye : Nat} (hI : xMnv w) (hye : ye ≤ 4294967295) : xPi (d + 5) mX12_share [(2, 82), (0, ye)] w bd fc rr (fun n w' => (n ≤ 4294967295) ∧ xMnv w' ∧ xFr [82, 88, 90, 91, 92, 93, 94] w w') := by
  refine xPi.of ?_
  show xTo (d + 5) mX12_share (0, [], [(0, (2, 82)), (1, (0, ye))], [], (w, bd, fc, 0, 0, rr)) (fun φ => ∃ n w', xEnd 1 [(0, n)] (w', bd, fc, 0, 0, rr) φ ∧ (n ≤ 4294967295) ∧ xMnv w' ∧ xFr [82, 88, 90, 91, 92, 93, 94] w w')
  refine xoCh82 (xqc82 hI : cp82 (wget w 82)) (fun f82_1 f82_3 f82_5 f82_7 f82_9 f82_11 f82_13 f82_15 f82_17 f82_19 f82_21 f82_22 f82_23 f82_25 f82_27 f82_29 h82_31 hb2 hb4 hb6 hb8 hb10 hb12 hb14 hb16 hb18 hb20 hb24 hb26 hb28 hb30 hb32 => ?_)
  refine xoX83 (xqc83 hI : cpx83 (wget w 83)) (fun g83_33 h83_34 hb35 hx36 => ?_)
  refine xg_t (xg_blq rfl) ?_
  refine xg_t (xg_iload (va := (0, ye)) rfl rfl) ?_
  refine xg_t (xg_const) ?_
  refine xg_t (xg_bip) ?_
  refine xg_t (xg_cSr mX12_isIn (vs := [(0, ye), (0, 0), (0, 30)]) (rest := []) (rs := [(0, if 0 ≤ ye ∧ ye ≤ 30 then 1 else 0)]) (cn1 := 0) (sl1 := 0) rfl (mIsIn (by omega) (by omega) (by omega)) rfl rfl rfl rfl rfl rfl rfl rfl) ?_
  by_cases hc37 : 0 ≤ ye ∧ ye ≤ 30
  · refine xg_t (xg_ifF (u := (if 0 ≤ ye ∧ ye ≤ 30 then 1 else 0)) rfl xnm0 (xj_eqF (xite1 hc37))) ?_
    refine xg_t (xg_aload (va := (2, 82)) rfl rfl) ?_
    refine xg_t (xg_iload (va := (0, ye)) rfl rfl) ?_
    refine xg_cVi mX12_shareOf (vs := [(0, ye)]) (rest := []) (cn1 := 0) (sl1 := 0) rfl (mShareOf (hI) (by omega)) rfl h82_31 rfl rfl rfl rfl rfl rfl (fun n42 w38 hq39 => ?_)
    obtain ⟨hn43, hI40, hF41⟩ := hq39
    refine xg_t (xg_goto) ?_
    refine xg_t (xg_blq rfl) ?_
    exact xg_e ⟨n42, w38, ⟨rfl, rfl⟩, by omega, hI40, (hF41.up (by decide))⟩
  · refine xg_t (xg_ifT (u := (if 0 ≤ ye ∧ ye ≤ 30 then 1 else 0)) rfl xnm0 (xj_eqT (xite0 hc37))) ?_
    refine xg_t (xg_blq rfl) ?_
    refine xg_t (xg_const) ?_
    refine xg_t (xg_blq rfl) ?_
    exact xg_e ⟨4294967295, w, ⟨rfl, rfl⟩, by first | decide | omega, hI, xFr.rf⟩
theorem mPromise {pp : Nat} (hI : xMnv w) (hpp : pp ≤ 4294967295) : xPi (d + 5) mX12_promise [(2, 82), (0, pp)] w bd fc rr (fun n w' => (n ≤ 4294967295) ∧ xMnv w' ∧ xFr [82, 88, 90, 91, 92, 93, 94] w w') := by
  refine xPi.of ?_
  show xTo (d + 5) mX12_promise (0, [], [(0, (2, 82)), (1, (0, pp))], [], (w, bd, fc, 0, 0, rr)) (fun φ => ∃ n w', xEnd 1 [(0, n)] (w', bd, fc, 0, 0, rr) φ ∧ (n ≤ 4294967295) ∧ xMnv w' ∧ xFr [82, 88, 90, 91, 92, 93, 94] w w')
  refine xoCh82 (xqc82 hI : cp82 (wget w 82)) (fun f82_1 f82_3 f82_5 f82_7 f82_9 f82_11 f82_13 f82_15 f82_17 f82_19 f82_21 f82_22 f82_23 f82_25 f82_27 f82_29 h82_31 hb2 hb4 hb6 hb8 hb10 hb12 hb14 hb16 hb18 hb20 hb24 hb26 hb28 hb30 hb32 => ?_)
  refine xoX83 (xqc83 hI : cpx83 (wget w 83)) (fun g83_33 h83_34 hb35 hx36 => ?_)
  refine xg_t (xg_blq rfl) ?_
  refine xg_t (xg_iload (va := (0, pp)) rfl rfl) ?_
  refine xg_t (xg_const) ?_
  refine xg_t (xg_sip) ?_
  refine xg_t (xg_cSr mX12_isIn (vs := [(0, pp), (0, 0), (0, 1000)]) (rest := []) (rs := [(0, if 0 ≤ pp ∧ pp ≤ 1000 then 1 else 0)]) (cn1 := 0) (sl1 := 0) rfl (mIsIn (by omega) (by omega) (by omega)) rfl rfl rfl rfl rfl rfl rfl rfl) ?_
  by_cases hc37 : 0 ≤ pp ∧ pp ≤ 1000
  · refine xg_t (xg_ifT (u := (if 0 ≤ pp ∧ pp ≤ 1000 then 1 else 0)) rfl xnm0 (xj_neT (xite1 hc37))) ?_
    refine xg_t (xg_blq rfl) ?_
    refine xg_t (xg_const) ?_
    refine xg_t (xg_istore (l1 := [(0, (2, 82)), (1, (0, pp))]) rfl rfl rfl) ?_
    refine xg_t (xg_drop (l1 := [(0, (2, 82)), (1, (0, pp)), (2, (0, 0))]) (List.forall_mem_cons.mpr ⟨List.mem_cons_of_mem _ (List.mem_cons_self), List.forall_mem_cons.mpr ⟨List.mem_cons_of_mem _ (List.mem_cons_of_mem _ (List.mem_cons_self)), List.forall_mem_cons.mpr ⟨List.mem_cons_self, fun _ h => absurd h List.not_mem_nil⟩⟩⟩)) ?_
    have key38 : ∀ (m40 : Nat) (yy : Nat) (w41 : List (List xE)), 31 - yy < m40 → yy ≤ 31 → xMnv w41 → xFr [82, 88, 90, 91, 92, 93, 94] w w41 → xTo (d + 5) mX12_promise (15, [], [(0, (2, 82)), (1, (0, pp)), (2, (0, yy))], [], (w41, bd, fc, 0, 0, rr)) (fun φ => ∃ n w', xEnd 1 [(0, n)] (w', bd, fc, 0, 0, rr) φ ∧ (n ≤ 4294967295) ∧ xMnv w' ∧ xFr [82, 88, 90, 91, 92, 93, 94] w w') := by
      intro m40
      induction m40 with
      | zero => intro yy w41 hz; exact absurd hz (Nat.not_lt_zero _)
      | succ m40 ih39 =>
        intro yy w41 hm45 hn44 hI42 hF43
        refine xg_t (xg_blq rfl) ?_
        refine xg_t (xg_iload (va := (0, yy)) rfl rfl) ?_
        refine xg_t (xg_bip) ?_
        by_cases hc46 : yy < 31
        · refine xg_t (xg_icF (u := yy) (v := 31) rfl xnm0 xnm0 (xj_geF hc46 (by omega))) ?_
          refine xg_t (xg_aload (va := (2, 82)) rfl rfl) ?_
          refine xg_t (xg_iload (va := (0, yy)) rfl rfl) ?_
          refine xoCh82 (xqc82 hI42 : cp82 (wget w41 82)) (fun f82_47 f82_49 f82_51 f82_53 f82_55 f82_57 f82_59 f82_61 f82_63 f82_65 f82_67 f82_68 f82_69 f82_71 f82_73 f82_75 h82_77 hb48 hb50 hb52 hb54 hb56 hb58 hb60 hb62 hb64 hb66 hb70 hb72 hb74 hb76 hb78 => ?_)
          refine xg_cVi mX12_shareOf (vs := [(0, yy)]) (rest := []) (cn1 := 0) (sl1 := 0) rfl (mShareOf (hI42) (by omega)) rfl h82_77 rfl rfl rfl rfl rfl rfl (fun n83 w79 hq80 => ?_)
          obtain ⟨hn84, hI81, hF82⟩ := hq80
          refine xg_t (xg_iload (va := (0, pp)) rfl rfl) ?_
          by_cases hc85 : xbs pp < xbs n83
          · have hc85u := hc85
            unfold xbs at hc85u
            have hn86 : pp ≤ 1000 := by omega
            have hn87 : n83 ≤ 2147483647 := by omega
            refine xg_t (xg_icT (u := n83) (v := pp) rfl xnm0 xnm0 (xjs_gtT hc85)) ?_
            refine xg_t (xg_blq rfl) ?_
            refine xg_t (xg_iload (va := (0, yy)) rfl rfl) ?_
            refine xg_t (xg_const) ?_
            refine xg_k (xg_isub (u := yy) (v := 1) (z := (yy + (4294967296 - 1)) % 4294967296) xnm0 xnm0 rfl) (Nat.mod_lt _ (by decide)) (fun z88 hz89 => ?_)
            exact xg_e ⟨z88, w79, ⟨rfl, rfl⟩, by omega, hI81, (hF43.tr (hF82.up (by decide)))⟩
          · have hc85u := hc85
            unfold xbs at hc85u
            have hn90 : pp ≤ 1000 := by omega
            refine xg_t (xg_icF (u := n83) (v := pp) rfl xnm0 xnm0 (xjs_gtF hc85)) ?_
            refine xg_t (xg_iinc (u := yy) (z := yy + 1) (l1 := [(0, (2, 82)), (1, (0, pp))]) rfl rfl (by omega) rfl) ?_
            refine xg_t (xg_goto) ?_
            refine xg_t (xg_drop (l1 := [(0, (2, 82)), (1, (0, pp)), (2, (0, yy + 1))]) (List.forall_mem_cons.mpr ⟨List.mem_cons_of_mem _ (List.mem_cons_self), List.forall_mem_cons.mpr ⟨List.mem_cons_of_mem _ (List.mem_cons_of_mem _ (List.mem_cons_self)), List.forall_mem_cons.mpr ⟨List.mem_cons_self, fun _ h => absurd h List.not_mem_nil⟩⟩⟩)) ?_
            exact ih39 (yy + 1) w79 (by omega) (by omega) (hI81) ((hF43.tr (hF82.up (by decide))))
        · refine xg_t (xg_icT (u := yy) (v := 31) rfl xnm0 xnm0 (xj_geT (by omega) (by omega))) ?_
          refine xg_t (xg_blq rfl) ?_
          refine xg_t (xg_iload (va := (0, yy)) rfl rfl) ?_
          refine xg_t (xg_const) ?_
          refine xg_t (xg_isub (u := yy) (v := 1) (z := yy - 1) xnm0 xnm0 (by omega)) ?_
          exact xg_e ⟨yy - 1, w41, ⟨rfl, rfl⟩, by omega, hI42, hF43⟩
    exact key38 _ 0 w (Nat.lt_succ_self _) (by omega) (hI) (xFr.rf)
  · refine xg_t (xg_ifF (u := (if 0 ≤ pp ∧ pp ≤ 1000 then 1 else 0)) rfl xnm0 (xj_neF (xite0 hc37))) ?_
    refine xg_t (xg_const) ?_
    exact xg_e ⟨4294967295, w, ⟨rfl, rfl⟩, by first | decide | omega, hI, xFr.rf⟩
end XM8
end
section
/-! the model: orders -/
theorem swp {o : Nat → Nat} {a b u v : Nat} (h1 : o a = u) (h2 : o b = v) : (fun j => if j = b then u else (fun j => if j = a then v else o j) j) a = o b ∧ (fun j => if j = b then u else (fun j => if j = a then v else o j) j) b = o a ∧ ∀ j, j ≠ a → j ≠ b → (fun j => if j = b then u else (fun j => if j = a then v else o j) j) j = o j := by
  refine ⟨?_, ?_, fun j hj hk => ?_⟩
  · show (if a = b then u else if a = a then v else o a) = o b
    by_cases z : a = b
    · rw [if_pos z, ← z, h1]
    · rw [if_neg z, if_pos rfl, h2]
  · show (if b = b then u else _) = o a
    rw [if_pos rfl, h1]
  · show (if j = b then u else if j = a then v else o j) = o j
    rw [if_neg hk, if_neg hj]
section XM9
variable {d : Nat} {w : List (List xE)} {bd : List (Nat × Nat)} {fc : List (Nat × Nat × Bool)} {rr : Nat × Nat}
theorem mSwap {o0 : Nat → Nat} {aa bb : Nat} (hI : xMnv w) (haa : aa ≤ 5) (hbb : bb ≤ 5) (hR88 : xRow w 88 6 55 o0) (hob : ∀ j, o0 j ≤ 5) : xPq d mX12_swap [(2, 82), (0, aa), (0, bb)] w bd fc rr [] (fun w' => xMnv w' ∧ xFr [88] w w' ∧ (∃ o, xRow w' 88 6 55 o ∧ (∀ j, o j ≤ 5) ∧ o aa = o0 bb ∧ o bb = o0 aa ∧ ∀ j, j ≠ aa → j ≠ bb → o j = o0 j)) := by
  refine xPq.of ?_
  show xTo d mX12_swap (0, [], [(0, (2, 82)), (1, (0, aa)), (2, (0, bb))], [], (w, bd, fc, 0, 0, rr)) (fun φ => ∃ w', xEnd 0 [] (w', bd, fc, 0, 0, rr) φ ∧ xMnv w' ∧ xFr [88] w w' ∧ (∃ o, xRow w' 88 6 55 o ∧ (∀ j, o j ≤ 5) ∧ o aa = o0 bb ∧ o bb = o0 aa ∧ ∀ j, j ≠ aa → j ≠ bb → o j = o0 j))
  refine xoCh82 (xqc82 hI : cp82 (wget w 82)) (fun f82_1 f82_3 f82_5 f82_7 f82_9 f82_11 f82_13 f82_15 f82_17 f82_19 f82_21 f82_22 f82_23 f82_25 f82_27 f82_29 h82_31 hb2 hb4 hb6 hb8 hb10 hb12 hb14 hb16 hb18 hb20 hb24 hb26 hb28 hb30 hb32 => ?_)
  refine xg_t (xg_blq rfl) ?_
  refine xg_t (xg_aload (va := (2, 82)) rfl rfl) ?_
  refine xg_t (xg_getf (va := (2, 88)) h82_31 rfl) ?_
  refine xg_t (xg_iload (va := (0, aa)) rfl rfl) ?_
  refine xg_ialdB (n := aa) (B := 5) hR88 (hob) xnm0 (by omega) (fun u33 hu34 he35 => ?_)
  refine xg_t (xg_istore (l1 := [(0, (2, 82)), (1, (0, aa)), (2, (0, bb))]) rfl rfl rfl) ?_
  refine xg_t (xg_aload (va := (2, 82)) rfl rfl) ?_
  refine xg_t (xg_getf (va := (2, 88)) h82_31 rfl) ?_
  refine xg_t (xg_iload (va := (0, aa)) rfl rfl) ?_
  refine xg_t (xg_aload (va := (2, 82)) rfl rfl) ?_
  refine xg_t (xg_getf (va := (2, 88)) h82_31 rfl) ?_
  refine xg_t (xg_iload (va := (0, bb)) rfl rfl) ?_
  refine xg_ialdB (n := bb) (B := 5) hR88 (hob) xnm0 (by omega) (fun u36 hu37 he38 => ?_)
  refine xg_iastK (n := aa) (u := u36) hR88 xnm0 xnm0 rfl (by omega) (fun w39 hr40 hb41 => ?_)
  refine xg_t (xg_aload (va := (2, 82)) rfl rfl) ?_
  refine xg_t (xg_getf (va := (2, 88)) (hb41.get (by decide) h82_31) rfl) ?_
  refine xg_t (xg_iload (va := (0, bb)) rfl rfl) ?_
  refine xg_t (xg_iload (va := (0, u33)) rfl rfl) ?_
  refine xg_iastK (n := bb) (u := u33) hr40 xnm0 xnm0 rfl (by omega) (fun w42 hr43 hb44 => ?_)
  exact xg_e ⟨w42, ⟨rfl, rfl⟩, xMnv.up (S := [88]) hI ((xFr.of (S := [88]) hb41 (by decide)).tr (xFr.of (S := [88]) hb44 (by decide))) (List.forall_mem_cons.mpr ⟨xqu88 (show cpI 6 55 5 (wget w42 88) from ⟨_, hr43, xrb (by omega) (xrb (by omega) (hob))⟩), fun _ h => absurd h List.not_mem_nil⟩), ((xFr.of (S := [88]) hb41 (by decide)).tr (xFr.of (S := [88]) hb44 (by decide))), ⟨_, hr43, xrb (by omega) (xrb (by omega) (hob)), swp he35 (he38)⟩⟩
theorem mReorders {o0 : Nat → Nat} {nn : Nat} (hI : xMnv w) (h1n : 1 ≤ nn) (hnn : nn ≤ 6) (hR88 : xRow w 88 6 55 o0) (hob : ∀ j, o0 j ≤ 5) (hperm : PERM o0 nn) : xPi (d + 1) mX12_reorders [(2, 82), (0, nn)] w bd fc rr (fun n w' => (((n = 0 ∧ LX w' = LX w) ∨ (n = 1 ∧ LX w < LX w')) ∧ ∃ o, xRow w' 88 6 55 o ∧ (∀ j, o j ≤ 5) ∧ PERM o nn) ∧ xMnv w' ∧ xFr [88] w w') := by
  refine xPi.of ?_
  show xTo (d + 1) mX12_reorders (0, [], [(0, (2, 82)), (1, (0, nn))], [], (w, bd, fc, 0, 0, rr)) (fun φ => ∃ n w', xEnd 4 [(0, n)] (w', bd, fc, 0, 0, rr) φ ∧ (((n = 0 ∧ LX w' = LX w) ∨ (n = 1 ∧ LX w < LX w')) ∧ ∃ o, xRow w' 88 6 55 o ∧ (∀ j, o j ≤ 5) ∧ PERM o nn) ∧ xMnv w' ∧ xFr [88] w w')
  refine xoCh82 (xqc82 hI : cp82 (wget w 82)) (fun f82_1 f82_3 f82_5 f82_7 f82_9 f82_11 f82_13 f82_15 f82_17 f82_19 f82_21 f82_22 f82_23 f82_25 f82_27 f82_29 h82_31 hb2 hb4 hb6 hb8 hb10 hb12 hb14 hb16 hb18 hb20 hb24 hb26 hb28 hb30 hb32 => ?_)
  refine xg_t (xg_blq rfl) ?_
  refine xg_t (xg_iload (va := (0, nn)) rfl rfl) ?_
  refine xg_t (xg_const) ?_
  by_cases hc33 : 2 ≤ nn
  · refine xg_t (xg_isub (u := nn) (v := 2) (z := nn - 2) xnm0 xnm0 (by omega)) ?_
    refine xg_t (xg_istore (l1 := [(0, (2, 82)), (1, (0, nn))]) rfl rfl rfl) ?_
    refine xg_t (xg_drop (l1 := [(0, (2, 82)), (1, (0, nn)), (2, (0, nn - 2))]) (List.forall_mem_cons.mpr ⟨List.mem_cons_of_mem _ (List.mem_cons_self), List.forall_mem_cons.mpr ⟨List.mem_cons_of_mem _ (List.mem_cons_of_mem _ (List.mem_cons_self)), List.forall_mem_cons.mpr ⟨List.mem_cons_self, fun _ h => absurd h List.not_mem_nil⟩⟩⟩)) ?_
    have key34 : ∀ (m36 : Nat) (ii : Nat), (ii + 1) % 4294967296 < m36 → ii ≤ 4294967295 → (ii = 4294967295 ∨ ii + 2 ≤ nn) → xTo (d + 1) mX12_reorders (4, [], [(0, (2, 82)), (1, (0, nn)), (2, (0, ii))], [], (w, bd, fc, 0, 0, rr)) (fun φ => ∃ n w', xEnd 4 [(0, n)] (w', bd, fc, 0, 0, rr) φ ∧ (((n = 0 ∧ LX w' = LX w) ∨ (n = 1 ∧ LX w < LX w')) ∧ ∃ o, xRow w' 88 6 55 o ∧ (∀ j, o j ≤ 5) ∧ PERM o nn) ∧ xMnv w' ∧ xFr [88] w w') := by
      intro m36
      induction m36 with
      | zero => intro ii hz; exact absurd hz (Nat.not_lt_zero _)
      | succ m36 ih35 =>
        intro ii hm42 hn40 he41
        refine xg_t (xg_blq rfl) ?_
        refine xg_t (xg_iload (va := (0, ii)) rfl rfl) ?_
        by_cases hc43 : ii < 2147483648
        · have hn44 : ii ≤ 4 := by omega
          refine xg_t (xg_ifF (u := ii) rfl xnm0 (xjz_ltF hc43)) ?_
          refine xg_t (xg_aload (va := (2, 82)) rfl rfl) ?_
          refine xg_t (xg_getf (va := (2, 88)) h82_31 rfl) ?_
          refine xg_t (xg_iload (va := (0, ii)) rfl rfl) ?_
          refine xg_ialdB (n := ii) (B := 5) hR88 (hob) xnm0 (by omega) (fun u45 hu46 he47 => ?_)
          refine xg_t (xg_aload (va := (2, 82)) rfl rfl) ?_
          refine xg_t (xg_getf (va := (2, 88)) h82_31 rfl) ?_
          refine xg_t (xg_iload (va := (0, ii)) rfl rfl) ?_
          refine xg_t (xg_const) ?_
          refine xg_t (xg_iadd (u := ii) (v := 1) (z := ii + 1) xnm0 xnm0 (by omega)) ?_
          refine xg_ialdB (n := ii + 1) (B := 5) hR88 (hob) xnm0 (by omega) (fun u48 hu49 he50 => ?_)
          by_cases hc51 : u48 < u45
          · refine xg_t (xg_icF (u := u45) (v := u48) rfl xnm0 xnm0 (xj_leF hc51 (by omega))) ?_
            refine xg_t (xg_iinc (u := ii) (z := (ii + 4294967295) % 4294967296) (l1 := [(0, (2, 82)), (1, (0, nn))]) rfl rfl (rfl) rfl) ?_
            refine xg_t (xg_goto) ?_
            refine xg_t (xg_drop (l1 := [(0, (2, 82)), (1, (0, nn)), (2, (0, (ii + 4294967295) % 4294967296))]) (List.forall_mem_cons.mpr ⟨List.mem_cons_of_mem _ (List.mem_cons_self), List.forall_mem_cons.mpr ⟨List.mem_cons_of_mem _ (List.mem_cons_of_mem _ (List.mem_cons_self)), List.forall_mem_cons.mpr ⟨List.mem_cons_self, fun _ h => absurd h List.not_mem_nil⟩⟩⟩)) ?_
            exact ih35 ((ii + 4294967295) % 4294967296)  (by omega) (by omega) (by omega)
          · refine xg_t (xg_icT (u := u45) (v := u48) rfl xnm0 xnm0 (xj_leT (by omega) (by omega))) ?_
            refine xg_t (xg_blq rfl) ?_
            refine xg_t (xg_iload (va := (0, ii)) rfl rfl) ?_
            refine xg_t (xg_ifT (u := ii) rfl xnm0 (xj_geT (by omega) (by omega))) ?_
            refine xg_t (xg_blq rfl) ?_
            refine xg_t (xg_iload (va := (0, nn)) rfl rfl) ?_
            refine xg_t (xg_const) ?_
            refine xg_t (xg_isub (u := nn) (v := 1) (z := nn - 1) xnm0 xnm0 (by omega)) ?_
            refine xg_t (xg_istore (l1 := [(0, (2, 82)), (1, (0, nn)), (2, (0, ii))]) rfl rfl rfl) ?_
            refine xg_t (xg_drop (l1 := [(0, (2, 82)), (1, (0, nn)), (2, (0, ii)), (3, (0, nn - 1))]) (List.forall_mem_cons.mpr ⟨List.mem_cons_of_mem _ (List.mem_cons_self), List.forall_mem_cons.mpr ⟨List.mem_cons_of_mem _ (List.mem_cons_of_mem _ (List.mem_cons_self)), List.forall_mem_cons.mpr ⟨List.mem_cons_of_mem _ (List.mem_cons_of_mem _ (List.mem_cons_of_mem _ (List.mem_cons_self))), List.forall_mem_cons.mpr ⟨List.mem_cons_self, fun _ h => absurd h List.not_mem_nil⟩⟩⟩⟩)) ?_
            have key52 : ∀ (m54 : Nat) (jj : Nat), jj < m54 → jj ≤ 5 → (ii + 1 ≤ jj ∧ jj + 1 ≤ nn) → xTo (d + 1) mX12_reorders (41, [], [(0, (2, 82)), (1, (0, nn)), (2, (0, ii)), (3, (0, jj))], [], (w, bd, fc, 0, 0, rr)) (fun φ => ∃ n w', xEnd 4 [(0, n)] (w', bd, fc, 0, 0, rr) φ ∧ (((n = 0 ∧ LX w' = LX w) ∨ (n = 1 ∧ LX w < LX w')) ∧ ∃ o, xRow w' 88 6 55 o ∧ (∀ j, o j ≤ 5) ∧ PERM o nn) ∧ xMnv w' ∧ xFr [88] w w') := by
              intro m54
              induction m54 with
              | zero => intro jj hz; exact absurd hz (Nat.not_lt_zero _)
              | succ m54 ih53 =>
                intro jj hm60 hn58 he59
                refine xg_t (xg_blq rfl) ?_
                refine xg_t (xg_aload (va := (2, 82)) rfl rfl) ?_
                refine xg_t (xg_getf (va := (2, 88)) h82_31 rfl) ?_
                refine xg_t (xg_iload (va := (0, jj)) rfl rfl) ?_
                refine xg_ialdB (n := jj) (B := 5) hR88 (hob) xnm0 (by omega) (fun u61 hu62 he63 => ?_)
                refine xg_t (xg_aload (va := (2, 82)) rfl rfl) ?_
                refine xg_t (xg_getf (va := (2, 88)) h82_31 rfl) ?_
                refine xg_t (xg_iload (va := (0, ii)) rfl rfl) ?_
                refine xg_ialdB (n := ii) (B := 5) hR88 (hob) xnm0 (by omega) (fun u64 hu65 he66 => ?_)
                by_cases hc67 : u61 < u64
                · refine xg_t (xg_icF (u := u61) (v := u64) rfl xnm0 xnm0 (xj_geF hc67 (by omega))) ?_
                  refine xg_t (xg_iinc (u := jj) (z := jj - 1) (l1 := [(0, (2, 82)), (1, (0, nn)), (2, (0, ii))]) rfl rfl (by omega) rfl) ?_
                  refine xg_t (xg_goto) ?_
                  refine xg_t (xg_drop (l1 := [(0, (2, 82)), (1, (0, nn)), (2, (0, ii)), (3, (0, jj - 1))]) (List.forall_mem_cons.mpr ⟨List.mem_cons_of_mem _ (List.mem_cons_self), List.forall_mem_cons.mpr ⟨List.mem_cons_of_mem _ (List.mem_cons_of_mem _ (List.mem_cons_self)), List.forall_mem_cons.mpr ⟨List.mem_cons_of_mem _ (List.mem_cons_of_mem _ (List.mem_cons_of_mem _ (List.mem_cons_self))), List.forall_mem_cons.mpr ⟨List.mem_cons_self, fun _ h => absurd h List.not_mem_nil⟩⟩⟩⟩)) ?_
                  have hne68 : jj ≠ ii + 1 := fun e => by have q := he63; rw [e] at q; omega
                  exact ih53 (jj - 1)  (by omega) (by omega) (by omega)
                · refine xg_t (xg_icT (u := u61) (v := u64) rfl xnm0 xnm0 (xj_geT (by omega) (by omega))) ?_
                  refine xg_t (xg_blq rfl) ?_
                  refine xg_t (xg_aload (va := (2, 82)) rfl rfl) ?_
                  refine xg_t (xg_iload (va := (0, ii)) rfl rfl) ?_
                  refine xg_t (xg_iload (va := (0, jj)) rfl rfl) ?_
                  refine xg_cVv mX12_swap (vs := [(0, ii), (0, jj)]) (rest := []) (cn1 := 0) (sl1 := 0) rfl (mSwap (hI) (by omega) (by omega) hR88 hob) rfl h82_31 rfl rfl rfl rfl rfl rfl (fun w69 hq70 => ?_)
                  obtain ⟨hI71, hF72, hx73⟩ := hq70
                  obtain ⟨o74, hs75, hs76, hs77, hs78, hs79⟩ := hx73
                  have hP80 := hperm.swap (by omega) (by omega) hs77 hs78 hs79
                  refine xg_t (xg_iload (va := (0, ii)) rfl rfl) ?_
                  refine xg_t (xg_const) ?_
                  refine xg_t (xg_iadd (u := ii) (v := 1) (z := ii + 1) xnm0 xnm0 (by omega)) ?_
                  refine xg_t (xg_istore (l1 := [(0, (2, 82)), (1, (0, nn)), (2, (0, ii)), (3, (0, jj))]) rfl rfl rfl) ?_
                  refine xg_t (xg_iload (va := (0, nn)) rfl rfl) ?_
                  refine xg_t (xg_const) ?_
                  refine xg_t (xg_isub (u := nn) (v := 1) (z := nn - 1) xnm0 xnm0 (by omega)) ?_
                  refine xg_t (xg_istore (l1 := [(4, (0, ii + 1)), (0, (2, 82)), (1, (0, nn)), (2, (0, ii)), (3, (0, jj))]) rfl rfl rfl) ?_
                  refine xg_t (xg_drop (l1 := [(0, (2, 82)), (1, (0, nn)), (2, (0, ii)), (4, (0, ii + 1)), (5, (0, nn - 1))]) (List.forall_mem_cons.mpr ⟨List.mem_cons_of_mem _ (List.mem_cons_of_mem _ (List.mem_cons_self)), List.forall_mem_cons.mpr ⟨List.mem_cons_of_mem _ (List.mem_cons_of_mem _ (List.mem_cons_of_mem _ (List.mem_cons_self))), List.forall_mem_cons.mpr ⟨List.mem_cons_of_mem _ (List.mem_cons_of_mem _ (List.mem_cons_of_mem _ (List.mem_cons_of_mem _ (List.mem_cons_self)))), List.forall_mem_cons.mpr ⟨List.mem_cons_of_mem _ (List.mem_cons_self), List.forall_mem_cons.mpr ⟨List.mem_cons_self, fun _ h => absurd h List.not_mem_nil⟩⟩⟩⟩⟩)) ?_
                  have hg87 : o0 ii < o0 jj := by
                    have q := hperm.2 ii jj (by omega) (by omega)
                    omega
                  have key81 : ∀ (m83 : Nat) (aa bb : Nat) (w84 : List (List xE)), 6 + bb - aa < m83 → aa ≤ 6 → bb ≤ 5 → xMnv w84 → xFr [88] w w84 → (ii < aa ∧ bb < nn ∧ ∃ o, xRow w84 88 6 55 o ∧ (∀ j, o j ≤ 5) ∧ (∀ q, q < ii → o q = o0 q) ∧ o0 ii < o ii ∧ PERM o nn) → xTo (d + 1) mX12_reorders (78, [], [(0, (2, 82)), (1, (0, nn)), (2, (0, ii)), (4, (0, aa)), (5, (0, bb))], [], (w84, bd, fc, 0, 0, rr)) (fun φ => ∃ n w', xEnd 4 [(0, n)] (w', bd, fc, 0, 0, rr) φ ∧ (((n = 0 ∧ LX w' = LX w) ∨ (n = 1 ∧ LX w < LX w')) ∧ ∃ o, xRow w' 88 6 55 o ∧ (∀ j, o j ≤ 5) ∧ PERM o nn) ∧ xMnv w' ∧ xFr [88] w w') := by
                    intro m83
                    induction m83 with
                    | zero => intro aa bb w84 hz; exact absurd hz (Nat.not_lt_zero _)
                    | succ m83 ih82 =>
                      intro aa bb w84 hm91 hn88 hn89 hI85 hF86 he90
                      obtain ⟨hk92, hk93, o99, hk94, hk95, hk96, hk97, hk98⟩ := he90
                      refine xg_t (xg_blq rfl) ?_
                      refine xg_t (xg_iload (va := (0, aa)) rfl rfl) ?_
                      refine xg_t (xg_iload (va := (0, bb)) rfl rfl) ?_
                      by_cases hc100 : aa < bb
                      · refine xg_t (xg_icF (u := aa) (v := bb) rfl xnm0 xnm0 (xj_geF hc100 (by omega))) ?_
                        refine xg_t (xg_aload (va := (2, 82)) rfl rfl) ?_
                        refine xg_t (xg_iload (va := (0, aa)) rfl rfl) ?_
                        refine xg_t (xg_iload (va := (0, bb)) rfl rfl) ?_
                        refine xg_cVv mX12_swap (vs := [(0, aa), (0, bb)]) (rest := []) (cn1 := 0) (sl1 := 0) rfl (mSwap (hI85) (by omega) (by omega) hk94 hk95) rfl (hF86.get (by decide) h82_31) rfl rfl rfl rfl rfl rfl (fun w101 hq102 => ?_)
                        obtain ⟨hI103, hF104, hx105⟩ := hq102
                        obtain ⟨o106, hs107, hs108, hs109, hs110, hs111⟩ := hx105
                        have hP112 := hk98.swap (by omega) (by omega) hs109 hs110 hs111
                        refine xg_t (xg_iinc (u := aa) (z := aa + 1) (l1 := [(0, (2, 82)), (1, (0, nn)), (2, (0, ii)), (5, (0, bb))]) rfl rfl (by omega) rfl) ?_
                        refine xg_t (xg_iinc (u := bb) (z := bb - 1) (l1 := [(4, (0, aa + 1)), (0, (2, 82)), (1, (0, nn)), (2, (0, ii))]) rfl rfl (by omega) rfl) ?_
                        refine xg_t (xg_goto) ?_
                        refine xg_t (xg_drop (l1 := [(0, (2, 82)), (1, (0, nn)), (2, (0, ii)), (4, (0, aa + 1)), (5, (0, bb - 1))]) (List.forall_mem_cons.mpr ⟨List.mem_cons_of_mem _ (List.mem_cons_of_mem _ (List.mem_cons_self)), List.forall_mem_cons.mpr ⟨List.mem_cons_of_mem _ (List.mem_cons_of_mem _ (List.mem_cons_of_mem _ (List.mem_cons_self))), List.forall_mem_cons.mpr ⟨List.mem_cons_of_mem _ (List.mem_cons_of_mem _ (List.mem_cons_of_mem _ (List.mem_cons_of_mem _ (List.mem_cons_self)))), List.forall_mem_cons.mpr ⟨List.mem_cons_of_mem _ (List.mem_cons_self), List.forall_mem_cons.mpr ⟨List.mem_cons_self, fun _ h => absurd h List.not_mem_nil⟩⟩⟩⟩⟩)) ?_
                        exact ih82 (aa + 1) (bb - 1) w101 (by omega) (by omega) (by omega) (hI103) ((hF86.tr (hF104.up (by decide)))) (⟨by omega, by omega, _, hs107, hs108, fun q hq => (hs111 q (by omega) (by omega)).trans (hk96 q hq), by rw [hs111 ii (by omega) (by omega)]; exact hk97, hP112⟩)
                      · refine xg_t (xg_icT (u := aa) (v := bb) rfl xnm0 xnm0 (xj_geT (by omega) (by omega))) ?_
                        refine xg_t (xg_blq rfl) ?_
                        refine xg_t (xg_const) ?_
                        exact xg_e ⟨1, w84, ⟨rfl, rfl⟩, ⟨Or.inr ⟨rfl, LX_lt hR88 hk94 hob (i := ii) (by omega) hk96 hk97⟩, _, hk94, hk95, hk98⟩, hI85, hF86⟩
                  exact key81 _ (ii + 1) (nn - 1) w69 (Nat.lt_succ_self _) (by omega) (by omega) (hI71) ((hF72.up (by decide))) (⟨by omega, by omega, _, hs75, hs76, fun q hq => hs79 q (by omega) (by omega), by rw [hs77]; exact hg87, hP80⟩)
            exact key52 _ (nn - 1)  (Nat.lt_succ_self _) (by omega) (by omega)
        · refine xg_t (xg_ifT (u := ii) rfl xnm0 (xjz_ltT (by omega) (by omega))) ?_
          refine xg_t (xg_blq rfl) ?_
          refine xg_t (xg_iload (va := (0, ii)) rfl rfl) ?_
          refine xg_t (xg_ifF (u := ii) rfl xnm0 (xjz_geF (by omega) (by omega))) ?_
          refine xg_t (xg_const) ?_
          exact xg_e ⟨0, w, ⟨rfl, rfl⟩, ⟨Or.inl ⟨rfl, rfl⟩, _, hR88, hob, hperm⟩, hI, xFr.rf⟩
    exact key34 _ (nn - 2)  (Nat.lt_succ_self _) (by omega) (by omega)
  · have hz115 : 4294967295 ≤ (nn + (4294967296 - 2)) % 4294967296 := by omega
    refine xg_t (xg_isub (u := nn) (v := 2) (z := (nn + (4294967296 - 2)) % 4294967296) xnm0 xnm0 rfl) ?_
    have hz114 : (nn + (4294967296 - 2)) % 4294967296 < 4294967296 := Nat.mod_lt _ (by decide)
    generalize (nn + (4294967296 - 2)) % 4294967296 = z113 at hz115 hz114 ⊢
    refine xg_t (xg_istore (l1 := [(0, (2, 82)), (1, (0, nn))]) rfl rfl rfl) ?_
    refine xg_t (xg_drop (l1 := [(0, (2, 82)), (1, (0, nn)), (2, (0, z113))]) (List.forall_mem_cons.mpr ⟨List.mem_cons_of_mem _ (List.mem_cons_self), List.forall_mem_cons.mpr ⟨List.mem_cons_of_mem _ (List.mem_cons_of_mem _ (List.mem_cons_self)), List.forall_mem_cons.mpr ⟨List.mem_cons_self, fun _ h => absurd h List.not_mem_nil⟩⟩⟩)) ?_
    have key116 : ∀ (m118 : Nat) (ii : Nat), (ii + 1) % 4294967296 < m118 → ii ≤ 4294967295 → (ii = 4294967295 ∨ ii + 2 ≤ nn) → xTo (d + 1) mX12_reorders (4, [], [(0, (2, 82)), (1, (0, nn)), (2, (0, ii))], [], (w, bd, fc, 0, 0, rr)) (fun φ => ∃ n w', xEnd 4 [(0, n)] (w', bd, fc, 0, 0, rr) φ ∧ (((n = 0 ∧ LX w' = LX w) ∨ (n = 1 ∧ LX w < LX w')) ∧ ∃ o, xRow w' 88 6 55 o ∧ (∀ j, o j ≤ 5) ∧ PERM o nn) ∧ xMnv w' ∧ xFr [88] w w') := by
      intro m118
      induction m118 with
      | zero => intro ii hz; exact absurd hz (Nat.not_lt_zero _)
      | succ m118 ih117 =>
        intro ii hm124 hn122 he123
        refine xg_t (xg_blq rfl) ?_
        refine xg_t (xg_iload (va := (0, ii)) rfl rfl) ?_
        by_cases hc125 : ii < 2147483648
        · have hn126 : ii ≤ 4 := by omega
          refine xg_t (xg_ifF (u := ii) rfl xnm0 (xjz_ltF hc125)) ?_
          refine xg_t (xg_aload (va := (2, 82)) rfl rfl) ?_
          refine xg_t (xg_getf (va := (2, 88)) h82_31 rfl) ?_
          refine xg_t (xg_iload (va := (0, ii)) rfl rfl) ?_
          refine xg_ialdB (n := ii) (B := 5) hR88 (hob) xnm0 (by omega) (fun u127 hu128 he129 => ?_)
          refine xg_t (xg_aload (va := (2, 82)) rfl rfl) ?_
          refine xg_t (xg_getf (va := (2, 88)) h82_31 rfl) ?_
          refine xg_t (xg_iload (va := (0, ii)) rfl rfl) ?_
          refine xg_t (xg_const) ?_
          refine xg_t (xg_iadd (u := ii) (v := 1) (z := ii + 1) xnm0 xnm0 (by omega)) ?_
          refine xg_ialdB (n := ii + 1) (B := 5) hR88 (hob) xnm0 (by omega) (fun u130 hu131 he132 => ?_)
          by_cases hc133 : u130 < u127
          · refine xg_t (xg_icF (u := u127) (v := u130) rfl xnm0 xnm0 (xj_leF hc133 (by omega))) ?_
            refine xg_t (xg_iinc (u := ii) (z := (ii + 4294967295) % 4294967296) (l1 := [(0, (2, 82)), (1, (0, nn))]) rfl rfl (rfl) rfl) ?_
            refine xg_t (xg_goto) ?_
            refine xg_t (xg_drop (l1 := [(0, (2, 82)), (1, (0, nn)), (2, (0, (ii + 4294967295) % 4294967296))]) (List.forall_mem_cons.mpr ⟨List.mem_cons_of_mem _ (List.mem_cons_self), List.forall_mem_cons.mpr ⟨List.mem_cons_of_mem _ (List.mem_cons_of_mem _ (List.mem_cons_self)), List.forall_mem_cons.mpr ⟨List.mem_cons_self, fun _ h => absurd h List.not_mem_nil⟩⟩⟩)) ?_
            exact ih117 ((ii + 4294967295) % 4294967296)  (by omega) (by omega) (by omega)
          · refine xg_t (xg_icT (u := u127) (v := u130) rfl xnm0 xnm0 (xj_leT (by omega) (by omega))) ?_
            refine xg_t (xg_blq rfl) ?_
            refine xg_t (xg_iload (va := (0, ii)) rfl rfl) ?_
            refine xg_t (xg_ifT (u := ii) rfl xnm0 (xj_geT (by omega) (by omega))) ?_
            refine xg_t (xg_blq rfl) ?_
            refine xg_t (xg_iload (va := (0, nn)) rfl rfl) ?_
            refine xg_t (xg_const) ?_
            refine xg_t (xg_isub (u := nn) (v := 1) (z := nn - 1) xnm0 xnm0 (by omega)) ?_
            refine xg_t (xg_istore (l1 := [(0, (2, 82)), (1, (0, nn)), (2, (0, ii))]) rfl rfl rfl) ?_
            refine xg_t (xg_drop (l1 := [(0, (2, 82)), (1, (0, nn)), (2, (0, ii)), (3, (0, nn - 1))]) (List.forall_mem_cons.mpr ⟨List.mem_cons_of_mem _ (List.mem_cons_self), List.forall_mem_cons.mpr ⟨List.mem_cons_of_mem _ (List.mem_cons_of_mem _ (List.mem_cons_self)), List.forall_mem_cons.mpr ⟨List.mem_cons_of_mem _ (List.mem_cons_of_mem _ (List.mem_cons_of_mem _ (List.mem_cons_self))), List.forall_mem_cons.mpr ⟨List.mem_cons_self, fun _ h => absurd h List.not_mem_nil⟩⟩⟩⟩)) ?_
            have key134 : ∀ (m136 : Nat) (jj : Nat), jj < m136 → jj ≤ 5 → (ii + 1 ≤ jj ∧ jj + 1 ≤ nn) → xTo (d + 1) mX12_reorders (41, [], [(0, (2, 82)), (1, (0, nn)), (2, (0, ii)), (3, (0, jj))], [], (w, bd, fc, 0, 0, rr)) (fun φ => ∃ n w', xEnd 4 [(0, n)] (w', bd, fc, 0, 0, rr) φ ∧ (((n = 0 ∧ LX w' = LX w) ∨ (n = 1 ∧ LX w < LX w')) ∧ ∃ o, xRow w' 88 6 55 o ∧ (∀ j, o j ≤ 5) ∧ PERM o nn) ∧ xMnv w' ∧ xFr [88] w w') := by
              intro m136
              induction m136 with
              | zero => intro jj hz; exact absurd hz (Nat.not_lt_zero _)
              | succ m136 ih135 =>
                intro jj hm142 hn140 he141
                refine xg_t (xg_blq rfl) ?_
                refine xg_t (xg_aload (va := (2, 82)) rfl rfl) ?_
                refine xg_t (xg_getf (va := (2, 88)) h82_31 rfl) ?_
                refine xg_t (xg_iload (va := (0, jj)) rfl rfl) ?_
                refine xg_ialdB (n := jj) (B := 5) hR88 (hob) xnm0 (by omega) (fun u143 hu144 he145 => ?_)
                refine xg_t (xg_aload (va := (2, 82)) rfl rfl) ?_
                refine xg_t (xg_getf (va := (2, 88)) h82_31 rfl) ?_
                refine xg_t (xg_iload (va := (0, ii)) rfl rfl) ?_
                refine xg_ialdB (n := ii) (B := 5) hR88 (hob) xnm0 (by omega) (fun u146 hu147 he148 => ?_)
                by_cases hc149 : u143 < u146
                · refine xg_t (xg_icF (u := u143) (v := u146) rfl xnm0 xnm0 (xj_geF hc149 (by omega))) ?_
                  refine xg_t (xg_iinc (u := jj) (z := jj - 1) (l1 := [(0, (2, 82)), (1, (0, nn)), (2, (0, ii))]) rfl rfl (by omega) rfl) ?_
                  refine xg_t (xg_goto) ?_
                  refine xg_t (xg_drop (l1 := [(0, (2, 82)), (1, (0, nn)), (2, (0, ii)), (3, (0, jj - 1))]) (List.forall_mem_cons.mpr ⟨List.mem_cons_of_mem _ (List.mem_cons_self), List.forall_mem_cons.mpr ⟨List.mem_cons_of_mem _ (List.mem_cons_of_mem _ (List.mem_cons_self)), List.forall_mem_cons.mpr ⟨List.mem_cons_of_mem _ (List.mem_cons_of_mem _ (List.mem_cons_of_mem _ (List.mem_cons_self))), List.forall_mem_cons.mpr ⟨List.mem_cons_self, fun _ h => absurd h List.not_mem_nil⟩⟩⟩⟩)) ?_
                  have hne150 : jj ≠ ii + 1 := fun e => by have q := he145; rw [e] at q; omega
                  exact ih135 (jj - 1)  (by omega) (by omega) (by omega)
                · refine xg_t (xg_icT (u := u143) (v := u146) rfl xnm0 xnm0 (xj_geT (by omega) (by omega))) ?_
                  refine xg_t (xg_blq rfl) ?_
                  refine xg_t (xg_aload (va := (2, 82)) rfl rfl) ?_
                  refine xg_t (xg_iload (va := (0, ii)) rfl rfl) ?_
                  refine xg_t (xg_iload (va := (0, jj)) rfl rfl) ?_
                  refine xg_cVv mX12_swap (vs := [(0, ii), (0, jj)]) (rest := []) (cn1 := 0) (sl1 := 0) rfl (mSwap (hI) (by omega) (by omega) hR88 hob) rfl h82_31 rfl rfl rfl rfl rfl rfl (fun w151 hq152 => ?_)
                  obtain ⟨hI153, hF154, hx155⟩ := hq152
                  obtain ⟨o156, hs157, hs158, hs159, hs160, hs161⟩ := hx155
                  have hP162 := hperm.swap (by omega) (by omega) hs159 hs160 hs161
                  refine xg_t (xg_iload (va := (0, ii)) rfl rfl) ?_
                  refine xg_t (xg_const) ?_
                  refine xg_t (xg_iadd (u := ii) (v := 1) (z := ii + 1) xnm0 xnm0 (by omega)) ?_
                  refine xg_t (xg_istore (l1 := [(0, (2, 82)), (1, (0, nn)), (2, (0, ii)), (3, (0, jj))]) rfl rfl rfl) ?_
                  refine xg_t (xg_iload (va := (0, nn)) rfl rfl) ?_
                  refine xg_t (xg_const) ?_
                  refine xg_t (xg_isub (u := nn) (v := 1) (z := nn - 1) xnm0 xnm0 (by omega)) ?_
                  refine xg_t (xg_istore (l1 := [(4, (0, ii + 1)), (0, (2, 82)), (1, (0, nn)), (2, (0, ii)), (3, (0, jj))]) rfl rfl rfl) ?_
                  refine xg_t (xg_drop (l1 := [(0, (2, 82)), (1, (0, nn)), (2, (0, ii)), (4, (0, ii + 1)), (5, (0, nn - 1))]) (List.forall_mem_cons.mpr ⟨List.mem_cons_of_mem _ (List.mem_cons_of_mem _ (List.mem_cons_self)), List.forall_mem_cons.mpr ⟨List.mem_cons_of_mem _ (List.mem_cons_of_mem _ (List.mem_cons_of_mem _ (List.mem_cons_self))), List.forall_mem_cons.mpr ⟨List.mem_cons_of_mem _ (List.mem_cons_of_mem _ (List.mem_cons_of_mem _ (List.mem_cons_of_mem _ (List.mem_cons_self)))), List.forall_mem_cons.mpr ⟨List.mem_cons_of_mem _ (List.mem_cons_self), List.forall_mem_cons.mpr ⟨List.mem_cons_self, fun _ h => absurd h List.not_mem_nil⟩⟩⟩⟩⟩)) ?_
                  have hg169 : o0 ii < o0 jj := by
                    have q := hperm.2 ii jj (by omega) (by omega)
                    omega
                  have key163 : ∀ (m165 : Nat) (aa bb : Nat) (w166 : List (List xE)), 6 + bb - aa < m165 → aa ≤ 6 → bb ≤ 5 → xMnv w166 → xFr [88] w w166 → (ii < aa ∧ bb < nn ∧ ∃ o, xRow w166 88 6 55 o ∧ (∀ j, o j ≤ 5) ∧ (∀ q, q < ii → o q = o0 q) ∧ o0 ii < o ii ∧ PERM o nn) → xTo (d + 1) mX12_reorders (78, [], [(0, (2, 82)), (1, (0, nn)), (2, (0, ii)), (4, (0, aa)), (5, (0, bb))], [], (w166, bd, fc, 0, 0, rr)) (fun φ => ∃ n w', xEnd 4 [(0, n)] (w', bd, fc, 0, 0, rr) φ ∧ (((n = 0 ∧ LX w' = LX w) ∨ (n = 1 ∧ LX w < LX w')) ∧ ∃ o, xRow w' 88 6 55 o ∧ (∀ j, o j ≤ 5) ∧ PERM o nn) ∧ xMnv w' ∧ xFr [88] w w') := by
                    intro m165
                    induction m165 with
                    | zero => intro aa bb w166 hz; exact absurd hz (Nat.not_lt_zero _)
                    | succ m165 ih164 =>
                      intro aa bb w166 hm173 hn170 hn171 hI167 hF168 he172
                      obtain ⟨hk174, hk175, o181, hk176, hk177, hk178, hk179, hk180⟩ := he172
                      refine xg_t (xg_blq rfl) ?_
                      refine xg_t (xg_iload (va := (0, aa)) rfl rfl) ?_
                      refine xg_t (xg_iload (va := (0, bb)) rfl rfl) ?_
                      by_cases hc182 : aa < bb
                      · refine xg_t (xg_icF (u := aa) (v := bb) rfl xnm0 xnm0 (xj_geF hc182 (by omega))) ?_
                        refine xg_t (xg_aload (va := (2, 82)) rfl rfl) ?_
                        refine xg_t (xg_iload (va := (0, aa)) rfl rfl) ?_
                        refine xg_t (xg_iload (va := (0, bb)) rfl rfl) ?_
                        refine xg_cVv mX12_swap (vs := [(0, aa), (0, bb)]) (rest := []) (cn1 := 0) (sl1 := 0) rfl (mSwap (hI167) (by omega) (by omega) hk176 hk177) rfl (hF168.get (by decide) h82_31) rfl rfl rfl rfl rfl rfl (fun w183 hq184 => ?_)
                        obtain ⟨hI185, hF186, hx187⟩ := hq184
                        obtain ⟨o188, hs189, hs190, hs191, hs192, hs193⟩ := hx187
                        have hP194 := hk180.swap (by omega) (by omega) hs191 hs192 hs193
                        refine xg_t (xg_iinc (u := aa) (z := aa + 1) (l1 := [(0, (2, 82)), (1, (0, nn)), (2, (0, ii)), (5, (0, bb))]) rfl rfl (by omega) rfl) ?_
                        refine xg_t (xg_iinc (u := bb) (z := bb - 1) (l1 := [(4, (0, aa + 1)), (0, (2, 82)), (1, (0, nn)), (2, (0, ii))]) rfl rfl (by omega) rfl) ?_
                        refine xg_t (xg_goto) ?_
                        refine xg_t (xg_drop (l1 := [(0, (2, 82)), (1, (0, nn)), (2, (0, ii)), (4, (0, aa + 1)), (5, (0, bb - 1))]) (List.forall_mem_cons.mpr ⟨List.mem_cons_of_mem _ (List.mem_cons_of_mem _ (List.mem_cons_self)), List.forall_mem_cons.mpr ⟨List.mem_cons_of_mem _ (List.mem_cons_of_mem _ (List.mem_cons_of_mem _ (List.mem_cons_self))), List.forall_mem_cons.mpr ⟨List.mem_cons_of_mem _ (List.mem_cons_of_mem _ (List.mem_cons_of_mem _ (List.mem_cons_of_mem _ (List.mem_cons_self)))), List.forall_mem_cons.mpr ⟨List.mem_cons_of_mem _ (List.mem_cons_self), List.forall_mem_cons.mpr ⟨List.mem_cons_self, fun _ h => absurd h List.not_mem_nil⟩⟩⟩⟩⟩)) ?_
                        exact ih164 (aa + 1) (bb - 1) w183 (by omega) (by omega) (by omega) (hI185) ((hF168.tr (hF186.up (by decide)))) (⟨by omega, by omega, _, hs189, hs190, fun q hq => (hs193 q (by omega) (by omega)).trans (hk178 q hq), by rw [hs193 ii (by omega) (by omega)]; exact hk179, hP194⟩)
                      · refine xg_t (xg_icT (u := aa) (v := bb) rfl xnm0 xnm0 (xj_geT (by omega) (by omega))) ?_
                        refine xg_t (xg_blq rfl) ?_
                        refine xg_t (xg_const) ?_
                        exact xg_e ⟨1, w166, ⟨rfl, rfl⟩, ⟨Or.inr ⟨rfl, LX_lt hR88 hk176 hob (i := ii) (by omega) hk178 hk179⟩, _, hk176, hk177, hk180⟩, hI167, hF168⟩
                  exact key163 _ (ii + 1) (nn - 1) w151 (Nat.lt_succ_self _) (by omega) (by omega) (hI153) ((hF154.up (by decide))) (⟨by omega, by omega, _, hs157, hs158, fun q hq => hs161 q (by omega) (by omega), by rw [hs159]; exact hg169, hP162⟩)
            exact key134 _ (nn - 1)  (Nat.lt_succ_self _) (by omega) (by omega)
        · refine xg_t (xg_ifT (u := ii) rfl xnm0 (xjz_ltT (by omega) (by omega))) ?_
          refine xg_t (xg_blq rfl) ?_
          refine xg_t (xg_iload (va := (0, ii)) rfl rfl) ?_
          refine xg_t (xg_ifF (u := ii) rfl xnm0 (xjz_geF (by omega) (by omega))) ?_
          refine xg_t (xg_const) ?_
          exact xg_e ⟨0, w, ⟨rfl, rfl⟩, ⟨Or.inl ⟨rfl, rfl⟩, _, hR88, hob, hperm⟩, hI, xFr.rf⟩
    exact key116 _ z113  (Nat.lt_succ_self _) (by omega) (by omega)
theorem mOrder {wh : Nat} (hI : xMnv w) (hwh : wh ≤ 4294967295) : xPi (d + 2) mX12_order [(2, 82), (0, wh)] w bd fc rr (fun n w' => (n ≤ 4294967295) ∧ xMnv w' ∧ xFr [88, 89, 90, 91, 92, 93, 94] w w') := by
  refine xPi.of ?_
  show xTo (d + 2) mX12_order (0, [], [(0, (2, 82)), (1, (0, wh))], [], (w, bd, fc, 0, 0, rr)) (fun φ => ∃ n w', xEnd 1 [(0, n)] (w', bd, fc, 0, 0, rr) φ ∧ (n ≤ 4294967295) ∧ xMnv w' ∧ xFr [88, 89, 90, 91, 92, 93, 94] w w')
  refine xoCh82 (xqc82 hI : cp82 (wget w 82)) (fun f82_1 f82_3 f82_5 f82_7 f82_9 f82_11 f82_13 f82_15 f82_17 f82_19 f82_21 f82_22 f82_23 f82_25 f82_27 f82_29 h82_31 hb2 hb4 hb6 hb8 hb10 hb12 hb14 hb16 hb18 hb20 hb24 hb26 hb28 hb30 hb32 => ?_)
  refine xoX83 (xqc83 hI : cpx83 (wget w 83)) (fun g83_33 h83_34 hb35 hx36 => ?_)
  refine xg_t (xg_blq rfl) ?_
  refine xg_t (xg_aload (va := (2, 82)) rfl rfl) ?_
  refine xg_t (xg_getf (va := (2, 83)) h82_31 rfl) ?_
  refine xg_t (xg_const) ?_
  refine xg_ialdB (n := 0) (B := 4294967295) h83_34 (hb35) xnm0 (by first | decide | omega) (fun u37 hu38 he39 => ?_)
  have hl40 : u37 ≤ 6 := by rw [← he39]; exact hx36.l0
  refine xg_t (xg_istore (l1 := [(0, (2, 82)), (1, (0, wh))]) rfl rfl rfl) ?_
  refine xg_t (xg_iload (va := (0, u37)) rfl rfl) ?_
  by_cases hc41 : u37 = 0
  · refine xg_t (xg_ifT (u := u37) rfl xnm0 (xj_eqT hc41)) ?_
    refine xg_t (xg_blq rfl) ?_
    refine xg_t (xg_const) ?_
    exact xg_e ⟨4294967295, w, ⟨rfl, rfl⟩, by first | decide | omega, hI, xFr.rf⟩
  · refine xg_t (xg_ifF (u := u37) rfl xnm0 (xj_eqF hc41)) ?_
    refine xg_t (xg_iload (va := (0, wh)) rfl rfl) ?_
    refine xg_t (xg_const) ?_
    refine xg_t (xg_iload (va := (0, u37)) rfl rfl) ?_
    refine xg_t (xg_cSr mX12_isIn (vs := [(0, wh), (0, 0), (0, u37)]) (rest := []) (rs := [(0, if 0 ≤ wh ∧ wh ≤ u37 then 1 else 0)]) (cn1 := 0) (sl1 := 0) rfl (mIsIn (by omega) (by omega) (by omega)) rfl rfl rfl rfl rfl rfl rfl rfl) ?_
    by_cases hc42 : 0 ≤ wh ∧ wh ≤ u37
    · refine xg_t (xg_ifT (u := (if 0 ≤ wh ∧ wh ≤ u37 then 1 else 0)) rfl xnm0 (xj_neT (xite1 hc42))) ?_
      refine xg_t (xg_blq rfl) ?_
      refine xg_t (xg_aload (va := (2, 82)) rfl rfl) ?_
      refine xg_cVv mX12_inOrder (vs := []) (rest := []) (cn1 := 0) (sl1 := 0) rfl (mInOrder (hI)) rfl h82_31 rfl rfl rfl rfl rfl rfl (fun w43 hq44 => ?_)
      obtain ⟨hI45, hF46, hx47⟩ := hq44
      obtain ⟨o48, hr49, hb50, ho51⟩ := hx47
      refine xg_t (xg_sip) ?_
      refine xg_t (xg_istore (l1 := [(2, (0, u37)), (0, (2, 82)), (1, (0, wh))]) rfl rfl rfl) ?_
      refine xg_t (xg_const) ?_
      refine xg_t (xg_istore (l1 := [(3, (0, 20000)), (2, (0, u37)), (0, (2, 82)), (1, (0, wh))]) rfl rfl rfl) ?_
      refine xg_t (xg_drop (l1 := [(0, (2, 82)), (1, (0, wh)), (2, (0, u37)), (3, (0, 20000)), (4, (0, 1))]) (List.forall_mem_cons.mpr ⟨List.mem_cons_of_mem _ (List.mem_cons_of_mem _ (List.mem_cons_of_mem _ (List.mem_cons_self))), List.forall_mem_cons.mpr ⟨List.mem_cons_of_mem _ (List.mem_cons_of_mem _ (List.mem_cons_of_mem _ (List.mem_cons_of_mem _ (List.mem_cons_self)))), List.forall_mem_cons.mpr ⟨List.mem_cons_of_mem _ (List.mem_cons_of_mem _ (List.mem_cons_self)), List.forall_mem_cons.mpr ⟨List.mem_cons_of_mem _ (List.mem_cons_self), List.forall_mem_cons.mpr ⟨List.mem_cons_self, fun _ h => absurd h List.not_mem_nil⟩⟩⟩⟩⟩)) ?_
      have key52 : ∀ (m54 : Nat) (lo_ mo : Nat) (w55 : List (List xE)), 2 * (46656 - LX w55) + mo < m54 → lo_ ≤ 4294967295 → mo ≤ 1 → xMnv w55 → xFr [88, 89, 90, 91, 92, 93, 94] w w55 → (∃ o, xRow w55 88 6 55 o ∧ (∀ j, o j ≤ 5) ∧ PERM o u37) → xTo (d + 2) mX12_order (33, [], [(0, (2, 82)), (1, (0, wh)), (2, (0, u37)), (3, (0, lo_)), (4, (0, mo))], [], (w55, bd, fc, 0, 0, rr)) (fun φ => ∃ n w', xEnd 1 [(0, n)] (w', bd, fc, 0, 0, rr) φ ∧ (n ≤ 4294967295) ∧ xMnv w' ∧ xFr [88, 89, 90, 91, 92, 93, 94] w w') := by
        intro m54
        induction m54 with
        | zero => intro lo_ mo w55 hz; exact absurd hz (Nat.not_lt_zero _)
        | succ m54 ih53 =>
          intro lo_ mo w55 hm61 hn58 hn59 hI56 hF57 he60
          obtain ⟨o62, hk63, hk64, hk65⟩ := he60
          have hord66 : ∀ q, q < g83_33 0 → o62 q < g83_33 0 := fun q hq => by have z := hk65.1 q (by omega); omega
          refine xg_t (xg_blq rfl) ?_
          refine xg_t (xg_iload (va := (0, mo)) rfl rfl) ?_
          by_cases hc67 : mo = 0
          · refine xg_t (xg_ifT (u := mo) rfl xnm0 (xj_eqT hc67)) ?_
            refine xg_t (xg_blq rfl) ?_
            refine xg_t (xg_iload (va := (0, wh)) rfl rfl) ?_
            by_cases hc68 : wh = 0
            · refine xg_t (xg_ifF (u := wh) rfl xnm0 (xj_neF hc68)) ?_
              refine xg_t (xg_iload (va := (0, lo_)) rfl rfl) ?_
              refine xg_t (xg_goto) ?_
              refine xg_t (xg_blq rfl) ?_
              exact xg_e ⟨lo_, w55, ⟨rfl, rfl⟩, by omega, hI56, hF57⟩
            · refine xg_t (xg_ifT (u := wh) rfl xnm0 (xj_neT hc68)) ?_
              refine xg_t (xg_blq rfl) ?_
              refine xg_t (xg_aload (va := (2, 82)) rfl rfl) ?_
              refine xg_t (xg_getf (va := (2, 89)) (hF57.get (by decide) h82_31) rfl) ?_
              refine xg_t (xg_iload (va := (0, wh)) rfl rfl) ?_
              refine xg_t (xg_const) ?_
              refine xg_t (xg_isub (u := wh) (v := 1) (z := wh - 1) xnm0 xnm0 (by omega)) ?_
              refine xoI (xqc89 hI56 : cpI 6 56 4294967295 (wget w55 89)) (fun g89_69 h89_70 hb71 => ?_)
              refine xg_ialdB (n := wh - 1) (B := 4294967295) h89_70 (hb71) xnm0 (by omega) (fun u72 hu73 he74 => ?_)
              refine xg_t (xg_blq rfl) ?_
              exact xg_e ⟨u72, w55, ⟨rfl, rfl⟩, by omega, hI56, hF57⟩
          · refine xg_t (xg_ifF (u := mo) rfl xnm0 (xj_eqF hc67)) ?_
            refine xg_t (xg_aload (va := (2, 82)) rfl rfl) ?_
            refine xg_cVv mX12_blocks (vs := []) (rest := []) (cn1 := 0) (sl1 := 0) rfl (mBlocks (hI56) hk63 hk64 (h83_34.fr hF57 (by decide)) hb35 hx36 hord66) rfl (hF57.get (by decide) h82_31) rfl rfl rfl rfl rfl rfl (fun w75 hq76 => ?_)
            obtain ⟨hI77, hF78, hx79⟩ := hq76
            obtain ⟨U80, hr81, hU82⟩ := hx79
            have hL83 := LX_fr hF78 (by decide)
            refine xg_t (xg_aload (va := (2, 82)) rfl rfl) ?_
            refine xg_cVi mX12_leastNow (vs := []) (rest := []) (cn1 := 0) (sl1 := 0) rfl (mLeastNow (hI77) (hk63.fr hF78 (by decide)) hk64 ((h83_34.fr hF57 (by decide)).fr hF78 (by decide)) hb35 hx36 hord66 hr81 hU82) rfl (hF78.get (by decide) (hF57.get (by decide) h82_31)) rfl rfl rfl rfl rfl rfl (fun n88 w84 hq85 => ?_)
            obtain ⟨hn89, hI86, hF87⟩ := hq85
            have hL90 := LX_fr hF87 (by decide)
            refine xg_t (xg_istore (l1 := [(0, (2, 82)), (1, (0, wh)), (2, (0, u37)), (3, (0, lo_)), (4, (0, mo))]) rfl rfl rfl) ?_
            refine xg_t (xg_iload (va := (0, n88)) rfl rfl) ?_
            refine xg_t (xg_iload (va := (0, lo_)) rfl rfl) ?_
            by_cases hc91 : xbs n88 < xbs lo_
            · have hc91u := hc91
              unfold xbs at hc91u
              refine xg_t (xg_icF (u := n88) (v := lo_) rfl xnm0 xnm0 (xjs_geF hc91)) ?_
              refine xg_t (xg_iload (va := (0, n88)) rfl rfl) ?_
              refine xg_t (xg_istore (l1 := [(5, (0, n88)), (0, (2, 82)), (1, (0, wh)), (2, (0, u37)), (4, (0, mo))]) rfl rfl rfl) ?_
              refine xg_t (xg_const) ?_
              refine xg_t (xg_istore (l1 := [(3, (0, n88)), (5, (0, n88)), (0, (2, 82)), (1, (0, wh)), (2, (0, u37)), (4, (0, mo))]) rfl rfl rfl) ?_
              refine xg_t (xg_drop (l1 := [(0, (2, 82)), (1, (0, wh)), (2, (0, u37)), (3, (0, n88)), (4, (0, mo)), (6, (0, 0))]) (List.forall_mem_cons.mpr ⟨List.mem_cons_of_mem _ (List.mem_cons_of_mem _ (List.mem_cons_of_mem _ (List.mem_cons_self))), List.forall_mem_cons.mpr ⟨List.mem_cons_of_mem _ (List.mem_cons_of_mem _ (List.mem_cons_of_mem _ (List.mem_cons_of_mem _ (List.mem_cons_self)))), List.forall_mem_cons.mpr ⟨List.mem_cons_of_mem _ (List.mem_cons_of_mem _ (List.mem_cons_of_mem _ (List.mem_cons_of_mem _ (List.mem_cons_of_mem _ (List.mem_cons_self))))), List.forall_mem_cons.mpr ⟨List.mem_cons_of_mem _ (List.mem_cons_self), List.forall_mem_cons.mpr ⟨List.mem_cons_of_mem _ (List.mem_cons_of_mem _ (List.mem_cons_of_mem _ (List.mem_cons_of_mem _ (List.mem_cons_of_mem _ (List.mem_cons_of_mem _ (List.mem_cons_self)))))), List.forall_mem_cons.mpr ⟨List.mem_cons_self, fun _ h => absurd h List.not_mem_nil⟩⟩⟩⟩⟩⟩)) ?_
              have key92 : ∀ (m94 : Nat) (pk : Nat) (w95 : List (List xE)), 6 - pk < m94 → pk ≤ 6 → xMnv w95 → xFr [88, 89, 90, 91, 92, 93, 94] w w95 → (LX w95 = LX w55 ∧ ∃ o, xRow w95 88 6 55 o ∧ (∀ j, o j ≤ 5) ∧ PERM o u37) → xTo (d + 2) mX12_order (60, [], [(0, (2, 82)), (1, (0, wh)), (2, (0, u37)), (3, (0, n88)), (4, (0, mo)), (6, (0, pk))], [], (w95, bd, fc, 0, 0, rr)) (fun φ => ∃ n w', xEnd 1 [(0, n)] (w', bd, fc, 0, 0, rr) φ ∧ (n ≤ 4294967295) ∧ xMnv w' ∧ xFr [88, 89, 90, 91, 92, 93, 94] w w') := by
                intro m94
                induction m94 with
                | zero => intro pk w95 hz; exact absurd hz (Nat.not_lt_zero _)
                | succ m94 ih93 =>
                  intro pk w95 hm100 hn98 hI96 hF97 he99
                  obtain ⟨hL101, hT102⟩ := he99
                  obtain ⟨o103, hk104, hk105, hk106⟩ := hT102
                  have hord107 : ∀ q, q < g83_33 0 → o103 q < g83_33 0 := fun q hq => by have z := hk106.1 q (by omega); omega
                  refine xg_t (xg_blq rfl) ?_
                  refine xg_t (xg_iload (va := (0, pk)) rfl rfl) ?_
                  refine xg_t (xg_bip) ?_
                  by_cases hc108 : pk < 6
                  · refine xg_t (xg_icF (u := pk) (v := 6) rfl xnm0 xnm0 (xj_geF hc108 (by omega))) ?_
                    refine xg_t (xg_aload (va := (2, 82)) rfl rfl) ?_
                    refine xg_t (xg_getf (va := (2, 89)) (hF97.get (by decide) h82_31) rfl) ?_
                    refine xg_t (xg_iload (va := (0, pk)) rfl rfl) ?_
                    refine xg_t (xg_aload (va := (2, 82)) rfl rfl) ?_
                    refine xg_t (xg_getf (va := (2, 88)) (hF97.get (by decide) h82_31) rfl) ?_
                    refine xg_t (xg_iload (va := (0, pk)) rfl rfl) ?_
                    refine xg_ialdB (n := pk) (B := 5) hk104 (hk105) xnm0 (by omega) (fun u109 hu110 he111 => ?_)
                    refine xoI (xqc89 hI96 : cpI 6 56 4294967295 (wget w95 89)) (fun g89_112 h89_113 hb114 => ?_)
                    refine xg_iastK (n := pk) (u := u109) h89_113 xnm0 xnm0 rfl (by omega) (fun w115 hr116 hb117 => ?_)
                    refine xg_t (xg_iinc (u := pk) (z := pk + 1) (l1 := [(0, (2, 82)), (1, (0, wh)), (2, (0, u37)), (3, (0, n88)), (4, (0, mo))]) rfl rfl (by omega) rfl) ?_
                    refine xg_t (xg_goto) ?_
                    refine xg_t (xg_drop (l1 := [(0, (2, 82)), (1, (0, wh)), (2, (0, u37)), (3, (0, n88)), (4, (0, mo)), (6, (0, pk + 1))]) (List.forall_mem_cons.mpr ⟨List.mem_cons_of_mem _ (List.mem_cons_self), List.forall_mem_cons.mpr ⟨List.mem_cons_of_mem _ (List.mem_cons_of_mem _ (List.mem_cons_self)), List.forall_mem_cons.mpr ⟨List.mem_cons_of_mem _ (List.mem_cons_of_mem _ (List.mem_cons_of_mem _ (List.mem_cons_self))), List.forall_mem_cons.mpr ⟨List.mem_cons_of_mem _ (List.mem_cons_of_mem _ (List.mem_cons_of_mem _ (List.mem_cons_of_mem _ (List.mem_cons_self)))), List.forall_mem_cons.mpr ⟨List.mem_cons_of_mem _ (List.mem_cons_of_mem _ (List.mem_cons_of_mem _ (List.mem_cons_of_mem _ (List.mem_cons_of_mem _ (List.mem_cons_self))))), List.forall_mem_cons.mpr ⟨List.mem_cons_self, fun _ h => absurd h List.not_mem_nil⟩⟩⟩⟩⟩⟩)) ?_
                    have hL118 := LX_fr (S := [89]) (xFr.of hb117 (by decide)) (by decide)
                    exact ih93 (pk + 1) w115 (by omega) (by omega) (xMnv.up (S := [89]) hI96 (xFr.of (S := [89]) hb117 (by decide)) (List.forall_mem_cons.mpr ⟨xqu89 (show cpI 6 56 4294967295 (wget w115 89) from ⟨_, hr116, xrb (by omega) (hb114)⟩), fun _ h => absurd h List.not_mem_nil⟩)) ((hF97.tr (xFr.of (S := [88, 89, 90, 91, 92, 93, 94]) hb117 (by decide)))) (⟨by omega, _, (hk104.but hb117 (by decide)), hk105, hk106⟩)
                  · refine xg_t (xg_icT (u := pk) (v := 6) rfl xnm0 xnm0 (xj_geT (by omega) (by omega))) ?_
                    refine xg_t (xg_blq rfl) ?_
                    refine xg_t (xg_aload (va := (2, 82)) rfl rfl) ?_
                    refine xg_t (xg_iload (va := (0, u37)) rfl rfl) ?_
                    refine xg_cVi mX12_reorders (vs := [(0, u37)]) (rest := []) (cn1 := 0) (sl1 := 0) rfl (mReorders (hI96) (by omega) (by omega) hk104 hk105 hk106) rfl (hF97.get (by decide) h82_31) rfl rfl rfl rfl rfl rfl (fun n123 w119 hq120 => ?_)
                    obtain ⟨hn124, hI121, hF122⟩ := hq120
                    obtain ⟨hL125, hT126⟩ := hn124
                    obtain ⟨o127, hk128, hk129, hk130⟩ := hT126
                    have hord131 : ∀ q, q < g83_33 0 → o127 q < g83_33 0 := fun q hq => by have z := hk130.1 q (by omega); omega
                    have hL132 := LX_le hk128 hk129
                    refine xg_t (xg_istore (l1 := [(0, (2, 82)), (1, (0, wh)), (2, (0, u37)), (3, (0, n88)), (6, (0, pk))]) rfl rfl rfl) ?_
                    refine xg_t (xg_goto) ?_
                    refine xg_t (xg_drop (l1 := [(0, (2, 82)), (1, (0, wh)), (2, (0, u37)), (3, (0, n88)), (4, (0, n123))]) (List.forall_mem_cons.mpr ⟨List.mem_cons_of_mem _ (List.mem_cons_self), List.forall_mem_cons.mpr ⟨List.mem_cons_of_mem _ (List.mem_cons_of_mem _ (List.mem_cons_self)), List.forall_mem_cons.mpr ⟨List.mem_cons_of_mem _ (List.mem_cons_of_mem _ (List.mem_cons_of_mem _ (List.mem_cons_self))), List.forall_mem_cons.mpr ⟨List.mem_cons_of_mem _ (List.mem_cons_of_mem _ (List.mem_cons_of_mem _ (List.mem_cons_of_mem _ (List.mem_cons_self)))), List.forall_mem_cons.mpr ⟨List.mem_cons_self, fun _ h => absurd h List.not_mem_nil⟩⟩⟩⟩⟩)) ?_
                    exact ih53 n88 n123 w119 (by omega) (by omega) (by omega) (hI121) ((hF97.tr (hF122.up (by decide)))) (⟨_, hk128, hk129, hk130⟩)
              exact key92 _ 0 w84 (Nat.lt_succ_self _) (by omega) (hI86) (((hF57.tr (hF78.up (by decide))).tr (hF87.up (by decide)))) (⟨by omega, _, ((hk63.fr hF78 (by decide)).fr hF87 (by decide)), hk64, hk65⟩)
            · have hc91u := hc91
              unfold xbs at hc91u
              refine xg_t (xg_icT (u := n88) (v := lo_) rfl xnm0 xnm0 (xjs_geT hc91)) ?_
              refine xg_t (xg_blq rfl) ?_
              refine xg_t (xg_aload (va := (2, 82)) rfl rfl) ?_
              refine xg_t (xg_iload (va := (0, u37)) rfl rfl) ?_
              refine xg_cVi mX12_reorders (vs := [(0, u37)]) (rest := []) (cn1 := 0) (sl1 := 0) rfl (mReorders (hI86) (by omega) (by omega) ((hk63.fr hF78 (by decide)).fr hF87 (by decide)) hk64 hk65) rfl (hF87.get (by decide) (hF78.get (by decide) (hF57.get (by decide) h82_31))) rfl rfl rfl rfl rfl rfl (fun n137 w133 hq134 => ?_)
              obtain ⟨hn138, hI135, hF136⟩ := hq134
              obtain ⟨hL139, hT140⟩ := hn138
              obtain ⟨o141, hk142, hk143, hk144⟩ := hT140
              have hord145 : ∀ q, q < g83_33 0 → o141 q < g83_33 0 := fun q hq => by have z := hk144.1 q (by omega); omega
              have hL146 := LX_le hk142 hk143
              refine xg_t (xg_istore (l1 := [(5, (0, n88)), (0, (2, 82)), (1, (0, wh)), (2, (0, u37)), (3, (0, lo_))]) rfl rfl rfl) ?_
              refine xg_t (xg_goto) ?_
              refine xg_t (xg_drop (l1 := [(0, (2, 82)), (1, (0, wh)), (2, (0, u37)), (3, (0, lo_)), (4, (0, n137))]) (List.forall_mem_cons.mpr ⟨List.mem_cons_of_mem _ (List.mem_cons_of_mem _ (List.mem_cons_self)), List.forall_mem_cons.mpr ⟨List.mem_cons_of_mem _ (List.mem_cons_of_mem _ (List.mem_cons_of_mem _ (List.mem_cons_self))), List.forall_mem_cons.mpr ⟨List.mem_cons_of_mem _ (List.mem_cons_of_mem _ (List.mem_cons_of_mem _ (List.mem_cons_of_mem _ (List.mem_cons_self)))), List.forall_mem_cons.mpr ⟨List.mem_cons_of_mem _ (List.mem_cons_of_mem _ (List.mem_cons_of_mem _ (List.mem_cons_of_mem _ (List.mem_cons_of_mem _ (List.mem_cons_self))))), List.forall_mem_cons.mpr ⟨List.mem_cons_self, fun _ h => absurd h List.not_mem_nil⟩⟩⟩⟩⟩)) ?_
              exact ih53 lo_ n137 w133 (by omega) (by omega) (by omega) (hI135) ((((hF57.tr (hF78.up (by decide))).tr (hF87.up (by decide))).tr (hF136.up (by decide)))) (⟨_, hk142, hk143, hk144⟩)
      exact key52 _ 20000 1 w43 (Nat.lt_succ_self _) (by omega) (by omega) (hI45) ((hF46.up (by decide))) (⟨_, hr49, hb50, PERM.id ho51 (by omega)⟩)
    · refine xg_t (xg_ifF (u := (if 0 ≤ wh ∧ wh ≤ u37 then 1 else 0)) rfl xnm0 (xj_neF (xite0 hc42))) ?_
      refine xg_t (xg_blq rfl) ?_
      refine xg_t (xg_const) ?_
      exact xg_e ⟨4294967295, w, ⟨rfl, rfl⟩, by first | decide | omega, hI, xFr.rf⟩
end XM9
end
