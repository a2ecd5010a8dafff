/-! three tables more: the methods that no other case runs -/
def bRN : List (Nat × List xI) := [(0, [(0, 1, 0, 0, 0, 0), (1, 3, 1, 4, 11, 32), (4, 3, 7, 8, 0, 0), (7, 1, 12, 0, 0, 0)]),
  (8, [(8, 1, 0, 0, 0, 0), (9, 3, 5, 241, 0, 0), (12, 3, 14, 4, 8, 81), (15, 1, 3, 1, 0, 0), (16, 1, 15, 1, 0, 0)]),
  (17, [(17, 1, 2, 1, 0, 0), (18, 2, 4, 9, 0, 0), (20, 3, 6, 90, 4, 0), (23, 1, 0, 0, 0, 0), (24, 1, 2, 1, 0, 0)]),
  (28, [(28, 1, 3, 0, 0, 0), (29, 1, 15, 2, 0, 0)]),
  (30, [(30, 1, 2, 2, 0, 0), (31, 2, 4, 15, 0, 0), (33, 3, 6, 84, 3, 0), (36, 1, 0, 0, 0, 0), (37, 3, 1, 4, 2, 15), (40, 1, 2, 2, 0, 0), (41, 1, 10, 0, 0, 0), (42, 1, 0, 0, 0, 0), (43, 3, 1, 4, 3, 18), (46, 1, 2, 2, 0, 0), (47, 1, 10, 0, 0, 0), (48, 3, 62, 0, 0, 68), (51, 1, 15, 3, 0, 0), (52, 1, 2, 3, 0, 0), (53, 1, 0, 0, 0, 0), (54, 3, 1, 4, 8, 81), (57, 3, 6, 78, 3, 0), (60, 1, 0, 0, 0, 0), (61, 1, 2, 3, 0, 0), (62, 3, 14, 4, 8, 81), (65, 1, 0, 0, 0, 0), (66, 1, 2, 1, 0, 0), (67, 3, 14, 4, 6, 88), (70, 1, 0, 0, 0, 0), (71, 2, 4, 10, 0, 0), (73, 1, 2, 2, 0, 0), (74, 1, 26, 0, 0, 0), (75, 3, 14, 4, 7, 91)]),
  (78, [(78, 3, 9, 2, 1, 0), (81, 3, 8, 30, 0, 0)]),
  (84, [(84, 3, 9, 1, 1, 0), (87, 3, 8, 17, 0, 0)]),
  (90, [(90, 1, 0, 0, 0, 0), (91, 1, 3, 1, 0, 0), (92, 3, 59, 4, 11, 32), (95, 1, 12, 0, 0, 0)])]
def mRN : xM := (yX4_refreshNext, cX4_refreshNext, 4, none, 0, 0, 0, 0, bRN)
def bCT : List (Nat × List xI) := [(0, [(0, 1, 0, 0, 0, 0), (1, 3, 1, 4, 2, 15), (4, 1, 3, 0, 0, 0), (5, 3, 13, 1, 2, 94), (8, 1, 0, 0, 0, 0), (9, 3, 1, 4, 3, 18), (12, 1, 3, 0, 0, 0), (13, 3, 13, 1, 2, 94), (16, 1, 3, 0, 0, 0), (17, 1, 15, 2, 0, 0)]),
  (18, [(18, 1, 2, 2, 0, 0), (19, 3, 5, 240, 0, 0), (22, 3, 6, 116, 3, 0), (25, 1, 0, 0, 0, 0), (26, 3, 1, 4, 1, 11), (29, 1, 2, 2, 0, 0), (30, 1, 10, 0, 0, 0), (31, 3, 7, 110, 1, 0), (34, 1, 2, 2, 0, 0), (35, 1, 2, 1, 0, 0), (36, 3, 13, 203, 34, 54), (39, 1, 15, 3, 0, 0), (40, 1, 3, 0, 0, 0), (41, 2, 15, 4, 0, 0)]),
  (43, [(43, 2, 2, 4, 0, 0), (45, 2, 4, 15, 0, 0), (47, 3, 6, 110, 3, 0), (50, 1, 0, 0, 0, 0), (51, 3, 1, 4, 2, 15), (54, 2, 2, 4, 0, 0), (56, 1, 39, 0, 0, 0), (57, 1, 10, 0, 0, 0), (58, 2, 4, 10, 0, 0), (60, 2, 2, 4, 0, 0), (62, 1, 26, 0, 0, 0), (63, 2, 4, 8, 0, 0), (65, 1, 2, 3, 0, 0), (66, 1, 16, 0, 0, 0), (67, 3, 6, 74, 2, 0), (70, 1, 3, 1, 0, 0), (71, 3, 8, 75, 0, 0)]),
  (74, [(74, 1, 3, 0, 0, 0)]),
  (75, [(75, 1, 11, 0, 0, 0), (76, 1, 17, 0, 0, 0), (77, 1, 0, 0, 0, 0), (78, 3, 1, 4, 3, 18), (81, 2, 2, 4, 0, 0), (83, 1, 39, 0, 0, 0), (84, 1, 10, 0, 0, 0), (85, 2, 4, 10, 0, 0), (87, 2, 2, 4, 0, 0), (89, 1, 26, 0, 0, 0), (90, 2, 4, 12, 0, 0), (92, 1, 2, 3, 0, 0), (93, 1, 16, 0, 0, 0), (94, 3, 6, 101, 3, 0), (97, 1, 3, 1, 0, 0), (98, 3, 8, 102, 0, 0)]),
  (101, [(101, 1, 3, 0, 0, 0)]),
  (102, [(102, 1, 11, 0, 0, 0), (103, 1, 17, 0, 0, 0), (104, 3, 9, 4, 1, 0), (107, 3, 8, 43, 0, 0)]),
  (110, [(110, 3, 9, 2, 1, 0), (113, 3, 8, 18, 0, 0)]),
  (116, [(116, 1, 12, 0, 0, 0)])]
def mCT : xM := (yX4_countTries, cX4_countTries, 5, none, 1, 0, 0, 0, bCT)
def bNX : List (Nat × List xI) := [(0, [(0, 1, 0, 0, 0, 0), (1, 3, 1, 11, 8, 79), (4, 3, 13, 199, 32, 327), (7, 1, 0, 0, 0, 0), (8, 3, 1, 11, 8, 79)]),
  (14, [(14, 1, 2, 1, 0, 0), (15, 25, 33, 64, 0, 7)]),
  (40, [(40, 1, 0, 0, 0, 0), (41, 3, 1, 11, 8, 79), (44, 3, 1, 4, 6, 349), (47, 1, 12, 0, 1, 0)]),
  (48, [(48, 1, 0, 0, 0, 0), (49, 3, 1, 11, 8, 79), (52, 3, 1, 4, 7, 352), (55, 1, 12, 0, 1, 0)]),
  (56, [(56, 1, 0, 0, 0, 0), (57, 3, 1, 11, 8, 79), (60, 3, 1, 4, 8, 355), (63, 1, 12, 0, 1, 0)]),
  (64, [(64, 1, 3, 4294967295, 0, 0), (65, 1, 12, 0, 1, 0)])]
def mNX : xM := (yX11_next, cX11_next, 2, (some .int), 1, 1, 0, 0, bNX)
theorem nk_0 : xLq RX4 (3, 1, 4, 11, 32) := ⟨by decide, _, rfl, ⟨rfl, (RX4, TX4, 12), rfl, by decide, xtb 594 (by decide +kernel) rfl⟩⟩
theorem nk_1 : xLq RX4 (3, 14, 4, 8, 81) := ⟨by decide, _, rfl, ⟨rfl, (RX4, TX4, 12), .int, rfl, by decide, xtb 590 (by decide +kernel) rfl, rfl, (fun h => by cases h), by decide +kernel, rfl⟩⟩
theorem nk_2 : xLq RX4 (3, 1, 4, 2, 15) := ⟨by decide, _, rfl, ⟨rfl, (RX4, TX4, 12), rfl, by decide, xtb 581 (by decide +kernel) rfl⟩⟩
theorem nk_3 : xLq RX4 (3, 1, 4, 3, 18) := ⟨by decide, _, rfl, ⟨rfl, (RX4, TX4, 12), rfl, by decide, xtb 582 (by decide +kernel) rfl⟩⟩
theorem nk_4 : xLq RX4 (3, 62, 0, 0, 68) := ⟨by decide, _, rfl, ⟨rfl, xtb 1385 (by decide +kernel) rfl⟩⟩
theorem nk_5 : xLq RX4 (3, 1, 4, 8, 81) := ⟨by decide, _, rfl, ⟨rfl, (RX4, TX4, 12), rfl, by decide, xtb 590 (by decide +kernel) rfl⟩⟩
theorem nk_6 : xLq RX4 (3, 14, 4, 6, 88) := ⟨by decide, _, rfl, ⟨rfl, (RX4, TX4, 12), .int, rfl, by decide, xtb 586 (by decide +kernel) rfl, rfl, (fun h => by cases h), by decide +kernel, rfl⟩⟩
theorem nk_7 : xLq RX4 (3, 14, 4, 7, 91) := ⟨by decide, _, rfl, ⟨rfl, (RX4, TX4, 12), .int, rfl, by decide, xtb 588 (by decide +kernel) rfl, rfl, (fun h => by cases h), by decide +kernel, rfl⟩⟩
theorem nk_8 : xLq RX4 (3, 59, 4, 11, 32) := ⟨by decide, _, rfl, ⟨rfl, (RX4, TX4, 12), .boolean, rfl, by decide, xtb 594 (by decide +kernel) rfl, rfl, (fun h => by cases h), by decide +kernel, rfl⟩⟩
def lRN : List xL := [(3, 1, 4, 11, 32), (3, 14, 4, 8, 81), (3, 1, 4, 2, 15), (3, 1, 4, 3, 18), (3, 62, 0, 0, 68), (3, 1, 4, 8, 81), (3, 14, 4, 6, 88), (3, 14, 4, 7, 91), (3, 59, 4, 11, 32)]
theorem kRN : ∀ q ∈ lRN, xLq RX4 q := List.forall_mem_cons.mpr ⟨nk_0, List.forall_mem_cons.mpr ⟨nk_1, List.forall_mem_cons.mpr ⟨nk_2, List.forall_mem_cons.mpr ⟨nk_3, List.forall_mem_cons.mpr ⟨nk_4, List.forall_mem_cons.mpr ⟨nk_5, List.forall_mem_cons.mpr ⟨nk_6, List.forall_mem_cons.mpr ⟨nk_7, List.forall_mem_cons.mpr ⟨nk_8, fun _ h => absurd h List.not_mem_nil⟩⟩⟩⟩⟩⟩⟩⟩⟩
theorem bRN_ok : ∀ b ∈ bRN, xbok RX4 cX4_refreshNext b := xbB_ok (lk := lRN) (ls := []) kRN xno_sw (by decide +kernel)
theorem vRN : xMok mRN := ⟨⟨by decide +kernel, xtb 1416 (by decide +kernel) rfl, xtb 137 (by decide +kernel) rfl, ⟨by decide +kernel, by decide +kernel⟩, by decide +kernel, by decide, rfl⟩, bRN_ok⟩
theorem nk_9 : xLq RX4 (3, 13, 1, 2, 94) := ⟨by decide, _, rfl, ⟨rfl, mJ7_fill_53178, rfl, xtb 1421 (by decide +kernel) rfl, xtb 1080 (by decide +kernel) rfl⟩⟩
theorem nk_10 : xLq RX4 (3, 1, 4, 1, 11) := ⟨by decide, _, rfl, ⟨rfl, (RX4, TX4, 12), rfl, by decide, xtb 580 (by decide +kernel) rfl⟩⟩
theorem nk_11 : xLq RX4 (3, 13, 203, 34, 54) := ⟨by decide, _, rfl, ⟨rfl, mX4_unitAt, rfl, xtb 1363 (by decide +kernel) rfl, xtb 1364 (by decide +kernel) rfl⟩⟩
def lCT : List xL := [(3, 1, 4, 2, 15), (3, 13, 1, 2, 94), (3, 1, 4, 3, 18), (3, 1, 4, 1, 11), (3, 13, 203, 34, 54)]
theorem kCT : ∀ q ∈ lCT, xLq RX4 q := List.forall_mem_cons.mpr ⟨nk_2, List.forall_mem_cons.mpr ⟨nk_9, List.forall_mem_cons.mpr ⟨nk_3, List.forall_mem_cons.mpr ⟨nk_10, List.forall_mem_cons.mpr ⟨nk_11, fun _ h => absurd h List.not_mem_nil⟩⟩⟩⟩⟩
theorem bCT_ok : ∀ b ∈ bCT, xbok RX4 cX4_countTries b := xbB_ok (lk := lCT) (ls := []) kCT xno_sw (by decide +kernel)
theorem vCT : xMok mCT := ⟨⟨by decide +kernel, xtb 1420 (by decide +kernel) rfl, xtb 137 (by decide +kernel) rfl, ⟨by decide +kernel, by decide +kernel⟩, by decide +kernel, by decide, rfl⟩, bCT_ok⟩
theorem nk_12 : xLq RX11 (3, 1, 11, 8, 79) := ⟨by decide, _, rfl, ⟨rfl, (RX11, TX11, 11), rfl, by decide, xtb 628 (by decide +kernel) rfl⟩⟩
theorem nk_13 : xLq RX11 (3, 13, 199, 32, 327) := ⟨by decide, _, rfl, ⟨rfl, mX4_refresh, rfl, xtb 1354 (by decide +kernel) rfl, xtb 1355 (by decide +kernel) rfl, xtb 1356 (by decide +kernel) rfl, (RX4, TX4, 12), rfl, rfl⟩⟩
theorem nk_14 : xLq RX11 (3, 1, 4, 6, 349) := ⟨by decide, _, rfl, ⟨rfl, (RX4, TX4, 12), rfl, by decide, xtb 587 (by decide +kernel) rfl⟩⟩
theorem nk_15 : xLq RX11 (3, 1, 4, 7, 352) := ⟨by decide, _, rfl, ⟨rfl, (RX4, TX4, 12), rfl, by decide, xtb 589 (by decide +kernel) rfl⟩⟩
theorem nk_16 : xLq RX11 (3, 1, 4, 8, 355) := ⟨by decide, _, rfl, ⟨rfl, (RX4, TX4, 12), rfl, by decide, xtb 591 (by decide +kernel) rfl⟩⟩
def lNX : List xL := [(3, 1, 11, 8, 79), (3, 13, 199, 32, 327), (3, 1, 4, 6, 349), (3, 1, 4, 7, 352), (3, 1, 4, 8, 355)]
theorem kNX : ∀ q ∈ lNX, xLq RX11 q := List.forall_mem_cons.mpr ⟨nk_12, List.forall_mem_cons.mpr ⟨nk_13, List.forall_mem_cons.mpr ⟨nk_14, List.forall_mem_cons.mpr ⟨nk_15, List.forall_mem_cons.mpr ⟨nk_16, fun _ h => absurd h List.not_mem_nil⟩⟩⟩⟩⟩
theorem swNX : xLs RX11 (15, 25, 33, 64, 0, 7) := ⟨_, rfl, 49, 0, 2, #[25, 33, 41], [(0, 40), (1, 48), (2, 56)], rfl, rfl, by decide, by decide, by decide, by decide, rfl, by decide +kernel⟩
def sNX : List xI := [(15, 25, 33, 64, 0, 7)]
theorem zNX : ∀ e ∈ sNX, xLs RX11 e := List.forall_mem_cons.mpr ⟨swNX, fun _ h => absurd h List.not_mem_nil⟩
theorem bNX_ok : ∀ b ∈ bNX, xbok RX11 cX11_next b := xbB_ok (lk := lNX) (ls := sNX) kNX zNX (by decide +kernel)
theorem vNX : xMok mNX := ⟨⟨by decide +kernel, xtb 1412 (by decide +kernel) rfl, xtb 126 (by decide +kernel) rfl, ⟨by decide +kernel, by decide +kernel⟩, by decide +kernel, by decide, rfl⟩, bNX_ok⟩
theorem nl1 : Cond.methodLink RX11 346 yX4_refreshNext ∈ lw_gt := xtb 1413 (by decide +kernel) rfl
theorem nl2 : Cond.instanceMethod yX4_refreshNext ∈ lw_gt := xtb 1414 (by decide +kernel) rfl
theorem nl3 : Cond.selects yX4_refreshNext.cls yX4_refreshNext yX4_refreshNext ∈ lw_gt := xtb 1415 (by decide +kernel) rfl
theorem nl4 : Cond.methodLink RX4 84 yX4_countTries ∈ lw_gt := xtb 1417 (by decide +kernel) rfl
theorem nl5 : Cond.instanceMethod yX4_countTries ∈ lw_gt := xtb 1419 (by decide +kernel) rfl
theorem nl6 : Cond.selects yX4_countTries.cls yX4_countTries yX4_countTries ∈ lw_gt := xtb 46 (by decide +kernel) rfl
theorem nd1 : decode cX11_next 11 = .ok (.invokevirtual 346, 3) := by decide +kernel
theorem nd2 : decode cX4_refreshNext 25 = .ok (.invokevirtual 84, 3) := by decide +kernel
theorem nx_tab {d : Nat} {σ : xS} {fs : List xS} (h : xLd d mNX σ fs) : xLd d mX11_next σ fs := fun _ hpos => h bNX_ok hpos
section XCX
variable {d pc ix j ci : Nat} {M M' : xM} {P : xS → Prop} {lo : xLo} {st rest vs rs : List xV} {w : List (List xE)} {bd : List (Nat × Nat)} {fc : List (Nat × Nat × Bool)} {cn sl cn1 sl1 : Nat} {rr : Nat × Nat} {fl : List xV} {r : List xV} {Q : List (List xE) → Prop}
theorem xg_cX {q : vw_C} (hd : decode M.2.1 pc = .ok (.invokevirtual ix, 3)) (hM' : xMok M') (hk1 : Cond.methodLink M.1.cls ix M'.1 ∈ lw_gt) (hk2 : Cond.instanceMethod M'.1 ∈ lw_gt) (hk3 : Cond.selects M'.1.cls M'.1 M'.1 ∈ lw_gt) (hk4 : vwCl[ci]? = some q) (hk5 : q.1 = M'.1.cls) (hP : xPq d M' ((2, j) :: vs) w bd fc rr r Q) (ho : wget w j = some (.inl (ci, fl))) (hn : (st.take M'.2.2.2.2.1).length = M'.2.2.2.2.1) (hv : (st.take M'.2.2.2.2.1).reverse = vs) (hr : st.drop M'.2.2.2.2.1 = (2, j) :: rest) (hb : ((Nat.ble (cn + M'.2.2.2.2.2.2.1) M.2.2.2.2.2.2.1 && Nat.ble (xwds ((2, j) :: vs)) M'.2.2.1) && (Nat.ble (sl + M'.2.2.2.2.2.2.2.1) M.2.2.2.2.2.2.2.1 && Nat.ble rest.length 4)) = true) (hs : r ++ rest = rs) (h1 : cn + M'.2.2.2.2.2.2.1 = cn1) (h2 : sl + M'.2.2.2.2.2.2.2.1 = sl1) (K : ∀ w', Q w' → xTo (d + 1) M (pc + 3, [], lo, rs, (w', bd, fc, cn1, sl1, rr)) P) : xTo (d + 1) M (pc, [], lo, st, (w, bd, fc, cn, sl, rr)) P := by
  obtain ⟨w', h3, h4⟩ := hP
  subst h1
  subst h2
  subst hs
  exact xg_t (xg_callX hd hM' hk1 hk2 hk3 hk4 hk5 h4 ho hn hv hr hb) (K w' h3)
end XCX
