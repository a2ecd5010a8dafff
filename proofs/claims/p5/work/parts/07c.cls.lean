/-! the classes: their words, types and names -/
def xdv (v : xV) : Value := match v.1 with
  | 0 => .int 0
  | 3 => .null
  | 4 => .long 0
  | _ => .retAddr 0
theorem xinX0 : ∀ w ∈ u_ws RX0 TX0 11, w ∈ lw_gt := fun w h => List.mem_filter.mpr ⟨(goodIn_r (u_ws RX0 TX0 11) [449, 451, 453, 455, 457, 459, 461, 463, 465, 467, 469] (by decide +kernel) (by decide +kernel) w h).1, List.all_eq_true.mp (by decide +kernel : (u_ws RX0 TX0 11).all goodWord = true) w h⟩
theorem xinX1 : ∀ w ∈ u_ws RX1 TX1 10, w ∈ lw_gt := fun w h => List.mem_filter.mpr ⟨(goodIn_r (u_ws RX1 TX1 10) [232, 234, 236, 238, 240, 242, 244, 246, 248, 250] (by decide +kernel) (by decide +kernel) w h).1, List.all_eq_true.mp (by decide +kernel : (u_ws RX1 TX1 10).all goodWord = true) w h⟩
theorem xinX2 : ∀ w ∈ u_ws RX2 TX2 11, w ∈ lw_gt := fun w h => List.mem_filter.mpr ⟨(goodIn_r (u_ws RX2 TX2 11) [376, 378, 380, 382, 384, 386, 388, 390, 392, 394, 396] (by decide +kernel) (by decide +kernel) w h).1, List.all_eq_true.mp (by decide +kernel : (u_ws RX2 TX2 11).all goodWord = true) w h⟩
theorem xinX3 : ∀ w ∈ u_ws RX3 TX3 6, w ∈ lw_gt := fun w h => List.mem_filter.mpr ⟨(goodIn_r (u_ws RX3 TX3 6) [535, 537, 539, 541, 543, 545] (by decide +kernel) (by decide +kernel) w h).1, List.all_eq_true.mp (by decide +kernel : (u_ws RX3 TX3 6).all goodWord = true) w h⟩
theorem xinX4 : ∀ w ∈ u_ws RX4 TX4 12, w ∈ lw_gt := fun w h => List.mem_filter.mpr ⟨(goodIn_r (u_ws RX4 TX4 12) [595, 597, 599, 601, 603, 605, 607, 609, 611, 613, 615, 617] (by decide +kernel) (by decide +kernel) w h).1, List.all_eq_true.mp (by decide +kernel : (u_ws RX4 TX4 12).all goodWord = true) w h⟩
theorem xinX5 : ∀ w ∈ u_ws RX5 TX5 4, w ∈ lw_gt := fun w h => List.mem_filter.mpr ⟨(goodIn_r (u_ws RX5 TX5 4) [186, 188, 190, 192] (by decide +kernel) (by decide +kernel) w h).1, List.all_eq_true.mp (by decide +kernel : (u_ws RX5 TX5 4).all goodWord = true) w h⟩
theorem xinX6 : ∀ w ∈ u_ws RX6 TX6 6, w ∈ lw_gt := fun w h => List.mem_filter.mpr ⟨(goodIn_r (u_ws RX6 TX6 6) [415, 417, 419, 421, 423, 425] (by decide +kernel) (by decide +kernel) w h).1, List.all_eq_true.mp (by decide +kernel : (u_ws RX6 TX6 6).all goodWord = true) w h⟩
theorem xinX7 : ∀ w ∈ u_ws RX7 TX7 5, w ∈ lw_gt := fun w h => List.mem_filter.mpr ⟨(goodIn_r (u_ws RX7 TX7 5) [562, 564, 566, 568, 570] (by decide +kernel) (by decide +kernel) w h).1, List.all_eq_true.mp (by decide +kernel : (u_ws RX7 TX7 5).all goodWord = true) w h⟩
theorem xinX8 : ∀ w ∈ u_ws RX8 TX8 6, w ∈ lw_gt := fun w h => List.mem_filter.mpr ⟨(goodIn_r (u_ws RX8 TX8 6) [352, 354, 356, 358, 360, 362] (by decide +kernel) (by decide +kernel) w h).1, List.all_eq_true.mp (by decide +kernel : (u_ws RX8 TX8 6).all goodWord = true) w h⟩
theorem xinX9 : ∀ w ∈ u_ws RX9 TX9 14, w ∈ lw_gt := fun w h => List.mem_filter.mpr ⟨(goodIn_r (u_ws RX9 TX9 14) [296, 298, 300, 302, 304, 306, 308, 310, 312, 314, 316, 318, 320, 322] (by decide +kernel) (by decide +kernel) w h).1, List.all_eq_true.mp (by decide +kernel : (u_ws RX9 TX9 14).all goodWord = true) w h⟩
theorem xinX10 : ∀ w ∈ u_ws RX10 TX10 13, w ∈ lw_gt := fun w h => List.mem_filter.mpr ⟨(goodIn_r (u_ws RX10 TX10 13) [494, 496, 498, 500, 502, 504, 506, 508, 510, 512, 514, 516, 518] (by decide +kernel) (by decide +kernel) w h).1, List.all_eq_true.mp (by decide +kernel : (u_ws RX10 TX10 13).all goodWord = true) w h⟩
theorem xinX11 : ∀ w ∈ u_ws RX11 TX11 11, w ∈ lw_gt := fun w h => List.mem_filter.mpr ⟨(goodIn_r (u_ws RX11 TX11 11) [631, 633, 635, 637, 639, 641, 643, 645, 647, 649, 651] (by decide +kernel) (by decide +kernel) w h).1, List.all_eq_true.mp (by decide +kernel : (u_ws RX11 TX11 11).all goodWord = true) w h⟩
theorem xinX12 : ∀ w ∈ u_ws RX12 TX12 47, w ∈ lw_gt := fun w h => List.mem_filter.mpr ⟨(goodIn_r (u_ws RX12 TX12 47) [1585, 1587, 1589, 1591, 1593, 1595, 1597, 1599, 1601, 1603, 1605, 1607, 1609, 1611, 1613, 1615, 1617, 1619, 1621, 1623, 1625, 1627, 1629, 1631, 1633, 1635, 1637, 1639, 1641, 1643, 1645, 1647, 1649, 1651, 1653, 1655, 1657, 1659, 1661, 1663, 1665, 1667, 1669, 1671, 1673, 1675, 1677] (by decide +kernel) (by decide +kernel) w h).1, List.all_eq_true.mp (by decide +kernel : (u_ws RX12 TX12 47).all goodWord = true) w h⟩
def xclsP (q : vw_C) (fs : List xV) : Prop := (∀ w ∈ u_ws q.1 q.2.1 q.2.2, w ∈ lw_gt) ∧ (∀ a, a < q.2.2 → ∀ b, b < q.2.2 → a ≠ b → (q.2.1 a).2.1 ≠ (q.2.1 b).2.1) ∧ fs.length = q.2.2 ∧ ∃ ty : Nat → FieldType, (∀ k, k < q.2.2 → parseFieldDescriptor (q.2.1 k).2.2.1 = some (ty k)) ∧ ∀ k, k < q.2.2 → defaultValue (ty k) = xdv (fs.getD k (9, 9))
theorem xclX0 : ∃ fs, xdfl[0]? = some fs ∧ xclsP (RX0, TX0, 11) fs := ⟨_, rfl, xinX0, nmX0, rfl, tyX0, tyX0_ok, by decide +kernel⟩
theorem xclX1 : ∃ fs, xdfl[1]? = some fs ∧ xclsP (RX1, TX1, 10) fs := ⟨_, rfl, xinX1, nmX1, rfl, tyX1, tyX1_ok, by decide +kernel⟩
theorem xclX2 : ∃ fs, xdfl[2]? = some fs ∧ xclsP (RX2, TX2, 11) fs := ⟨_, rfl, xinX2, nmX2, rfl, tyX2, tyX2_ok, by decide +kernel⟩
theorem xclX3 : ∃ fs, xdfl[3]? = some fs ∧ xclsP (RX3, TX3, 6) fs := ⟨_, rfl, xinX3, nmX3, rfl, tyX3, tyX3_ok, by decide +kernel⟩
theorem xclX4 : ∃ fs, xdfl[4]? = some fs ∧ xclsP (RX4, TX4, 12) fs := ⟨_, rfl, xinX4, nmX4, rfl, tyX4, tyX4_ok, by decide +kernel⟩
theorem xclX5 : ∃ fs, xdfl[5]? = some fs ∧ xclsP (RX5, TX5, 4) fs := ⟨_, rfl, xinX5, nmX5, rfl, tyX5, tyX5_ok, by decide +kernel⟩
theorem xclX6 : ∃ fs, xdfl[6]? = some fs ∧ xclsP (RX6, TX6, 6) fs := ⟨_, rfl, xinX6, nmX6, rfl, tyX6, tyX6_ok, by decide +kernel⟩
theorem xclX7 : ∃ fs, xdfl[7]? = some fs ∧ xclsP (RX7, TX7, 5) fs := ⟨_, rfl, xinX7, nmX7, rfl, tyX7, tyX7_ok, by decide +kernel⟩
theorem xclX8 : ∃ fs, xdfl[8]? = some fs ∧ xclsP (RX8, TX8, 6) fs := ⟨_, rfl, xinX8, nmX8, rfl, tyX8, tyX8_ok, by decide +kernel⟩
theorem xclX9 : ∃ fs, xdfl[9]? = some fs ∧ xclsP (RX9, TX9, 14) fs := ⟨_, rfl, xinX9, nmX9, rfl, tyX9, tyX9_ok, by decide +kernel⟩
theorem xclX10 : ∃ fs, xdfl[10]? = some fs ∧ xclsP (RX10, TX10, 13) fs := ⟨_, rfl, xinX10, nmX10, rfl, tyX10, tyX10_ok, by decide +kernel⟩
theorem xclX11 : ∃ fs, xdfl[11]? = some fs ∧ xclsP (RX11, TX11, 11) fs := ⟨_, rfl, xinX11, nmX11, rfl, tyX11, tyX11_ok, by decide +kernel⟩
theorem xclX12 : ∃ fs, xdfl[12]? = some fs ∧ xclsP (RX12, TX12, 47) fs := ⟨_, rfl, xinX12, nmX12, rfl, tyX12, tyX12_ok, by decide +kernel⟩
theorem xcls_ok {k : Nat} {q : vw_C} (h : vwCl[k]? = some q) : ∃ fs, xdfl[k]? = some fs ∧ xclsP q fs := by
  match k, h with
  | 0, h => cases h; exact xclX0
  | 1, h => cases h; exact xclX1
  | 2, h => cases h; exact xclX2
  | 3, h => cases h; exact xclX3
  | 4, h => cases h; exact xclX4
  | 5, h => cases h; exact xclX5
  | 6, h => cases h; exact xclX6
  | 7, h => cases h; exact xclX7
  | 8, h => cases h; exact xclX8
  | 9, h => cases h; exact xclX9
  | 10, h => cases h; exact xclX10
  | 11, h => cases h; exact xclX11
  | 12, h => cases h; exact xclX12
  | k + 13, h => simp [vwCl] at h
theorem xcls_in {k : Nat} {q : vw_C} (h : vwCl[k]? = some q) : ∀ w ∈ u_ws q.1 q.2.1 q.2.2, w ∈ lw_gt := by
  obtain ⟨fs, -, h1, -⟩ := xcls_ok h
  exact h1
