section
def lJ6_bitCount_0f7a4 : List xL := [(3, 36, 1431655765, 0, 265), (3, 36, 858993459, 0, 266), (3, 36, 252645135, 0, 267)]
theorem kJ6_bitCount_0f7a4 : ∀ q ∈ lJ6_bitCount_0f7a4, xLq RJ6 q := List.forall_mem_cons.mpr ⟨lk_0, List.forall_mem_cons.mpr ⟨lk_1, List.forall_mem_cons.mpr ⟨lk_2, fun _ h => absurd h List.not_mem_nil⟩⟩⟩
theorem bJ6_bitCount_0f7a4_ok : ∀ b ∈ bJ6_bitCount_0f7a4, xbok RJ6 cJ6_bitCount_0f7a4 b := xbF_ok (lk := lJ6_bitCount_0f7a4) (ls := []) kJ6_bitCount_0f7a4 xno_sw (by decide +kernel)
theorem wc_0 : plainName RJ6 = true ∧ Cond.initialized RJ6 ∈ lw_gt ∧ (RJ6 ≠ "java/lang/invoke/MethodHandle" ∧ RJ6 ≠ "java/lang/invoke/VarHandle") := ⟨by decide +kernel, xtc1 21 rfl rfl, by decide +kernel, by decide +kernel⟩
set_option maxRecDepth 20000 in
theorem vJ6_bitCount_0f7a4 : xMok mJ6_bitCount_0f7a4 := ⟨⟨wc_0.1, xtc5 55 rfl rfl, wc_0.2.1, wc_0.2.2, by decide +kernel, by decide, rfl⟩, bJ6_bitCount_0f7a4_ok⟩
def lJ7_fill_53178 : List xL := []
theorem kJ7_fill_53178 : ∀ q ∈ lJ7_fill_53178, xLq RJ7 q := fun _ h => absurd h List.not_mem_nil
theorem bJ7_fill_53178_ok : ∀ b ∈ bJ7_fill_53178, xbok RJ7 cJ7_fill_53178 b := xbF_ok (lk := lJ7_fill_53178) (ls := []) kJ7_fill_53178 xno_sw (by decide +kernel)
theorem wc_1 : plainName RJ7 = true ∧ Cond.initialized RJ7 ∈ lw_gt ∧ (RJ7 ≠ "java/lang/invoke/MethodHandle" ∧ RJ7 ≠ "java/lang/invoke/VarHandle") := ⟨by decide +kernel, xtc1 20 rfl rfl, by decide +kernel, by decide +kernel⟩
set_option maxRecDepth 20000 in
theorem vJ7_fill_53178 : xMok mJ7_fill_53178 := ⟨⟨wc_1.1, xtc4 236 rfl rfl, wc_1.2.1, wc_1.2.2, by decide +kernel, by decide, rfl⟩, bJ7_fill_53178_ok⟩
def lJ7_fill_d0a16 : List xL := []
theorem kJ7_fill_d0a16 : ∀ q ∈ lJ7_fill_d0a16, xLq RJ7 q := fun _ h => absurd h List.not_mem_nil
theorem bJ7_fill_d0a16_ok : ∀ b ∈ bJ7_fill_d0a16, xbok RJ7 cJ7_fill_d0a16 b := xbF_ok (lk := lJ7_fill_d0a16) (ls := []) kJ7_fill_d0a16 xno_sw (by decide +kernel)
set_option maxRecDepth 20000 in
theorem vJ7_fill_d0a16 : xMok mJ7_fill_d0a16 := ⟨⟨wc_1.1, xtc4 150 rfl rfl, wc_1.2.1, wc_1.2.2, by decide +kernel, by decide, rfl⟩, bJ7_fill_d0a16_ok⟩
def lX0_borneBy : List xL := [(3, 1, 0, 0, 39), (3, 1, 1, 0, 50), (3, 1, 0, 1, 11), (3, 13, 285, 40, 60), (3, 1, 0, 5, 27), (3, 1, 0, 3, 20)]
theorem kX0_borneBy : ∀ q ∈ lX0_borneBy, xLq RX0 q := List.forall_mem_cons.mpr ⟨lk_3, List.forall_mem_cons.mpr ⟨lk_4, List.forall_mem_cons.mpr ⟨lk_5, List.forall_mem_cons.mpr ⟨lk_6, List.forall_mem_cons.mpr ⟨lk_7, List.forall_mem_cons.mpr ⟨lk_8, fun _ h => absurd h List.not_mem_nil⟩⟩⟩⟩⟩⟩
theorem bX0_borneBy_ok : ∀ b ∈ bX0_borneBy, xbok RX0 cX0_borneBy b := xbF_ok (lk := lX0_borneBy) (ls := []) kX0_borneBy xno_sw (by decide +kernel)
theorem wc_2 : plainName RX0 = true ∧ Cond.initialized RX0 ∈ lw_gt ∧ (RX0 ≠ "java/lang/invoke/MethodHandle" ∧ RX0 ≠ "java/lang/invoke/VarHandle") := ⟨by decide +kernel, xtc1 8 rfl rfl, by decide +kernel, by decide +kernel⟩
set_option maxRecDepth 20000 in
theorem vX0_borneBy : xMok mX0_borneBy := ⟨⟨wc_2.1, xtc4 93 rfl rfl, wc_2.2.1, wc_2.2.2, by decide +kernel, by decide, rfl⟩, bX0_borneBy_ok⟩
def lX0_breaksBehind : List xL := [(3, 1, 0, 0, 39), (3, 1, 1, 0, 50), (3, 1, 5, 3, 54), (3, 13, 16, 0, 139), (3, 1, 1, 2, 142), (3, 13, 285, 40, 60), (3, 13, 21, 0, 145), (3, 13, 10, 0, 149)]
theorem kX0_breaksBehind : ∀ q ∈ lX0_breaksBehind, xLq RX0 q := List.forall_mem_cons.mpr ⟨lk_3, List.forall_mem_cons.mpr ⟨lk_4, List.forall_mem_cons.mpr ⟨lk_9, List.forall_mem_cons.mpr ⟨lk_10, List.forall_mem_cons.mpr ⟨lk_11, List.forall_mem_cons.mpr ⟨lk_6, List.forall_mem_cons.mpr ⟨lk_12, List.forall_mem_cons.mpr ⟨lk_13, fun _ h => absurd h List.not_mem_nil⟩⟩⟩⟩⟩⟩⟩⟩
theorem bX0_breaksBehind_ok : ∀ b ∈ bX0_breaksBehind, xbok RX0 cX0_breaksBehind b := xbF_ok (lk := lX0_breaksBehind) (ls := []) kX0_breaksBehind xno_sw (by decide +kernel)
set_option maxRecDepth 20000 in
theorem vX0_breaksBehind : xMok mX0_breaksBehind := ⟨⟨wc_2.1, xtc5 238 rfl rfl, wc_2.2.1, wc_2.2.2, by decide +kernel, by decide, rfl⟩, bX0_breaksBehind_ok⟩
def lX0_canBear : List xL := [(3, 52, 1000, 0, 72), (3, 1, 0, 6, 30), (3, 75, 0, 0, 66), (3, 13, 3, 0, 80)]
theorem kX0_canBear : ∀ q ∈ lX0_canBear, xLq RX0 q := List.forall_mem_cons.mpr ⟨lk_14, List.forall_mem_cons.mpr ⟨lk_15, List.forall_mem_cons.mpr ⟨lk_16, List.forall_mem_cons.mpr ⟨lk_17, fun _ h => absurd h List.not_mem_nil⟩⟩⟩⟩
theorem bX0_canBear_ok : ∀ b ∈ bX0_canBear, xbok RX0 cX0_canBear b := xbF_ok (lk := lX0_canBear) (ls := []) kX0_canBear xno_sw (by decide +kernel)
set_option maxRecDepth 20000 in
theorem vX0_canBear : xMok mX0_canBear := ⟨⟨wc_2.1, xtc4 89 rfl rfl, wc_2.2.1, wc_2.2.2, by decide +kernel, by decide, rfl⟩, bX0_canBear_ok⟩
def lX0_commonLife : List xL := [(3, 1, 0, 0, 39), (3, 1, 1, 1, 126), (3, 1, 5, 3, 54), (3, 13, 285, 40, 60)]
theorem kX0_commonLife : ∀ q ∈ lX0_commonLife, xLq RX0 q := List.forall_mem_cons.mpr ⟨lk_3, List.forall_mem_cons.mpr ⟨lk_18, List.forall_mem_cons.mpr ⟨lk_9, List.forall_mem_cons.mpr ⟨lk_6, fun _ h => absurd h List.not_mem_nil⟩⟩⟩⟩
theorem bX0_commonLife_ok : ∀ b ∈ bX0_commonLife, xbok RX0 cX0_commonLife b := xbF_ok (lk := lX0_commonLife) (ls := []) kX0_commonLife xno_sw (by decide +kernel)
set_option maxRecDepth 20000 in
theorem vX0_commonLife : xMok mX0_commonLife := ⟨⟨wc_2.1, xtc4 162 rfl rfl, wc_2.2.1, wc_2.2.2, by decide +kernel, by decide, rfl⟩, bX0_commonLife_ok⟩
def lX0_findOrder : List xL := [(3, 1, 0, 10, 43), (3, 13, 12, 0, 92), (3, 13, 13, 0, 95), (3, 13, 20, 0, 99), (3, 13, 17, 0, 103), (3, 13, 11, 0, 47), (3, 1, 0, 9, 107), (3, 59, 0, 10, 43)]
theorem kX0_findOrder : ∀ q ∈ lX0_findOrder, xLq RX0 q := List.forall_mem_cons.mpr ⟨lk_19, List.forall_mem_cons.mpr ⟨lk_20, List.forall_mem_cons.mpr ⟨lk_21, List.forall_mem_cons.mpr ⟨lk_22, List.forall_mem_cons.mpr ⟨lk_23, List.forall_mem_cons.mpr ⟨lk_24, List.forall_mem_cons.mpr ⟨lk_25, List.forall_mem_cons.mpr ⟨lk_26, fun _ h => absurd h List.not_mem_nil⟩⟩⟩⟩⟩⟩⟩⟩
theorem bX0_findOrder_ok : ∀ b ∈ bX0_findOrder, xbok RX0 cX0_findOrder b := xbF_ok (lk := lX0_findOrder) (ls := []) kX0_findOrder xno_sw (by decide +kernel)
set_option maxRecDepth 20000 in
theorem vX0_findOrder : xMok mX0_findOrder := ⟨⟨wc_2.1, xtc4 124 rfl rfl, wc_2.2.1, wc_2.2.2, by decide +kernel, by decide, rfl⟩, bX0_findOrder_ok⟩
def lX0_forgetOrder : List xL := [(3, 59, 0, 10, 43)]
theorem kX0_forgetOrder : ∀ q ∈ lX0_forgetOrder, xLq RX0 q := List.forall_mem_cons.mpr ⟨lk_26, fun _ h => absurd h List.not_mem_nil⟩
theorem bX0_forgetOrder_ok : ∀ b ∈ bX0_forgetOrder, xbok RX0 cX0_forgetOrder b := xbF_ok (lk := lX0_forgetOrder) (ls := []) kX0_forgetOrder xno_sw (by decide +kernel)
set_option maxRecDepth 20000 in
theorem vX0_forgetOrder : xMok mX0_forgetOrder := ⟨⟨wc_2.1, xtc4 16 rfl rfl, wc_2.2.1, wc_2.2.2, by decide +kernel, by decide, rfl⟩, bX0_forgetOrder_ok⟩
def lX0_init : List xL := [(3, 25, 0, 0, 3), (3, 61, 0, 1, 11), (3, 61, 0, 2, 17), (3, 61, 0, 3, 20), (3, 61, 0, 4, 23), (3, 61, 0, 5, 27), (3, 61, 0, 6, 30), (3, 61, 0, 7, 33), (3, 61, 0, 8, 36), (3, 61, 0, 0, 39)]
theorem kX0_init : ∀ q ∈ lX0_init, xLq RX0 q := List.forall_mem_cons.mpr ⟨lk_27, List.forall_mem_cons.mpr ⟨lk_28, List.forall_mem_cons.mpr ⟨lk_29, List.forall_mem_cons.mpr ⟨lk_30, List.forall_mem_cons.mpr ⟨lk_31, List.forall_mem_cons.mpr ⟨lk_32, List.forall_mem_cons.mpr ⟨lk_33, List.forall_mem_cons.mpr ⟨lk_34, List.forall_mem_cons.mpr ⟨lk_35, List.forall_mem_cons.mpr ⟨lk_36, fun _ h => absurd h List.not_mem_nil⟩⟩⟩⟩⟩⟩⟩⟩⟩⟩
theorem bX0_init_ok : ∀ b ∈ bX0_init, xbok RX0 cX0_init b := xbF_ok (lk := lX0_init) (ls := []) kX0_init xno_sw (by decide +kernel)
set_option maxRecDepth 20000 in
theorem vX0_init : xMok mX0_init := ⟨⟨wc_2.1, xtc2 67 rfl rfl, wc_2.2.1, wc_2.2.2, by decide +kernel, by decide, rfl⟩, bX0_init_ok⟩
def lX0_isWornOut : List xL := [(3, 13, 6, 0, 129), (3, 13, 22, 0, 133), (3, 13, 15, 0, 136)]
theorem kX0_isWornOut : ∀ q ∈ lX0_isWornOut, xLq RX0 q := List.forall_mem_cons.mpr ⟨lk_37, List.forall_mem_cons.mpr ⟨lk_38, List.forall_mem_cons.mpr ⟨lk_39, fun _ h => absurd h List.not_mem_nil⟩⟩⟩
theorem bX0_isWornOut_ok : ∀ b ∈ bX0_isWornOut, xbok RX0 cX0_isWornOut b := xbF_ok (lk := lX0_isWornOut) (ls := []) kX0_isWornOut xno_sw (by decide +kernel)
set_option maxRecDepth 20000 in
theorem vX0_isWornOut : xMok mX0_isWornOut := ⟨⟨wc_2.1, xtc4 178 rfl rfl, wc_2.2.1, wc_2.2.2, by decide +kernel, by decide, rfl⟩, bX0_isWornOut_ok⟩
def lX0_lay : List xL := [(3, 1, 0, 0, 39), (3, 1, 1, 0, 50), (3, 1, 5, 3, 54), (3, 13, 285, 40, 60), (3, 1, 0, 4, 23), (3, 1, 0, 5, 27), (3, 1, 0, 1, 11), (3, 52, 2, 0, 64), (3, 1, 0, 3, 20), (3, 1, 0, 2, 17), (3, 1, 0, 6, 30), (3, 75, 0, 0, 66)]
theorem kX0_lay : ∀ q ∈ lX0_lay, xLq RX0 q := List.forall_mem_cons.mpr ⟨lk_3, List.forall_mem_cons.mpr ⟨lk_4, List.forall_mem_cons.mpr ⟨lk_9, List.forall_mem_cons.mpr ⟨lk_6, List.forall_mem_cons.mpr ⟨lk_40, List.forall_mem_cons.mpr ⟨lk_7, List.forall_mem_cons.mpr ⟨lk_5, List.forall_mem_cons.mpr ⟨lk_41, List.forall_mem_cons.mpr ⟨lk_8, List.forall_mem_cons.mpr ⟨lk_42, List.forall_mem_cons.mpr ⟨lk_15, List.forall_mem_cons.mpr ⟨lk_16, fun _ h => absurd h List.not_mem_nil⟩⟩⟩⟩⟩⟩⟩⟩⟩⟩⟩⟩
theorem bX0_lay_ok : ∀ b ∈ bX0_lay, xbok RX0 cX0_lay b := xbF_ok (lk := lX0_lay) (ls := []) kX0_lay xno_sw (by decide +kernel)
set_option maxRecDepth 20000 in
theorem vX0_lay : xMok mX0_lay := ⟨⟨wc_2.1, xtc4 49 rfl rfl, wc_2.2.1, wc_2.2.2, by decide +kernel, by decide, rfl⟩, bX0_lay_ok⟩
def lX0_layAsTold : List xL := [(3, 1, 0, 1, 11), (3, 13, 11, 0, 47)]
theorem kX0_layAsTold : ∀ q ∈ lX0_layAsTold, xLq RX0 q := List.forall_mem_cons.mpr ⟨lk_5, List.forall_mem_cons.mpr ⟨lk_24, fun _ h => absurd h List.not_mem_nil⟩⟩
theorem bX0_layAsTold_ok : ∀ b ∈ bX0_layAsTold, xbok RX0 cX0_layAsTold b := xbF_ok (lk := lX0_layAsTold) (ls := []) kX0_layAsTold xno_sw (by decide +kernel)
set_option maxRecDepth 20000 in
theorem vX0_layAsTold : xMok mX0_layAsTold := ⟨⟨wc_2.1, xtc4 45 rfl rfl, wc_2.2.1, wc_2.2.2, by decide +kernel, by decide, rfl⟩, bX0_layAsTold_ok⟩
def lX0_leastRound : List xL := [(3, 1, 0, 0, 39), (3, 1, 1, 0, 50), (3, 1, 5, 3, 54), (3, 13, 3, 0, 80), (3, 52, 1000, 0, 72), (3, 1, 0, 6, 30), (3, 75, 0, 0, 66), (3, 13, 55, 91, 74), (3, 76, 0, 0, 84), (3, 52, 10000, 0, 87), (3, 77, 0, 0, 89)]
theorem kX0_leastRound : ∀ q ∈ lX0_leastRound, xLq RX0 q := List.forall_mem_cons.mpr ⟨lk_3, List.forall_mem_cons.mpr ⟨lk_4, List.forall_mem_cons.mpr ⟨lk_9, List.forall_mem_cons.mpr ⟨lk_17, List.forall_mem_cons.mpr ⟨lk_14, List.forall_mem_cons.mpr ⟨lk_15, List.forall_mem_cons.mpr ⟨lk_16, List.forall_mem_cons.mpr ⟨lk_43, List.forall_mem_cons.mpr ⟨lk_44, List.forall_mem_cons.mpr ⟨lk_45, List.forall_mem_cons.mpr ⟨lk_46, fun _ h => absurd h List.not_mem_nil⟩⟩⟩⟩⟩⟩⟩⟩⟩⟩⟩
theorem bX0_leastRound_ok : ∀ b ∈ bX0_leastRound, xbok RX0 cX0_leastRound b := xbF_ok (lk := lX0_leastRound) (ls := []) kX0_leastRound xno_sw (by decide +kernel)
set_option maxRecDepth 20000 in
theorem vX0_leastRound : xMok mX0_leastRound := ⟨⟨wc_2.1, xtc4 101 rfl rfl, wc_2.2.1, wc_2.2.2, by decide +kernel, by decide, rfl⟩, bX0_leastRound_ok⟩
def lX0_neutralThousandths : List xL := [(3, 52, 1000, 0, 72), (3, 1, 0, 4, 23), (3, 1, 0, 3, 20), (3, 1, 0, 5, 27), (3, 13, 55, 91, 74)]
theorem kX0_neutralThousandths : ∀ q ∈ lX0_neutralThousandths, xLq RX0 q := List.forall_mem_cons.mpr ⟨lk_14, List.forall_mem_cons.mpr ⟨lk_40, List.forall_mem_cons.mpr ⟨lk_8, List.forall_mem_cons.mpr ⟨lk_7, List.forall_mem_cons.mpr ⟨lk_43, fun _ h => absurd h List.not_mem_nil⟩⟩⟩⟩⟩
theorem bX0_neutralThousandths_ok : ∀ b ∈ bX0_neutralThousandths, xbok RX0 cX0_neutralThousandths b := xbF_ok (lk := lX0_neutralThousandths) (ls := []) kX0_neutralThousandths xno_sw (by decide +kernel)
set_option maxRecDepth 20000 in
theorem vX0_neutralThousandths : xMok mX0_neutralThousandths := ⟨⟨wc_2.1, xtc4 63 rfl rfl, wc_2.2.1, wc_2.2.2, by decide +kernel, by decide, rfl⟩, bX0_neutralThousandths_ok⟩
def lX0_partLives : List xL := [(3, 1, 0, 0, 39), (3, 1, 1, 1, 126), (3, 1, 5, 3, 54), (3, 13, 285, 40, 60), (3, 1, 0, 7, 33), (3, 13, 55, 91, 74)]
theorem kX0_partLives : ∀ q ∈ lX0_partLives, xLq RX0 q := List.forall_mem_cons.mpr ⟨lk_3, List.forall_mem_cons.mpr ⟨lk_18, List.forall_mem_cons.mpr ⟨lk_9, List.forall_mem_cons.mpr ⟨lk_6, List.forall_mem_cons.mpr ⟨lk_47, List.forall_mem_cons.mpr ⟨lk_43, fun _ h => absurd h List.not_mem_nil⟩⟩⟩⟩⟩⟩
theorem bX0_partLives_ok : ∀ b ∈ bX0_partLives, xbok RX0 cX0_partLives b := xbF_ok (lk := lX0_partLives) (ls := []) kX0_partLives xno_sw (by decide +kernel)
set_option maxRecDepth 20000 in
theorem vX0_partLives : xMok mX0_partLives := ⟨⟨wc_2.1, xtc4 170 rfl rfl, wc_2.2.1, wc_2.2.2, by decide +kernel, by decide, rfl⟩, bX0_partLives_ok⟩
def lX0_restWear : List xL := [(3, 1, 0, 7, 33), (3, 13, 2, 2, 120)]
theorem kX0_restWear : ∀ q ∈ lX0_restWear, xLq RX0 q := List.forall_mem_cons.mpr ⟨lk_47, List.forall_mem_cons.mpr ⟨lk_48, fun _ h => absurd h List.not_mem_nil⟩⟩
theorem bX0_restWear_ok : ∀ b ∈ bX0_restWear, xbok RX0 cX0_restWear b := xbF_ok (lk := lX0_restWear) (ls := []) kX0_restWear xno_sw (by decide +kernel)
set_option maxRecDepth 20000 in
theorem vX0_restWear : xMok mX0_restWear := ⟨⟨wc_2.1, xtc4 147 rfl rfl, wc_2.2.1, wc_2.2.2, by decide +kernel, by decide, rfl⟩, bX0_restWear_ok⟩
def lX0_stepOrder : List xL := [(3, 1, 0, 0, 39), (3, 1, 1, 0, 50), (3, 1, 5, 3, 54), (3, 1, 0, 1, 11), (3, 13, 19, 0, 116)]
theorem kX0_stepOrder : ∀ q ∈ lX0_stepOrder, xLq RX0 q := List.forall_mem_cons.mpr ⟨lk_3, List.forall_mem_cons.mpr ⟨lk_4, List.forall_mem_cons.mpr ⟨lk_9, List.forall_mem_cons.mpr ⟨lk_5, List.forall_mem_cons.mpr ⟨lk_49, fun _ h => absurd h List.not_mem_nil⟩⟩⟩⟩⟩
theorem bX0_stepOrder_ok : ∀ b ∈ bX0_stepOrder, xbok RX0 cX0_stepOrder b := xbF_ok (lk := lX0_stepOrder) (ls := []) kX0_stepOrder xno_sw (by decide +kernel)
set_option maxRecDepth 20000 in
theorem vX0_stepOrder : xMok mX0_stepOrder := ⟨⟨wc_2.1, xtc4 135 rfl rfl, wc_2.2.1, wc_2.2.2, by decide +kernel, by decide, rfl⟩, bX0_stepOrder_ok⟩
def lX0_stretchMillionths : List xL := [(3, 52, 1000000, 0, 78), (3, 1, 0, 6, 30), (3, 1, 0, 5, 27), (3, 1, 0, 3, 20), (3, 13, 55, 91, 74)]
theorem kX0_stretchMillionths : ∀ q ∈ lX0_stretchMillionths, xLq RX0 q := List.forall_mem_cons.mpr ⟨lk_50, List.forall_mem_cons.mpr ⟨lk_15, List.forall_mem_cons.mpr ⟨lk_7, List.forall_mem_cons.mpr ⟨lk_8, List.forall_mem_cons.mpr ⟨lk_43, fun _ h => absurd h List.not_mem_nil⟩⟩⟩⟩⟩
theorem bX0_stretchMillionths_ok : ∀ b ∈ bX0_stretchMillionths, xbok RX0 cX0_stretchMillionths b := xbF_ok (lk := lX0_stretchMillionths) (ls := []) kX0_stretchMillionths xno_sw (by decide +kernel)
set_option maxRecDepth 20000 in
theorem vX0_stretchMillionths : xMok mX0_stretchMillionths := ⟨⟨wc_2.1, xtc4 80 rfl rfl, wc_2.2.1, wc_2.2.2, by decide +kernel, by decide, rfl⟩, bX0_stretchMillionths_ok⟩
def lX0_swapPlaces : List xL := [(3, 1, 0, 1, 11)]
theorem kX0_swapPlaces : ∀ q ∈ lX0_swapPlaces, xLq RX0 q := List.forall_mem_cons.mpr ⟨lk_5, fun _ h => absurd h List.not_mem_nil⟩
theorem bX0_swapPlaces_ok : ∀ b ∈ bX0_swapPlaces, xbok RX0 cX0_swapPlaces b := xbF_ok (lk := lX0_swapPlaces) (ls := []) kX0_swapPlaces xno_sw (by decide +kernel)
set_option maxRecDepth 20000 in
theorem vX0_swapPlaces : xMok mX0_swapPlaces := ⟨⟨wc_2.1, xtc4 139 rfl rfl, wc_2.2.1, wc_2.2.2, by decide +kernel, by decide, rfl⟩, bX0_swapPlaces_ok⟩
def lX0_takeOrder : List xL := [(3, 14, 0, 9, 107), (3, 1, 0, 1, 11), (3, 1, 0, 8, 36), (3, 58, 0, 0, 110)]
theorem kX0_takeOrder : ∀ q ∈ lX0_takeOrder, xLq RX0 q := List.forall_mem_cons.mpr ⟨lk_51, List.forall_mem_cons.mpr ⟨lk_5, List.forall_mem_cons.mpr ⟨lk_52, List.forall_mem_cons.mpr ⟨lk_53, fun _ h => absurd h List.not_mem_nil⟩⟩⟩⟩
theorem bX0_takeOrder_ok : ∀ b ∈ bX0_takeOrder, xbok RX0 cX0_takeOrder b := xbF_ok (lk := lX0_takeOrder) (ls := []) kX0_takeOrder xno_sw (by decide +kernel)
set_option maxRecDepth 20000 in
theorem vX0_takeOrder : xMok mX0_takeOrder := ⟨⟨wc_2.1, xtc4 130 rfl rfl, wc_2.2.1, wc_2.2.2, by decide +kernel, by decide, rfl⟩, bX0_takeOrder_ok⟩
def lX0_wear : List xL := [(3, 1, 0, 0, 39), (3, 1, 1, 1, 126), (3, 1, 5, 3, 54), (3, 13, 285, 40, 60), (3, 1, 0, 5, 27), (3, 1, 0, 3, 20), (3, 52, 1000, 0, 72), (3, 1, 0, 6, 30), (3, 75, 0, 0, 66), (3, 1, 0, 7, 33)]
theorem kX0_wear : ∀ q ∈ lX0_wear, xLq RX0 q := List.forall_mem_cons.mpr ⟨lk_3, List.forall_mem_cons.mpr ⟨lk_18, List.forall_mem_cons.mpr ⟨lk_9, List.forall_mem_cons.mpr ⟨lk_6, List.forall_mem_cons.mpr ⟨lk_7, List.forall_mem_cons.mpr ⟨lk_8, List.forall_mem_cons.mpr ⟨lk_14, List.forall_mem_cons.mpr ⟨lk_15, List.forall_mem_cons.mpr ⟨lk_16, List.forall_mem_cons.mpr ⟨lk_47, fun _ h => absurd h List.not_mem_nil⟩⟩⟩⟩⟩⟩⟩⟩⟩⟩
theorem bX0_wear_ok : ∀ b ∈ bX0_wear, xbok RX0 cX0_wear b := xbF_ok (lk := lX0_wear) (ls := []) kX0_wear xno_sw (by decide +kernel)
set_option maxRecDepth 20000 in
theorem vX0_wear : xMok mX0_wear := ⟨⟨wc_2.1, xtc4 154 rfl rfl, wc_2.2.1, wc_2.2.2, by decide +kernel, by decide, rfl⟩, bX0_wear_ok⟩
def lX0_wholeLives : List xL := [(3, 1, 0, 0, 39), (3, 1, 1, 1, 126), (3, 1, 5, 3, 54), (3, 1, 0, 7, 33), (3, 13, 285, 40, 60), (3, 13, 55, 91, 74)]
theorem kX0_wholeLives : ∀ q ∈ lX0_wholeLives, xLq RX0 q := List.forall_mem_cons.mpr ⟨lk_3, List.forall_mem_cons.mpr ⟨lk_18, List.forall_mem_cons.mpr ⟨lk_9, List.forall_mem_cons.mpr ⟨lk_47, List.forall_mem_cons.mpr ⟨lk_6, List.forall_mem_cons.mpr ⟨lk_43, fun _ h => absurd h List.not_mem_nil⟩⟩⟩⟩⟩⟩
theorem bX0_wholeLives_ok : ∀ b ∈ bX0_wholeLives, xbok RX0 cX0_wholeLives b := xbF_ok (lk := lX0_wholeLives) (ls := []) kX0_wholeLives xno_sw (by decide +kernel)
set_option maxRecDepth 20000 in
theorem vX0_wholeLives : xMok mX0_wholeLives := ⟨⟨wc_2.1, xtc4 166 rfl rfl, wc_2.2.1, wc_2.2.2, by decide +kernel, by decide, rfl⟩, bX0_wholeLives_ok⟩
def lX0_wornThousandths : List xL := [(3, 13, 6, 0, 129), (3, 52, 1000, 0, 72), (3, 13, 22, 0, 133), (3, 13, 15, 0, 136), (3, 13, 55, 91, 74)]
theorem kX0_wornThousandths : ∀ q ∈ lX0_wornThousandths, xLq RX0 q := List.forall_mem_cons.mpr ⟨lk_37, List.forall_mem_cons.mpr ⟨lk_14, List.forall_mem_cons.mpr ⟨lk_38, List.forall_mem_cons.mpr ⟨lk_39, List.forall_mem_cons.mpr ⟨lk_43, fun _ h => absurd h List.not_mem_nil⟩⟩⟩⟩⟩
theorem bX0_wornThousandths_ok : ∀ b ∈ bX0_wornThousandths, xbok RX0 cX0_wornThousandths b := xbF_ok (lk := lX0_wornThousandths) (ls := []) kX0_wornThousandths xno_sw (by decide +kernel)
set_option maxRecDepth 20000 in
theorem vX0_wornThousandths : xMok mX0_wornThousandths := ⟨⟨wc_2.1, xtc4 158 rfl rfl, wc_2.2.1, wc_2.2.2, by decide +kernel, by decide, rfl⟩, bX0_wornThousandths_ok⟩
def lX0_worstPlace : List xL := [(3, 1, 0, 0, 39), (3, 1, 1, 0, 50), (3, 1, 5, 3, 54), (3, 1, 0, 6, 30), (3, 75, 0, 0, 66), (3, 13, 3, 0, 80)]
theorem kX0_worstPlace : ∀ q ∈ lX0_worstPlace, xLq RX0 q := List.forall_mem_cons.mpr ⟨lk_3, List.forall_mem_cons.mpr ⟨lk_4, List.forall_mem_cons.mpr ⟨lk_9, List.forall_mem_cons.mpr ⟨lk_15, List.forall_mem_cons.mpr ⟨lk_16, List.forall_mem_cons.mpr ⟨lk_17, fun _ h => absurd h List.not_mem_nil⟩⟩⟩⟩⟩⟩
theorem bX0_worstPlace_ok : ∀ b ∈ bX0_worstPlace, xbok RX0 cX0_worstPlace b := xbF_ok (lk := lX0_worstPlace) (ls := []) kX0_worstPlace xno_sw (by decide +kernel)
set_option maxRecDepth 20000 in
theorem vX0_worstPlace : xMok mX0_worstPlace := ⟨⟨wc_2.1, xtc4 116 rfl rfl, wc_2.2.1, wc_2.2.2, by decide +kernel, by decide, rfl⟩, bX0_worstPlace_ok⟩
def lX10_addWay : List xL := [(3, 13, 28, 80, 100), (3, 1, 10, 7, 33), (3, 13, 32, 80, 103), (3, 1, 10, 8, 36), (3, 1, 10, 3, 20), (3, 13, 36, 82, 107), (3, 1, 10, 4, 24), (3, 1, 10, 5, 27)]
theorem kX10_addWay : ∀ q ∈ lX10_addWay, xLq RX10 q := List.forall_mem_cons.mpr ⟨lk_54, List.forall_mem_cons.mpr ⟨lk_55, List.forall_mem_cons.mpr ⟨lk_56, List.forall_mem_cons.mpr ⟨lk_57, List.forall_mem_cons.mpr ⟨lk_58, List.forall_mem_cons.mpr ⟨lk_59, List.forall_mem_cons.mpr ⟨lk_60, List.forall_mem_cons.mpr ⟨lk_61, fun _ h => absurd h List.not_mem_nil⟩⟩⟩⟩⟩⟩⟩⟩
theorem swX10_addWay_0 : xLs RX10 (44, 32, 33, 136, 0, 0) := ⟨_, rfl, 92, 1, 4, #[32, 47, 62, 77], [(1, 76), (2, 91), (3, 106), (4, 121)], rfl, rfl, by decide, by decide, by decide, by decide, rfl, by decide +kernel⟩
def sX10_addWay : List xI := [(44, 32, 33, 136, 0, 0)]
theorem zX10_addWay : ∀ e ∈ sX10_addWay, xLs RX10 e := List.forall_mem_cons.mpr ⟨swX10_addWay_0, fun _ h => absurd h List.not_mem_nil⟩
theorem bX10_addWay_ok : ∀ b ∈ bX10_addWay, xbok RX10 cX10_addWay b := xbF_ok (lk := lX10_addWay) (ls := sX10_addWay) kX10_addWay zX10_addWay (by decide +kernel)
theorem wc_3 : plainName RX10 = true ∧ Cond.initialized RX10 ∈ lw_gt ∧ (RX10 ≠ "java/lang/invoke/MethodHandle" ∧ RX10 ≠ "java/lang/invoke/VarHandle") := ⟨by decide +kernel, xtc1 9 rfl rfl, by decide +kernel, by decide +kernel⟩
set_option maxRecDepth 20000 in
theorem vX10_addWay : xMok mX10_addWay := ⟨⟨wc_3.1, xtc5 0 rfl rfl, wc_3.2.1, wc_3.2.2, by decide +kernel, by decide, rfl⟩, bX10_addWay_ok⟩
def lX10_countCut : List xL := [(3, 1, 10, 0, 42), (3, 1, 9, 4, 56), (3, 1, 1, 8, 66), (3, 1, 1, 7, 62), (3, 13, 27, 80, 118)]
theorem kX10_countCut : ∀ q ∈ lX10_countCut, xLq RX10 q := List.forall_mem_cons.mpr ⟨lk_62, List.forall_mem_cons.mpr ⟨lk_63, List.forall_mem_cons.mpr ⟨lk_64, List.forall_mem_cons.mpr ⟨lk_65, List.forall_mem_cons.mpr ⟨lk_66, fun _ h => absurd h List.not_mem_nil⟩⟩⟩⟩⟩
theorem bX10_countCut_ok : ∀ b ∈ bX10_countCut, xbok RX10 cX10_countCut b := xbF_ok (lk := lX10_countCut) (ls := []) kX10_countCut xno_sw (by decide +kernel)
set_option maxRecDepth 20000 in
theorem vX10_countCut : xMok mX10_countCut := ⟨⟨wc_3.1, xtc5 27 rfl rfl, wc_3.2.1, wc_3.2.2, by decide +kernel, by decide, rfl⟩, bX10_countCut_ok⟩
def lX10_cuts : List xL := [(3, 13, 70, 91, 83), (3, 1, 10, 1, 11), (3, 13, 32, 80, 103), (3, 1, 10, 2, 17), (3, 1, 10, 0, 42), (3, 1, 9, 4, 56), (3, 1, 1, 8, 66)]
theorem kX10_cuts : ∀ q ∈ lX10_cuts, xLq RX10 q := List.forall_mem_cons.mpr ⟨lk_67, List.forall_mem_cons.mpr ⟨lk_68, List.forall_mem_cons.mpr ⟨lk_56, List.forall_mem_cons.mpr ⟨lk_69, List.forall_mem_cons.mpr ⟨lk_62, List.forall_mem_cons.mpr ⟨lk_63, List.forall_mem_cons.mpr ⟨lk_64, fun _ h => absurd h List.not_mem_nil⟩⟩⟩⟩⟩⟩⟩
theorem swX10_cuts_0 : xLs RX10 (22, 26, 33, 135, 0, 1) := ⟨_, rfl, 113, 0, 2, #[26, 62, 96], [(0, 48), (1, 84), (2, 118)], rfl, rfl, by decide, by decide, by decide, by decide, rfl, by decide +kernel⟩
def sX10_cuts : List xI := [(22, 26, 33, 135, 0, 1)]
theorem zX10_cuts : ∀ e ∈ sX10_cuts, xLs RX10 e := List.forall_mem_cons.mpr ⟨swX10_cuts_0, fun _ h => absurd h List.not_mem_nil⟩
theorem bX10_cuts_ok : ∀ b ∈ bX10_cuts, xbok RX10 cX10_cuts b := xbF_ok (lk := lX10_cuts) (ls := sX10_cuts) kX10_cuts zX10_cuts (by decide +kernel)
set_option maxRecDepth 20000 in
theorem vX10_cuts : xMok mX10_cuts := ⟨⟨wc_3.1, xtc5 31 rfl rfl, wc_3.2.1, wc_3.2.2, by decide +kernel, by decide, rfl⟩, bX10_cuts_ok⟩
def lX10_explore : List xL := [(3, 1, 10, 8, 36), (3, 13, 1, 2, 87), (3, 14, 10, 10, 111), (3, 1, 10, 0, 42), (3, 1, 9, 4, 56), (3, 1, 1, 7, 62), (3, 1, 10, 5, 27), (3, 13, 34, 80, 114), (3, 1, 1, 8, 66), (3, 1, 10, 10, 111), (3, 1, 10, 9, 39), (3, 1, 10, 6, 30), (3, 1, 10, 7, 33), (3, 1, 10, 1, 11), (3, 1, 10, 3, 20), (3, 1, 10, 2, 17), (3, 1, 10, 4, 24)]
theorem kX10_explore : ∀ q ∈ lX10_explore, xLq RX10 q := List.forall_mem_cons.mpr ⟨lk_57, List.forall_mem_cons.mpr ⟨lk_70, List.forall_mem_cons.mpr ⟨lk_71, List.forall_mem_cons.mpr ⟨lk_62, List.forall_mem_cons.mpr ⟨lk_63, List.forall_mem_cons.mpr ⟨lk_65, List.forall_mem_cons.mpr ⟨lk_61, List.forall_mem_cons.mpr ⟨lk_72, List.forall_mem_cons.mpr ⟨lk_64, List.forall_mem_cons.mpr ⟨lk_73, List.forall_mem_cons.mpr ⟨lk_74, List.forall_mem_cons.mpr ⟨lk_75, List.forall_mem_cons.mpr ⟨lk_55, List.forall_mem_cons.mpr ⟨lk_68, List.forall_mem_cons.mpr ⟨lk_58, List.forall_mem_cons.mpr ⟨lk_69, List.forall_mem_cons.mpr ⟨lk_60, fun _ h => absurd h List.not_mem_nil⟩⟩⟩⟩⟩⟩⟩⟩⟩⟩⟩⟩⟩⟩⟩⟩⟩
theorem bX10_explore_ok : ∀ b ∈ bX10_explore, xbok RX10 cX10_explore b := xbF_ok (lk := lX10_explore) (ls := []) kX10_explore xno_sw (by decide +kernel)
set_option maxRecDepth 20000 in
theorem vX10_explore : xMok mX10_explore := ⟨⟨wc_3.1, xtc5 4 rfl rfl, wc_3.2.1, wc_3.2.2, by decide +kernel, by decide, rfl⟩, bX10_explore_ok⟩
def lX10_findWays : List xL := [(3, 1, 10, 3, 20), (3, 13, 1, 2, 87), (3, 1, 10, 4, 24), (3, 1, 10, 5, 27), (3, 1, 10, 6, 30), (3, 1, 10, 7, 33), (3, 14, 10, 11, 93), (3, 1, 10, 0, 42), (3, 1, 9, 4, 56), (3, 1, 1, 7, 62), (3, 13, 25, 80, 96), (3, 1, 10, 11, 93), (3, 13, 28, 80, 100)]
theorem kX10_findWays : ∀ q ∈ lX10_findWays, xLq RX10 q := List.forall_mem_cons.mpr ⟨lk_58, List.forall_mem_cons.mpr ⟨lk_70, List.forall_mem_cons.mpr ⟨lk_60, List.forall_mem_cons.mpr ⟨lk_61, List.forall_mem_cons.mpr ⟨lk_75, List.forall_mem_cons.mpr ⟨lk_55, List.forall_mem_cons.mpr ⟨lk_76, List.forall_mem_cons.mpr ⟨lk_62, List.forall_mem_cons.mpr ⟨lk_63, List.forall_mem_cons.mpr ⟨lk_65, List.forall_mem_cons.mpr ⟨lk_77, List.forall_mem_cons.mpr ⟨lk_78, List.forall_mem_cons.mpr ⟨lk_54, fun _ h => absurd h List.not_mem_nil⟩⟩⟩⟩⟩⟩⟩⟩⟩⟩⟩⟩⟩
theorem bX10_findWays_ok : ∀ b ∈ bX10_findWays, xbok RX10 cX10_findWays b := xbF_ok (lk := lX10_findWays) (ls := []) kX10_findWays xno_sw (by decide +kernel)
set_option maxRecDepth 20000 in
theorem vX10_findWays : xMok mX10_findWays := ⟨⟨wc_3.1, xtc4 233 rfl rfl, wc_3.2.1, wc_3.2.2, by decide +kernel, by decide, rfl⟩, bX10_findWays_ok⟩
def lX10_forget : List xL := [(3, 59, 10, 12, 46)]
theorem kX10_forget : ∀ q ∈ lX10_forget, xLq RX10 q := List.forall_mem_cons.mpr ⟨lk_79, fun _ h => absurd h List.not_mem_nil⟩
theorem bX10_forget_ok : ∀ b ∈ bX10_forget, xbok RX10 cX10_forget b := xbF_ok (lk := lX10_forget) (ls := []) kX10_forget xno_sw (by decide +kernel)
set_option maxRecDepth 20000 in
theorem vX10_forget : xMok mX10_forget := ⟨⟨wc_3.1, xtc4 20 rfl rfl, wc_3.2.1, wc_3.2.2, by decide +kernel, by decide, rfl⟩, bX10_forget_ok⟩
def lX10_init : List xL := [(3, 25, 0, 0, 3), (3, 61, 10, 1, 11), (3, 61, 10, 2, 17), (3, 61, 10, 3, 20), (3, 61, 10, 4, 24), (3, 61, 10, 5, 27), (3, 61, 10, 6, 30), (3, 61, 10, 7, 33), (3, 61, 10, 8, 36), (3, 61, 10, 9, 39), (3, 61, 10, 0, 42)]
theorem kX10_init : ∀ q ∈ lX10_init, xLq RX10 q := List.forall_mem_cons.mpr ⟨lk_80, List.forall_mem_cons.mpr ⟨lk_81, List.forall_mem_cons.mpr ⟨lk_82, List.forall_mem_cons.mpr ⟨lk_83, List.forall_mem_cons.mpr ⟨lk_84, List.forall_mem_cons.mpr ⟨lk_85, List.forall_mem_cons.mpr ⟨lk_86, List.forall_mem_cons.mpr ⟨lk_87, List.forall_mem_cons.mpr ⟨lk_88, List.forall_mem_cons.mpr ⟨lk_89, List.forall_mem_cons.mpr ⟨lk_90, fun _ h => absurd h List.not_mem_nil⟩⟩⟩⟩⟩⟩⟩⟩⟩⟩⟩
theorem bX10_init_ok : ∀ b ∈ bX10_init, xbok RX10 cX10_init b := xbF_ok (lk := lX10_init) (ls := []) kX10_init xno_sw (by decide +kernel)
set_option maxRecDepth 20000 in
theorem vX10_init : xMok mX10_init := ⟨⟨wc_3.1, xtc2 112 rfl rfl, wc_3.2.1, wc_3.2.2, by decide +kernel, by decide, rfl⟩, bX10_init_ok⟩
def lX10_isReached : List xL := [(3, 1, 10, 8, 36)]
theorem kX10_isReached : ∀ q ∈ lX10_isReached, xLq RX10 q := List.forall_mem_cons.mpr ⟨lk_57, fun _ h => absurd h List.not_mem_nil⟩
theorem bX10_isReached_ok : ∀ b ∈ bX10_isReached, xbok RX10 cX10_isReached b := xbF_ok (lk := lX10_isReached) (ls := []) kX10_isReached xno_sw (by decide +kernel)
set_option maxRecDepth 20000 in
theorem vX10_isReached : xMok mX10_isReached := ⟨⟨wc_3.1, xtc5 12 rfl rfl, wc_3.2.1, wc_3.2.2, by decide +kernel, by decide, rfl⟩, bX10_isReached_ok⟩
def lX10_layNet : List xL := [(3, 1, 10, 0, 42), (3, 1, 9, 4, 56), (3, 1, 10, 1, 11), (3, 1, 1, 7, 62), (3, 1, 1, 8, 66), (3, 1, 10, 2, 17), (3, 13, 323, 72, 69), (3, 1, 9, 5, 73), (3, 13, 285, 40, 77), (3, 13, 70, 91, 83)]
theorem kX10_layNet : ∀ q ∈ lX10_layNet, xLq RX10 q := List.forall_mem_cons.mpr ⟨lk_62, List.forall_mem_cons.mpr ⟨lk_63, List.forall_mem_cons.mpr ⟨lk_68, List.forall_mem_cons.mpr ⟨lk_65, List.forall_mem_cons.mpr ⟨lk_64, List.forall_mem_cons.mpr ⟨lk_69, List.forall_mem_cons.mpr ⟨lk_91, List.forall_mem_cons.mpr ⟨lk_92, List.forall_mem_cons.mpr ⟨lk_93, List.forall_mem_cons.mpr ⟨lk_67, fun _ h => absurd h List.not_mem_nil⟩⟩⟩⟩⟩⟩⟩⟩⟩⟩
theorem bX10_layNet_ok : ∀ b ∈ bX10_layNet, xbok RX10 cX10_layNet b := xbF_ok (lk := lX10_layNet) (ls := []) kX10_layNet xno_sw (by decide +kernel)
set_option maxRecDepth 20000 in
theorem vX10_layNet : xMok mX10_layNet := ⟨⟨wc_3.1, xtc4 226 rfl rfl, wc_3.2.1, wc_3.2.2, by decide +kernel, by decide, rfl⟩, bX10_layNet_ok⟩
def lX10_reach : List xL := [(3, 1, 10, 8, 36), (3, 1, 10, 10, 111), (3, 1, 10, 9, 39), (3, 14, 10, 10, 111)]
theorem kX10_reach : ∀ q ∈ lX10_reach, xLq RX10 q := List.forall_mem_cons.mpr ⟨lk_57, List.forall_mem_cons.mpr ⟨lk_73, List.forall_mem_cons.mpr ⟨lk_74, List.forall_mem_cons.mpr ⟨lk_71, fun _ h => absurd h List.not_mem_nil⟩⟩⟩⟩
theorem bX10_reach_ok : ∀ b ∈ bX10_reach, xbok RX10 cX10_reach b := xbF_ok (lk := lX10_reach) (ls := []) kX10_reach xno_sw (by decide +kernel)
set_option maxRecDepth 20000 in
theorem vX10_reach : xMok mX10_reach := ⟨⟨wc_3.1, xtc5 8 rfl rfl, wc_3.2.1, wc_3.2.2, by decide +kernel, by decide, rfl⟩, bX10_reach_ok⟩
def lX10_refresh : List xL := [(3, 1, 10, 12, 46), (3, 13, 33, 80, 50), (3, 13, 29, 80, 53), (3, 59, 10, 12, 46)]
theorem kX10_refresh : ∀ q ∈ lX10_refresh, xLq RX10 q := List.forall_mem_cons.mpr ⟨lk_94, List.forall_mem_cons.mpr ⟨lk_95, List.forall_mem_cons.mpr ⟨lk_96, List.forall_mem_cons.mpr ⟨lk_79, fun _ h => absurd h List.not_mem_nil⟩⟩⟩⟩
theorem bX10_refresh_ok : ∀ b ∈ bX10_refresh, xbok RX10 cX10_refresh b := xbF_ok (lk := lX10_refresh) (ls := []) kX10_refresh xno_sw (by decide +kernel)
set_option maxRecDepth 20000 in
theorem vX10_refresh : xMok mX10_refresh := ⟨⟨wc_3.1, xtc4 222 rfl rfl, wc_3.2.1, wc_3.2.2, by decide +kernel, by decide, rfl⟩, bX10_refresh_ok⟩
def lX10_turnFlow : List xL := []
theorem kX10_turnFlow : ∀ q ∈ lX10_turnFlow, xLq RX10 q := fun _ h => absurd h List.not_mem_nil
theorem bX10_turnFlow_ok : ∀ b ∈ bX10_turnFlow, xbok RX10 cX10_turnFlow b := xbF_ok (lk := lX10_turnFlow) (ls := []) kX10_turnFlow xno_sw (by decide +kernel)
set_option maxRecDepth 20000 in
theorem vX10_turnFlow : xMok mX10_turnFlow := ⟨⟨wc_3.1, xtc5 15 rfl rfl, wc_3.2.1, wc_3.2.2, by decide +kernel, by decide, rfl⟩, bX10_turnFlow_ok⟩
def lX11_again : List xL := [(3, 13, 70, 90, 238), (3, 1, 11, 1, 16), (3, 1, 11, 0, 10), (3, 13, 322, 72, 378), (3, 13, 61, 88, 103), (3, 1, 11, 8, 79), (3, 13, 272, 32, 326)]
theorem kX11_again : ∀ q ∈ lX11_again, xLq RX11 q := List.forall_mem_cons.mpr ⟨lk_97, List.forall_mem_cons.mpr ⟨lk_98, List.forall_mem_cons.mpr ⟨lk_99, List.forall_mem_cons.mpr ⟨lk_100, List.forall_mem_cons.mpr ⟨lk_101, List.forall_mem_cons.mpr ⟨lk_102, List.forall_mem_cons.mpr ⟨lk_103, fun _ h => absurd h List.not_mem_nil⟩⟩⟩⟩⟩⟩⟩
theorem bX11_again_ok : ∀ b ∈ bX11_again, xbok RX11 cX11_again b := xbF_ok (lk := lX11_again) (ls := []) kX11_again xno_sw (by decide +kernel)
theorem wc_4 : plainName RX11 = true ∧ Cond.initialized RX11 ∈ lw_gt ∧ (RX11 ≠ "java/lang/invoke/MethodHandle" ∧ RX11 ≠ "java/lang/invoke/VarHandle") := ⟨by decide +kernel, xtc1 1 rfl rfl, by decide +kernel, by decide +kernel⟩
set_option maxRecDepth 20000 in
theorem vX11_again : xMok mX11_again := ⟨⟨wc_4.1, xtc6 206 rfl rfl, wc_4.2.1, wc_4.2.2, by decide +kernel, by decide, rfl⟩, bX11_again_ok⟩
def lX11_barred : List xL := [(3, 13, 80, 88, 361), (3, 13, 72, 88, 364), (3, 1, 11, 0, 10), (3, 1, 9, 12, 367), (3, 1, 5, 3, 151), (3, 1, 11, 10, 87), (3, 13, 285, 40, 132)]
theorem kX11_barred : ∀ q ∈ lX11_barred, xLq RX11 q := List.forall_mem_cons.mpr ⟨lk_104, List.forall_mem_cons.mpr ⟨lk_105, List.forall_mem_cons.mpr ⟨lk_99, List.forall_mem_cons.mpr ⟨lk_106, List.forall_mem_cons.mpr ⟨lk_107, List.forall_mem_cons.mpr ⟨lk_108, List.forall_mem_cons.mpr ⟨lk_109, fun _ h => absurd h List.not_mem_nil⟩⟩⟩⟩⟩⟩⟩
theorem bX11_barred_ok : ∀ b ∈ bX11_barred, xbok RX11 cX11_barred b := xbF_ok (lk := lX11_barred) (ls := []) kX11_barred xno_sw (by decide +kernel)
set_option maxRecDepth 20000 in
theorem vX11_barred : xMok mX11_barred := ⟨⟨wc_4.1, xtc6 159 rfl rfl, wc_4.2.1, wc_4.2.2, by decide +kernel, by decide, rfl⟩, bX11_barred_ok⟩
def lX11_bears : List xL := [(3, 1, 11, 0, 10), (3, 1, 9, 4, 38), (3, 1, 1, 0, 112), (3, 13, 287, 40, 117), (3, 13, 71, 90, 140), (3, 1, 11, 4, 45), (3, 13, 12, 0, 123), (3, 13, 5, 0, 147)]
theorem kX11_bears : ∀ q ∈ lX11_bears, xLq RX11 q := List.forall_mem_cons.mpr ⟨lk_99, List.forall_mem_cons.mpr ⟨lk_110, List.forall_mem_cons.mpr ⟨lk_111, List.forall_mem_cons.mpr ⟨lk_112, List.forall_mem_cons.mpr ⟨lk_113, List.forall_mem_cons.mpr ⟨lk_114, List.forall_mem_cons.mpr ⟨lk_115, List.forall_mem_cons.mpr ⟨lk_116, fun _ h => absurd h List.not_mem_nil⟩⟩⟩⟩⟩⟩⟩⟩
theorem bX11_bears_ok : ∀ b ∈ bX11_bears, xbok RX11 cX11_bears b := xbF_ok (lk := lX11_bears) (ls := []) kX11_bears xno_sw (by decide +kernel)
set_option maxRecDepth 20000 in
theorem vX11_bears : xMok mX11_bears := ⟨⟨wc_4.1, xtc4 85 rfl rfl, wc_4.2.1, wc_4.2.2, by decide +kernel, by decide, rfl⟩, bX11_bears_ok⟩
def lX11_broken : List xL := [(3, 1, 11, 0, 10), (3, 1, 9, 10, 316), (3, 13, 287, 40, 117), (3, 13, 70, 90, 238), (3, 1, 11, 4, 45), (3, 13, 12, 0, 123), (3, 13, 68, 88, 319)]
theorem kX11_broken : ∀ q ∈ lX11_broken, xLq RX11 q := List.forall_mem_cons.mpr ⟨lk_99, List.forall_mem_cons.mpr ⟨lk_117, List.forall_mem_cons.mpr ⟨lk_112, List.forall_mem_cons.mpr ⟨lk_97, List.forall_mem_cons.mpr ⟨lk_114, List.forall_mem_cons.mpr ⟨lk_115, List.forall_mem_cons.mpr ⟨lk_118, fun _ h => absurd h List.not_mem_nil⟩⟩⟩⟩⟩⟩⟩
theorem bX11_broken_ok : ∀ b ∈ bX11_broken, xbok RX11 cX11_broken b := xbF_ok (lk := lX11_broken) (ls := []) kX11_broken xno_sw (by decide +kernel)
set_option maxRecDepth 20000 in
theorem vX11_broken : xMok mX11_broken := ⟨⟨wc_4.1, xtc5 229 rfl rfl, wc_4.2.1, wc_4.2.2, by decide +kernel, by decide, rfl⟩, bX11_broken_ok⟩
def lX11_brokenShare : List xL := [(3, 1, 11, 0, 10), (3, 1, 9, 10, 316), (3, 1, 5, 3, 151), (3, 13, 285, 40, 132), (3, 13, 68, 88, 319), (3, 52, 1000, 0, 394), (3, 13, 55, 90, 396)]
theorem kX11_brokenShare : ∀ q ∈ lX11_brokenShare, xLq RX11 q := List.forall_mem_cons.mpr ⟨lk_99, List.forall_mem_cons.mpr ⟨lk_117, List.forall_mem_cons.mpr ⟨lk_107, List.forall_mem_cons.mpr ⟨lk_109, List.forall_mem_cons.mpr ⟨lk_118, List.forall_mem_cons.mpr ⟨lk_119, List.forall_mem_cons.mpr ⟨lk_120, fun _ h => absurd h List.not_mem_nil⟩⟩⟩⟩⟩⟩⟩
theorem bX11_brokenShare_ok : ∀ b ∈ bX11_brokenShare, xbok RX11 cX11_brokenShare b := xbF_ok (lk := lX11_brokenShare) (ls := []) kX11_brokenShare xno_sw (by decide +kernel)
set_option maxRecDepth 20000 in
theorem vX11_brokenShare : xMok mX11_brokenShare := ⟨⟨wc_4.1, xtc6 9 rfl rfl, wc_4.2.1, wc_4.2.2, by decide +kernel, by decide, rfl⟩, bX11_brokenShare_ok⟩
def lX11_cost : List xL := [(3, 1, 11, 0, 10), (3, 1, 9, 5, 195), (3, 13, 287, 40, 117), (3, 13, 70, 90, 238), (3, 13, 290, 40, 212)]
theorem kX11_cost : ∀ q ∈ lX11_cost, xLq RX11 q := List.forall_mem_cons.mpr ⟨lk_99, List.forall_mem_cons.mpr ⟨lk_121, List.forall_mem_cons.mpr ⟨lk_112, List.forall_mem_cons.mpr ⟨lk_97, List.forall_mem_cons.mpr ⟨lk_122, fun _ h => absurd h List.not_mem_nil⟩⟩⟩⟩⟩
theorem bX11_cost_ok : ∀ b ∈ bX11_cost, xbok RX11 cX11_cost b := xbF_ok (lk := lX11_cost) (ls := []) kX11_cost xno_sw (by decide +kernel)
set_option maxRecDepth 20000 in
theorem vX11_cost : xMok mX11_cost := ⟨⟨wc_4.1, xtc5 40 rfl rfl, wc_4.2.1, wc_4.2.2, by decide +kernel, by decide, rfl⟩, bX11_cost_ok⟩
def lX11_costOf : List xL := [(3, 1, 11, 0, 10), (3, 1, 9, 5, 195), (3, 1, 5, 3, 151), (3, 13, 285, 40, 132)]
theorem kX11_costOf : ∀ q ∈ lX11_costOf, xLq RX11 q := List.forall_mem_cons.mpr ⟨lk_99, List.forall_mem_cons.mpr ⟨lk_121, List.forall_mem_cons.mpr ⟨lk_107, List.forall_mem_cons.mpr ⟨lk_109, fun _ h => absurd h List.not_mem_nil⟩⟩⟩⟩
theorem bX11_costOf_ok : ∀ b ∈ bX11_costOf, xbok RX11 cX11_costOf b := xbF_ok (lk := lX11_costOf) (ls := []) kX11_costOf xno_sw (by decide +kernel)
set_option maxRecDepth 20000 in
theorem vX11_costOf : xMok mX11_costOf := ⟨⟨wc_4.1, xtc5 52 rfl rfl, wc_4.2.1, wc_4.2.2, by decide +kernel, by decide, rfl⟩, bX11_costOf_ok⟩
def lX11_count : List xL := [(3, 1, 11, 0, 10), (3, 1, 9, 5, 195), (3, 1, 5, 3, 151), (3, 1, 9, 8, 252), (3, 1, 9, 6, 186), (3, 1, 9, 7, 189), (3, 1, 9, 9, 273), (3, 1, 9, 10, 316), (3, 1, 9, 11, 72), (3, 1, 9, 12, 367), (3, 13, 323, 72, 216), (3, 13, 46, 88, 375)]
theorem kX11_count : ∀ q ∈ lX11_count, xLq RX11 q := List.forall_mem_cons.mpr ⟨lk_99, List.forall_mem_cons.mpr ⟨lk_121, List.forall_mem_cons.mpr ⟨lk_107, List.forall_mem_cons.mpr ⟨lk_123, List.forall_mem_cons.mpr ⟨lk_124, List.forall_mem_cons.mpr ⟨lk_125, List.forall_mem_cons.mpr ⟨lk_126, List.forall_mem_cons.mpr ⟨lk_117, List.forall_mem_cons.mpr ⟨lk_127, List.forall_mem_cons.mpr ⟨lk_106, List.forall_mem_cons.mpr ⟨lk_128, List.forall_mem_cons.mpr ⟨lk_129, fun _ h => absurd h List.not_mem_nil⟩⟩⟩⟩⟩⟩⟩⟩⟩⟩⟩⟩
theorem swX11_count_0 : xLs RX11 (1, 55, 33, 143, 0, 2) := ⟨_, rfl, 142, 9, 18, #[55, 66, 77, 85, 93, 142, 101, 112, 123, 134], [(9, 56), (10, 67), (11, 78), (12, 86), (13, 94), (14, 143), (15, 102), (16, 113), (17, 124), (18, 135)], rfl, rfl, by decide, by decide, by decide, by decide, rfl, by decide +kernel⟩
def sX11_count : List xI := [(1, 55, 33, 143, 0, 2)]
theorem zX11_count : ∀ e ∈ sX11_count, xLs RX11 e := List.forall_mem_cons.mpr ⟨swX11_count_0, fun _ h => absurd h List.not_mem_nil⟩
theorem bX11_count_ok : ∀ b ∈ bX11_count, xbok RX11 cX11_count b := xbF_ok (lk := lX11_count) (ls := sX11_count) kX11_count zX11_count (by decide +kernel)
set_option maxRecDepth 20000 in
theorem vX11_count : xMok mX11_count := ⟨⟨wc_4.1, xtc6 186 rfl rfl, wc_4.2.1, wc_4.2.2, by decide +kernel, by decide, rfl⟩, bX11_count_ok⟩
def lX11_countDark : List xL := [(3, 1, 11, 0, 10), (3, 1, 9, 4, 38), (3, 1, 1, 7, 225), (3, 1, 1, 8, 255), (3, 13, 69, 88, 288)]
theorem kX11_countDark : ∀ q ∈ lX11_countDark, xLq RX11 q := List.forall_mem_cons.mpr ⟨lk_99, List.forall_mem_cons.mpr ⟨lk_110, List.forall_mem_cons.mpr ⟨lk_130, List.forall_mem_cons.mpr ⟨lk_131, List.forall_mem_cons.mpr ⟨lk_132, fun _ h => absurd h List.not_mem_nil⟩⟩⟩⟩⟩
theorem bX11_countDark_ok : ∀ b ∈ bX11_countDark, xbok RX11 cX11_countDark b := xbF_ok (lk := lX11_countDark) (ls := []) kX11_countDark xno_sw (by decide +kernel)
set_option maxRecDepth 20000 in
theorem vX11_countDark : xMok mX11_countDark := ⟨⟨wc_4.1, xtc5 138 rfl rfl, wc_4.2.1, wc_4.2.2, by decide +kernel, by decide, rfl⟩, bX11_countDark_ok⟩
def lX11_countOfFilm : List xL := [(3, 1, 11, 0, 10), (3, 1, 9, 4, 38), (3, 1, 1, 7, 225), (3, 1, 1, 8, 255), (3, 1, 1, 5, 297), (3, 1, 1, 6, 300), (3, 1, 1, 9, 412), (3, 13, 243, 8, 415), (3, 1, 5, 3, 151)]
theorem kX11_countOfFilm : ∀ q ∈ lX11_countOfFilm, xLq RX11 q := List.forall_mem_cons.mpr ⟨lk_99, List.forall_mem_cons.mpr ⟨lk_110, List.forall_mem_cons.mpr ⟨lk_130, List.forall_mem_cons.mpr ⟨lk_131, List.forall_mem_cons.mpr ⟨lk_133, List.forall_mem_cons.mpr ⟨lk_134, List.forall_mem_cons.mpr ⟨lk_135, List.forall_mem_cons.mpr ⟨lk_136, List.forall_mem_cons.mpr ⟨lk_107, fun _ h => absurd h List.not_mem_nil⟩⟩⟩⟩⟩⟩⟩⟩⟩
theorem swX11_countOfFilm_0 : xLs RX11 (9, 55, 33, 89, 0, 3) := ⟨_, rfl, 80, 5, 14, #[55, 60, 65, 70, 80, 80, 80, 80, 80, 75], [(5, 64), (6, 69), (7, 74), (8, 79), (9, 89), (10, 89), (11, 89), (12, 89), (13, 89), (14, 84)], rfl, rfl, by decide, by decide, by decide, by decide, rfl, by decide +kernel⟩
def sX11_countOfFilm : List xI := [(9, 55, 33, 89, 0, 3)]
theorem zX11_countOfFilm : ∀ e ∈ sX11_countOfFilm, xLs RX11 e := List.forall_mem_cons.mpr ⟨swX11_countOfFilm_0, fun _ h => absurd h List.not_mem_nil⟩
theorem bX11_countOfFilm_ok : ∀ b ∈ bX11_countOfFilm, xbok RX11 cX11_countOfFilm b := xbF_ok (lk := lX11_countOfFilm) (ls := sX11_countOfFilm) kX11_countOfFilm zX11_countOfFilm (by decide +kernel)
set_option maxRecDepth 20000 in
theorem vX11_countOfFilm : xMok mX11_countOfFilm := ⟨⟨wc_4.1, xtc6 190 rfl rfl, wc_4.2.1, wc_4.2.2, by decide +kernel, by decide, rfl⟩, bX11_countOfFilm_ok⟩
def lX11_crack : List xL := [(3, 1, 11, 0, 10), (3, 1, 9, 5, 195), (3, 13, 289, 40, 198), (3, 13, 63, 88, 201), (3, 13, 324, 72, 205), (3, 13, 286, 40, 209), (3, 13, 290, 40, 212), (3, 1, 9, 6, 186), (3, 1, 11, 5, 52), (3, 13, 30, 80, 192)]
theorem kX11_crack : ∀ q ∈ lX11_crack, xLq RX11 q := List.forall_mem_cons.mpr ⟨lk_99, List.forall_mem_cons.mpr ⟨lk_121, List.forall_mem_cons.mpr ⟨lk_137, List.forall_mem_cons.mpr ⟨lk_138, List.forall_mem_cons.mpr ⟨lk_139, List.forall_mem_cons.mpr ⟨lk_140, List.forall_mem_cons.mpr ⟨lk_122, List.forall_mem_cons.mpr ⟨lk_124, List.forall_mem_cons.mpr ⟨lk_141, List.forall_mem_cons.mpr ⟨lk_142, fun _ h => absurd h List.not_mem_nil⟩⟩⟩⟩⟩⟩⟩⟩⟩⟩
theorem bX11_crack_ok : ∀ b ∈ bX11_crack, xbok RX11 cX11_crack b := xbF_ok (lk := lX11_crack) (ls := []) kX11_crack xno_sw (by decide +kernel)
set_option maxRecDepth 20000 in
theorem vX11_crack : xMok mX11_crack := ⟨⟨wc_4.1, xtc4 190 rfl rfl, wc_4.2.1, wc_4.2.2, by decide +kernel, by decide, rfl⟩, bX11_crack_ok⟩
def lX11_cracks : List xL := [(3, 1, 11, 0, 10), (3, 1, 9, 4, 38), (3, 1, 1, 2, 169), (3, 1, 1, 0, 112), (3, 13, 287, 40, 117), (3, 1, 11, 4, 45), (3, 13, 12, 0, 123), (3, 13, 16, 0, 172), (3, 1, 5, 3, 151), (3, 13, 285, 40, 132), (3, 13, 21, 0, 175), (3, 13, 10, 0, 182)]
theorem kX11_cracks : ∀ q ∈ lX11_cracks, xLq RX11 q := List.forall_mem_cons.mpr ⟨lk_99, List.forall_mem_cons.mpr ⟨lk_110, List.forall_mem_cons.mpr ⟨lk_143, List.forall_mem_cons.mpr ⟨lk_111, List.forall_mem_cons.mpr ⟨lk_112, List.forall_mem_cons.mpr ⟨lk_114, List.forall_mem_cons.mpr ⟨lk_115, List.forall_mem_cons.mpr ⟨lk_144, List.forall_mem_cons.mpr ⟨lk_107, List.forall_mem_cons.mpr ⟨lk_109, List.forall_mem_cons.mpr ⟨lk_145, List.forall_mem_cons.mpr ⟨lk_146, fun _ h => absurd h List.not_mem_nil⟩⟩⟩⟩⟩⟩⟩⟩⟩⟩⟩⟩
theorem bX11_cracks_ok : ∀ b ∈ bX11_cracks, xbok RX11 cX11_cracks b := xbF_ok (lk := lX11_cracks) (ls := []) kX11_cracks xno_sw (by decide +kernel)
set_option maxRecDepth 20000 in
theorem vX11_cracks : xMok mX11_cracks := ⟨⟨wc_4.1, xtc4 174 rfl rfl, wc_4.2.1, wc_4.2.2, by decide +kernel, by decide, rfl⟩, bX11_cracks_ok⟩
def lX11_cracksToMend : List xL := [(3, 1, 11, 0, 10), (3, 13, 323, 72, 216), (3, 1, 9, 5, 195), (3, 13, 285, 40, 132)]
theorem kX11_cracksToMend : ∀ q ∈ lX11_cracksToMend, xLq RX11 q := List.forall_mem_cons.mpr ⟨lk_99, List.forall_mem_cons.mpr ⟨lk_128, List.forall_mem_cons.mpr ⟨lk_121, List.forall_mem_cons.mpr ⟨lk_109, fun _ h => absurd h List.not_mem_nil⟩⟩⟩⟩
theorem bX11_cracksToMend_ok : ∀ b ∈ bX11_cracksToMend, xbok RX11 cX11_cracksToMend b := xbF_ok (lk := lX11_cracksToMend) (ls := []) kX11_cracksToMend xno_sw (by decide +kernel)
set_option maxRecDepth 20000 in
theorem vX11_cracksToMend : xMok mX11_cracksToMend := ⟨⟨wc_4.1, xtc5 48 rfl rfl, wc_4.2.1, wc_4.2.2, by decide +kernel, by decide, rfl⟩, bX11_cracksToMend_ok⟩
def lX11_cut : List xL := [(3, 1, 11, 5, 52), (3, 13, 35, 80, 219), (3, 1, 10, 11, 222), (3, 13, 26, 80, 231)]
theorem kX11_cut : ∀ q ∈ lX11_cut, xLq RX11 q := List.forall_mem_cons.mpr ⟨lk_141, List.forall_mem_cons.mpr ⟨lk_147, List.forall_mem_cons.mpr ⟨lk_148, List.forall_mem_cons.mpr ⟨lk_149, fun _ h => absurd h List.not_mem_nil⟩⟩⟩⟩
theorem bX11_cut_ok : ∀ b ∈ bX11_cut, xbok RX11 cX11_cut b := xbF_ok (lk := lX11_cut) (ls := []) kX11_cut xno_sw (by decide +kernel)
set_option maxRecDepth 20000 in
theorem vX11_cut : xMok mX11_cut := ⟨⟨wc_4.1, xtc5 23 rfl rfl, wc_4.2.1, wc_4.2.2, by decide +kernel, by decide, rfl⟩, bX11_cut_ok⟩
def lX11_damp : List xL := [(3, 13, 64, 88, 261), (3, 1, 11, 6, 59), (3, 13, 266, 24, 279), (3, 1, 3, 2, 282)]
theorem kX11_damp : ∀ q ∈ lX11_damp, xLq RX11 q := List.forall_mem_cons.mpr ⟨lk_150, List.forall_mem_cons.mpr ⟨lk_151, List.forall_mem_cons.mpr ⟨lk_152, List.forall_mem_cons.mpr ⟨lk_153, fun _ h => absurd h List.not_mem_nil⟩⟩⟩⟩
theorem bX11_damp_ok : ∀ b ∈ bX11_damp, xbok RX11 cX11_damp b := xbF_ok (lk := lX11_damp) (ls := []) kX11_damp xno_sw (by decide +kernel)
set_option maxRecDepth 20000 in
theorem vX11_damp : xMok mX11_damp := ⟨⟨wc_4.1, xtc5 101 rfl rfl, wc_4.2.1, wc_4.2.2, by decide +kernel, by decide, rfl⟩, bX11_damp_ok⟩
def lX11_dark : List xL := [(3, 13, 64, 88, 261), (3, 13, 92, 88, 285), (3, 13, 69, 88, 288)]
theorem kX11_dark : ∀ q ∈ lX11_dark, xLq RX11 q := List.forall_mem_cons.mpr ⟨lk_150, List.forall_mem_cons.mpr ⟨lk_154, List.forall_mem_cons.mpr ⟨lk_132, fun _ h => absurd h List.not_mem_nil⟩⟩⟩
theorem bX11_dark_ok : ∀ b ∈ bX11_dark, xbok RX11 cX11_dark b := xbF_ok (lk := lX11_dark) (ls := []) kX11_dark xno_sw (by decide +kernel)
set_option maxRecDepth 20000 in
theorem vX11_dark : xMok mX11_dark := ⟨⟨wc_4.1, xtc5 118 rfl rfl, wc_4.2.1, wc_4.2.2, by decide +kernel, by decide, rfl⟩, bX11_dark_ok⟩
def lX11_darks : List xL := [(3, 13, 92, 88, 285), (3, 13, 45, 88, 291)]
theorem kX11_darks : ∀ q ∈ lX11_darks, xLq RX11 q := List.forall_mem_cons.mpr ⟨lk_154, List.forall_mem_cons.mpr ⟨lk_155, fun _ h => absurd h List.not_mem_nil⟩⟩
theorem bX11_darks_ok : ∀ b ∈ bX11_darks, xbok RX11 cX11_darks b := xbF_ok (lk := lX11_darks) (ls := []) kX11_darks xno_sw (by decide +kernel)
set_option maxRecDepth 20000 in
theorem vX11_darks : xMok mX11_darks := ⟨⟨wc_4.1, xtc5 134 rfl rfl, wc_4.2.1, wc_4.2.2, by decide +kernel, by decide, rfl⟩, bX11_darks_ok⟩
def lX11_day : List xL := [(3, 1, 11, 0, 10), (3, 1, 9, 6, 186), (3, 14, 9, 6, 186)]
theorem kX11_day : ∀ q ∈ lX11_day, xLq RX11 q := List.forall_mem_cons.mpr ⟨lk_99, List.forall_mem_cons.mpr ⟨lk_124, List.forall_mem_cons.mpr ⟨lk_156, fun _ h => absurd h List.not_mem_nil⟩⟩⟩
theorem bX11_day_ok : ∀ b ∈ bX11_day, xbok RX11 cX11_day b := xbF_ok (lk := lX11_day) (ls := []) kX11_day xno_sw (by decide +kernel)
set_option maxRecDepth 20000 in
theorem vX11_day : xMok mX11_day := ⟨⟨wc_4.1, xtc4 182 rfl rfl, wc_4.2.1, wc_4.2.2, by decide +kernel, by decide, rfl⟩, bX11_day_ok⟩
def lX11_divide : List xL := []
theorem kX11_divide : ∀ q ∈ lX11_divide, xLq RX11 q := fun _ h => absurd h List.not_mem_nil
theorem bX11_divide_ok : ∀ b ∈ bX11_divide, xbok RX11 cX11_divide b := xbF_ok (lk := lX11_divide) (ls := []) kX11_divide xno_sw (by decide +kernel)
set_option maxRecDepth 20000 in
theorem vX11_divide : xMok mX11_divide := ⟨⟨wc_4.1, xtc4 67 rfl rfl, wc_4.2.1, wc_4.2.2, by decide +kernel, by decide, rfl⟩, bX11_divide_ok⟩
def lX11_end : List xL := [(3, 1, 11, 0, 10), (3, 1, 9, 1, 91), (3, 14, 9, 1, 91)]
theorem kX11_end : ∀ q ∈ lX11_end, xLq RX11 q := List.forall_mem_cons.mpr ⟨lk_99, List.forall_mem_cons.mpr ⟨lk_157, List.forall_mem_cons.mpr ⟨lk_158, fun _ h => absurd h List.not_mem_nil⟩⟩⟩
theorem bX11_end_ok : ∀ b ∈ bX11_end, xbok RX11 cX11_end b := xbF_ok (lk := lX11_end) (ls := []) kX11_end xno_sw (by decide +kernel)
set_option maxRecDepth 20000 in
theorem vX11_end : xMok mX11_end := ⟨⟨wc_4.1, xtc3 60 rfl rfl, wc_4.2.1, wc_4.2.2, by decide +kernel, by decide, rfl⟩, bX11_end_ok⟩
def lX11_fault : List xL := [(3, 1, 11, 0, 10), (3, 1, 9, 2, 106), (3, 1, 9, 3, 109)]
theorem kX11_fault : ∀ q ∈ lX11_fault, xLq RX11 q := List.forall_mem_cons.mpr ⟨lk_99, List.forall_mem_cons.mpr ⟨lk_159, List.forall_mem_cons.mpr ⟨lk_160, fun _ h => absurd h List.not_mem_nil⟩⟩⟩
theorem swX11_fault_0 : xLs RX11 (1, 27, 34, 44, 0, 4) := ⟨_, rfl, 43, #[(0, 27), (1, 35)], [(0, 28), (1, 36)], rfl, rfl, by decide +kernel, by decide, by decide +kernel, by decide +kernel, by decide +kernel⟩
def sX11_fault : List xI := [(1, 27, 34, 44, 0, 4)]
theorem zX11_fault : ∀ e ∈ sX11_fault, xLs RX11 e := List.forall_mem_cons.mpr ⟨swX11_fault_0, fun _ h => absurd h List.not_mem_nil⟩
theorem bX11_fault_ok : ∀ b ∈ bX11_fault, xbok RX11 cX11_fault b := xbF_ok (lk := lX11_fault) (ls := sX11_fault) kX11_fault zX11_fault (by decide +kernel)
set_option maxRecDepth 20000 in
theorem vX11_fault : xMok mX11_fault := ⟨⟨wc_4.1, xtc4 36 rfl rfl, wc_4.2.1, wc_4.2.2, by decide +kernel, by decide, rfl⟩, bX11_fault_ok⟩
def lX11_fed : List xL := [(3, 1, 11, 0, 10), (3, 1, 9, 4, 38), (3, 1, 1, 7, 225), (3, 1, 11, 5, 52), (3, 13, 35, 80, 219), (3, 1, 10, 7, 228)]
theorem kX11_fed : ∀ q ∈ lX11_fed, xLq RX11 q := List.forall_mem_cons.mpr ⟨lk_99, List.forall_mem_cons.mpr ⟨lk_110, List.forall_mem_cons.mpr ⟨lk_130, List.forall_mem_cons.mpr ⟨lk_141, List.forall_mem_cons.mpr ⟨lk_147, List.forall_mem_cons.mpr ⟨lk_161, fun _ h => absurd h List.not_mem_nil⟩⟩⟩⟩⟩⟩
theorem bX11_fed_ok : ∀ b ∈ bX11_fed, xbok RX11 cX11_fed b := xbF_ok (lk := lX11_fed) (ls := []) kX11_fed xno_sw (by decide +kernel)
set_option maxRecDepth 20000 in
theorem vX11_fed : xMok mX11_fed := ⟨⟨wc_4.1, xtc5 19 rfl rfl, wc_4.2.1, wc_4.2.2, by decide +kernel, by decide, rfl⟩, bX11_fed_ok⟩
def lX11_feed : List xL := [(3, 1, 11, 0, 10), (3, 1, 9, 1, 91), (3, 13, 321, 72, 95)]
theorem kX11_feed : ∀ q ∈ lX11_feed, xLq RX11 q := List.forall_mem_cons.mpr ⟨lk_99, List.forall_mem_cons.mpr ⟨lk_157, List.forall_mem_cons.mpr ⟨lk_162, fun _ h => absurd h List.not_mem_nil⟩⟩⟩
theorem bX11_feed_ok : ∀ b ∈ bX11_feed, xbok RX11 cX11_feed b := xbF_ok (lk := lX11_feed) (ls := []) kX11_feed xno_sw (by decide +kernel)
set_option maxRecDepth 20000 in
theorem vX11_feed : xMok mX11_feed := ⟨⟨wc_4.1, xtc3 52 rfl rfl, wc_4.2.1, wc_4.2.2, by decide +kernel, by decide, rfl⟩, bX11_feed_ok⟩
def lX11_film : List xL := [(3, 1, 11, 2, 25), (3, 13, 250, 16, 99), (3, 13, 61, 88, 103)]
theorem kX11_film : ∀ q ∈ lX11_film, xLq RX11 q := List.forall_mem_cons.mpr ⟨lk_163, List.forall_mem_cons.mpr ⟨lk_164, List.forall_mem_cons.mpr ⟨lk_101, fun _ h => absurd h List.not_mem_nil⟩⟩⟩
theorem bX11_film_ok : ∀ b ∈ bX11_film, xbok RX11 cX11_film b := xbF_ok (lk := lX11_film) (ls := []) kX11_film xno_sw (by decide +kernel)
set_option maxRecDepth 20000 in
theorem vX11_film : xMok mX11_film := ⟨⟨wc_4.1, xtc3 64 rfl rfl, wc_4.2.1, wc_4.2.2, by decide +kernel, by decide, rfl⟩, bX11_film_ok⟩
def lX11_forgetFilm : List xL := [(3, 1, 11, 4, 45), (3, 13, 8, 0, 381), (3, 1, 11, 5, 52), (3, 13, 30, 80, 192), (3, 1, 11, 6, 59), (3, 13, 259, 24, 258), (3, 13, 260, 24, 276), (3, 1, 11, 7, 66), (3, 13, 300, 56, 384)]
theorem kX11_forgetFilm : ∀ q ∈ lX11_forgetFilm, xLq RX11 q := List.forall_mem_cons.mpr ⟨lk_114, List.forall_mem_cons.mpr ⟨lk_165, List.forall_mem_cons.mpr ⟨lk_141, List.forall_mem_cons.mpr ⟨lk_142, List.forall_mem_cons.mpr ⟨lk_151, List.forall_mem_cons.mpr ⟨lk_166, List.forall_mem_cons.mpr ⟨lk_167, List.forall_mem_cons.mpr ⟨lk_168, List.forall_mem_cons.mpr ⟨lk_169, fun _ h => absurd h List.not_mem_nil⟩⟩⟩⟩⟩⟩⟩⟩⟩
theorem bX11_forgetFilm_ok : ∀ b ∈ bX11_forgetFilm, xbok RX11 cX11_forgetFilm b := xbF_ok (lk := lX11_forgetFilm) (ls := []) kX11_forgetFilm xno_sw (by decide +kernel)
set_option maxRecDepth 20000 in
theorem vX11_forgetFilm : xMok mX11_forgetFilm := ⟨⟨wc_4.1, xtc4 12 rfl rfl, wc_4.2.1, wc_4.2.2, by decide +kernel, by decide, rfl⟩, bX11_forgetFilm_ok⟩
def lX11_hand : List xL := [(3, 1, 11, 0, 10), (3, 1, 9, 10, 316), (3, 13, 289, 40, 198), (3, 13, 70, 90, 238), (3, 13, 71, 90, 140), (3, 13, 286, 40, 209), (3, 13, 290, 40, 212)]
theorem kX11_hand : ∀ q ∈ lX11_hand, xLq RX11 q := List.forall_mem_cons.mpr ⟨lk_99, List.forall_mem_cons.mpr ⟨lk_117, List.forall_mem_cons.mpr ⟨lk_137, List.forall_mem_cons.mpr ⟨lk_97, List.forall_mem_cons.mpr ⟨lk_113, List.forall_mem_cons.mpr ⟨lk_140, List.forall_mem_cons.mpr ⟨lk_122, fun _ h => absurd h List.not_mem_nil⟩⟩⟩⟩⟩⟩⟩
theorem bX11_hand_ok : ∀ b ∈ bX11_hand, xbok RX11 cX11_hand b := xbF_ok (lk := lX11_hand) (ls := []) kX11_hand xno_sw (by decide +kernel)
set_option maxRecDepth 20000 in
theorem vX11_hand : xMok mX11_hand := ⟨⟨wc_4.1, xtc5 225 rfl rfl, wc_4.2.1, wc_4.2.2, by decide +kernel, by decide, rfl⟩, bX11_hand_ok⟩
def lX11_hasPart : List xL := [(3, 13, 64, 88, 261), (3, 1, 11, 0, 10), (3, 1, 9, 4, 38), (3, 1, 1, 7, 225), (3, 1, 1, 8, 255)]
theorem kX11_hasPart : ∀ q ∈ lX11_hasPart, xLq RX11 q := List.forall_mem_cons.mpr ⟨lk_150, List.forall_mem_cons.mpr ⟨lk_99, List.forall_mem_cons.mpr ⟨lk_110, List.forall_mem_cons.mpr ⟨lk_130, List.forall_mem_cons.mpr ⟨lk_131, fun _ h => absurd h List.not_mem_nil⟩⟩⟩⟩⟩
theorem bX11_hasPart_ok : ∀ b ∈ bX11_hasPart, xbok RX11 cX11_hasPart b := xbF_ok (lk := lX11_hasPart) (ls := []) kX11_hasPart xno_sw (by decide +kernel)
set_option maxRecDepth 20000 in
theorem vX11_hasPart : xMok mX11_hasPart := ⟨⟨wc_4.1, xtc4 195 rfl rfl, wc_4.2.1, wc_4.2.2, by decide +kernel, by decide, rfl⟩, bX11_hasPart_ok⟩
def lX11_hasPoint : List xL := [(3, 1, 11, 0, 10), (3, 1, 9, 4, 38), (3, 1, 1, 7, 225), (3, 1, 1, 8, 255)]
theorem kX11_hasPoint : ∀ q ∈ lX11_hasPoint, xLq RX11 q := List.forall_mem_cons.mpr ⟨lk_99, List.forall_mem_cons.mpr ⟨lk_110, List.forall_mem_cons.mpr ⟨lk_130, List.forall_mem_cons.mpr ⟨lk_131, fun _ h => absurd h List.not_mem_nil⟩⟩⟩⟩
theorem bX11_hasPoint_ok : ∀ b ∈ bX11_hasPoint, xbok RX11 cX11_hasPoint b := xbF_ok (lk := lX11_hasPoint) (ls := []) kX11_hasPoint xno_sw (by decide +kernel)
set_option maxRecDepth 20000 in
theorem vX11_hasPoint : xMok mX11_hasPoint := ⟨⟨wc_4.1, xtc4 199 rfl rfl, wc_4.2.1, wc_4.2.2, by decide +kernel, by decide, rfl⟩, bX11_hasPoint_ok⟩
def lX11_image : List xL := [(3, 13, 70, 90, 238), (3, 1, 11, 1, 16), (3, 24, 9, 0, 7), (3, 13, 325, 77, 9), (3, 1, 11, 0, 10), (3, 13, 322, 72, 378)]
theorem kX11_image : ∀ q ∈ lX11_image, xLq RX11 q := List.forall_mem_cons.mpr ⟨lk_97, List.forall_mem_cons.mpr ⟨lk_98, List.forall_mem_cons.mpr ⟨lk_170, List.forall_mem_cons.mpr ⟨lk_171, List.forall_mem_cons.mpr ⟨lk_99, List.forall_mem_cons.mpr ⟨lk_100, fun _ h => absurd h List.not_mem_nil⟩⟩⟩⟩⟩⟩
theorem bX11_image_ok : ∀ b ∈ bX11_image, xbok RX11 cX11_image b := xbF_ok (lk := lX11_image) (ls := []) kX11_image xno_sw (by decide +kernel)
set_option maxRecDepth 20000 in
theorem vX11_image : xMok mX11_image := ⟨⟨wc_4.1, xtc6 195 rfl rfl, wc_4.2.1, wc_4.2.2, by decide +kernel, by decide, rfl⟩, bX11_image_ok⟩
def lX11_inCut : List xL := [(3, 1, 11, 5, 52), (3, 13, 35, 80, 219), (3, 1, 11, 0, 10), (3, 1, 9, 4, 38), (3, 1, 1, 7, 225), (3, 13, 27, 80, 234), (3, 13, 63, 88, 201)]
theorem kX11_inCut : ∀ q ∈ lX11_inCut, xLq RX11 q := List.forall_mem_cons.mpr ⟨lk_141, List.forall_mem_cons.mpr ⟨lk_147, List.forall_mem_cons.mpr ⟨lk_99, List.forall_mem_cons.mpr ⟨lk_110, List.forall_mem_cons.mpr ⟨lk_130, List.forall_mem_cons.mpr ⟨lk_172, List.forall_mem_cons.mpr ⟨lk_138, fun _ h => absurd h List.not_mem_nil⟩⟩⟩⟩⟩⟩⟩
theorem bX11_inCut_ok : ∀ b ∈ bX11_inCut, xbok RX11 cX11_inCut b := xbF_ok (lk := lX11_inCut) (ls := []) kX11_inCut xno_sw (by decide +kernel)
set_option maxRecDepth 20000 in
theorem vX11_inCut : xMok mX11_inCut := ⟨⟨wc_4.1, xtc5 35 rfl rfl, wc_4.2.1, wc_4.2.2, by decide +kernel, by decide, rfl⟩, bX11_inCut_ok⟩
def lX11_init : List xL := [(3, 25, 0, 0, 1), (3, 24, 9, 0, 7), (3, 13, 325, 77, 9), (3, 61, 11, 0, 10), (3, 46, 0, 0, 7), (3, 61, 11, 1, 16), (3, 24, 2, 0, 20), (3, 1, 11, 0, 10), (3, 13, 246, 20, 22), (3, 61, 11, 2, 25), (3, 24, 6, 0, 29), (3, 13, 291, 52, 31), (3, 61, 11, 3, 32), (3, 24, 0, 0, 36), (3, 1, 9, 4, 38), (3, 13, 9, 4, 42), (3, 61, 11, 4, 45), (3, 24, 10, 0, 49), (3, 13, 31, 84, 51), (3, 61, 11, 5, 52), (3, 24, 3, 0, 56), (3, 13, 261, 28, 58), (3, 61, 11, 6, 59), (3, 24, 7, 0, 63), (3, 13, 302, 60, 65), (3, 61, 11, 7, 66), (3, 24, 4, 0, 70), (3, 1, 9, 11, 72), (3, 13, 273, 36, 76), (3, 61, 11, 8, 79), (3, 61, 11, 9, 83), (3, 61, 11, 10, 87)]
theorem kX11_init : ∀ q ∈ lX11_init, xLq RX11 q := List.forall_mem_cons.mpr ⟨lk_173, List.forall_mem_cons.mpr ⟨lk_170, List.forall_mem_cons.mpr ⟨lk_171, List.forall_mem_cons.mpr ⟨lk_174, List.forall_mem_cons.mpr ⟨lk_175, List.forall_mem_cons.mpr ⟨lk_176, List.forall_mem_cons.mpr ⟨lk_177, List.forall_mem_cons.mpr ⟨lk_99, List.forall_mem_cons.mpr ⟨lk_178, List.forall_mem_cons.mpr ⟨lk_179, List.forall_mem_cons.mpr ⟨lk_180, List.forall_mem_cons.mpr ⟨lk_181, List.forall_mem_cons.mpr ⟨lk_182, List.forall_mem_cons.mpr ⟨lk_183, List.forall_mem_cons.mpr ⟨lk_110, List.forall_mem_cons.mpr ⟨lk_184, List.forall_mem_cons.mpr ⟨lk_185, List.forall_mem_cons.mpr ⟨lk_186, List.forall_mem_cons.mpr ⟨lk_187, List.forall_mem_cons.mpr ⟨lk_188, List.forall_mem_cons.mpr ⟨lk_189, List.forall_mem_cons.mpr ⟨lk_190, List.forall_mem_cons.mpr ⟨lk_191, List.forall_mem_cons.mpr ⟨lk_192, List.forall_mem_cons.mpr ⟨lk_193, List.forall_mem_cons.mpr ⟨lk_194, List.forall_mem_cons.mpr ⟨lk_195, List.forall_mem_cons.mpr ⟨lk_127, List.forall_mem_cons.mpr ⟨lk_196, List.forall_mem_cons.mpr ⟨lk_197, List.forall_mem_cons.mpr ⟨lk_198, List.forall_mem_cons.mpr ⟨lk_199, fun _ h => absurd h List.not_mem_nil⟩⟩⟩⟩⟩⟩⟩⟩⟩⟩⟩⟩⟩⟩⟩⟩⟩⟩⟩⟩⟩⟩⟩⟩⟩⟩⟩⟩⟩⟩⟩⟩
theorem bX11_init_ok : ∀ b ∈ bX11_init, xbok RX11 cX11_init b := xbF_ok (lk := lX11_init) (ls := []) kX11_init xno_sw (by decide +kernel)
set_option maxRecDepth 20000 in
theorem vX11_init : xMok mX11_init := ⟨⟨wc_4.1, xtc1 26 rfl rfl, wc_4.2.1, wc_4.2.2, by decide +kernel, by decide, rfl⟩, bX11_init_ok⟩
def lX11_isBroken : List xL := [(3, 52, 365, 0, 388), (3, 1, 11, 0, 10), (3, 1, 9, 10, 316), (3, 13, 285, 40, 132), (3, 1, 11, 4, 45), (3, 13, 4, 0, 390)]
theorem kX11_isBroken : ∀ q ∈ lX11_isBroken, xLq RX11 q := List.forall_mem_cons.mpr ⟨lk_200, List.forall_mem_cons.mpr ⟨lk_99, List.forall_mem_cons.mpr ⟨lk_117, List.forall_mem_cons.mpr ⟨lk_109, List.forall_mem_cons.mpr ⟨lk_114, List.forall_mem_cons.mpr ⟨lk_201, fun _ h => absurd h List.not_mem_nil⟩⟩⟩⟩⟩⟩
theorem bX11_isBroken_ok : ∀ b ∈ bX11_isBroken, xbok RX11 cX11_isBroken b := xbF_ok (lk := lX11_isBroken) (ls := []) kX11_isBroken xno_sw (by decide +kernel)
set_option maxRecDepth 20000 in
theorem vX11_isBroken : xMok mX11_isBroken := ⟨⟨wc_4.1, xtc5 233 rfl rfl, wc_4.2.1, wc_4.2.2, by decide +kernel, by decide, rfl⟩, bX11_isBroken_ok⟩
def lX11_isDark : List xL := [(3, 1, 11, 5, 52), (3, 1, 10, 7, 228), (3, 1, 11, 6, 59), (3, 13, 263, 24, 267), (3, 13, 262, 24, 385)]
theorem kX11_isDark : ∀ q ∈ lX11_isDark, xLq RX11 q := List.forall_mem_cons.mpr ⟨lk_141, List.forall_mem_cons.mpr ⟨lk_161, List.forall_mem_cons.mpr ⟨lk_151, List.forall_mem_cons.mpr ⟨lk_202, List.forall_mem_cons.mpr ⟨lk_203, fun _ h => absurd h List.not_mem_nil⟩⟩⟩⟩⟩
theorem bX11_isDark_ok : ∀ b ∈ bX11_isDark, xbok RX11 cX11_isDark b := xbF_ok (lk := lX11_isDark) (ls := []) kX11_isDark xno_sw (by decide +kernel)
set_option maxRecDepth 20000 in
theorem vX11_isDark : xMok mX11_isDark := ⟨⟨wc_4.1, xtc5 126 rfl rfl, wc_4.2.1, wc_4.2.2, by decide +kernel, by decide, rfl⟩, bX11_isDark_ok⟩
def lX11_isIn : List xL := []
theorem kX11_isIn : ∀ q ∈ lX11_isIn, xLq RX11 q := fun _ h => absurd h List.not_mem_nil
theorem bX11_isIn_ok : ∀ b ∈ bX11_isIn, xbok RX11 cX11_isIn b := xbF_ok (lk := lX11_isIn) (ls := []) kX11_isIn xno_sw (by decide +kernel)
set_option maxRecDepth 20000 in
theorem vX11_isIn : xMok mX11_isIn := ⟨⟨wc_4.1, xtc3 211 rfl rfl, wc_4.2.1, wc_4.2.2, by decide +kernel, by decide, rfl⟩, bX11_isIn_ok⟩
def lX11_isRound : List xL := [(3, 13, 70, 90, 238)]
theorem kX11_isRound : ∀ q ∈ lX11_isRound, xLq RX11 q := List.forall_mem_cons.mpr ⟨lk_97, fun _ h => absurd h List.not_mem_nil⟩
theorem bX11_isRound_ok : ∀ b ∈ bX11_isRound, xbok RX11 cX11_isRound b := xbF_ok (lk := lX11_isRound) (ls := []) kX11_isRound xno_sw (by decide +kernel)
set_option maxRecDepth 20000 in
theorem vX11_isRound : xMok mX11_isRound := ⟨⟨wc_4.1, xtc4 74 rfl rfl, wc_4.2.1, wc_4.2.2, by decide +kernel, by decide, rfl⟩, bX11_isRound_ok⟩
def lX11_judgeLines : List xL := [(3, 1, 11, 10, 87), (3, 1, 11, 0, 10), (3, 1, 9, 13, 406), (3, 1, 5, 3, 151), (3, 13, 285, 40, 132), (3, 13, 99, 88, 409)]
theorem kX11_judgeLines : ∀ q ∈ lX11_judgeLines, xLq RX11 q := List.forall_mem_cons.mpr ⟨lk_108, List.forall_mem_cons.mpr ⟨lk_99, List.forall_mem_cons.mpr ⟨lk_204, List.forall_mem_cons.mpr ⟨lk_107, List.forall_mem_cons.mpr ⟨lk_109, List.forall_mem_cons.mpr ⟨lk_205, fun _ h => absurd h List.not_mem_nil⟩⟩⟩⟩⟩⟩
theorem bX11_judgeLines_ok : ∀ b ∈ bX11_judgeLines, xbok RX11 cX11_judgeLines b := xbF_ok (lk := lX11_judgeLines) (ls := []) kX11_judgeLines xno_sw (by decide +kernel)
set_option maxRecDepth 20000 in
theorem vX11_judgeLines : xMok mX11_judgeLines := ⟨⟨wc_4.1, xtc6 173 rfl rfl, wc_4.2.1, wc_4.2.2, by decide +kernel, by decide, rfl⟩, bX11_judgeLines_ok⟩
def lX11_kept : List xL := [(3, 1, 11, 8, 79), (3, 13, 276, 32, 327), (3, 1, 4, 4, 328)]
theorem kX11_kept : ∀ q ∈ lX11_kept, xLq RX11 q := List.forall_mem_cons.mpr ⟨lk_102, List.forall_mem_cons.mpr ⟨lk_206, List.forall_mem_cons.mpr ⟨lk_207, fun _ h => absurd h List.not_mem_nil⟩⟩⟩
theorem bX11_kept_ok : ∀ b ∈ bX11_kept, xbok RX11 cX11_kept b := xbF_ok (lk := lX11_kept) (ls := []) kX11_kept xno_sw (by decide +kernel)
set_option maxRecDepth 20000 in
theorem vX11_kept : xMok mX11_kept := ⟨⟨wc_4.1, xtc6 28 rfl rfl, wc_4.2.1, wc_4.2.2, by decide +kernel, by decide, rfl⟩, bX11_kept_ok⟩
def lX11_lasts : List xL := [(3, 13, 70, 90, 238), (3, 1, 11, 0, 10), (3, 1, 9, 8, 252), (3, 1, 5, 3, 151), (3, 1, 11, 6, 59), (3, 13, 265, 24, 264), (3, 13, 268, 24, 294)]
theorem kX11_lasts : ∀ q ∈ lX11_lasts, xLq RX11 q := List.forall_mem_cons.mpr ⟨lk_97, List.forall_mem_cons.mpr ⟨lk_99, List.forall_mem_cons.mpr ⟨lk_123, List.forall_mem_cons.mpr ⟨lk_107, List.forall_mem_cons.mpr ⟨lk_151, List.forall_mem_cons.mpr ⟨lk_208, List.forall_mem_cons.mpr ⟨lk_209, fun _ h => absurd h List.not_mem_nil⟩⟩⟩⟩⟩⟩⟩
end
section
theorem bX11_lasts_ok : ∀ b ∈ bX11_lasts, xbok RX11 cX11_lasts b := xbF_ok (lk := lX11_lasts) (ls := []) kX11_lasts xno_sw (by decide +kernel)
set_option maxRecDepth 20000 in
theorem vX11_lasts : xMok mX11_lasts := ⟨⟨wc_4.1, xtc5 142 rfl rfl, wc_4.2.1, wc_4.2.2, by decide +kernel, by decide, rfl⟩, bX11_lasts_ok⟩
def lX11_law : List xL := [(3, 1, 11, 8, 79), (3, 13, 276, 32, 327), (3, 1, 4, 4, 328), (3, 13, 274, 32, 331)]
theorem kX11_law : ∀ q ∈ lX11_law, xLq RX11 q := List.forall_mem_cons.mpr ⟨lk_102, List.forall_mem_cons.mpr ⟨lk_206, List.forall_mem_cons.mpr ⟨lk_207, List.forall_mem_cons.mpr ⟨lk_210, fun _ h => absurd h List.not_mem_nil⟩⟩⟩⟩
theorem bX11_law_ok : ∀ b ∈ bX11_law, xbok RX11 cX11_law b := xbF_ok (lk := lX11_law) (ls := []) kX11_law xno_sw (by decide +kernel)
set_option maxRecDepth 20000 in
theorem vX11_law : xMok mX11_law := ⟨⟨wc_4.1, xtc6 47 rfl rfl, wc_4.2.1, wc_4.2.2, by decide +kernel, by decide, rfl⟩, bX11_law_ok⟩
def lX11_layer : List xL := [(3, 1, 11, 0, 10), (3, 1, 9, 4, 38), (3, 1, 1, 0, 112), (3, 13, 287, 40, 117), (3, 1, 11, 4, 45), (3, 13, 12, 0, 123), (3, 1, 0, 2, 126), (3, 1, 0, 3, 129), (3, 13, 285, 40, 132)]
theorem kX11_layer : ∀ q ∈ lX11_layer, xLq RX11 q := List.forall_mem_cons.mpr ⟨lk_99, List.forall_mem_cons.mpr ⟨lk_110, List.forall_mem_cons.mpr ⟨lk_111, List.forall_mem_cons.mpr ⟨lk_112, List.forall_mem_cons.mpr ⟨lk_114, List.forall_mem_cons.mpr ⟨lk_115, List.forall_mem_cons.mpr ⟨lk_211, List.forall_mem_cons.mpr ⟨lk_212, List.forall_mem_cons.mpr ⟨lk_109, fun _ h => absurd h List.not_mem_nil⟩⟩⟩⟩⟩⟩⟩⟩⟩
theorem swX11_layer_0 : xLs RX11 (27, 25, 34, 72, 0, 5) := ⟨_, rfl, 45, #[(4, 25), (5, 35)], [(4, 52), (5, 62)], rfl, rfl, by decide +kernel, by decide, by decide +kernel, by decide +kernel, by decide +kernel⟩
def sX11_layer : List xI := [(27, 25, 34, 72, 0, 5)]
theorem zX11_layer : ∀ e ∈ sX11_layer, xLs RX11 e := List.forall_mem_cons.mpr ⟨swX11_layer_0, fun _ h => absurd h List.not_mem_nil⟩
theorem bX11_layer_ok : ∀ b ∈ bX11_layer, xbok RX11 cX11_layer b := xbF_ok (lk := lX11_layer) (ls := sX11_layer) kX11_layer zX11_layer (by decide +kernel)
set_option maxRecDepth 20000 in
theorem vX11_layer : xMok mX11_layer := ⟨⟨wc_4.1, xtc4 40 rfl rfl, wc_4.2.1, wc_4.2.2, by decide +kernel, by decide, rfl⟩, bX11_layer_ok⟩
def lX11_leads : List xL := [(3, 13, 63, 88, 201), (3, 1, 11, 0, 10), (3, 13, 324, 72, 205), (3, 13, 323, 72, 216)]
theorem kX11_leads : ∀ q ∈ lX11_leads, xLq RX11 q := List.forall_mem_cons.mpr ⟨lk_138, List.forall_mem_cons.mpr ⟨lk_99, List.forall_mem_cons.mpr ⟨lk_139, List.forall_mem_cons.mpr ⟨lk_128, fun _ h => absurd h List.not_mem_nil⟩⟩⟩⟩
theorem bX11_leads_ok : ∀ b ∈ bX11_leads, xbok RX11 cX11_leads b := xbF_ok (lk := lX11_leads) (ls := []) kX11_leads xno_sw (by decide +kernel)
set_option maxRecDepth 20000 in
theorem vX11_leads : xMok mX11_leads := ⟨⟨wc_4.1, xtc4 210 rfl rfl, wc_4.2.1, wc_4.2.2, by decide +kernel, by decide, rfl⟩, bX11_leads_ok⟩
def lX11_least : List xL := [(3, 1, 11, 0, 10), (3, 1, 9, 4, 38), (3, 1, 1, 0, 112), (3, 1, 5, 3, 151), (3, 1, 11, 4, 45), (3, 13, 12, 0, 123), (3, 13, 13, 0, 154)]
theorem kX11_least : ∀ q ∈ lX11_least, xLq RX11 q := List.forall_mem_cons.mpr ⟨lk_99, List.forall_mem_cons.mpr ⟨lk_110, List.forall_mem_cons.mpr ⟨lk_111, List.forall_mem_cons.mpr ⟨lk_107, List.forall_mem_cons.mpr ⟨lk_114, List.forall_mem_cons.mpr ⟨lk_115, List.forall_mem_cons.mpr ⟨lk_213, fun _ h => absurd h List.not_mem_nil⟩⟩⟩⟩⟩⟩⟩
theorem bX11_least_ok : ∀ b ∈ bX11_least, xbok RX11 cX11_least b := xbF_ok (lk := lX11_least) (ls := []) kX11_least xno_sw (by decide +kernel)
set_option maxRecDepth 20000 in
theorem vX11_least : xMok mX11_least := ⟨⟨wc_4.1, xtc4 97 rfl rfl, wc_4.2.1, wc_4.2.2, by decide +kernel, by decide, rfl⟩, bX11_least_ok⟩
def lX11_left : List xL := [(3, 13, 64, 88, 261), (3, 1, 11, 6, 59), (3, 13, 265, 24, 264), (3, 13, 263, 24, 267)]
theorem kX11_left : ∀ q ∈ lX11_left, xLq RX11 q := List.forall_mem_cons.mpr ⟨lk_150, List.forall_mem_cons.mpr ⟨lk_151, List.forall_mem_cons.mpr ⟨lk_208, List.forall_mem_cons.mpr ⟨lk_202, fun _ h => absurd h List.not_mem_nil⟩⟩⟩⟩
theorem bX11_left_ok : ∀ b ∈ bX11_left, xbok RX11 cX11_left b := xbF_ok (lk := lX11_left) (ls := []) kX11_left xno_sw (by decide +kernel)
set_option maxRecDepth 20000 in
theorem vX11_left : xMok mX11_left := ⟨⟨wc_4.1, xtc5 66 rfl rfl, wc_4.2.1, wc_4.2.2, by decide +kernel, by decide, rfl⟩, bX11_left_ok⟩
def lX11_measureAll : List xL := [(3, 1, 11, 5, 52), (3, 13, 35, 80, 219), (3, 1, 11, 6, 59), (3, 13, 265, 24, 264), (3, 13, 266, 24, 279), (3, 1, 11, 8, 79), (3, 13, 276, 32, 327), (3, 1, 11, 7, 66), (3, 13, 308, 56, 303), (3, 1, 11, 4, 45), (3, 13, 12, 0, 123), (3, 1, 11, 0, 10), (3, 1, 9, 4, 38), (3, 1, 11, 9, 83), (3, 13, 244, 8, 400), (3, 13, 323, 72, 216), (3, 1, 1, 0, 112), (3, 1, 5, 3, 151), (3, 13, 13, 0, 154), (3, 1, 1, 7, 225), (3, 1, 10, 11, 222), (3, 13, 45, 88, 291), (3, 1, 1, 5, 297), (3, 1, 1, 6, 300), (3, 13, 310, 56, 306), (3, 63, 0, 0, 403), (3, 1, 4, 4, 328), (3, 1, 9, 6, 186)]
theorem kX11_measureAll : ∀ q ∈ lX11_measureAll, xLq RX11 q := List.forall_mem_cons.mpr ⟨lk_141, List.forall_mem_cons.mpr ⟨lk_147, List.forall_mem_cons.mpr ⟨lk_151, List.forall_mem_cons.mpr ⟨lk_208, List.forall_mem_cons.mpr ⟨lk_152, List.forall_mem_cons.mpr ⟨lk_102, List.forall_mem_cons.mpr ⟨lk_206, List.forall_mem_cons.mpr ⟨lk_168, List.forall_mem_cons.mpr ⟨lk_214, List.forall_mem_cons.mpr ⟨lk_114, List.forall_mem_cons.mpr ⟨lk_115, List.forall_mem_cons.mpr ⟨lk_99, List.forall_mem_cons.mpr ⟨lk_110, List.forall_mem_cons.mpr ⟨lk_215, List.forall_mem_cons.mpr ⟨lk_216, List.forall_mem_cons.mpr ⟨lk_128, List.forall_mem_cons.mpr ⟨lk_111, List.forall_mem_cons.mpr ⟨lk_107, List.forall_mem_cons.mpr ⟨lk_213, List.forall_mem_cons.mpr ⟨lk_130, List.forall_mem_cons.mpr ⟨lk_148, List.forall_mem_cons.mpr ⟨lk_155, List.forall_mem_cons.mpr ⟨lk_133, List.forall_mem_cons.mpr ⟨lk_134, List.forall_mem_cons.mpr ⟨lk_217, List.forall_mem_cons.mpr ⟨lk_218, List.forall_mem_cons.mpr ⟨lk_207, List.forall_mem_cons.mpr ⟨lk_124, fun _ h => absurd h List.not_mem_nil⟩⟩⟩⟩⟩⟩⟩⟩⟩⟩⟩⟩⟩⟩⟩⟩⟩⟩⟩⟩⟩⟩⟩⟩⟩⟩⟩⟩
theorem bX11_measureAll_ok : ∀ b ∈ bX11_measureAll, xbok RX11 cX11_measureAll b := xbF_ok (lk := lX11_measureAll) (ls := []) kX11_measureAll xno_sw (by decide +kernel)
set_option maxRecDepth 20000 in
theorem vX11_measureAll : xMok mX11_measureAll := ⟨⟨wc_4.1, xtc6 163 rfl rfl, wc_4.2.1, wc_4.2.2, by decide +kernel, by decide, rfl⟩, bX11_measureAll_ok⟩
def lX11_mend : List xL := [(3, 1, 11, 0, 10), (3, 13, 323, 72, 216), (3, 13, 49, 88, 241), (3, 13, 43, 88, 244), (3, 13, 0, 2, 247)]
theorem kX11_mend : ∀ q ∈ lX11_mend, xLq RX11 q := List.forall_mem_cons.mpr ⟨lk_99, List.forall_mem_cons.mpr ⟨lk_128, List.forall_mem_cons.mpr ⟨lk_219, List.forall_mem_cons.mpr ⟨lk_220, List.forall_mem_cons.mpr ⟨lk_221, fun _ h => absurd h List.not_mem_nil⟩⟩⟩⟩⟩
theorem swX11_mend_0 : xLs RX11 (20, 28, 33, 61, 0, 6) := ⟨_, rfl, 41, 0, 2, #[28, 34, 39], [(0, 48), (1, 54), (2, 59)], rfl, rfl, by decide, by decide, by decide, by decide, rfl, by decide +kernel⟩
def sX11_mend : List xI := [(20, 28, 33, 61, 0, 6)]
theorem zX11_mend : ∀ e ∈ sX11_mend, xLs RX11 e := List.forall_mem_cons.mpr ⟨swX11_mend_0, fun _ h => absurd h List.not_mem_nil⟩
theorem bX11_mend_ok : ∀ b ∈ bX11_mend, xbok RX11 cX11_mend b := xbF_ok (lk := lX11_mend) (ls := sX11_mend) kX11_mend zX11_mend (by decide +kernel)
set_option maxRecDepth 20000 in
theorem vX11_mend : xMok mX11_mend := ⟨⟨wc_4.1, xtc5 44 rfl rfl, wc_4.2.1, wc_4.2.2, by decide +kernel, by decide, rfl⟩, bX11_mend_ok⟩
def lX11_most : List xL := [(3, 1, 11, 5, 52), (3, 13, 35, 80, 219), (3, 1, 10, 11, 222)]
theorem kX11_most : ∀ q ∈ lX11_most, xLq RX11 q := List.forall_mem_cons.mpr ⟨lk_141, List.forall_mem_cons.mpr ⟨lk_147, List.forall_mem_cons.mpr ⟨lk_148, fun _ h => absurd h List.not_mem_nil⟩⟩⟩
theorem bX11_most_ok : ∀ b ∈ bX11_most, xbok RX11 cX11_most b := xbF_ok (lk := lX11_most) (ls := []) kX11_most xno_sw (by decide +kernel)
set_option maxRecDepth 20000 in
theorem vX11_most : xMok mX11_most := ⟨⟨wc_4.1, xtc4 218 rfl rfl, wc_4.2.1, wc_4.2.2, by decide +kernel, by decide, rfl⟩, bX11_most_ok⟩
def lX11_neutral : List xL := [(3, 1, 11, 0, 10), (3, 1, 9, 4, 38), (3, 1, 1, 0, 112), (3, 13, 287, 40, 117), (3, 1, 11, 4, 45), (3, 13, 12, 0, 123), (3, 13, 14, 0, 136)]
theorem kX11_neutral : ∀ q ∈ lX11_neutral, xLq RX11 q := List.forall_mem_cons.mpr ⟨lk_99, List.forall_mem_cons.mpr ⟨lk_110, List.forall_mem_cons.mpr ⟨lk_111, List.forall_mem_cons.mpr ⟨lk_112, List.forall_mem_cons.mpr ⟨lk_114, List.forall_mem_cons.mpr ⟨lk_115, List.forall_mem_cons.mpr ⟨lk_222, fun _ h => absurd h List.not_mem_nil⟩⟩⟩⟩⟩⟩⟩
theorem bX11_neutral_ok : ∀ b ∈ bX11_neutral, xbok RX11 cX11_neutral b := xbF_ok (lk := lX11_neutral) (ls := []) kX11_neutral xno_sw (by decide +kernel)
set_option maxRecDepth 20000 in
theorem vX11_neutral : xMok mX11_neutral := ⟨⟨wc_4.1, xtc4 59 rfl rfl, wc_4.2.1, wc_4.2.2, by decide +kernel, by decide, rfl⟩, bX11_neutral_ok⟩
def lX11_next : List xL := [(3, 1, 11, 8, 79), (3, 13, 276, 32, 327), (3, 13, 277, 32, 346), (3, 1, 4, 6, 349), (3, 1, 4, 7, 352), (3, 1, 4, 8, 355)]
theorem kX11_next : ∀ q ∈ lX11_next, xLq RX11 q := List.forall_mem_cons.mpr ⟨lk_102, List.forall_mem_cons.mpr ⟨lk_206, List.forall_mem_cons.mpr ⟨lk_223, List.forall_mem_cons.mpr ⟨lk_224, List.forall_mem_cons.mpr ⟨lk_225, List.forall_mem_cons.mpr ⟨lk_226, fun _ h => absurd h List.not_mem_nil⟩⟩⟩⟩⟩⟩
theorem swX11_next_0 : xLs RX11 (15, 25, 33, 64, 0, 7) := ⟨_, rfl, 49, 0, 2, #[25, 33, 41], [(0, 40), (1, 48), (2, 56)], rfl, rfl, by decide, by decide, by decide, by decide, rfl, by decide +kernel⟩
def sX11_next : List xI := [(15, 25, 33, 64, 0, 7)]
theorem zX11_next : ∀ e ∈ sX11_next, xLs RX11 e := List.forall_mem_cons.mpr ⟨swX11_next_0, fun _ h => absurd h List.not_mem_nil⟩
theorem bX11_next_ok : ∀ b ∈ bX11_next, xbok RX11 cX11_next b := xbF_ok (lk := lX11_next) (ls := sX11_next) kX11_next zX11_next (by decide +kernel)
set_option maxRecDepth 20000 in
theorem vX11_next : xMok mX11_next := ⟨⟨wc_4.1, xtc6 87 rfl rfl, wc_4.2.1, wc_4.2.2, by decide +kernel, by decide, rfl⟩, bX11_next_ok⟩
def lX11_order : List xL := [(3, 1, 11, 0, 10), (3, 1, 9, 4, 38), (3, 1, 1, 0, 112), (3, 1, 5, 3, 151), (3, 1, 11, 4, 45), (3, 13, 7, 0, 160), (3, 1, 0, 9, 163), (3, 1, 0, 8, 166)]
theorem kX11_order : ∀ q ∈ lX11_order, xLq RX11 q := List.forall_mem_cons.mpr ⟨lk_99, List.forall_mem_cons.mpr ⟨lk_110, List.forall_mem_cons.mpr ⟨lk_111, List.forall_mem_cons.mpr ⟨lk_107, List.forall_mem_cons.mpr ⟨lk_114, List.forall_mem_cons.mpr ⟨lk_227, List.forall_mem_cons.mpr ⟨lk_228, List.forall_mem_cons.mpr ⟨lk_229, fun _ h => absurd h List.not_mem_nil⟩⟩⟩⟩⟩⟩⟩⟩
theorem bX11_order_ok : ∀ b ∈ bX11_order, xbok RX11 cX11_order b := xbF_ok (lk := lX11_order) (ls := []) kX11_order xno_sw (by decide +kernel)
set_option maxRecDepth 20000 in
theorem vX11_order : xMok mX11_order := ⟨⟨wc_4.1, xtc4 120 rfl rfl, wc_4.2.1, wc_4.2.2, by decide +kernel, by decide, rfl⟩, bX11_order_ok⟩
def lX11_panel : List xL := [(3, 1, 11, 7, 66), (3, 13, 307, 56, 310), (3, 1, 7, 2, 313), (3, 13, 285, 40, 132)]
theorem kX11_panel : ∀ q ∈ lX11_panel, xLq RX11 q := List.forall_mem_cons.mpr ⟨lk_168, List.forall_mem_cons.mpr ⟨lk_230, List.forall_mem_cons.mpr ⟨lk_231, List.forall_mem_cons.mpr ⟨lk_109, fun _ h => absurd h List.not_mem_nil⟩⟩⟩⟩
theorem bX11_panel_ok : ∀ b ∈ bX11_panel, xbok RX11 cX11_panel b := xbF_ok (lk := lX11_panel) (ls := []) kX11_panel xno_sw (by decide +kernel)
set_option maxRecDepth 20000 in
theorem vX11_panel : xMok mX11_panel := ⟨⟨wc_4.1, xtc5 221 rfl rfl, wc_4.2.1, wc_4.2.2, by decide +kernel, by decide, rfl⟩, bX11_panel_ok⟩
def lX11_panels : List xL := [(3, 1, 11, 7, 66), (3, 13, 307, 56, 310), (3, 1, 7, 2, 313), (3, 1, 5, 3, 151)]
theorem kX11_panels : ∀ q ∈ lX11_panels, xLq RX11 q := List.forall_mem_cons.mpr ⟨lk_168, List.forall_mem_cons.mpr ⟨lk_230, List.forall_mem_cons.mpr ⟨lk_231, List.forall_mem_cons.mpr ⟨lk_107, fun _ h => absurd h List.not_mem_nil⟩⟩⟩⟩
theorem bX11_panels_ok : ∀ b ∈ bX11_panels, xbok RX11 cX11_panels b := xbF_ok (lk := lX11_panels) (ls := []) kX11_panels xno_sw (by decide +kernel)
set_option maxRecDepth 20000 in
theorem vX11_panels : xMok mX11_panels := ⟨⟨wc_4.1, xtc5 201 rfl rfl, wc_4.2.1, wc_4.2.2, by decide +kernel, by decide, rfl⟩, bX11_panels_ok⟩
def lX11_picture : List xL := [(3, 1, 11, 0, 10), (3, 1, 9, 8, 252), (3, 1, 9, 4, 38), (3, 1, 1, 7, 225), (3, 1, 1, 8, 255), (3, 13, 289, 40, 198), (3, 13, 70, 90, 238), (3, 13, 286, 40, 209), (3, 13, 290, 40, 212), (3, 1, 11, 6, 59), (3, 13, 259, 24, 258), (3, 1, 5, 3, 151)]
theorem kX11_picture : ∀ q ∈ lX11_picture, xLq RX11 q := List.forall_mem_cons.mpr ⟨lk_99, List.forall_mem_cons.mpr ⟨lk_123, List.forall_mem_cons.mpr ⟨lk_110, List.forall_mem_cons.mpr ⟨lk_130, List.forall_mem_cons.mpr ⟨lk_131, List.forall_mem_cons.mpr ⟨lk_137, List.forall_mem_cons.mpr ⟨lk_97, List.forall_mem_cons.mpr ⟨lk_140, List.forall_mem_cons.mpr ⟨lk_122, List.forall_mem_cons.mpr ⟨lk_151, List.forall_mem_cons.mpr ⟨lk_166, List.forall_mem_cons.mpr ⟨lk_107, fun _ h => absurd h List.not_mem_nil⟩⟩⟩⟩⟩⟩⟩⟩⟩⟩⟩⟩
theorem bX11_picture_ok : ∀ b ∈ bX11_picture, xbok RX11 cX11_picture b := xbF_ok (lk := lX11_picture) (ls := []) kX11_picture xno_sw (by decide +kernel)
set_option maxRecDepth 20000 in
theorem vX11_picture : xMok mX11_picture := ⟨⟨wc_4.1, xtc5 62 rfl rfl, wc_4.2.1, wc_4.2.2, by decide +kernel, by decide, rfl⟩, bX11_picture_ok⟩
def lX11_price : List xL := [(3, 13, 80, 88, 361), (3, 13, 72, 88, 364), (3, 1, 11, 0, 10), (3, 1, 9, 12, 367), (3, 1, 5, 3, 151), (3, 1, 11, 10, 87), (3, 13, 285, 40, 132), (3, 62, 0, 0, 370)]
theorem kX11_price : ∀ q ∈ lX11_price, xLq RX11 q := List.forall_mem_cons.mpr ⟨lk_104, List.forall_mem_cons.mpr ⟨lk_105, List.forall_mem_cons.mpr ⟨lk_99, List.forall_mem_cons.mpr ⟨lk_106, List.forall_mem_cons.mpr ⟨lk_107, List.forall_mem_cons.mpr ⟨lk_108, List.forall_mem_cons.mpr ⟨lk_109, List.forall_mem_cons.mpr ⟨lk_232, fun _ h => absurd h List.not_mem_nil⟩⟩⟩⟩⟩⟩⟩⟩
theorem bX11_price_ok : ∀ b ∈ bX11_price, xbok RX11 cX11_price b := xbF_ok (lk := lX11_price) (ls := []) kX11_price xno_sw (by decide +kernel)
set_option maxRecDepth 20000 in
theorem vX11_price : xMok mX11_price := ⟨⟨wc_4.1, xtc6 181 rfl rfl, wc_4.2.1, wc_4.2.2, by decide +kernel, by decide, rfl⟩, bX11_price_ok⟩
def lX11_promise : List xL := [(3, 13, 70, 90, 238), (3, 1, 11, 4, 45), (3, 13, 12, 0, 123), (3, 13, 41, 88, 322)]
theorem kX11_promise : ∀ q ∈ lX11_promise, xLq RX11 q := List.forall_mem_cons.mpr ⟨lk_97, List.forall_mem_cons.mpr ⟨lk_114, List.forall_mem_cons.mpr ⟨lk_115, List.forall_mem_cons.mpr ⟨lk_233, fun _ h => absurd h List.not_mem_nil⟩⟩⟩⟩
theorem bX11_promise_ok : ∀ b ∈ bX11_promise, xbok RX11 cX11_promise b := xbF_ok (lk := lX11_promise) (ls := []) kX11_promise xno_sw (by decide +kernel)
set_option maxRecDepth 20000 in
theorem vX11_promise : xMok mX11_promise := ⟨⟨wc_4.1, xtc6 15 rfl rfl, wc_4.2.1, wc_4.2.2, by decide +kernel, by decide, rfl⟩, bX11_promise_ok⟩
def lX11_quarrel : List xL := [(3, 1, 11, 8, 79), (3, 13, 276, 32, 327), (3, 1, 4, 4, 328), (3, 13, 278, 32, 340), (3, 13, 275, 32, 343)]
theorem kX11_quarrel : ∀ q ∈ lX11_quarrel, xLq RX11 q := List.forall_mem_cons.mpr ⟨lk_102, List.forall_mem_cons.mpr ⟨lk_206, List.forall_mem_cons.mpr ⟨lk_207, List.forall_mem_cons.mpr ⟨lk_234, List.forall_mem_cons.mpr ⟨lk_235, fun _ h => absurd h List.not_mem_nil⟩⟩⟩⟩⟩
theorem bX11_quarrel_ok : ∀ b ∈ bX11_quarrel, xbok RX11 cX11_quarrel b := xbF_ok (lk := lX11_quarrel) (ls := []) kX11_quarrel xno_sw (by decide +kernel)
set_option maxRecDepth 20000 in
theorem vX11_quarrel : xMok mX11_quarrel := ⟨⟨wc_4.1, xtc6 70 rfl rfl, wc_4.2.1, wc_4.2.2, by decide +kernel, by decide, rfl⟩, bX11_quarrel_ok⟩
def lX11_refreshLamps : List xL := [(3, 1, 11, 5, 52), (3, 13, 35, 80, 219), (3, 1, 11, 6, 59), (3, 13, 265, 24, 264), (3, 13, 266, 24, 279)]
theorem kX11_refreshLamps : ∀ q ∈ lX11_refreshLamps, xLq RX11 q := List.forall_mem_cons.mpr ⟨lk_141, List.forall_mem_cons.mpr ⟨lk_147, List.forall_mem_cons.mpr ⟨lk_151, List.forall_mem_cons.mpr ⟨lk_208, List.forall_mem_cons.mpr ⟨lk_152, fun _ h => absurd h List.not_mem_nil⟩⟩⟩⟩⟩
theorem bX11_refreshLamps_ok : ∀ b ∈ bX11_refreshLamps, xbok RX11 cX11_refreshLamps b := xbF_ok (lk := lX11_refreshLamps) (ls := []) kX11_refreshLamps xno_sw (by decide +kernel)
set_option maxRecDepth 20000 in
theorem vX11_refreshLamps : xMok mX11_refreshLamps := ⟨⟨wc_4.1, xtc5 122 rfl rfl, wc_4.2.1, wc_4.2.2, by decide +kernel, by decide, rfl⟩, bX11_refreshLamps_ok⟩
def lX11_rules : List xL := [(3, 1, 11, 3, 32), (3, 13, 295, 48, 358)]
theorem kX11_rules : ∀ q ∈ lX11_rules, xLq RX11 q := List.forall_mem_cons.mpr ⟨lk_236, List.forall_mem_cons.mpr ⟨lk_237, fun _ h => absurd h List.not_mem_nil⟩⟩
theorem bX11_rules_ok : ∀ b ∈ bX11_rules, xbok RX11 cX11_rules b := xbF_ok (lk := lX11_rules) (ls := []) kX11_rules xno_sw (by decide +kernel)
set_option maxRecDepth 20000 in
theorem vX11_rules : xMok mX11_rules := ⟨⟨wc_4.1, xtc6 100 rfl rfl, wc_4.2.1, wc_4.2.2, by decide +kernel, by decide, rfl⟩, bX11_rules_ok⟩
def lX11_share : List xL := [(3, 13, 70, 90, 238), (3, 1, 11, 4, 45), (3, 13, 12, 0, 123), (3, 13, 41, 88, 322)]
theorem kX11_share : ∀ q ∈ lX11_share, xLq RX11 q := List.forall_mem_cons.mpr ⟨lk_97, List.forall_mem_cons.mpr ⟨lk_114, List.forall_mem_cons.mpr ⟨lk_115, List.forall_mem_cons.mpr ⟨lk_233, fun _ h => absurd h List.not_mem_nil⟩⟩⟩⟩
theorem bX11_share_ok : ∀ b ∈ bX11_share, xbok RX11 cX11_share b := xbF_ok (lk := lX11_share) (ls := []) kX11_share xno_sw (by decide +kernel)
set_option maxRecDepth 20000 in
theorem vX11_share : xMok mX11_share := ⟨⟨wc_4.1, xtc6 5 rfl rfl, wc_4.2.1, wc_4.2.2, by decide +kernel, by decide, rfl⟩, bX11_share_ok⟩
def lX11_shift : List xL := [(3, 1, 11, 0, 10), (3, 1, 9, 8, 252), (3, 1, 5, 3, 151), (3, 1, 11, 6, 59), (3, 13, 265, 24, 264), (3, 13, 268, 24, 294)]
theorem kX11_shift : ∀ q ∈ lX11_shift, xLq RX11 q := List.forall_mem_cons.mpr ⟨lk_99, List.forall_mem_cons.mpr ⟨lk_123, List.forall_mem_cons.mpr ⟨lk_107, List.forall_mem_cons.mpr ⟨lk_151, List.forall_mem_cons.mpr ⟨lk_208, List.forall_mem_cons.mpr ⟨lk_209, fun _ h => absurd h List.not_mem_nil⟩⟩⟩⟩⟩⟩
theorem bX11_shift_ok : ∀ b ∈ bX11_shift, xbok RX11 cX11_shift b := xbF_ok (lk := lX11_shift) (ls := []) kX11_shift xno_sw (by decide +kernel)
set_option maxRecDepth 20000 in
theorem vX11_shift : xMok mX11_shift := ⟨⟨wc_4.1, xtc5 158 rfl rfl, wc_4.2.1, wc_4.2.2, by decide +kernel, by decide, rfl⟩, bX11_shift_ok⟩
def lX11_span : List xL := [(3, 1, 11, 8, 79), (3, 13, 276, 32, 327), (3, 13, 70, 90, 238), (3, 1, 4, 4, 328), (3, 13, 279, 32, 334), (3, 13, 280, 32, 337)]
theorem kX11_span : ∀ q ∈ lX11_span, xLq RX11 q := List.forall_mem_cons.mpr ⟨lk_102, List.forall_mem_cons.mpr ⟨lk_206, List.forall_mem_cons.mpr ⟨lk_97, List.forall_mem_cons.mpr ⟨lk_207, List.forall_mem_cons.mpr ⟨lk_238, List.forall_mem_cons.mpr ⟨lk_239, fun _ h => absurd h List.not_mem_nil⟩⟩⟩⟩⟩⟩
theorem bX11_span_ok : ∀ b ∈ bX11_span, xbok RX11 cX11_span b := xbF_ok (lk := lX11_span) (ls := []) kX11_span xno_sw (by decide +kernel)
set_option maxRecDepth 20000 in
theorem vX11_span : xMok mX11_span := ⟨⟨wc_4.1, xtc6 55 rfl rfl, wc_4.2.1, wc_4.2.2, by decide +kernel, by decide, rfl⟩, bX11_span_ok⟩
def lX11_stretch : List xL := [(3, 1, 11, 0, 10), (3, 1, 9, 4, 38), (3, 1, 1, 0, 112), (3, 13, 287, 40, 117), (3, 13, 71, 90, 140), (2, 35, 2294967296, 0, 143), (3, 1, 11, 4, 45), (3, 13, 12, 0, 123), (3, 13, 18, 0, 144)]
theorem kX11_stretch : ∀ q ∈ lX11_stretch, xLq RX11 q := List.forall_mem_cons.mpr ⟨lk_99, List.forall_mem_cons.mpr ⟨lk_110, List.forall_mem_cons.mpr ⟨lk_111, List.forall_mem_cons.mpr ⟨lk_112, List.forall_mem_cons.mpr ⟨lk_113, List.forall_mem_cons.mpr ⟨lk_240, List.forall_mem_cons.mpr ⟨lk_114, List.forall_mem_cons.mpr ⟨lk_115, List.forall_mem_cons.mpr ⟨lk_241, fun _ h => absurd h List.not_mem_nil⟩⟩⟩⟩⟩⟩⟩⟩⟩
theorem bX11_stretch_ok : ∀ b ∈ bX11_stretch, xbok RX11 cX11_stretch b := xbF_ok (lk := lX11_stretch) (ls := []) kX11_stretch xno_sw (by decide +kernel)
set_option maxRecDepth 20000 in
theorem vX11_stretch : xMok mX11_stretch := ⟨⟨wc_4.1, xtc4 71 rfl rfl, wc_4.2.1, wc_4.2.2, by decide +kernel, by decide, rfl⟩, bX11_stretch_ok⟩
def lX11_test : List xL := [(3, 1, 11, 0, 10), (3, 1, 9, 11, 72), (3, 13, 70, 90, 238), (3, 36, 999999, 0, 325), (3, 13, 289, 40, 198), (3, 13, 286, 40, 209), (3, 13, 290, 40, 212), (3, 1, 11, 8, 79), (3, 13, 272, 32, 326)]
theorem kX11_test : ∀ q ∈ lX11_test, xLq RX11 q := List.forall_mem_cons.mpr ⟨lk_99, List.forall_mem_cons.mpr ⟨lk_127, List.forall_mem_cons.mpr ⟨lk_97, List.forall_mem_cons.mpr ⟨lk_242, List.forall_mem_cons.mpr ⟨lk_137, List.forall_mem_cons.mpr ⟨lk_140, List.forall_mem_cons.mpr ⟨lk_122, List.forall_mem_cons.mpr ⟨lk_102, List.forall_mem_cons.mpr ⟨lk_103, fun _ h => absurd h List.not_mem_nil⟩⟩⟩⟩⟩⟩⟩⟩⟩
theorem bX11_test_ok : ∀ b ∈ bX11_test, xbok RX11 cX11_test b := xbF_ok (lk := lX11_test) (ls := []) kX11_test xno_sw (by decide +kernel)
set_option maxRecDepth 20000 in
theorem vX11_test : xMok mX11_test := ⟨⟨wc_4.1, xtc6 19 rfl rfl, wc_4.2.1, wc_4.2.2, by decide +kernel, by decide, rfl⟩, bX11_test_ok⟩
def lX11_testHolds : List xL := [(3, 1, 11, 0, 10), (3, 1, 9, 13, 406), (3, 13, 285, 40, 132), (3, 1, 11, 9, 83)]
theorem kX11_testHolds : ∀ q ∈ lX11_testHolds, xLq RX11 q := List.forall_mem_cons.mpr ⟨lk_99, List.forall_mem_cons.mpr ⟨lk_204, List.forall_mem_cons.mpr ⟨lk_109, List.forall_mem_cons.mpr ⟨lk_215, fun _ h => absurd h List.not_mem_nil⟩⟩⟩⟩
theorem swX11_testHolds_0 : xLs RX11 (53, 27, 34, 120, 0, 8) := ⟨_, rfl, 67, #[(60, 27), (62, 47)], [(60, 80), (62, 100)], rfl, rfl, by decide +kernel, by decide, by decide +kernel, by decide +kernel, by decide +kernel⟩
def sX11_testHolds : List xI := [(53, 27, 34, 120, 0, 8)]
theorem zX11_testHolds : ∀ e ∈ sX11_testHolds, xLs RX11 e := List.forall_mem_cons.mpr ⟨swX11_testHolds_0, fun _ h => absurd h List.not_mem_nil⟩
theorem bX11_testHolds_ok : ∀ b ∈ bX11_testHolds, xbok RX11 cX11_testHolds b := xbF_ok (lk := lX11_testHolds) (ls := sX11_testHolds) kX11_testHolds zX11_testHolds (by decide +kernel)
set_option maxRecDepth 20000 in
theorem vX11_testHolds : xMok mX11_testHolds := ⟨⟨wc_4.1, xtc6 177 rfl rfl, wc_4.2.1, wc_4.2.2, by decide +kernel, by decide, rfl⟩, bX11_testHolds_ok⟩
def lX11_tired : List xL := [(3, 1, 11, 0, 10), (3, 1, 9, 4, 38), (3, 1, 1, 2, 169), (3, 1, 1, 0, 112), (3, 13, 287, 40, 117), (3, 1, 5, 3, 151), (3, 1, 11, 4, 45), (3, 13, 12, 0, 123), (3, 13, 16, 0, 172), (3, 13, 285, 40, 132), (3, 13, 21, 0, 175), (3, 13, 23, 0, 179)]
theorem kX11_tired : ∀ q ∈ lX11_tired, xLq RX11 q := List.forall_mem_cons.mpr ⟨lk_99, List.forall_mem_cons.mpr ⟨lk_110, List.forall_mem_cons.mpr ⟨lk_143, List.forall_mem_cons.mpr ⟨lk_111, List.forall_mem_cons.mpr ⟨lk_112, List.forall_mem_cons.mpr ⟨lk_107, List.forall_mem_cons.mpr ⟨lk_114, List.forall_mem_cons.mpr ⟨lk_115, List.forall_mem_cons.mpr ⟨lk_144, List.forall_mem_cons.mpr ⟨lk_109, List.forall_mem_cons.mpr ⟨lk_145, List.forall_mem_cons.mpr ⟨lk_243, fun _ h => absurd h List.not_mem_nil⟩⟩⟩⟩⟩⟩⟩⟩⟩⟩⟩⟩
theorem bX11_tired_ok : ∀ b ∈ bX11_tired, xbok RX11 cX11_tired b := xbF_ok (lk := lX11_tired) (ls := []) kX11_tired xno_sw (by decide +kernel)
set_option maxRecDepth 20000 in
theorem vX11_tired : xMok mX11_tired := ⟨⟨wc_4.1, xtc4 143 rfl rfl, wc_4.2.1, wc_4.2.2, by decide +kernel, by decide, rfl⟩, bX11_tired_ok⟩
def lX11_unlike : List xL := [(3, 1, 11, 6, 59), (3, 13, 265, 24, 264), (3, 13, 264, 24, 270)]
theorem kX11_unlike : ∀ q ∈ lX11_unlike, xLq RX11 q := List.forall_mem_cons.mpr ⟨lk_151, List.forall_mem_cons.mpr ⟨lk_208, List.forall_mem_cons.mpr ⟨lk_244, fun _ h => absurd h List.not_mem_nil⟩⟩⟩
theorem bX11_unlike_ok : ∀ b ∈ bX11_unlike, xbok RX11 cX11_unlike b := xbF_ok (lk := lX11_unlike) (ls := []) kX11_unlike xno_sw (by decide +kernel)
set_option maxRecDepth 20000 in
theorem vX11_unlike : xMok mX11_unlike := ⟨⟨wc_4.1, xtc5 88 rfl rfl, wc_4.2.1, wc_4.2.2, by decide +kernel, by decide, rfl⟩, bX11_unlike_ok⟩
def lX11_value : List xL := [(3, 1, 11, 0, 10), (3, 1, 9, 4, 38), (3, 1, 1, 5, 297), (3, 1, 1, 6, 300), (3, 1, 11, 7, 66), (3, 13, 308, 56, 303), (3, 13, 310, 56, 306)]
theorem kX11_value : ∀ q ∈ lX11_value, xLq RX11 q := List.forall_mem_cons.mpr ⟨lk_99, List.forall_mem_cons.mpr ⟨lk_110, List.forall_mem_cons.mpr ⟨lk_133, List.forall_mem_cons.mpr ⟨lk_134, List.forall_mem_cons.mpr ⟨lk_168, List.forall_mem_cons.mpr ⟨lk_214, List.forall_mem_cons.mpr ⟨lk_217, fun _ h => absurd h List.not_mem_nil⟩⟩⟩⟩⟩⟩⟩
theorem bX11_value_ok : ∀ b ∈ bX11_value, xbok RX11 cX11_value b := xbF_ok (lk := lX11_value) (ls := []) kX11_value xno_sw (by decide +kernel)
set_option maxRecDepth 20000 in
theorem vX11_value : xMok mX11_value := ⟨⟨wc_4.1, xtc5 162 rfl rfl, wc_4.2.1, wc_4.2.2, by decide +kernel, by decide, rfl⟩, bX11_value_ok⟩
def lX11_view : List xL := [(3, 1, 11, 0, 10), (3, 1, 9, 6, 186), (3, 14, 9, 7, 189), (3, 1, 11, 5, 52), (3, 13, 30, 80, 192)]
theorem kX11_view : ∀ q ∈ lX11_view, xLq RX11 q := List.forall_mem_cons.mpr ⟨lk_99, List.forall_mem_cons.mpr ⟨lk_124, List.forall_mem_cons.mpr ⟨lk_245, List.forall_mem_cons.mpr ⟨lk_141, List.forall_mem_cons.mpr ⟨lk_142, fun _ h => absurd h List.not_mem_nil⟩⟩⟩⟩⟩
theorem bX11_view_ok : ∀ b ∈ bX11_view, xbok RX11 cX11_view b := xbF_ok (lk := lX11_view) (ls := []) kX11_view xno_sw (by decide +kernel)
set_option maxRecDepth 20000 in
theorem vX11_view : xMok mX11_view := ⟨⟨wc_4.1, xtc4 186 rfl rfl, wc_4.2.1, wc_4.2.2, by decide +kernel, by decide, rfl⟩, bX11_view_ok⟩
def lX11_wet : List xL := [(3, 13, 70, 90, 238), (3, 1, 11, 0, 10), (3, 14, 9, 9, 273), (3, 1, 11, 6, 59), (3, 13, 260, 24, 276)]
theorem kX11_wet : ∀ q ∈ lX11_wet, xLq RX11 q := List.forall_mem_cons.mpr ⟨lk_97, List.forall_mem_cons.mpr ⟨lk_99, List.forall_mem_cons.mpr ⟨lk_246, List.forall_mem_cons.mpr ⟨lk_151, List.forall_mem_cons.mpr ⟨lk_167, fun _ h => absurd h List.not_mem_nil⟩⟩⟩⟩⟩
theorem bX11_wet_ok : ∀ b ∈ bX11_wet, xbok RX11 cX11_wet b := xbF_ok (lk := lX11_wet) (ls := []) kX11_wet xno_sw (by decide +kernel)
set_option maxRecDepth 20000 in
theorem vX11_wet : xMok mX11_wet := ⟨⟨wc_4.1, xtc5 97 rfl rfl, wc_4.2.1, wc_4.2.2, by decide +kernel, by decide, rfl⟩, bX11_wet_ok⟩
def lX11_worst : List xL := [(3, 1, 11, 0, 10), (3, 1, 9, 4, 38), (3, 1, 1, 0, 112), (3, 1, 5, 3, 151), (3, 13, 71, 90, 140), (3, 1, 11, 4, 45), (3, 13, 12, 0, 123), (3, 13, 24, 0, 157)]
theorem kX11_worst : ∀ q ∈ lX11_worst, xLq RX11 q := List.forall_mem_cons.mpr ⟨lk_99, List.forall_mem_cons.mpr ⟨lk_110, List.forall_mem_cons.mpr ⟨lk_111, List.forall_mem_cons.mpr ⟨lk_107, List.forall_mem_cons.mpr ⟨lk_113, List.forall_mem_cons.mpr ⟨lk_114, List.forall_mem_cons.mpr ⟨lk_115, List.forall_mem_cons.mpr ⟨lk_247, fun _ h => absurd h List.not_mem_nil⟩⟩⟩⟩⟩⟩⟩⟩
theorem bX11_worst_ok : ∀ b ∈ bX11_worst, xbok RX11 cX11_worst b := xbF_ok (lk := lX11_worst) (ls := []) kX11_worst xno_sw (by decide +kernel)
set_option maxRecDepth 20000 in
theorem vX11_worst : xMok mX11_worst := ⟨⟨wc_4.1, xtc4 112 rfl rfl, wc_4.2.1, wc_4.2.2, by decide +kernel, by decide, rfl⟩, bX11_worst_ok⟩
def lX12_aLayer : List xL := [(3, 13, 199, 96, 196), (3, 13, 211, 96, 200), (3, 1, 12, 10, 180), (3, 1, 12, 7, 151), (3, 1, 12, 9, 165), (3, 13, 140, 96, 183), (3, 13, 110, 96, 190)]
theorem kX12_aLayer : ∀ q ∈ lX12_aLayer, xLq RX12 q := List.forall_mem_cons.mpr ⟨lk_248, List.forall_mem_cons.mpr ⟨lk_249, List.forall_mem_cons.mpr ⟨lk_250, List.forall_mem_cons.mpr ⟨lk_251, List.forall_mem_cons.mpr ⟨lk_252, List.forall_mem_cons.mpr ⟨lk_253, List.forall_mem_cons.mpr ⟨lk_254, fun _ h => absurd h List.not_mem_nil⟩⟩⟩⟩⟩⟩⟩
theorem bX12_aLayer_ok : ∀ b ∈ bX12_aLayer, xbok RX12 cX12_aLayer b := xbF_ok (lk := lX12_aLayer) (ls := []) kX12_aLayer xno_sw (by decide +kernel)
theorem wc_5 : plainName RX12 = true ∧ Cond.initialized RX12 ∈ lw_gt ∧ (RX12 ≠ "java/lang/invoke/MethodHandle" ∧ RX12 ≠ "java/lang/invoke/VarHandle") := ⟨by decide +kernel, xtc1 13 rfl rfl, by decide +kernel, by decide +kernel⟩
set_option maxRecDepth 20000 in
theorem vX12_aLayer : xMok mX12_aLayer := ⟨⟨wc_5.1, xtc7 192 rfl rfl, wc_5.2.1, wc_5.2.2, by decide +kernel, by decide, rfl⟩, bX12_aLayer_ok⟩
def lX12_aLine : List xL := [(3, 1, 12, 9, 165), (3, 1, 12, 6, 148), (3, 1, 12, 10, 180), (3, 1, 12, 7, 151), (3, 13, 161, 98, 105), (3, 13, 140, 96, 183), (3, 1, 12, 11, 17), (3, 13, 194, 98, 193), (3, 13, 115, 96, 186), (3, 13, 110, 96, 190), (3, 13, 106, 96, 204), (3, 13, 199, 96, 196), (3, 13, 167, 96, 208), (3, 13, 211, 96, 200), (3, 1, 12, 13, 23), (3, 1, 12, 14, 212), (3, 14, 12, 14, 212)]
theorem kX12_aLine : ∀ q ∈ lX12_aLine, xLq RX12 q := List.forall_mem_cons.mpr ⟨lk_252, List.forall_mem_cons.mpr ⟨lk_255, List.forall_mem_cons.mpr ⟨lk_250, List.forall_mem_cons.mpr ⟨lk_251, List.forall_mem_cons.mpr ⟨lk_256, List.forall_mem_cons.mpr ⟨lk_253, List.forall_mem_cons.mpr ⟨lk_257, List.forall_mem_cons.mpr ⟨lk_258, List.forall_mem_cons.mpr ⟨lk_259, List.forall_mem_cons.mpr ⟨lk_254, List.forall_mem_cons.mpr ⟨lk_260, List.forall_mem_cons.mpr ⟨lk_248, List.forall_mem_cons.mpr ⟨lk_261, List.forall_mem_cons.mpr ⟨lk_249, List.forall_mem_cons.mpr ⟨lk_262, List.forall_mem_cons.mpr ⟨lk_263, List.forall_mem_cons.mpr ⟨lk_264, fun _ h => absurd h List.not_mem_nil⟩⟩⟩⟩⟩⟩⟩⟩⟩⟩⟩⟩⟩⟩⟩⟩⟩
theorem swX12_aLine_0 : xLs RX12 (69, 39, 33, 362, 0, 9) := ⟨_, rfl, 293, 0, 5, #[39, 47, 111, 152, 204, 257], [(0, 108), (1, 116), (2, 180), (3, 221), (4, 273), (5, 326)], rfl, rfl, by decide, by decide, by decide, by decide, rfl, by decide +kernel⟩
def sX12_aLine : List xI := [(69, 39, 33, 362, 0, 9)]
theorem zX12_aLine : ∀ e ∈ sX12_aLine, xLs RX12 e := List.forall_mem_cons.mpr ⟨swX12_aLine_0, fun _ h => absurd h List.not_mem_nil⟩
theorem bX12_aLine_ok : ∀ b ∈ bX12_aLine, xbok RX12 cX12_aLine b := xbF_ok (lk := lX12_aLine) (ls := sX12_aLine) kX12_aLine zX12_aLine (by decide +kernel)
set_option maxRecDepth 20000 in
theorem vX12_aLine : xMok mX12_aLine := ⟨⟨wc_5.1, xtc7 174 rfl rfl, wc_5.2.1, wc_5.2.2, by decide +kernel, by decide, rfl⟩, bX12_aLine_ok⟩
def lX12_aRule : List xL := [(3, 1, 12, 14, 212), (3, 1, 12, 6, 148), (3, 13, 115, 96, 186), (3, 13, 227, 96, 415), (3, 13, 109, 96, 421), (3, 1, 12, 46, 102), (3, 13, 214, 96, 424), (3, 13, 195, 96, 427), (3, 1, 12, 10, 180), (3, 1, 12, 7, 151), (3, 1, 12, 9, 165), (3, 13, 161, 98, 105), (3, 13, 140, 96, 183), (3, 13, 110, 96, 190), (3, 13, 198, 96, 418), (3, 14, 12, 14, 212)]
theorem kX12_aRule : ∀ q ∈ lX12_aRule, xLq RX12 q := List.forall_mem_cons.mpr ⟨lk_263, List.forall_mem_cons.mpr ⟨lk_255, List.forall_mem_cons.mpr ⟨lk_259, List.forall_mem_cons.mpr ⟨lk_265, List.forall_mem_cons.mpr ⟨lk_266, List.forall_mem_cons.mpr ⟨lk_267, List.forall_mem_cons.mpr ⟨lk_268, List.forall_mem_cons.mpr ⟨lk_269, List.forall_mem_cons.mpr ⟨lk_250, List.forall_mem_cons.mpr ⟨lk_251, List.forall_mem_cons.mpr ⟨lk_252, List.forall_mem_cons.mpr ⟨lk_256, List.forall_mem_cons.mpr ⟨lk_253, List.forall_mem_cons.mpr ⟨lk_254, List.forall_mem_cons.mpr ⟨lk_270, List.forall_mem_cons.mpr ⟨lk_264, fun _ h => absurd h List.not_mem_nil⟩⟩⟩⟩⟩⟩⟩⟩⟩⟩⟩⟩⟩⟩⟩⟩
theorem bX12_aRule_ok : ∀ b ∈ bX12_aRule, xbok RX12 cX12_aRule b := xbF_ok (lk := lX12_aRule) (ls := []) kX12_aRule xno_sw (by decide +kernel)
set_option maxRecDepth 20000 in
theorem vX12_aRule : xMok mX12_aRule := ⟨⟨wc_5.1, xtc9 111 rfl rfl, wc_5.2.1, wc_5.2.2, by decide +kernel, by decide, rfl⟩, bX12_aRule_ok⟩
def lX12_aTest : List xL := [(3, 1, 12, 46, 102), (3, 13, 227, 96, 415), (3, 1, 12, 9, 165), (3, 1, 12, 10, 180), (3, 1, 12, 7, 151), (3, 13, 161, 98, 105), (3, 13, 140, 96, 183), (3, 13, 110, 96, 190), (3, 1, 12, 3, 174), (3, 13, 198, 96, 418)]
theorem kX12_aTest : ∀ q ∈ lX12_aTest, xLq RX12 q := List.forall_mem_cons.mpr ⟨lk_267, List.forall_mem_cons.mpr ⟨lk_265, List.forall_mem_cons.mpr ⟨lk_252, List.forall_mem_cons.mpr ⟨lk_250, List.forall_mem_cons.mpr ⟨lk_251, List.forall_mem_cons.mpr ⟨lk_256, List.forall_mem_cons.mpr ⟨lk_253, List.forall_mem_cons.mpr ⟨lk_254, List.forall_mem_cons.mpr ⟨lk_271, List.forall_mem_cons.mpr ⟨lk_270, fun _ h => absurd h List.not_mem_nil⟩⟩⟩⟩⟩⟩⟩⟩⟩⟩
theorem bX12_aTest_ok : ∀ b ∈ bX12_aTest, xbok RX12 cX12_aTest b := xbF_ok (lk := lX12_aTest) (ls := []) kX12_aTest xno_sw (by decide +kernel)
set_option maxRecDepth 20000 in
theorem vX12_aTest : xMok mX12_aTest := ⟨⟨wc_5.1, xtc9 119 rfl rfl, wc_5.2.1, wc_5.2.2, by decide +kernel, by decide, rfl⟩, bX12_aTest_ok⟩
def lX12_advance : List xL := [(3, 1, 12, 5, 141), (3, 13, 125, 96, 144), (3, 14, 12, 5, 141), (3, 14, 12, 6, 148), (3, 14, 12, 7, 151), (3, 13, 166, 98, 154), (3, 1, 12, 6, 148), (3, 52, 32, 0, 113), (3, 52, 96, 0, 115), (3, 1, 12, 2, 137), (3, 13, 215, 98, 158), (3, 13, 238, 98, 162), (3, 14, 12, 9, 165), (3, 1, 12, 9, 165), (3, 13, 159, 98, 168), (3, 14, 12, 8, 171), (3, 1, 12, 8, 171), (3, 14, 12, 3, 174), (3, 13, 172, 96, 177)]
theorem kX12_advance : ∀ q ∈ lX12_advance, xLq RX12 q := List.forall_mem_cons.mpr ⟨lk_272, List.forall_mem_cons.mpr ⟨lk_273, List.forall_mem_cons.mpr ⟨lk_274, List.forall_mem_cons.mpr ⟨lk_275, List.forall_mem_cons.mpr ⟨lk_276, List.forall_mem_cons.mpr ⟨lk_277, List.forall_mem_cons.mpr ⟨lk_255, List.forall_mem_cons.mpr ⟨lk_278, List.forall_mem_cons.mpr ⟨lk_279, List.forall_mem_cons.mpr ⟨lk_280, List.forall_mem_cons.mpr ⟨lk_281, List.forall_mem_cons.mpr ⟨lk_282, List.forall_mem_cons.mpr ⟨lk_283, List.forall_mem_cons.mpr ⟨lk_252, List.forall_mem_cons.mpr ⟨lk_284, List.forall_mem_cons.mpr ⟨lk_285, List.forall_mem_cons.mpr ⟨lk_286, List.forall_mem_cons.mpr ⟨lk_287, List.forall_mem_cons.mpr ⟨lk_288, fun _ h => absurd h List.not_mem_nil⟩⟩⟩⟩⟩⟩⟩⟩⟩⟩⟩⟩⟩⟩⟩⟩⟩⟩⟩
theorem bX12_advance_ok : ∀ b ∈ bX12_advance, xbok RX12 cX12_advance b := xbF_ok (lk := lX12_advance) (ls := []) kX12_advance xno_sw (by decide +kernel)
set_option maxRecDepth 20000 in
theorem vX12_advance : xMok mX12_advance := ⟨⟨wc_5.1, xtc7 134 rfl rfl, wc_5.2.1, wc_5.2.2, by decide +kernel, by decide, rfl⟩, bX12_advance_ok⟩
def lX12_again : List xL := [(3, 13, 161, 98, 105), (3, 1, 12, 1, 13), (3, 1, 12, 0, 7)]
theorem kX12_again : ∀ q ∈ lX12_again, xLq RX12 q := List.forall_mem_cons.mpr ⟨lk_256, List.forall_mem_cons.mpr ⟨lk_289, List.forall_mem_cons.mpr ⟨lk_290, fun _ h => absurd h List.not_mem_nil⟩⟩⟩
theorem bX12_again_ok : ∀ b ∈ bX12_again, xbok RX12 cX12_again b := xbF_ok (lk := lX12_again) (ls := []) kX12_again xno_sw (by decide +kernel)
set_option maxRecDepth 20000 in
theorem vX12_again : xMok mX12_again := ⟨⟨wc_5.1, xtc9 167 rfl rfl, wc_5.2.1, wc_5.2.2, by decide +kernel, by decide, rfl⟩, bX12_again_ok⟩
def lX12_ages : List xL := [(3, 1, 12, 34, 72), (3, 1, 12, 0, 7)]
theorem kX12_ages : ∀ q ∈ lX12_ages, xLq RX12 q := List.forall_mem_cons.mpr ⟨lk_291, List.forall_mem_cons.mpr ⟨lk_290, fun _ h => absurd h List.not_mem_nil⟩⟩
theorem bX12_ages_ok : ∀ b ∈ bX12_ages, xbok RX12 cX12_ages b := xbF_ok (lk := lX12_ages) (ls := []) kX12_ages xno_sw (by decide +kernel)
set_option maxRecDepth 20000 in
theorem vX12_ages : xMok mX12_ages := ⟨⟨wc_5.1, xtc8 156 rfl rfl, wc_5.2.1, wc_5.2.2, by decide +kernel, by decide, rfl⟩, bX12_ages_ok⟩
def lX12_allRows : List xL := [(3, 1, 12, 0, 7)]
theorem kX12_allRows : ∀ q ∈ lX12_allRows, xLq RX12 q := List.forall_mem_cons.mpr ⟨lk_290, fun _ h => absurd h List.not_mem_nil⟩
theorem bX12_allRows_ok : ∀ b ∈ bX12_allRows, xbok RX12 cX12_allRows b := xbF_ok (lk := lX12_allRows) (ls := []) kX12_allRows xno_sw (by decide +kernel)
set_option maxRecDepth 20000 in
theorem vX12_allRows : xMok mX12_allRows := ⟨⟨wc_5.1, xtc8 96 rfl rfl, wc_5.2.1, wc_5.2.2, by decide +kernel, by decide, rfl⟩, bX12_allRows_ok⟩
def lX12_allTests : List xL := [(3, 1, 12, 0, 7)]
theorem kX12_allTests : ∀ q ∈ lX12_allTests, xLq RX12 q := List.forall_mem_cons.mpr ⟨lk_290, fun _ h => absurd h List.not_mem_nil⟩
theorem bX12_allTests_ok : ∀ b ∈ bX12_allTests, xbok RX12 cX12_allTests b := xbF_ok (lk := lX12_allTests) (ls := []) kX12_allTests xno_sw (by decide +kernel)
set_option maxRecDepth 20000 in
theorem vX12_allTests : xMok mX12_allTests := ⟨⟨wc_5.1, xtc9 83 rfl rfl, wc_5.2.1, wc_5.2.2, by decide +kernel, by decide, rfl⟩, bX12_allTests_ok⟩
def lX12_also : List xL := [(3, 1, 12, 10, 180), (3, 1, 12, 0, 7)]
theorem kX12_also : ∀ q ∈ lX12_also, xLq RX12 q := List.forall_mem_cons.mpr ⟨lk_250, List.forall_mem_cons.mpr ⟨lk_290, fun _ h => absurd h List.not_mem_nil⟩⟩
theorem bX12_also_ok : ∀ b ∈ bX12_also, xbok RX12 cX12_also b := xbF_ok (lk := lX12_also) (ls := []) kX12_also xno_sw (by decide +kernel)
set_option maxRecDepth 20000 in
theorem vX12_also : xMok mX12_also := ⟨⟨wc_5.1, xtc7 188 rfl rfl, wc_5.2.1, wc_5.2.2, by decide +kernel, by decide, rfl⟩, bX12_also_ok⟩
def lX12_asTold : List xL := [(3, 13, 155, 96, 235), (3, 13, 122, 96, 238)]
theorem kX12_asTold : ∀ q ∈ lX12_asTold, xLq RX12 q := List.forall_mem_cons.mpr ⟨lk_292, List.forall_mem_cons.mpr ⟨lk_293, fun _ h => absurd h List.not_mem_nil⟩⟩
theorem bX12_asTold_ok : ∀ b ∈ bX12_asTold, xbok RX12 cX12_asTold b := xbF_ok (lk := lX12_asTold) (ls := []) kX12_asTold xno_sw (by decide +kernel)
set_option maxRecDepth 20000 in
theorem vX12_asTold : xMok mX12_asTold := ⟨⟨wc_5.1, xtc7 220 rfl rfl, wc_5.2.1, wc_5.2.2, by decide +kernel, by decide, rfl⟩, bX12_asTold_ok⟩
def lX12_asked : List xL := [(3, 13, 222, 96, 433), (3, 13, 130, 96, 376), (3, 1, 12, 0, 7), (3, 13, 184, 96, 436), (3, 13, 193, 96, 439), (3, 13, 137, 96, 442), (3, 13, 233, 96, 445), (3, 13, 190, 96, 409)]
theorem kX12_asked : ∀ q ∈ lX12_asked, xLq RX12 q := List.forall_mem_cons.mpr ⟨lk_294, List.forall_mem_cons.mpr ⟨lk_295, List.forall_mem_cons.mpr ⟨lk_290, List.forall_mem_cons.mpr ⟨lk_296, List.forall_mem_cons.mpr ⟨lk_297, List.forall_mem_cons.mpr ⟨lk_298, List.forall_mem_cons.mpr ⟨lk_299, List.forall_mem_cons.mpr ⟨lk_300, fun _ h => absurd h List.not_mem_nil⟩⟩⟩⟩⟩⟩⟩⟩
theorem swX12_asked_0 : xLs RX12 (1, 55, 33, 162, 0, 10) := ⟨_, rfl, 161, 20, 29, #[55, 60, 73, 80, 98, 105, 110, 115, 151, 156], [(20, 56), (21, 61), (22, 74), (23, 81), (24, 99), (25, 106), (26, 111), (27, 116), (28, 152), (29, 157)], rfl, rfl, by decide, by decide, by decide, by decide, rfl, by decide +kernel⟩
def sX12_asked : List xI := [(1, 55, 33, 162, 0, 10)]
theorem zX12_asked : ∀ e ∈ sX12_asked, xLs RX12 e := List.forall_mem_cons.mpr ⟨swX12_asked_0, fun _ h => absurd h List.not_mem_nil⟩
theorem bX12_asked_ok : ∀ b ∈ bX12_asked, xbok RX12 cX12_asked b := xbF_ok (lk := lX12_asked) (ls := sX12_asked) kX12_asked zX12_asked (by decide +kernel)
set_option maxRecDepth 20000 in
theorem vX12_asked : xMok mX12_asked := ⟨⟨wc_5.1, xtc9 143 rfl rfl, wc_5.2.1, wc_5.2.2, by decide +kernel, by decide, rfl⟩, bX12_asked_ok⟩
def lX12_at : List xL := []
theorem kX12_at : ∀ q ∈ lX12_at, xLq RX12 q := fun _ h => absurd h List.not_mem_nil
theorem bX12_at_ok : ∀ b ∈ bX12_at, xbok RX12 cX12_at b := xbF_ok (lk := lX12_at) (ls := []) kX12_at xno_sw (by decide +kernel)
set_option maxRecDepth 20000 in
theorem vX12_at : xMok mX12_at := ⟨⟨wc_5.1, xtc8 207 rfl rfl, wc_5.2.1, wc_5.2.2, by decide +kernel, by decide, rfl⟩, bX12_at_ok⟩
def lX12_barred : List xL := [(3, 1, 12, 0, 7), (3, 13, 152, 96, 450)]
theorem kX12_barred : ∀ q ∈ lX12_barred, xLq RX12 q := List.forall_mem_cons.mpr ⟨lk_290, List.forall_mem_cons.mpr ⟨lk_301, fun _ h => absurd h List.not_mem_nil⟩⟩
theorem bX12_barred_ok : ∀ b ∈ bX12_barred, xbok RX12 cX12_barred b := xbF_ok (lk := lX12_barred) (ls := []) kX12_barred xno_sw (by decide +kernel)
set_option maxRecDepth 20000 in
theorem vX12_barred : xMok mX12_barred := ⟨⟨wc_5.1, xtc9 135 rfl rfl, wc_5.2.1, wc_5.2.2, by decide +kernel, by decide, rfl⟩, bX12_barred_ok⟩
def lX12_bears : List xL := [(3, 13, 168, 96, 241), (3, 13, 171, 96, 247), (3, 13, 116, 96, 244), (3, 52, 1000, 0, 231), (3, 1, 12, 21, 45), (3, 13, 221, 98, 227), (3, 13, 181, 96, 222), (3, 1, 12, 20, 42)]
theorem kX12_bears : ∀ q ∈ lX12_bears, xLq RX12 q := List.forall_mem_cons.mpr ⟨lk_302, List.forall_mem_cons.mpr ⟨lk_303, List.forall_mem_cons.mpr ⟨lk_304, List.forall_mem_cons.mpr ⟨lk_305, List.forall_mem_cons.mpr ⟨lk_306, List.forall_mem_cons.mpr ⟨lk_307, List.forall_mem_cons.mpr ⟨lk_308, List.forall_mem_cons.mpr ⟨lk_309, fun _ h => absurd h List.not_mem_nil⟩⟩⟩⟩⟩⟩⟩⟩
theorem bX12_bears_ok : ∀ b ∈ bX12_bears, xbok RX12 cX12_bears b := xbF_ok (lk := lX12_bears) (ls := []) kX12_bears xno_sw (by decide +kernel)
set_option maxRecDepth 20000 in
theorem vX12_bears : xMok mX12_bears := ⟨⟨wc_5.1, xtc8 15 rfl rfl, wc_5.2.1, wc_5.2.2, by decide +kernel, by decide, rfl⟩, bX12_bears_ok⟩
def lX12_begins : List xL := [(3, 59, 12, 2, 137), (3, 1, 12, 0, 7), (3, 14, 12, 4, 109), (3, 14, 12, 5, 141), (3, 59, 12, 10, 180), (3, 14, 12, 14, 212)]
theorem kX12_begins : ∀ q ∈ lX12_begins, xLq RX12 q := List.forall_mem_cons.mpr ⟨lk_310, List.forall_mem_cons.mpr ⟨lk_290, List.forall_mem_cons.mpr ⟨lk_311, List.forall_mem_cons.mpr ⟨lk_274, List.forall_mem_cons.mpr ⟨lk_312, List.forall_mem_cons.mpr ⟨lk_264, fun _ h => absurd h List.not_mem_nil⟩⟩⟩⟩⟩⟩
theorem bX12_begins_ok : ∀ b ∈ bX12_begins, xbok RX12 cX12_begins b := xbF_ok (lk := lX12_begins) (ls := []) kX12_begins xno_sw (by decide +kernel)
set_option maxRecDepth 20000 in
theorem vX12_begins : xMok mX12_begins := ⟨⟨wc_5.1, xtc7 130 rfl rfl, wc_5.2.1, wc_5.2.2, by decide +kernel, by decide, rfl⟩, bX12_begins_ok⟩
def lX12_blocks : List xL := [(3, 1, 12, 0, 7), (3, 1, 12, 18, 35), (3, 1, 12, 17, 32), (3, 13, 181, 96, 222), (3, 1, 12, 19, 38), (3, 1, 12, 20, 42), (3, 52, 2, 0, 225), (3, 1, 12, 21, 45), (3, 13, 221, 98, 227)]
theorem kX12_blocks : ∀ q ∈ lX12_blocks, xLq RX12 q := List.forall_mem_cons.mpr ⟨lk_290, List.forall_mem_cons.mpr ⟨lk_313, List.forall_mem_cons.mpr ⟨lk_314, List.forall_mem_cons.mpr ⟨lk_308, List.forall_mem_cons.mpr ⟨lk_315, List.forall_mem_cons.mpr ⟨lk_309, List.forall_mem_cons.mpr ⟨lk_316, List.forall_mem_cons.mpr ⟨lk_306, List.forall_mem_cons.mpr ⟨lk_307, fun _ h => absurd h List.not_mem_nil⟩⟩⟩⟩⟩⟩⟩⟩⟩
theorem bX12_blocks_ok : ∀ b ∈ bX12_blocks, xbok RX12 cX12_blocks b := xbF_ok (lk := lX12_blocks) (ls := []) kX12_blocks xno_sw (by decide +kernel)
set_option maxRecDepth 20000 in
theorem vX12_blocks : xMok mX12_blocks := ⟨⟨wc_5.1, xtc7 228 rfl rfl, wc_5.2.1, wc_5.2.2, by decide +kernel, by decide, rfl⟩, bX12_blocks_ok⟩
def lX12_breaks : List xL := [(3, 1, 12, 0, 7), (3, 13, 231, 96, 273), (3, 13, 188, 96, 270), (3, 1, 12, 22, 267), (3, 1, 12, 23, 263), (3, 52, 365, 0, 385), (3, 71, 12, 22, 267)]
theorem kX12_breaks : ∀ q ∈ lX12_breaks, xLq RX12 q := List.forall_mem_cons.mpr ⟨lk_290, List.forall_mem_cons.mpr ⟨lk_317, List.forall_mem_cons.mpr ⟨lk_318, List.forall_mem_cons.mpr ⟨lk_319, List.forall_mem_cons.mpr ⟨lk_320, List.forall_mem_cons.mpr ⟨lk_321, List.forall_mem_cons.mpr ⟨lk_322, fun _ h => absurd h List.not_mem_nil⟩⟩⟩⟩⟩⟩⟩
theorem bX12_breaks_ok : ∀ b ∈ bX12_breaks, xbok RX12 cX12_breaks b := xbF_ok (lk := lX12_breaks) (ls := []) kX12_breaks xno_sw (by decide +kernel)
set_option maxRecDepth 20000 in
theorem vX12_breaks : xMok mX12_breaks := ⟨⟨wc_5.1, xtc9 30 rfl rfl, wc_5.2.1, wc_5.2.2, by decide +kernel, by decide, rfl⟩, bX12_breaks_ok⟩
def lX12_broken : List xL := [(3, 13, 168, 96, 241), (3, 13, 161, 98, 105), (3, 13, 116, 96, 244), (3, 13, 123, 96, 387)]
theorem kX12_broken : ∀ q ∈ lX12_broken, xLq RX12 q := List.forall_mem_cons.mpr ⟨lk_302, List.forall_mem_cons.mpr ⟨lk_256, List.forall_mem_cons.mpr ⟨lk_304, List.forall_mem_cons.mpr ⟨lk_323, fun _ h => absurd h List.not_mem_nil⟩⟩⟩⟩
theorem bX12_broken_ok : ∀ b ∈ bX12_broken, xbok RX12 cX12_broken b := xbF_ok (lk := lX12_broken) (ls := []) kX12_broken xno_sw (by decide +kernel)
set_option maxRecDepth 20000 in
theorem vX12_broken : xMok mX12_broken := ⟨⟨wc_5.1, xtc9 26 rfl rfl, wc_5.2.1, wc_5.2.2, by decide +kernel, by decide, rfl⟩, bX12_broken_ok⟩
def lX12_byteAt : List xL := [(3, 1, 12, 4, 109), (3, 1, 12, 0, 7)]
theorem kX12_byteAt : ∀ q ∈ lX12_byteAt, xLq RX12 q := List.forall_mem_cons.mpr ⟨lk_324, List.forall_mem_cons.mpr ⟨lk_290, fun _ h => absurd h List.not_mem_nil⟩⟩
theorem bX12_byteAt_ok : ∀ b ∈ bX12_byteAt, xbok RX12 cX12_byteAt b := xbF_ok (lk := lX12_byteAt) (ls := []) kX12_byteAt xno_sw (by decide +kernel)
set_option maxRecDepth 20000 in
theorem vX12_byteAt : xMok mX12_byteAt := ⟨⟨wc_5.1, xtc7 138 rfl rfl, wc_5.2.1, wc_5.2.2, by decide +kernel, by decide, rfl⟩, bX12_byteAt_ok⟩
def lX12_cost : List xL := [(3, 13, 168, 96, 241), (3, 13, 161, 98, 105), (3, 1, 12, 0, 7)]
theorem kX12_cost : ∀ q ∈ lX12_cost, xLq RX12 q := List.forall_mem_cons.mpr ⟨lk_302, List.forall_mem_cons.mpr ⟨lk_256, List.forall_mem_cons.mpr ⟨lk_290, fun _ h => absurd h List.not_mem_nil⟩⟩⟩
theorem bX12_cost_ok : ∀ b ∈ bX12_cost, xbok RX12 cX12_cost b := xbF_ok (lk := lX12_cost) (ls := []) kX12_cost xno_sw (by decide +kernel)
set_option maxRecDepth 20000 in
theorem vX12_cost : xMok mX12_cost := ⟨⟨wc_5.1, xtc9 3 rfl rfl, wc_5.2.1, wc_5.2.2, by decide +kernel, by decide, rfl⟩, bX12_cost_ok⟩
def lX12_count : List xL := [(3, 1, 12, 0, 7), (3, 13, 130, 96, 376), (3, 13, 161, 98, 105)]
theorem kX12_count : ∀ q ∈ lX12_count, xLq RX12 q := List.forall_mem_cons.mpr ⟨lk_290, List.forall_mem_cons.mpr ⟨lk_295, List.forall_mem_cons.mpr ⟨lk_256, fun _ h => absurd h List.not_mem_nil⟩⟩⟩
theorem swX12_count_0 : xLs RX12 (1, 31, 33, 64, 0, 11) := ⟨_, rfl, 63, 15, 18, #[31, 40, 49, 58], [(15, 32), (16, 41), (17, 50), (18, 59)], rfl, rfl, by decide, by decide, by decide, by decide, rfl, by decide +kernel⟩
def sX12_count : List xI := [(1, 31, 33, 64, 0, 11)]
theorem zX12_count : ∀ e ∈ sX12_count, xLs RX12 e := List.forall_mem_cons.mpr ⟨swX12_count_0, fun _ h => absurd h List.not_mem_nil⟩
theorem bX12_count_ok : ∀ b ∈ bX12_count, xbok RX12 cX12_count b := xbF_ok (lk := lX12_count) (ls := sX12_count) kX12_count zX12_count (by decide +kernel)
set_option maxRecDepth 20000 in
theorem vX12_count : xMok mX12_count := ⟨⟨wc_5.1, xtc9 159 rfl rfl, wc_5.2.1, wc_5.2.2, by decide +kernel, by decide, rfl⟩, bX12_count_ok⟩
def lX12_crack : List xL := [(3, 1, 12, 0, 7), (3, 13, 173, 96, 279), (3, 13, 157, 96, 283)]
theorem kX12_crack : ∀ q ∈ lX12_crack, xLq RX12 q := List.forall_mem_cons.mpr ⟨lk_290, List.forall_mem_cons.mpr ⟨lk_325, List.forall_mem_cons.mpr ⟨lk_326, fun _ h => absurd h List.not_mem_nil⟩⟩⟩
theorem bX12_crack_ok : ∀ b ∈ bX12_crack, xbok RX12 cX12_crack b := xbF_ok (lk := lX12_crack) (ls := []) kX12_crack xno_sw (by decide +kernel)
set_option maxRecDepth 20000 in
theorem vX12_crack : xMok mX12_crack := ⟨⟨wc_5.1, xtc8 68 rfl rfl, wc_5.2.1, wc_5.2.2, by decide +kernel, by decide, rfl⟩, bX12_crack_ok⟩
def lX12_cracks : List xL := [(3, 13, 168, 96, 241), (3, 13, 116, 96, 244), (3, 1, 12, 0, 7), (3, 13, 231, 96, 273), (3, 1, 12, 22, 267), (3, 1, 12, 23, 263)]
theorem kX12_cracks : ∀ q ∈ lX12_cracks, xLq RX12 q := List.forall_mem_cons.mpr ⟨lk_302, List.forall_mem_cons.mpr ⟨lk_304, List.forall_mem_cons.mpr ⟨lk_290, List.forall_mem_cons.mpr ⟨lk_317, List.forall_mem_cons.mpr ⟨lk_319, List.forall_mem_cons.mpr ⟨lk_320, fun _ h => absurd h List.not_mem_nil⟩⟩⟩⟩⟩⟩
theorem bX12_cracks_ok : ∀ b ∈ bX12_cracks, xbok RX12 cX12_cracks b := xbF_ok (lk := lX12_cracks) (ls := []) kX12_cracks xno_sw (by decide +kernel)
set_option maxRecDepth 20000 in
theorem vX12_cracks : xMok mX12_cracks := ⟨⟨wc_5.1, xtc8 56 rfl rfl, wc_5.2.1, wc_5.2.2, by decide +kernel, by decide, rfl⟩, bX12_cracks_ok⟩
def lX12_cracksSeen : List xL := [(3, 1, 12, 0, 7)]
theorem kX12_cracksSeen : ∀ q ∈ lX12_cracksSeen, xLq RX12 q := List.forall_mem_cons.mpr ⟨lk_290, fun _ h => absurd h List.not_mem_nil⟩
theorem bX12_cracksSeen_ok : ∀ b ∈ bX12_cracksSeen, xbok RX12 cX12_cracksSeen b := xbF_ok (lk := lX12_cracksSeen) (ls := []) kX12_cracksSeen xno_sw (by decide +kernel)
set_option maxRecDepth 20000 in
theorem vX12_cracksSeen : xMok mX12_cracksSeen := ⟨⟨wc_5.1, xtc9 11 rfl rfl, wc_5.2.1, wc_5.2.2, by decide +kernel, by decide, rfl⟩, bX12_cracksSeen_ok⟩
def lX12_cut : List xL := [(3, 13, 161, 98, 105), (3, 13, 132, 96, 317), (3, 13, 162, 96, 320)]
theorem kX12_cut : ∀ q ∈ lX12_cut, xLq RX12 q := List.forall_mem_cons.mpr ⟨lk_256, List.forall_mem_cons.mpr ⟨lk_327, List.forall_mem_cons.mpr ⟨lk_328, fun _ h => absurd h List.not_mem_nil⟩⟩⟩
theorem bX12_cut_ok : ∀ b ∈ bX12_cut, xbok RX12 cX12_cut b := xbF_ok (lk := lX12_cut) (ls := []) kX12_cut xno_sw (by decide +kernel)
set_option maxRecDepth 20000 in
theorem vX12_cut : xMok mX12_cut := ⟨⟨wc_5.1, xtc8 124 rfl rfl, wc_5.2.1, wc_5.2.2, by decide +kernel, by decide, rfl⟩, bX12_cut_ok⟩
def lX12_cuts : List xL := [(3, 13, 189, 96, 302), (3, 13, 113, 96, 305), (3, 13, 147, 96, 308), (3, 13, 224, 96, 296)]
theorem kX12_cuts : ∀ q ∈ lX12_cuts, xLq RX12 q := List.forall_mem_cons.mpr ⟨lk_329, List.forall_mem_cons.mpr ⟨lk_330, List.forall_mem_cons.mpr ⟨lk_331, List.forall_mem_cons.mpr ⟨lk_332, fun _ h => absurd h List.not_mem_nil⟩⟩⟩⟩
theorem bX12_cuts_ok : ∀ b ∈ bX12_cuts, xbok RX12 cX12_cuts b := xbF_ok (lk := lX12_cuts) (ls := []) kX12_cuts xno_sw (by decide +kernel)
set_option maxRecDepth 20000 in
theorem vX12_cuts : xMok mX12_cuts := ⟨⟨wc_5.1, xtc8 128 rfl rfl, wc_5.2.1, wc_5.2.2, by decide +kernel, by decide, rfl⟩, bX12_cuts_ok⟩
def lX12_damp : List xL := [(3, 13, 169, 96, 323), (3, 13, 134, 96, 335), (3, 1, 12, 35, 75)]
theorem kX12_damp : ∀ q ∈ lX12_damp, xLq RX12 q := List.forall_mem_cons.mpr ⟨lk_333, List.forall_mem_cons.mpr ⟨lk_334, List.forall_mem_cons.mpr ⟨lk_335, fun _ h => absurd h List.not_mem_nil⟩⟩⟩
theorem bX12_damp_ok : ∀ b ∈ bX12_damp, xbok RX12 cX12_damp b := xbF_ok (lk := lX12_damp) (ls := []) kX12_damp xno_sw (by decide +kernel)
set_option maxRecDepth 20000 in
theorem vX12_damp : xMok mX12_damp := ⟨⟨wc_5.1, xtc8 172 rfl rfl, wc_5.2.1, wc_5.2.2, by decide +kernel, by decide, rfl⟩, bX12_damp_ok⟩
def lX12_damps : List xL := [(3, 1, 12, 35, 75), (3, 1, 12, 0, 7), (3, 1, 12, 36, 78), (3, 13, 169, 96, 323), (3, 13, 237, 96, 332)]
theorem kX12_damps : ∀ q ∈ lX12_damps, xLq RX12 q := List.forall_mem_cons.mpr ⟨lk_335, List.forall_mem_cons.mpr ⟨lk_290, List.forall_mem_cons.mpr ⟨lk_336, List.forall_mem_cons.mpr ⟨lk_333, List.forall_mem_cons.mpr ⟨lk_337, fun _ h => absurd h List.not_mem_nil⟩⟩⟩⟩⟩
theorem bX12_damps_ok : ∀ b ∈ bX12_damps, xbok RX12 cX12_damps b := xbF_ok (lk := lX12_damps) (ls := []) kX12_damps xno_sw (by decide +kernel)
set_option maxRecDepth 20000 in
theorem vX12_damps : xMok mX12_damps := ⟨⟨wc_5.1, xtc8 176 rfl rfl, wc_5.2.1, wc_5.2.2, by decide +kernel, by decide, rfl⟩, bX12_damps_ok⟩
def lX12_dark : List xL := [(3, 13, 169, 96, 323), (3, 13, 136, 96, 338), (3, 13, 158, 96, 341)]
theorem kX12_dark : ∀ q ∈ lX12_dark, xLq RX12 q := List.forall_mem_cons.mpr ⟨lk_333, List.forall_mem_cons.mpr ⟨lk_338, List.forall_mem_cons.mpr ⟨lk_339, fun _ h => absurd h List.not_mem_nil⟩⟩⟩
theorem bX12_dark_ok : ∀ b ∈ bX12_dark, xbok RX12 cX12_dark b := xbF_ok (lk := lX12_dark) (ls := []) kX12_dark xno_sw (by decide +kernel)
set_option maxRecDepth 20000 in
theorem vX12_dark : xMok mX12_dark := ⟨⟨wc_5.1, xtc8 184 rfl rfl, wc_5.2.1, wc_5.2.2, by decide +kernel, by decide, rfl⟩, bX12_dark_ok⟩
def lX12_darkens : List xL := [(3, 13, 112, 96, 326), (3, 13, 134, 96, 335), (3, 13, 143, 96, 311)]
theorem kX12_darkens : ∀ q ∈ lX12_darkens, xLq RX12 q := List.forall_mem_cons.mpr ⟨lk_340, List.forall_mem_cons.mpr ⟨lk_334, List.forall_mem_cons.mpr ⟨lk_341, fun _ h => absurd h List.not_mem_nil⟩⟩⟩
theorem bX12_darkens_ok : ∀ b ∈ bX12_darkens, xbok RX12 cX12_darkens b := xbF_ok (lk := lX12_darkens) (ls := []) kX12_darkens xno_sw (by decide +kernel)
set_option maxRecDepth 20000 in
theorem vX12_darkens : xMok mX12_darkens := ⟨⟨wc_5.1, xtc8 188 rfl rfl, wc_5.2.1, wc_5.2.2, by decide +kernel, by decide, rfl⟩, bX12_darkens_ok⟩
def lX12_darks : List xL := [(3, 13, 136, 96, 338), (3, 13, 169, 96, 323), (3, 13, 158, 96, 341)]
theorem kX12_darks : ∀ q ∈ lX12_darks, xLq RX12 q := List.forall_mem_cons.mpr ⟨lk_338, List.forall_mem_cons.mpr ⟨lk_333, List.forall_mem_cons.mpr ⟨lk_339, fun _ h => absurd h List.not_mem_nil⟩⟩⟩
theorem bX12_darks_ok : ∀ b ∈ bX12_darks, xbok RX12 cX12_darks b := xbF_ok (lk := lX12_darks) (ls := []) kX12_darks xno_sw (by decide +kernel)
set_option maxRecDepth 20000 in
theorem vX12_darks : xMok mX12_darks := ⟨⟨wc_5.1, xtc8 196 rfl rfl, wc_5.2.1, wc_5.2.2, by decide +kernel, by decide, rfl⟩, bX12_darks_ok⟩
def lX12_day : List xL := [(3, 1, 12, 0, 7), (3, 13, 161, 98, 105)]
theorem kX12_day : ∀ q ∈ lX12_day, xLq RX12 q := List.forall_mem_cons.mpr ⟨lk_290, List.forall_mem_cons.mpr ⟨lk_256, fun _ h => absurd h List.not_mem_nil⟩⟩
theorem bX12_day_ok : ∀ b ∈ bX12_day, xbok RX12 cX12_day b := xbF_ok (lk := lX12_day) (ls := []) kX12_day xno_sw (by decide +kernel)
set_option maxRecDepth 20000 in
theorem vX12_day : xMok mX12_day := ⟨⟨wc_5.1, xtc8 60 rfl rfl, wc_5.2.1, wc_5.2.2, by decide +kernel, by decide, rfl⟩, bX12_day_ok⟩
def lX12_end : List xL := [(3, 1, 12, 0, 7)]
theorem kX12_end : ∀ q ∈ lX12_end, xLq RX12 q := List.forall_mem_cons.mpr ⟨lk_290, fun _ h => absurd h List.not_mem_nil⟩
theorem bX12_end_ok : ∀ b ∈ bX12_end, xbok RX12 cX12_end b := xbF_ok (lk := lX12_end) (ls := []) kX12_end xno_sw (by decide +kernel)
set_option maxRecDepth 20000 in
theorem vX12_end : xMok mX12_end := ⟨⟨wc_5.1, xtc7 122 rfl rfl, wc_5.2.1, wc_5.2.2, by decide +kernel, by decide, rfl⟩, bX12_end_ok⟩
def lX12_ends : List xL := [(3, 1, 12, 10, 180), (3, 59, 12, 10, 180), (3, 1, 12, 0, 7), (3, 1, 12, 6, 148)]
theorem kX12_ends : ∀ q ∈ lX12_ends, xLq RX12 q := List.forall_mem_cons.mpr ⟨lk_250, List.forall_mem_cons.mpr ⟨lk_312, List.forall_mem_cons.mpr ⟨lk_290, List.forall_mem_cons.mpr ⟨lk_255, fun _ h => absurd h List.not_mem_nil⟩⟩⟩⟩
theorem bX12_ends_ok : ∀ b ∈ bX12_ends, xbok RX12 cX12_ends b := xbF_ok (lk := lX12_ends) (ls := []) kX12_ends xno_sw (by decide +kernel)
set_option maxRecDepth 20000 in
theorem vX12_ends : xMok mX12_ends := ⟨⟨wc_5.1, xtc7 181 rfl rfl, wc_5.2.1, wc_5.2.2, by decide +kernel, by decide, rfl⟩, bX12_ends_ok⟩
def lX12_fault : List xL := [(3, 1, 12, 0, 7)]
theorem kX12_fault : ∀ q ∈ lX12_fault, xLq RX12 q := List.forall_mem_cons.mpr ⟨lk_290, fun _ h => absurd h List.not_mem_nil⟩
theorem bX12_fault_ok : ∀ b ∈ bX12_fault, xbok RX12 cX12_fault b := xbF_ok (lk := lX12_fault) (ls := []) kX12_fault xno_sw (by decide +kernel)
set_option maxRecDepth 20000 in
theorem vX12_fault : xMok mX12_fault := ⟨⟨wc_5.1, xtc7 208 rfl rfl, wc_5.2.1, wc_5.2.2, by decide +kernel, by decide, rfl⟩, bX12_fault_ok⟩
def lX12_fed : List xL := [(3, 13, 168, 96, 241), (3, 13, 143, 96, 311)]
theorem kX12_fed : ∀ q ∈ lX12_fed, xLq RX12 q := List.forall_mem_cons.mpr ⟨lk_302, List.forall_mem_cons.mpr ⟨lk_341, fun _ h => absurd h List.not_mem_nil⟩⟩
theorem bX12_fed_ok : ∀ b ∈ bX12_fed, xbok RX12 cX12_fed b := xbF_ok (lk := lX12_fed) (ls := []) kX12_fed xno_sw (by decide +kernel)
set_option maxRecDepth 20000 in
theorem vX12_fed : xMok mX12_fed := ⟨⟨wc_5.1, xtc8 116 rfl rfl, wc_5.2.1, wc_5.2.2, by decide +kernel, by decide, rfl⟩, bX12_fed_ok⟩
def lX12_fedRows : List xL := [(3, 13, 189, 96, 302), (3, 1, 12, 0, 7), (3, 13, 147, 96, 308)]
theorem kX12_fedRows : ∀ q ∈ lX12_fedRows, xLq RX12 q := List.forall_mem_cons.mpr ⟨lk_329, List.forall_mem_cons.mpr ⟨lk_290, List.forall_mem_cons.mpr ⟨lk_331, fun _ h => absurd h List.not_mem_nil⟩⟩⟩
theorem bX12_fedRows_ok : ∀ b ∈ bX12_fedRows, xbok RX12 cX12_fedRows b := xbF_ok (lk := lX12_fedRows) (ls := []) kX12_fedRows xno_sw (by decide +kernel)
set_option maxRecDepth 20000 in
theorem vX12_fedRows : xMok mX12_fedRows := ⟨⟨wc_5.1, xtc8 120 rfl rfl, wc_5.2.1, wc_5.2.2, by decide +kernel, by decide, rfl⟩, bX12_fedRows_ok⟩
def lX12_feed : List xL := [(3, 1, 12, 0, 7)]
theorem kX12_feed : ∀ q ∈ lX12_feed, xLq RX12 q := List.forall_mem_cons.mpr ⟨lk_290, fun _ h => absurd h List.not_mem_nil⟩
theorem bX12_feed_ok : ∀ b ∈ bX12_feed, xbok RX12 cX12_feed b := xbF_ok (lk := lX12_feed) (ls := []) kX12_feed xno_sw (by decide +kernel)
set_option maxRecDepth 20000 in
theorem vX12_feed : xMok mX12_feed := ⟨⟨wc_5.1, xtc7 118 rfl rfl, wc_5.2.1, wc_5.2.2, by decide +kernel, by decide, rfl⟩, bX12_feed_ok⟩
def lX12_film : List xL := [(3, 13, 121, 96, 215), (3, 1, 12, 11, 17), (3, 1, 12, 12, 20), (3, 13, 110, 96, 190), (3, 1, 12, 10, 180), (3, 1, 12, 7, 151), (3, 13, 107, 96, 219), (3, 1, 12, 0, 7), (3, 1, 12, 13, 23), (3, 13, 115, 96, 186), (3, 1, 12, 14, 212)]
theorem kX12_film : ∀ q ∈ lX12_film, xLq RX12 q := List.forall_mem_cons.mpr ⟨lk_342, List.forall_mem_cons.mpr ⟨lk_257, List.forall_mem_cons.mpr ⟨lk_343, List.forall_mem_cons.mpr ⟨lk_254, List.forall_mem_cons.mpr ⟨lk_250, List.forall_mem_cons.mpr ⟨lk_251, List.forall_mem_cons.mpr ⟨lk_344, List.forall_mem_cons.mpr ⟨lk_290, List.forall_mem_cons.mpr ⟨lk_262, List.forall_mem_cons.mpr ⟨lk_259, List.forall_mem_cons.mpr ⟨lk_263, fun _ h => absurd h List.not_mem_nil⟩⟩⟩⟩⟩⟩⟩⟩⟩⟩⟩
theorem bX12_film_ok : ∀ b ∈ bX12_film, xbok RX12 cX12_film b := xbF_ok (lk := lX12_film) (ls := []) kX12_film xno_sw (by decide +kernel)
set_option maxRecDepth 20000 in
theorem vX12_film : xMok mX12_film := ⟨⟨wc_5.1, xtc7 126 rfl rfl, wc_5.2.1, wc_5.2.2, by decide +kernel, by decide, rfl⟩, bX12_film_ok⟩
def lX12_five : List xL := [(3, 13, 148, 98, 121), (3, 52, 32, 0, 113), (3, 52, 96, 0, 115)]
theorem kX12_five : ∀ q ∈ lX12_five, xLq RX12 q := List.forall_mem_cons.mpr ⟨lk_345, List.forall_mem_cons.mpr ⟨lk_278, List.forall_mem_cons.mpr ⟨lk_279, fun _ h => absurd h List.not_mem_nil⟩⟩⟩
theorem bX12_five_ok : ∀ b ∈ bX12_five, xbok RX12 cX12_five b := xbF_ok (lk := lX12_five) (ls := []) kX12_five xno_sw (by decide +kernel)
set_option maxRecDepth 20000 in
theorem vX12_five : xMok mX12_five := ⟨⟨wc_5.1, xtc7 156 rfl rfl, wc_5.2.1, wc_5.2.2, by decide +kernel, by decide, rfl⟩, bX12_five_ok⟩
def lX12_flows : List xL := [(3, 1, 12, 25, 48), (3, 1, 12, 26, 51), (3, 1, 12, 27, 54), (3, 1, 12, 28, 57), (3, 13, 224, 96, 296), (3, 1, 12, 0, 7), (3, 1, 12, 32, 69), (3, 13, 149, 96, 299)]
theorem kX12_flows : ∀ q ∈ lX12_flows, xLq RX12 q := List.forall_mem_cons.mpr ⟨lk_346, List.forall_mem_cons.mpr ⟨lk_347, List.forall_mem_cons.mpr ⟨lk_348, List.forall_mem_cons.mpr ⟨lk_349, List.forall_mem_cons.mpr ⟨lk_332, List.forall_mem_cons.mpr ⟨lk_290, List.forall_mem_cons.mpr ⟨lk_350, List.forall_mem_cons.mpr ⟨lk_351, fun _ h => absurd h List.not_mem_nil⟩⟩⟩⟩⟩⟩⟩⟩
theorem bX12_flows_ok : ∀ b ∈ bX12_flows, xbok RX12 cX12_flows b := xbF_ok (lk := lX12_flows) (ls := []) kX12_flows xno_sw (by decide +kernel)
set_option maxRecDepth 20000 in
theorem vX12_flows : xMok mX12_flows := ⟨⟨wc_5.1, xtc8 100 rfl rfl, wc_5.2.1, wc_5.2.2, by decide +kernel, by decide, rfl⟩, bX12_flows_ok⟩
def lX12_four : List xL := [(3, 13, 229, 98, 117), (3, 52, 32, 0, 113), (3, 52, 96, 0, 115)]
theorem kX12_four : ∀ q ∈ lX12_four, xLq RX12 q := List.forall_mem_cons.mpr ⟨lk_352, List.forall_mem_cons.mpr ⟨lk_278, List.forall_mem_cons.mpr ⟨lk_279, fun _ h => absurd h List.not_mem_nil⟩⟩⟩
theorem bX12_four_ok : ∀ b ∈ bX12_four, xbok RX12 cX12_four b := xbF_ok (lk := lX12_four) (ls := []) kX12_four xno_sw (by decide +kernel)
set_option maxRecDepth 20000 in
theorem vX12_four : xMok mX12_four := ⟨⟨wc_5.1, xtc7 159 rfl rfl, wc_5.2.1, wc_5.2.2, by decide +kernel, by decide, rfl⟩, bX12_four_ok⟩
def lX12_goesBack : List xL := [(3, 1, 12, 32, 69), (3, 1, 12, 25, 48), (3, 1, 12, 26, 51), (3, 1, 12, 27, 54)]
theorem kX12_goesBack : ∀ q ∈ lX12_goesBack, xLq RX12 q := List.forall_mem_cons.mpr ⟨lk_350, List.forall_mem_cons.mpr ⟨lk_346, List.forall_mem_cons.mpr ⟨lk_347, List.forall_mem_cons.mpr ⟨lk_348, fun _ h => absurd h List.not_mem_nil⟩⟩⟩⟩
theorem bX12_goesBack_ok : ∀ b ∈ bX12_goesBack, xbok RX12 cX12_goesBack b := xbF_ok (lk := lX12_goesBack) (ls := []) kX12_goesBack xno_sw (by decide +kernel)
set_option maxRecDepth 20000 in
theorem vX12_goesBack : xMok mX12_goesBack := ⟨⟨wc_5.1, xtc8 112 rfl rfl, wc_5.2.1, wc_5.2.2, by decide +kernel, by decide, rfl⟩, bX12_goesBack_ok⟩
def lX12_hand : List xL := [(3, 1, 12, 0, 7), (3, 13, 161, 98, 105), (3, 13, 171, 96, 247)]
theorem kX12_hand : ∀ q ∈ lX12_hand, xLq RX12 q := List.forall_mem_cons.mpr ⟨lk_290, List.forall_mem_cons.mpr ⟨lk_256, List.forall_mem_cons.mpr ⟨lk_303, fun _ h => absurd h List.not_mem_nil⟩⟩⟩
theorem bX12_hand_ok : ∀ b ∈ bX12_hand, xbok RX12 cX12_hand b := xbF_ok (lk := lX12_hand) (ls := []) kX12_hand xno_sw (by decide +kernel)
set_option maxRecDepth 20000 in
theorem vX12_hand : xMok mX12_hand := ⟨⟨wc_5.1, xtc9 22 rfl rfl, wc_5.2.1, wc_5.2.2, by decide +kernel, by decide, rfl⟩, bX12_hand_ok⟩
def lX12_hasFlaw : List xL := [(3, 1, 12, 0, 7), (3, 13, 161, 98, 105)]
theorem kX12_hasFlaw : ∀ q ∈ lX12_hasFlaw, xLq RX12 q := List.forall_mem_cons.mpr ⟨lk_290, List.forall_mem_cons.mpr ⟨lk_256, fun _ h => absurd h List.not_mem_nil⟩⟩
end
section
theorem bX12_hasFlaw_ok : ∀ b ∈ bX12_hasFlaw, xbok RX12 cX12_hasFlaw b := xbF_ok (lk := lX12_hasFlaw) (ls := []) kX12_hasFlaw xno_sw (by decide +kernel)
set_option maxRecDepth 20000 in
theorem vX12_hasFlaw : xMok mX12_hasFlaw := ⟨⟨wc_5.1, xtc8 211 rfl rfl, wc_5.2.1, wc_5.2.2, by decide +kernel, by decide, rfl⟩, bX12_hasFlaw_ok⟩
def lX12_holds : List xL := [(3, 1, 12, 0, 7), (3, 13, 117, 96, 447)]
theorem kX12_holds : ∀ q ∈ lX12_holds, xLq RX12 q := List.forall_mem_cons.mpr ⟨lk_290, List.forall_mem_cons.mpr ⟨lk_353, fun _ h => absurd h List.not_mem_nil⟩⟩
theorem bX12_holds_ok : ∀ b ∈ bX12_holds, xbok RX12 cX12_holds b := xbF_ok (lk := lX12_holds) (ls := []) kX12_holds xno_sw (by decide +kernel)
set_option maxRecDepth 20000 in
theorem vX12_holds : xMok mX12_holds := ⟨⟨wc_5.1, xtc9 139 rfl rfl, wc_5.2.1, wc_5.2.2, by decide +kernel, by decide, rfl⟩, bX12_holds_ok⟩
def lX12_image : List xL := [(3, 13, 161, 98, 105), (3, 1, 12, 1, 13), (3, 1, 12, 0, 7)]
theorem kX12_image : ∀ q ∈ lX12_image, xLq RX12 q := List.forall_mem_cons.mpr ⟨lk_256, List.forall_mem_cons.mpr ⟨lk_289, List.forall_mem_cons.mpr ⟨lk_290, fun _ h => absurd h List.not_mem_nil⟩⟩⟩
theorem bX12_image_ok : ∀ b ∈ bX12_image, xbok RX12 cX12_image b := xbF_ok (lk := lX12_image) (ls := []) kX12_image xno_sw (by decide +kernel)
set_option maxRecDepth 20000 in
theorem vX12_image : xMok mX12_image := ⟨⟨wc_5.1, xtc9 163 rfl rfl, wc_5.2.1, wc_5.2.2, by decide +kernel, by decide, rfl⟩, bX12_image_ok⟩
def lX12_inCut : List xL := [(3, 13, 161, 98, 105), (3, 13, 132, 96, 317), (3, 13, 162, 96, 320)]
theorem kX12_inCut : ∀ q ∈ lX12_inCut, xLq RX12 q := List.forall_mem_cons.mpr ⟨lk_256, List.forall_mem_cons.mpr ⟨lk_327, List.forall_mem_cons.mpr ⟨lk_328, fun _ h => absurd h List.not_mem_nil⟩⟩⟩
theorem bX12_inCut_ok : ∀ b ∈ bX12_inCut, xbok RX12 cX12_inCut b := xbF_ok (lk := lX12_inCut) (ls := []) kX12_inCut xno_sw (by decide +kernel)
set_option maxRecDepth 20000 in
theorem vX12_inCut : xMok mX12_inCut := ⟨⟨wc_5.1, xtc8 140 rfl rfl, wc_5.2.1, wc_5.2.2, by decide +kernel, by decide, rfl⟩, bX12_inCut_ok⟩
def lX12_inOrder : List xL := [(3, 1, 12, 15, 26)]
theorem kX12_inOrder : ∀ q ∈ lX12_inOrder, xLq RX12 q := List.forall_mem_cons.mpr ⟨lk_354, fun _ h => absurd h List.not_mem_nil⟩
theorem bX12_inOrder_ok : ∀ b ∈ bX12_inOrder, xbok RX12 cX12_inOrder b := xbF_ok (lk := lX12_inOrder) (ls := []) kX12_inOrder xno_sw (by decide +kernel)
set_option maxRecDepth 20000 in
theorem vX12_inOrder : xMok mX12_inOrder := ⟨⟨wc_5.1, xtc7 224 rfl rfl, wc_5.2.1, wc_5.2.2, by decide +kernel, by decide, rfl⟩, bX12_inOrder_ok⟩
def lX12_init : List xL := [(3, 25, 0, 0, 1), (3, 61, 12, 0, 7), (3, 61, 12, 1, 13), (3, 61, 12, 11, 17), (3, 61, 12, 12, 20), (3, 61, 12, 13, 23), (3, 61, 12, 15, 26), (3, 61, 12, 16, 29), (3, 61, 12, 17, 32), (3, 61, 12, 18, 35), (3, 61, 12, 19, 38), (3, 61, 12, 20, 42), (3, 61, 12, 21, 45), (3, 61, 12, 25, 48), (3, 61, 12, 26, 51), (3, 61, 12, 27, 54), (3, 61, 12, 28, 57), (3, 61, 12, 29, 60), (3, 61, 12, 30, 63), (3, 61, 12, 31, 66), (3, 61, 12, 32, 69), (3, 61, 12, 34, 72), (3, 61, 12, 35, 75), (3, 61, 12, 36, 78), (3, 61, 12, 37, 81), (3, 61, 12, 38, 84), (3, 61, 12, 39, 87), (3, 61, 12, 40, 90), (3, 61, 12, 43, 93), (3, 61, 12, 44, 96), (3, 61, 12, 45, 99), (3, 61, 12, 46, 102), (3, 1, 12, 0, 7)]
theorem kX12_init : ∀ q ∈ lX12_init, xLq RX12 q := List.forall_mem_cons.mpr ⟨lk_355, List.forall_mem_cons.mpr ⟨lk_356, List.forall_mem_cons.mpr ⟨lk_357, List.forall_mem_cons.mpr ⟨lk_358, List.forall_mem_cons.mpr ⟨lk_359, List.forall_mem_cons.mpr ⟨lk_360, List.forall_mem_cons.mpr ⟨lk_361, List.forall_mem_cons.mpr ⟨lk_362, List.forall_mem_cons.mpr ⟨lk_363, List.forall_mem_cons.mpr ⟨lk_364, List.forall_mem_cons.mpr ⟨lk_365, List.forall_mem_cons.mpr ⟨lk_366, List.forall_mem_cons.mpr ⟨lk_367, List.forall_mem_cons.mpr ⟨lk_368, List.forall_mem_cons.mpr ⟨lk_369, List.forall_mem_cons.mpr ⟨lk_370, List.forall_mem_cons.mpr ⟨lk_371, List.forall_mem_cons.mpr ⟨lk_372, List.forall_mem_cons.mpr ⟨lk_373, List.forall_mem_cons.mpr ⟨lk_374, List.forall_mem_cons.mpr ⟨lk_375, List.forall_mem_cons.mpr ⟨lk_376, List.forall_mem_cons.mpr ⟨lk_377, List.forall_mem_cons.mpr ⟨lk_378, List.forall_mem_cons.mpr ⟨lk_379, List.forall_mem_cons.mpr ⟨lk_380, List.forall_mem_cons.mpr ⟨lk_381, List.forall_mem_cons.mpr ⟨lk_382, List.forall_mem_cons.mpr ⟨lk_383, List.forall_mem_cons.mpr ⟨lk_384, List.forall_mem_cons.mpr ⟨lk_385, List.forall_mem_cons.mpr ⟨lk_386, List.forall_mem_cons.mpr ⟨lk_290, fun _ h => absurd h List.not_mem_nil⟩⟩⟩⟩⟩⟩⟩⟩⟩⟩⟩⟩⟩⟩⟩⟩⟩⟩⟩⟩⟩⟩⟩⟩⟩⟩⟩⟩⟩⟩⟩⟩⟩
theorem bX12_init_ok : ∀ b ∈ bX12_init, xbok RX12 cX12_init b := xbF_ok (lk := lX12_init) (ls := []) kX12_init xno_sw (by decide +kernel)
set_option maxRecDepth 20000 in
theorem vX12_init : xMok mX12_init := ⟨⟨wc_5.1, xtc6 211 rfl rfl, wc_5.2.1, wc_5.2.2, by decide +kernel, by decide, rfl⟩, bX12_init_ok⟩
def lX12_isCracked : List xL := [(3, 1, 12, 0, 7), (3, 1, 12, 24, 276)]
theorem kX12_isCracked : ∀ q ∈ lX12_isCracked, xLq RX12 q := List.forall_mem_cons.mpr ⟨lk_290, List.forall_mem_cons.mpr ⟨lk_387, fun _ h => absurd h List.not_mem_nil⟩⟩
theorem bX12_isCracked_ok : ∀ b ∈ bX12_isCracked, xbok RX12 cX12_isCracked b := xbF_ok (lk := lX12_isCracked) (ls := []) kX12_isCracked xno_sw (by decide +kernel)
set_option maxRecDepth 20000 in
theorem vX12_isCracked : xMok mX12_isCracked := ⟨⟨wc_5.1, xtc8 76 rfl rfl, wc_5.2.1, wc_5.2.2, by decide +kernel, by decide, rfl⟩, bX12_isCracked_ok⟩
def lX12_isDark : List xL := [(3, 13, 187, 96, 329), (3, 1, 12, 35, 75)]
theorem kX12_isDark : ∀ q ∈ lX12_isDark, xLq RX12 q := List.forall_mem_cons.mpr ⟨lk_388, List.forall_mem_cons.mpr ⟨lk_335, fun _ h => absurd h List.not_mem_nil⟩⟩
theorem bX12_isDark_ok : ∀ b ∈ bX12_isDark, xbok RX12 cX12_isDark b := xbF_ok (lk := lX12_isDark) (ls := []) kX12_isDark xno_sw (by decide +kernel)
set_option maxRecDepth 20000 in
theorem vX12_isDark : xMok mX12_isDark := ⟨⟨wc_5.1, xtc8 192 rfl rfl, wc_5.2.1, wc_5.2.2, by decide +kernel, by decide, rfl⟩, bX12_isDark_ok⟩
def lX12_isDigit : List xL := []
theorem kX12_isDigit : ∀ q ∈ lX12_isDigit, xLq RX12 q := fun _ h => absurd h List.not_mem_nil
theorem bX12_isDigit_ok : ∀ b ∈ bX12_isDigit, xbok RX12 cX12_isDigit b := xbF_ok (lk := lX12_isDigit) (ls := []) kX12_isDigit xno_sw (by decide +kernel)
set_option maxRecDepth 20000 in
theorem vX12_isDigit : xMok mX12_isDigit := ⟨⟨wc_5.1, xtc7 166 rfl rfl, wc_5.2.1, wc_5.2.2, by decide +kernel, by decide, rfl⟩, bX12_isDigit_ok⟩
def lX12_isFedBy : List xL := [(3, 14, 12, 24, 276), (3, 13, 189, 96, 302), (3, 13, 113, 96, 305), (3, 13, 147, 96, 308), (3, 1, 12, 0, 7)]
theorem kX12_isFedBy : ∀ q ∈ lX12_isFedBy, xLq RX12 q := List.forall_mem_cons.mpr ⟨lk_389, List.forall_mem_cons.mpr ⟨lk_329, List.forall_mem_cons.mpr ⟨lk_330, List.forall_mem_cons.mpr ⟨lk_331, List.forall_mem_cons.mpr ⟨lk_290, fun _ h => absurd h List.not_mem_nil⟩⟩⟩⟩⟩
theorem bX12_isFedBy_ok : ∀ b ∈ bX12_isFedBy, xbok RX12 cX12_isFedBy b := xbF_ok (lk := lX12_isFedBy) (ls := []) kX12_isFedBy xno_sw (by decide +kernel)
set_option maxRecDepth 20000 in
theorem vX12_isFedBy : xMok mX12_isFedBy := ⟨⟨wc_5.1, xtc9 18 rfl rfl, wc_5.2.1, wc_5.2.2, by decide +kernel, by decide, rfl⟩, bX12_isFedBy_ok⟩
def lX12_isIn : List xL := []
theorem kX12_isIn : ∀ q ∈ lX12_isIn, xLq RX12 q := fun _ h => absurd h List.not_mem_nil
theorem bX12_isIn_ok : ∀ b ∈ bX12_isIn, xbok RX12 cX12_isIn b := xbF_ok (lk := lX12_isIn) (ls := []) kX12_isIn xno_sw (by decide +kernel)
set_option maxRecDepth 20000 in
theorem vX12_isIn : xMok mX12_isIn := ⟨⟨wc_5.1, xtc7 177 rfl rfl, wc_5.2.1, wc_5.2.2, by decide +kernel, by decide, rfl⟩, bX12_isIn_ok⟩
def lX12_isInCut : List xL := [(3, 13, 173, 96, 279), (3, 1, 12, 29, 60), (3, 13, 163, 96, 314), (3, 1, 12, 30, 63), (3, 13, 168, 96, 241), (3, 1, 12, 0, 7)]
theorem kX12_isInCut : ∀ q ∈ lX12_isInCut, xLq RX12 q := List.forall_mem_cons.mpr ⟨lk_325, List.forall_mem_cons.mpr ⟨lk_390, List.forall_mem_cons.mpr ⟨lk_391, List.forall_mem_cons.mpr ⟨lk_392, List.forall_mem_cons.mpr ⟨lk_302, List.forall_mem_cons.mpr ⟨lk_290, fun _ h => absurd h List.not_mem_nil⟩⟩⟩⟩⟩⟩
theorem swX12_isInCut_0 : xLs RX12 (1, 27, 33, 146, 0, 12) := ⟨_, rfl, 145, 0, 2, #[27, 74, 121], [(0, 28), (1, 75), (2, 122)], rfl, rfl, by decide, by decide, by decide, by decide, rfl, by decide +kernel⟩
def sX12_isInCut : List xI := [(1, 27, 33, 146, 0, 12)]
theorem zX12_isInCut : ∀ e ∈ sX12_isInCut, xLs RX12 e := List.forall_mem_cons.mpr ⟨swX12_isInCut_0, fun _ h => absurd h List.not_mem_nil⟩
theorem bX12_isInCut_ok : ∀ b ∈ bX12_isInCut, xbok RX12 cX12_isInCut b := xbF_ok (lk := lX12_isInCut) (ls := sX12_isInCut) kX12_isInCut zX12_isInCut (by decide +kernel)
set_option maxRecDepth 20000 in
theorem vX12_isInCut : xMok mX12_isInCut := ⟨⟨wc_5.1, xtc8 132 rfl rfl, wc_5.2.1, wc_5.2.2, by decide +kernel, by decide, rfl⟩, bX12_isInCut_ok⟩
def lX12_isJoined : List xL := [(3, 1, 12, 32, 69)]
theorem kX12_isJoined : ∀ q ∈ lX12_isJoined, xLq RX12 q := List.forall_mem_cons.mpr ⟨lk_350, fun _ h => absurd h List.not_mem_nil⟩
theorem bX12_isJoined_ok : ∀ b ∈ bX12_isJoined, xbok RX12 cX12_isJoined b := xbF_ok (lk := lX12_isJoined) (ls := []) kX12_isJoined xno_sw (by decide +kernel)
set_option maxRecDepth 20000 in
theorem vX12_isJoined : xMok mX12_isJoined := ⟨⟨wc_5.1, xtc8 136 rfl rfl, wc_5.2.1, wc_5.2.2, by decide +kernel, by decide, rfl⟩, bX12_isJoined_ok⟩
def lX12_isLaw : List xL := [(3, 1, 12, 44, 96), (3, 13, 114, 96, 400)]
theorem kX12_isLaw : ∀ q ∈ lX12_isLaw, xLq RX12 q := List.forall_mem_cons.mpr ⟨lk_393, List.forall_mem_cons.mpr ⟨lk_394, fun _ h => absurd h List.not_mem_nil⟩⟩
theorem bX12_isLaw_ok : ∀ b ∈ bX12_isLaw, xbok RX12 cX12_isLaw b := xbF_ok (lk := lX12_isLaw) (ls := []) kX12_isLaw xno_sw (by decide +kernel)
set_option maxRecDepth 20000 in
theorem vX12_isLaw : xMok mX12_isLaw := ⟨⟨wc_5.1, xtc9 79 rfl rfl, wc_5.2.1, wc_5.2.2, by decide +kernel, by decide, rfl⟩, bX12_isLaw_ok⟩
def lX12_isLed : List xL := [(3, 13, 173, 96, 279), (3, 1, 12, 0, 7), (3, 13, 157, 96, 283)]
theorem kX12_isLed : ∀ q ∈ lX12_isLed, xLq RX12 q := List.forall_mem_cons.mpr ⟨lk_325, List.forall_mem_cons.mpr ⟨lk_290, List.forall_mem_cons.mpr ⟨lk_326, fun _ h => absurd h List.not_mem_nil⟩⟩⟩
theorem bX12_isLed_ok : ∀ b ∈ bX12_isLed, xbok RX12 cX12_isLed b := xbF_ok (lk := lX12_isLed) (ls := []) kX12_isLed xno_sw (by decide +kernel)
set_option maxRecDepth 20000 in
theorem vX12_isLed : xMok mX12_isLed := ⟨⟨wc_5.1, xtc8 84 rfl rfl, wc_5.2.1, wc_5.2.2, by decide +kernel, by decide, rfl⟩, bX12_isLed_ok⟩
def lX12_isLetter : List xL := []
theorem kX12_isLetter : ∀ q ∈ lX12_isLetter, xLq RX12 q := fun _ h => absurd h List.not_mem_nil
theorem bX12_isLetter_ok : ∀ b ∈ bX12_isLetter, xbok RX12 cX12_isLetter b := xbF_ok (lk := lX12_isLetter) (ls := []) kX12_isLetter xno_sw (by decide +kernel)
set_option maxRecDepth 20000 in
theorem vX12_isLetter : xMok mX12_isLetter := ⟨⟨wc_5.1, xtc7 141 rfl rfl, wc_5.2.1, wc_5.2.2, by decide +kernel, by decide, rfl⟩, bX12_isLetter_ok⟩
def lX12_isLifeTold : List xL := [(3, 1, 12, 12, 20)]
theorem kX12_isLifeTold : ∀ q ∈ lX12_isLifeTold, xLq RX12 q := List.forall_mem_cons.mpr ⟨lk_343, fun _ h => absurd h List.not_mem_nil⟩
theorem bX12_isLifeTold_ok : ∀ b ∈ bX12_isLifeTold, xbok RX12 cX12_isLifeTold b := xbF_ok (lk := lX12_isLifeTold) (ls := []) kX12_isLifeTold xno_sw (by decide +kernel)
set_option maxRecDepth 20000 in
theorem vX12_isLifeTold : xMok mX12_isLifeTold := ⟨⟨wc_5.1, xtc7 204 rfl rfl, wc_5.2.1, wc_5.2.2, by decide +kernel, by decide, rfl⟩, bX12_isLifeTold_ok⟩
def lX12_isOf : List xL := [(3, 1, 12, 0, 7), (3, 13, 161, 98, 105)]
theorem kX12_isOf : ∀ q ∈ lX12_isOf, xLq RX12 q := List.forall_mem_cons.mpr ⟨lk_290, List.forall_mem_cons.mpr ⟨lk_256, fun _ h => absurd h List.not_mem_nil⟩⟩
theorem bX12_isOf_ok : ∀ b ∈ bX12_isOf, xbok RX12 cX12_isOf b := xbF_ok (lk := lX12_isOf) (ls := []) kX12_isOf xno_sw (by decide +kernel)
set_option maxRecDepth 20000 in
theorem vX12_isOf : xMok mX12_isOf := ⟨⟨wc_5.1, xtc7 216 rfl rfl, wc_5.2.1, wc_5.2.2, by decide +kernel, by decide, rfl⟩, bX12_isOf_ok⟩
def lX12_isPoint : List xL := [(3, 1, 12, 0, 7), (3, 13, 161, 98, 105)]
theorem kX12_isPoint : ∀ q ∈ lX12_isPoint, xLq RX12 q := List.forall_mem_cons.mpr ⟨lk_290, List.forall_mem_cons.mpr ⟨lk_256, fun _ h => absurd h List.not_mem_nil⟩⟩
theorem bX12_isPoint_ok : ∀ b ∈ bX12_isPoint, xbok RX12 cX12_isPoint b := xbF_ok (lk := lX12_isPoint) (ls := []) kX12_isPoint xno_sw (by decide +kernel)
set_option maxRecDepth 20000 in
theorem vX12_isPoint : xMok mX12_isPoint := ⟨⟨wc_5.1, xtc8 152 rfl rfl, wc_5.2.1, wc_5.2.2, by decide +kernel, by decide, rfl⟩, bX12_isPoint_ok⟩
def lX12_isQuarrel : List xL := [(3, 1, 12, 44, 96)]
theorem kX12_isQuarrel : ∀ q ∈ lX12_isQuarrel, xLq RX12 q := List.forall_mem_cons.mpr ⟨lk_393, fun _ h => absurd h List.not_mem_nil⟩
theorem bX12_isQuarrel_ok : ∀ b ∈ bX12_isQuarrel, xbok RX12 cX12_isQuarrel b := xbF_ok (lk := lX12_isQuarrel) (ls := []) kX12_isQuarrel xno_sw (by decide +kernel)
set_option maxRecDepth 20000 in
theorem vX12_isQuarrel : xMok mX12_isQuarrel := ⟨⟨wc_5.1, xtc9 99 rfl rfl, wc_5.2.1, wc_5.2.2, by decide +kernel, by decide, rfl⟩, bX12_isQuarrel_ok⟩
def lX12_isRound : List xL := [(3, 13, 161, 98, 105)]
theorem kX12_isRound : ∀ q ∈ lX12_isRound, xLq RX12 q := List.forall_mem_cons.mpr ⟨lk_256, fun _ h => absurd h List.not_mem_nil⟩
theorem bX12_isRound_ok : ∀ b ∈ bX12_isRound, xbok RX12 cX12_isRound b := xbF_ok (lk := lX12_isRound) (ls := []) kX12_isRound xno_sw (by decide +kernel)
set_option maxRecDepth 20000 in
theorem vX12_isRound : xMok mX12_isRound := ⟨⟨wc_5.1, xtc8 9 rfl rfl, wc_5.2.1, wc_5.2.2, by decide +kernel, by decide, rfl⟩, bX12_isRound_ok⟩
def lX12_isSignByte : List xL := [(3, 1, 12, 2, 137)]
theorem kX12_isSignByte : ∀ q ∈ lX12_isSignByte, xLq RX12 q := List.forall_mem_cons.mpr ⟨lk_280, fun _ h => absurd h List.not_mem_nil⟩
theorem bX12_isSignByte_ok : ∀ b ∈ bX12_isSignByte, xbok RX12 cX12_isSignByte b := xbF_ok (lk := lX12_isSignByte) (ls := []) kX12_isSignByte xno_sw (by decide +kernel)
set_option maxRecDepth 20000 in
theorem vX12_isSignByte : xMok mX12_isSignByte := ⟨⟨wc_5.1, xtc7 170 rfl rfl, wc_5.2.1, wc_5.2.2, by decide +kernel, by decide, rfl⟩, bX12_isSignByte_ok⟩
def lX12_isThere : List xL := [(3, 1, 12, 0, 7), (3, 13, 161, 98, 105)]
theorem kX12_isThere : ∀ q ∈ lX12_isThere, xLq RX12 q := List.forall_mem_cons.mpr ⟨lk_290, List.forall_mem_cons.mpr ⟨lk_256, fun _ h => absurd h List.not_mem_nil⟩⟩
theorem bX12_isThere_ok : ∀ b ∈ bX12_isThere, xbok RX12 cX12_isThere b := xbF_ok (lk := lX12_isThere) (ls := []) kX12_isThere xno_sw (by decide +kernel)
set_option maxRecDepth 20000 in
theorem vX12_isThere : xMok mX12_isThere := ⟨⟨wc_5.1, xtc8 72 rfl rfl, wc_5.2.1, wc_5.2.2, by decide +kernel, by decide, rfl⟩, bX12_isThere_ok⟩
def lX12_keeps : List xL := [(3, 1, 12, 44, 96), (3, 1, 12, 0, 7), (3, 13, 179, 98, 397)]
theorem kX12_keeps : ∀ q ∈ lX12_keeps, xLq RX12 q := List.forall_mem_cons.mpr ⟨lk_393, List.forall_mem_cons.mpr ⟨lk_290, List.forall_mem_cons.mpr ⟨lk_395, fun _ h => absurd h List.not_mem_nil⟩⟩⟩
theorem bX12_keeps_ok : ∀ b ∈ bX12_keeps, xbok RX12 cX12_keeps b := xbF_ok (lk := lX12_keeps) (ls := []) kX12_keeps xno_sw (by decide +kernel)
set_option maxRecDepth 20000 in
theorem vX12_keeps : xMok mX12_keeps := ⟨⟨wc_5.1, xtc9 72 rfl rfl, wc_5.2.1, wc_5.2.2, by decide +kernel, by decide, rfl⟩, bX12_keeps_ok⟩
def lX12_kept : List xL := [(3, 13, 190, 96, 409)]
theorem kX12_kept : ∀ q ∈ lX12_kept, xLq RX12 q := List.forall_mem_cons.mpr ⟨lk_300, fun _ h => absurd h List.not_mem_nil⟩
theorem bX12_kept_ok : ∀ b ∈ bX12_kept, xbok RX12 cX12_kept b := xbF_ok (lk := lX12_kept) (ls := []) kX12_kept xno_sw (by decide +kernel)
set_option maxRecDepth 20000 in
theorem vX12_kept : xMok mX12_kept := ⟨⟨wc_5.1, xtc9 64 rfl rfl, wc_5.2.1, wc_5.2.2, by decide +kernel, by decide, rfl⟩, bX12_kept_ok⟩
def lX12_lasts : List xL := [(3, 13, 161, 98, 105), (3, 1, 12, 0, 7), (3, 13, 177, 96, 393)]
theorem kX12_lasts : ∀ q ∈ lX12_lasts, xLq RX12 q := List.forall_mem_cons.mpr ⟨lk_256, List.forall_mem_cons.mpr ⟨lk_290, List.forall_mem_cons.mpr ⟨lk_396, fun _ h => absurd h List.not_mem_nil⟩⟩⟩
theorem bX12_lasts_ok : ∀ b ∈ bX12_lasts, xbok RX12 cX12_lasts b := xbF_ok (lk := lX12_lasts) (ls := []) kX12_lasts xno_sw (by decide +kernel)
set_option maxRecDepth 20000 in
theorem vX12_lasts : xMok mX12_lasts := ⟨⟨wc_5.1, xtc9 47 rfl rfl, wc_5.2.1, wc_5.2.2, by decide +kernel, by decide, rfl⟩, bX12_lasts_ok⟩
def lX12_lastsOf : List xL := [(3, 13, 112, 96, 326), (3, 1, 12, 43, 93), (3, 13, 169, 96, 323), (3, 1, 12, 34, 72), (3, 1, 12, 0, 7)]
theorem kX12_lastsOf : ∀ q ∈ lX12_lastsOf, xLq RX12 q := List.forall_mem_cons.mpr ⟨lk_340, List.forall_mem_cons.mpr ⟨lk_397, List.forall_mem_cons.mpr ⟨lk_333, List.forall_mem_cons.mpr ⟨lk_291, List.forall_mem_cons.mpr ⟨lk_290, fun _ h => absurd h List.not_mem_nil⟩⟩⟩⟩⟩
theorem bX12_lastsOf_ok : ∀ b ∈ bX12_lastsOf, xbok RX12 cX12_lastsOf b := xbF_ok (lk := lX12_lastsOf) (ls := []) kX12_lastsOf xno_sw (by decide +kernel)
set_option maxRecDepth 20000 in
theorem vX12_lastsOf : xMok mX12_lastsOf := ⟨⟨wc_5.1, xtc9 51 rfl rfl, wc_5.2.1, wc_5.2.2, by decide +kernel, by decide, rfl⟩, bX12_lastsOf_ok⟩
def lX12_law : List xL := [(3, 13, 174, 96, 403), (3, 13, 164, 96, 406)]
theorem kX12_law : ∀ q ∈ lX12_law, xLq RX12 q := List.forall_mem_cons.mpr ⟨lk_398, List.forall_mem_cons.mpr ⟨lk_399, fun _ h => absurd h List.not_mem_nil⟩⟩
theorem bX12_law_ok : ∀ b ∈ bX12_law, xbok RX12 cX12_law b := xbF_ok (lk := lX12_law) (ls := []) kX12_law xno_sw (by decide +kernel)
set_option maxRecDepth 20000 in
theorem vX12_law : xMok mX12_law := ⟨⟨wc_5.1, xtc9 87 rfl rfl, wc_5.2.1, wc_5.2.2, by decide +kernel, by decide, rfl⟩, bX12_law_ok⟩
def lX12_lawAt : List xL := []
theorem kX12_lawAt : ∀ q ∈ lX12_lawAt, xLq RX12 q := fun _ h => absurd h List.not_mem_nil
theorem bX12_lawAt_ok : ∀ b ∈ bX12_lawAt, xbok RX12 cX12_lawAt b := xbF_ok (lk := lX12_lawAt) (ls := []) kX12_lawAt xno_sw (by decide +kernel)
set_option maxRecDepth 20000 in
theorem vX12_lawAt : xMok mX12_lawAt := ⟨⟨wc_5.1, xtc9 75 rfl rfl, wc_5.2.1, wc_5.2.2, by decide +kernel, by decide, rfl⟩, bX12_lawAt_ok⟩
def lX12_layer : List xL := [(3, 13, 168, 96, 241), (3, 13, 161, 98, 105), (3, 13, 116, 96, 244), (3, 1, 12, 0, 7), (3, 1, 12, 17, 32), (3, 1, 12, 18, 35)]
theorem kX12_layer : ∀ q ∈ lX12_layer, xLq RX12 q := List.forall_mem_cons.mpr ⟨lk_302, List.forall_mem_cons.mpr ⟨lk_256, List.forall_mem_cons.mpr ⟨lk_304, List.forall_mem_cons.mpr ⟨lk_290, List.forall_mem_cons.mpr ⟨lk_314, List.forall_mem_cons.mpr ⟨lk_313, fun _ h => absurd h List.not_mem_nil⟩⟩⟩⟩⟩⟩
theorem bX12_layer_ok : ∀ b ∈ bX12_layer, xbok RX12 cX12_layer b := xbF_ok (lk := lX12_layer) (ls := []) kX12_layer xno_sw (by decide +kernel)
set_option maxRecDepth 20000 in
theorem vX12_layer : xMok mX12_layer := ⟨⟨wc_5.1, xtc7 212 rfl rfl, wc_5.2.1, wc_5.2.2, by decide +kernel, by decide, rfl⟩, bX12_layer_ok⟩
def lX12_layerOf : List xL := [(3, 1, 12, 0, 7), (3, 1, 12, 15, 26)]
theorem kX12_layerOf : ∀ q ∈ lX12_layerOf, xLq RX12 q := List.forall_mem_cons.mpr ⟨lk_290, List.forall_mem_cons.mpr ⟨lk_354, fun _ h => absurd h List.not_mem_nil⟩⟩
theorem bX12_layerOf_ok : ∀ b ∈ bX12_layerOf, xbok RX12 cX12_layerOf b := xbF_ok (lk := lX12_layerOf) (ls := []) kX12_layerOf xno_sw (by decide +kernel)
set_option maxRecDepth 20000 in
theorem vX12_layerOf : xMok mX12_layerOf := ⟨⟨wc_5.1, xtc7 232 rfl rfl, wc_5.2.1, wc_5.2.2, by decide +kernel, by decide, rfl⟩, bX12_layerOf_ok⟩
def lX12_lays : List xL := [(3, 1, 12, 39, 87), (3, 1, 12, 42, 361), (3, 13, 118, 98, 344), (3, 14, 12, 42, 361)]
theorem kX12_lays : ∀ q ∈ lX12_lays, xLq RX12 q := List.forall_mem_cons.mpr ⟨lk_400, List.forall_mem_cons.mpr ⟨lk_401, List.forall_mem_cons.mpr ⟨lk_402, List.forall_mem_cons.mpr ⟨lk_403, fun _ h => absurd h List.not_mem_nil⟩⟩⟩⟩
theorem bX12_lays_ok : ∀ b ∈ bX12_lays, xbok RX12 cX12_lays b := xbF_ok (lk := lX12_lays) (ls := []) kX12_lays xno_sw (by decide +kernel)
set_option maxRecDepth 20000 in
theorem vX12_lays : xMok mX12_lays := ⟨⟨wc_5.1, xtc8 231 rfl rfl, wc_5.2.1, wc_5.2.2, by decide +kernel, by decide, rfl⟩, bX12_lays_ok⟩
def lX12_leads : List xL := [(3, 13, 165, 96, 287)]
theorem kX12_leads : ∀ q ∈ lX12_leads, xLq RX12 q := List.forall_mem_cons.mpr ⟨lk_404, fun _ h => absurd h List.not_mem_nil⟩
theorem bX12_leads_ok : ∀ b ∈ bX12_leads, xbok RX12 cX12_leads b := xbF_ok (lk := lX12_leads) (ls := []) kX12_leads xno_sw (by decide +kernel)
set_option maxRecDepth 20000 in
theorem vX12_leads : xMok mX12_leads := ⟨⟨wc_5.1, xtc8 80 rfl rfl, wc_5.2.1, wc_5.2.2, by decide +kernel, by decide, rfl⟩, bX12_leads_ok⟩
def lX12_least : List xL := [(3, 1, 12, 0, 7), (3, 13, 116, 96, 244), (3, 13, 185, 96, 253)]
theorem kX12_least : ∀ q ∈ lX12_least, xLq RX12 q := List.forall_mem_cons.mpr ⟨lk_290, List.forall_mem_cons.mpr ⟨lk_304, List.forall_mem_cons.mpr ⟨lk_405, fun _ h => absurd h List.not_mem_nil⟩⟩⟩
theorem bX12_least_ok : ∀ b ∈ bX12_least, xbok RX12 cX12_least b := xbF_ok (lk := lX12_least) (ls := []) kX12_least xno_sw (by decide +kernel)
set_option maxRecDepth 20000 in
theorem vX12_least : xMok mX12_least := ⟨⟨wc_5.1, xtc8 19 rfl rfl, wc_5.2.1, wc_5.2.2, by decide +kernel, by decide, rfl⟩, bX12_least_ok⟩
def lX12_leastNow : List xL := [(3, 1, 12, 0, 7), (3, 13, 181, 96, 222), (3, 1, 12, 20, 42), (3, 52, 1000, 0, 231), (3, 1, 12, 21, 45), (3, 13, 221, 98, 227), (3, 52, 9999, 0, 233)]
theorem kX12_leastNow : ∀ q ∈ lX12_leastNow, xLq RX12 q := List.forall_mem_cons.mpr ⟨lk_290, List.forall_mem_cons.mpr ⟨lk_308, List.forall_mem_cons.mpr ⟨lk_309, List.forall_mem_cons.mpr ⟨lk_305, List.forall_mem_cons.mpr ⟨lk_306, List.forall_mem_cons.mpr ⟨lk_307, List.forall_mem_cons.mpr ⟨lk_406, fun _ h => absurd h List.not_mem_nil⟩⟩⟩⟩⟩⟩⟩
theorem bX12_leastNow_ok : ∀ b ∈ bX12_leastNow, xbok RX12 cX12_leastNow b := xbF_ok (lk := lX12_leastNow) (ls := []) kX12_leastNow xno_sw (by decide +kernel)
set_option maxRecDepth 20000 in
theorem vX12_leastNow : xMok mX12_leastNow := ⟨⟨wc_5.1, xtc8 23 rfl rfl, wc_5.2.1, wc_5.2.2, by decide +kernel, by decide, rfl⟩, bX12_leastNow_ok⟩
def lX12_left : List xL := [(3, 13, 169, 96, 323), (3, 13, 112, 96, 326), (3, 13, 187, 96, 329)]
theorem kX12_left : ∀ q ∈ lX12_left, xLq RX12 q := List.forall_mem_cons.mpr ⟨lk_333, List.forall_mem_cons.mpr ⟨lk_340, List.forall_mem_cons.mpr ⟨lk_388, fun _ h => absurd h List.not_mem_nil⟩⟩⟩
theorem bX12_left_ok : ∀ b ∈ bX12_left, xbok RX12 cX12_left b := xbF_ok (lk := lX12_left) (ls := []) kX12_left xno_sw (by decide +kernel)
set_option maxRecDepth 20000 in
theorem vX12_left : xMok mX12_left := ⟨⟨wc_5.1, xtc8 148 rfl rfl, wc_5.2.1, wc_5.2.2, by decide +kernel, by decide, rfl⟩, bX12_left_ok⟩
def lX12_leftOf : List xL := [(3, 1, 12, 34, 72)]
theorem kX12_leftOf : ∀ q ∈ lX12_leftOf, xLq RX12 q := List.forall_mem_cons.mpr ⟨lk_291, fun _ h => absurd h List.not_mem_nil⟩
theorem bX12_leftOf_ok : ∀ b ∈ bX12_leftOf, xbok RX12 cX12_leftOf b := xbF_ok (lk := lX12_leftOf) (ls := []) kX12_leftOf xno_sw (by decide +kernel)
set_option maxRecDepth 20000 in
theorem vX12_leftOf : xMok mX12_leftOf := ⟨⟨wc_5.1, xtc8 160 rfl rfl, wc_5.2.1, wc_5.2.2, by decide +kernel, by decide, rfl⟩, bX12_leftOf_ok⟩
def lX12_lifeOf : List xL := [(3, 1, 12, 0, 7), (3, 52, 1000, 0, 231), (3, 1, 12, 21, 45), (3, 13, 221, 98, 227), (3, 1, 12, 20, 42)]
theorem kX12_lifeOf : ∀ q ∈ lX12_lifeOf, xLq RX12 q := List.forall_mem_cons.mpr ⟨lk_290, List.forall_mem_cons.mpr ⟨lk_305, List.forall_mem_cons.mpr ⟨lk_306, List.forall_mem_cons.mpr ⟨lk_307, List.forall_mem_cons.mpr ⟨lk_309, fun _ h => absurd h List.not_mem_nil⟩⟩⟩⟩⟩
theorem bX12_lifeOf_ok : ∀ b ∈ bX12_lifeOf, xbok RX12 cX12_lifeOf b := xbF_ok (lk := lX12_lifeOf) (ls := []) kX12_lifeOf xno_sw (by decide +kernel)
set_option maxRecDepth 20000 in
theorem vX12_lifeOf : xMok mX12_lifeOf := ⟨⟨wc_5.1, xtc8 52 rfl rfl, wc_5.2.1, wc_5.2.2, by decide +kernel, by decide, rfl⟩, bX12_lifeOf_ok⟩
def lX12_looks : List xL := [(3, 1, 12, 29, 60), (3, 13, 165, 96, 287), (3, 1, 12, 30, 63)]
theorem kX12_looks : ∀ q ∈ lX12_looks, xLq RX12 q := List.forall_mem_cons.mpr ⟨lk_390, List.forall_mem_cons.mpr ⟨lk_404, List.forall_mem_cons.mpr ⟨lk_392, fun _ h => absurd h List.not_mem_nil⟩⟩⟩
theorem bX12_looks_ok : ∀ b ∈ bX12_looks, xbok RX12 cX12_looks b := xbF_ok (lk := lX12_looks) (ls := []) kX12_looks xno_sw (by decide +kernel)
set_option maxRecDepth 20000 in
theorem vX12_looks : xMok mX12_looks := ⟨⟨wc_5.1, xtc8 92 rfl rfl, wc_5.2.1, wc_5.2.2, by decide +kernel, by decide, rfl⟩, bX12_looks_ok⟩
def lX12_manyKept : List xL := [(3, 13, 174, 96, 403), (3, 13, 164, 96, 406)]
theorem kX12_manyKept : ∀ q ∈ lX12_manyKept, xLq RX12 q := List.forall_mem_cons.mpr ⟨lk_398, List.forall_mem_cons.mpr ⟨lk_399, fun _ h => absurd h List.not_mem_nil⟩⟩
theorem bX12_manyKept_ok : ∀ b ∈ bX12_manyKept, xbok RX12 cX12_manyKept b := xbF_ok (lk := lX12_manyKept) (ls := []) kX12_manyKept xno_sw (by decide +kernel)
set_option maxRecDepth 20000 in
theorem vX12_manyKept : xMok mX12_manyKept := ⟨⟨wc_5.1, xtc9 68 rfl rfl, wc_5.2.1, wc_5.2.2, by decide +kernel, by decide, rfl⟩, bX12_manyKept_ok⟩
def lX12_meets : List xL := [(3, 1, 12, 32, 69), (3, 1, 12, 31, 66), (3, 1, 12, 33, 290), (3, 14, 12, 33, 290)]
theorem kX12_meets : ∀ q ∈ lX12_meets, xLq RX12 q := List.forall_mem_cons.mpr ⟨lk_350, List.forall_mem_cons.mpr ⟨lk_407, List.forall_mem_cons.mpr ⟨lk_408, List.forall_mem_cons.mpr ⟨lk_409, fun _ h => absurd h List.not_mem_nil⟩⟩⟩⟩
theorem bX12_meets_ok : ∀ b ∈ bX12_meets, xbok RX12 cX12_meets b := xbF_ok (lk := lX12_meets) (ls := []) kX12_meets xno_sw (by decide +kernel)
set_option maxRecDepth 20000 in
theorem vX12_meets : xMok mX12_meets := ⟨⟨wc_5.1, xtc8 108 rfl rfl, wc_5.2.1, wc_5.2.2, by decide +kernel, by decide, rfl⟩, bX12_meets_ok⟩
def lX12_mend : List xL := [(3, 13, 130, 96, 376), (3, 13, 161, 98, 105), (3, 1, 12, 0, 7), (3, 13, 200, 98, 379), (3, 13, 160, 96, 382)]
theorem kX12_mend : ∀ q ∈ lX12_mend, xLq RX12 q := List.forall_mem_cons.mpr ⟨lk_295, List.forall_mem_cons.mpr ⟨lk_256, List.forall_mem_cons.mpr ⟨lk_290, List.forall_mem_cons.mpr ⟨lk_410, List.forall_mem_cons.mpr ⟨lk_411, fun _ h => absurd h List.not_mem_nil⟩⟩⟩⟩⟩
theorem bX12_mend_ok : ∀ b ∈ bX12_mend, xbok RX12 cX12_mend b := xbF_ok (lk := lX12_mend) (ls := []) kX12_mend xno_sw (by decide +kernel)
set_option maxRecDepth 20000 in
theorem vX12_mend : xMok mX12_mend := ⟨⟨wc_5.1, xtc9 7 rfl rfl, wc_5.2.1, wc_5.2.2, by decide +kernel, by decide, rfl⟩, bX12_mend_ok⟩
def lX12_most : List xL := [(3, 13, 189, 96, 302), (3, 13, 113, 96, 305), (3, 13, 147, 96, 308)]
theorem kX12_most : ∀ q ∈ lX12_most, xLq RX12 q := List.forall_mem_cons.mpr ⟨lk_329, List.forall_mem_cons.mpr ⟨lk_330, List.forall_mem_cons.mpr ⟨lk_331, fun _ h => absurd h List.not_mem_nil⟩⟩⟩
theorem bX12_most_ok : ∀ b ∈ bX12_most, xbok RX12 cX12_most b := xbF_ok (lk := lX12_most) (ls := []) kX12_most xno_sw (by decide +kernel)
set_option maxRecDepth 20000 in
theorem vX12_most : xMok mX12_most := ⟨⟨wc_5.1, xtc8 88 rfl rfl, wc_5.2.1, wc_5.2.2, by decide +kernel, by decide, rfl⟩, bX12_most_ok⟩
def lX12_mostOf : List xL := []
theorem kX12_mostOf : ∀ q ∈ lX12_mostOf, xLq RX12 q := fun _ h => absurd h List.not_mem_nil
theorem bX12_mostOf_ok : ∀ b ∈ bX12_mostOf, xbok RX12 cX12_mostOf b := xbF_ok (lk := lX12_mostOf) (ls := []) kX12_mostOf xno_sw (by decide +kernel)
set_option maxRecDepth 20000 in
theorem vX12_mostOf : xMok mX12_mostOf := ⟨⟨wc_5.1, xtc7 184 rfl rfl, wc_5.2.1, wc_5.2.2, by decide +kernel, by decide, rfl⟩, bX12_mostOf_ok⟩
def lX12_must : List xL := [(3, 1, 12, 10, 180), (3, 1, 12, 7, 151), (3, 1, 12, 3, 174), (3, 13, 110, 96, 190), (3, 13, 140, 96, 183)]
theorem kX12_must : ∀ q ∈ lX12_must, xLq RX12 q := List.forall_mem_cons.mpr ⟨lk_250, List.forall_mem_cons.mpr ⟨lk_251, List.forall_mem_cons.mpr ⟨lk_271, List.forall_mem_cons.mpr ⟨lk_254, List.forall_mem_cons.mpr ⟨lk_253, fun _ h => absurd h List.not_mem_nil⟩⟩⟩⟩⟩
theorem bX12_must_ok : ∀ b ∈ bX12_must, xbok RX12 cX12_must b := xbF_ok (lk := lX12_must) (ls := []) kX12_must xno_sw (by decide +kernel)
set_option maxRecDepth 20000 in
theorem vX12_must : xMok mX12_must := ⟨⟨wc_5.1, xtc9 131 rfl rfl, wc_5.2.1, wc_5.2.2, by decide +kernel, by decide, rfl⟩, bX12_must_ok⟩
def lX12_neutral : List xL := [(3, 13, 168, 96, 241), (3, 13, 116, 96, 244), (3, 52, 1000, 0, 231), (3, 1, 12, 19, 38), (3, 1, 12, 20, 42)]
theorem kX12_neutral : ∀ q ∈ lX12_neutral, xLq RX12 q := List.forall_mem_cons.mpr ⟨lk_302, List.forall_mem_cons.mpr ⟨lk_304, List.forall_mem_cons.mpr ⟨lk_305, List.forall_mem_cons.mpr ⟨lk_315, List.forall_mem_cons.mpr ⟨lk_309, fun _ h => absurd h List.not_mem_nil⟩⟩⟩⟩⟩
theorem bX12_neutral_ok : ∀ b ∈ bX12_neutral, xbok RX12 cX12_neutral b := xbF_ok (lk := lX12_neutral) (ls := []) kX12_neutral xno_sw (by decide +kernel)
set_option maxRecDepth 20000 in
theorem vX12_neutral : xMok mX12_neutral := ⟨⟨wc_5.1, xtc8 0 rfl rfl, wc_5.2.1, wc_5.2.2, by decide +kernel, by decide, rfl⟩, bX12_neutral_ok⟩
def lX12_next : List xL := [(3, 13, 161, 98, 105), (3, 13, 174, 96, 403), (3, 13, 164, 96, 406), (3, 13, 179, 98, 397)]
theorem kX12_next : ∀ q ∈ lX12_next, xLq RX12 q := List.forall_mem_cons.mpr ⟨lk_256, List.forall_mem_cons.mpr ⟨lk_398, List.forall_mem_cons.mpr ⟨lk_399, List.forall_mem_cons.mpr ⟨lk_395, fun _ h => absurd h List.not_mem_nil⟩⟩⟩⟩
theorem bX12_next_ok : ∀ b ∈ bX12_next, xbok RX12 cX12_next b := xbF_ok (lk := lX12_next) (ls := []) kX12_next xno_sw (by decide +kernel)
set_option maxRecDepth 20000 in
theorem vX12_next : xMok mX12_next := ⟨⟨wc_5.1, xtc9 103 rfl rfl, wc_5.2.1, wc_5.2.2, by decide +kernel, by decide, rfl⟩, bX12_next_ok⟩
def lX12_numberNow : List xL := [(3, 1, 12, 8, 171), (3, 1, 12, 10, 180), (3, 1, 12, 7, 151), (3, 13, 110, 96, 190), (3, 13, 140, 96, 183)]
theorem kX12_numberNow : ∀ q ∈ lX12_numberNow, xLq RX12 q := List.forall_mem_cons.mpr ⟨lk_286, List.forall_mem_cons.mpr ⟨lk_250, List.forall_mem_cons.mpr ⟨lk_251, List.forall_mem_cons.mpr ⟨lk_254, List.forall_mem_cons.mpr ⟨lk_253, fun _ h => absurd h List.not_mem_nil⟩⟩⟩⟩⟩
theorem bX12_numberNow_ok : ∀ b ∈ bX12_numberNow, xbok RX12 cX12_numberNow b := xbF_ok (lk := lX12_numberNow) (ls := []) kX12_numberNow xno_sw (by decide +kernel)
set_option maxRecDepth 20000 in
theorem vX12_numberNow : xMok mX12_numberNow := ⟨⟨wc_5.1, xtc9 123 rfl rfl, wc_5.2.1, wc_5.2.2, by decide +kernel, by decide, rfl⟩, bX12_numberNow_ok⟩
def lX12_numbered : List xL := [(3, 1, 12, 10, 180), (3, 1, 12, 7, 151), (3, 13, 140, 96, 183), (3, 1, 12, 8, 171), (3, 13, 161, 98, 105), (3, 1, 12, 6, 148), (3, 13, 115, 96, 186), (3, 13, 110, 96, 190)]
theorem kX12_numbered : ∀ q ∈ lX12_numbered, xLq RX12 q := List.forall_mem_cons.mpr ⟨lk_250, List.forall_mem_cons.mpr ⟨lk_251, List.forall_mem_cons.mpr ⟨lk_253, List.forall_mem_cons.mpr ⟨lk_286, List.forall_mem_cons.mpr ⟨lk_256, List.forall_mem_cons.mpr ⟨lk_255, List.forall_mem_cons.mpr ⟨lk_259, List.forall_mem_cons.mpr ⟨lk_254, fun _ h => absurd h List.not_mem_nil⟩⟩⟩⟩⟩⟩⟩⟩
theorem bX12_numbered_ok : ∀ b ∈ bX12_numbered, xbok RX12 cX12_numbered b := xbF_ok (lk := lX12_numbered) (ls := []) kX12_numbered xno_sw (by decide +kernel)
set_option maxRecDepth 20000 in
theorem vX12_numbered : xMok mX12_numbered := ⟨⟨wc_5.1, xtc7 196 rfl rfl, wc_5.2.1, wc_5.2.2, by decide +kernel, by decide, rfl⟩, bX12_numbered_ok⟩
def lX12_ones : List xL := []
theorem kX12_ones : ∀ q ∈ lX12_ones, xLq RX12 q := fun _ h => absurd h List.not_mem_nil
theorem bX12_ones_ok : ∀ b ∈ bX12_ones, xbok RX12 cX12_ones b := xbF_ok (lk := lX12_ones) (ls := []) kX12_ones xno_sw (by decide +kernel)
set_option maxRecDepth 20000 in
theorem vX12_ones : xMok mX12_ones := ⟨⟨wc_5.1, xtc9 14 rfl rfl, wc_5.2.1, wc_5.2.2, by decide +kernel, by decide, rfl⟩, bX12_ones_ok⟩
def lX12_order : List xL := [(3, 1, 12, 0, 7), (3, 13, 161, 98, 105), (3, 13, 155, 96, 235), (3, 13, 122, 96, 238), (3, 13, 185, 96, 253), (3, 1, 12, 16, 29), (3, 1, 12, 15, 26), (3, 13, 213, 96, 260)]
theorem kX12_order : ∀ q ∈ lX12_order, xLq RX12 q := List.forall_mem_cons.mpr ⟨lk_290, List.forall_mem_cons.mpr ⟨lk_256, List.forall_mem_cons.mpr ⟨lk_292, List.forall_mem_cons.mpr ⟨lk_293, List.forall_mem_cons.mpr ⟨lk_405, List.forall_mem_cons.mpr ⟨lk_412, List.forall_mem_cons.mpr ⟨lk_354, List.forall_mem_cons.mpr ⟨lk_413, fun _ h => absurd h List.not_mem_nil⟩⟩⟩⟩⟩⟩⟩⟩
theorem bX12_order_ok : ∀ b ∈ bX12_order, xbok RX12 cX12_order b := xbF_ok (lk := lX12_order) (ls := []) kX12_order xno_sw (by decide +kernel)
set_option maxRecDepth 20000 in
theorem vX12_order : xMok mX12_order := ⟨⟨wc_5.1, xtc8 32 rfl rfl, wc_5.2.1, wc_5.2.2, by decide +kernel, by decide, rfl⟩, bX12_order_ok⟩
def lX12_panel : List xL := [(3, 13, 161, 98, 105), (3, 13, 207, 96, 373), (3, 1, 12, 41, 364), (3, 1, 12, 40, 90)]
theorem kX12_panel : ∀ q ∈ lX12_panel, xLq RX12 q := List.forall_mem_cons.mpr ⟨lk_256, List.forall_mem_cons.mpr ⟨lk_414, List.forall_mem_cons.mpr ⟨lk_415, List.forall_mem_cons.mpr ⟨lk_416, fun _ h => absurd h List.not_mem_nil⟩⟩⟩⟩
theorem bX12_panel_ok : ∀ b ∈ bX12_panel, xbok RX12 cX12_panel b := xbF_ok (lk := lX12_panel) (ls := []) kX12_panel xno_sw (by decide +kernel)
set_option maxRecDepth 20000 in
theorem vX12_panel : xMok mX12_panel := ⟨⟨wc_5.1, xtc8 239 rfl rfl, wc_5.2.1, wc_5.2.2, by decide +kernel, by decide, rfl⟩, bX12_panel_ok⟩
def lX12_panelOf : List xL := [(3, 1, 12, 0, 7), (3, 1, 12, 38, 84), (3, 13, 118, 98, 344)]
theorem kX12_panelOf : ∀ q ∈ lX12_panelOf, xLq RX12 q := List.forall_mem_cons.mpr ⟨lk_290, List.forall_mem_cons.mpr ⟨lk_417, List.forall_mem_cons.mpr ⟨lk_402, fun _ h => absurd h List.not_mem_nil⟩⟩⟩
theorem bX12_panelOf_ok : ∀ b ∈ bX12_panelOf, xbok RX12 cX12_panelOf b := xbF_ok (lk := lX12_panelOf) (ls := []) kX12_panelOf xno_sw (by decide +kernel)
set_option maxRecDepth 20000 in
theorem vX12_panelOf : xMok mX12_panelOf := ⟨⟨wc_5.1, xtc8 219 rfl rfl, wc_5.2.1, wc_5.2.2, by decide +kernel, by decide, rfl⟩, bX12_panelOf_ok⟩
def lX12_panels : List xL := [(3, 13, 207, 96, 373), (3, 1, 12, 41, 364)]
theorem kX12_panels : ∀ q ∈ lX12_panels, xLq RX12 q := List.forall_mem_cons.mpr ⟨lk_414, List.forall_mem_cons.mpr ⟨lk_415, fun _ h => absurd h List.not_mem_nil⟩⟩
theorem bX12_panels_ok : ∀ b ∈ bX12_panels, xbok RX12 cX12_panels b := xbF_ok (lk := lX12_panels) (ls := []) kX12_panels xno_sw (by decide +kernel)
set_option maxRecDepth 20000 in
theorem vX12_panels : xMok mX12_panels := ⟨⟨wc_5.1, xtc8 223 rfl rfl, wc_5.2.1, wc_5.2.2, by decide +kernel, by decide, rfl⟩, bX12_panels_ok⟩
def lX12_picture : List xL := [(3, 1, 12, 0, 7), (3, 13, 161, 98, 105)]
theorem kX12_picture : ∀ q ∈ lX12_picture, xLq RX12 q := List.forall_mem_cons.mpr ⟨lk_290, List.forall_mem_cons.mpr ⟨lk_256, fun _ h => absurd h List.not_mem_nil⟩⟩
theorem bX12_picture_ok : ∀ b ∈ bX12_picture, xbok RX12 cX12_picture b := xbF_ok (lk := lX12_picture) (ls := []) kX12_picture xno_sw (by decide +kernel)
set_option maxRecDepth 20000 in
theorem vX12_picture : xMok mX12_picture := ⟨⟨wc_5.1, xtc8 144 rfl rfl, wc_5.2.1, wc_5.2.2, by decide +kernel, by decide, rfl⟩, bX12_picture_ok⟩
def lX12_pieceOf : List xL := [(3, 13, 203, 96, 348), (3, 1, 12, 0, 7), (3, 1, 12, 37, 81), (3, 13, 118, 98, 344)]
theorem kX12_pieceOf : ∀ q ∈ lX12_pieceOf, xLq RX12 q := List.forall_mem_cons.mpr ⟨lk_418, List.forall_mem_cons.mpr ⟨lk_290, List.forall_mem_cons.mpr ⟨lk_419, List.forall_mem_cons.mpr ⟨lk_402, fun _ h => absurd h List.not_mem_nil⟩⟩⟩⟩
theorem bX12_pieceOf_ok : ∀ b ∈ bX12_pieceOf, xbok RX12 cX12_pieceOf b := xbF_ok (lk := lX12_pieceOf) (ls := []) kX12_pieceOf xno_sw (by decide +kernel)
set_option maxRecDepth 20000 in
theorem vX12_pieceOf : xMok mX12_pieceOf := ⟨⟨wc_5.1, xtc8 215 rfl rfl, wc_5.2.1, wc_5.2.2, by decide +kernel, by decide, rfl⟩, bX12_pieceOf_ok⟩
def lX12_plans : List xL := [(3, 13, 234, 96, 358), (3, 14, 12, 41, 364), (3, 14, 12, 42, 361), (3, 1, 12, 0, 7), (3, 13, 182, 96, 367), (3, 1, 12, 42, 361), (3, 1, 12, 39, 87), (3, 13, 208, 96, 370)]
theorem kX12_plans : ∀ q ∈ lX12_plans, xLq RX12 q := List.forall_mem_cons.mpr ⟨lk_420, List.forall_mem_cons.mpr ⟨lk_421, List.forall_mem_cons.mpr ⟨lk_403, List.forall_mem_cons.mpr ⟨lk_290, List.forall_mem_cons.mpr ⟨lk_422, List.forall_mem_cons.mpr ⟨lk_401, List.forall_mem_cons.mpr ⟨lk_400, List.forall_mem_cons.mpr ⟨lk_423, fun _ h => absurd h List.not_mem_nil⟩⟩⟩⟩⟩⟩⟩⟩
theorem bX12_plans_ok : ∀ b ∈ bX12_plans, xbok RX12 cX12_plans b := xbF_ok (lk := lX12_plans) (ls := []) kX12_plans xno_sw (by decide +kernel)
set_option maxRecDepth 20000 in
theorem vX12_plans : xMok mX12_plans := ⟨⟨wc_5.1, xtc8 227 rfl rfl, wc_5.2.1, wc_5.2.2, by decide +kernel, by decide, rfl⟩, bX12_plans_ok⟩
def lX12_plansOne : List xL := [(3, 1, 12, 37, 81), (3, 13, 203, 96, 348), (3, 1, 12, 0, 7), (3, 1, 12, 40, 90), (3, 1, 12, 41, 364), (3, 14, 12, 41, 364), (3, 13, 118, 98, 344), (3, 13, 182, 96, 367)]
theorem kX12_plansOne : ∀ q ∈ lX12_plansOne, xLq RX12 q := List.forall_mem_cons.mpr ⟨lk_419, List.forall_mem_cons.mpr ⟨lk_418, List.forall_mem_cons.mpr ⟨lk_290, List.forall_mem_cons.mpr ⟨lk_416, List.forall_mem_cons.mpr ⟨lk_415, List.forall_mem_cons.mpr ⟨lk_421, List.forall_mem_cons.mpr ⟨lk_402, List.forall_mem_cons.mpr ⟨lk_422, fun _ h => absurd h List.not_mem_nil⟩⟩⟩⟩⟩⟩⟩⟩
theorem bX12_plansOne_ok : ∀ b ∈ bX12_plansOne, xbok RX12 cX12_plansOne b := xbF_ok (lk := lX12_plansOne) (ls := []) kX12_plansOne xno_sw (by decide +kernel)
set_option maxRecDepth 20000 in
theorem vX12_plansOne : xMok mX12_plansOne := ⟨⟨wc_5.1, xtc8 235 rfl rfl, wc_5.2.1, wc_5.2.2, by decide +kernel, by decide, rfl⟩, bX12_plansOne_ok⟩
def lX12_price : List xL := [(3, 1, 12, 0, 7), (3, 13, 152, 96, 450)]
theorem kX12_price : ∀ q ∈ lX12_price, xLq RX12 q := List.forall_mem_cons.mpr ⟨lk_290, List.forall_mem_cons.mpr ⟨lk_301, fun _ h => absurd h List.not_mem_nil⟩⟩
theorem bX12_price_ok : ∀ b ∈ bX12_price, xbok RX12 cX12_price b := xbF_ok (lk := lX12_price) (ls := []) kX12_price xno_sw (by decide +kernel)
set_option maxRecDepth 20000 in
theorem vX12_price : xMok mX12_price := ⟨⟨wc_5.1, xtc9 155 rfl rfl, wc_5.2.1, wc_5.2.2, by decide +kernel, by decide, rfl⟩, bX12_price_ok⟩
def lX12_promise : List xL := [(3, 13, 161, 98, 105), (3, 13, 218, 96, 390)]
theorem kX12_promise : ∀ q ∈ lX12_promise, xLq RX12 q := List.forall_mem_cons.mpr ⟨lk_256, List.forall_mem_cons.mpr ⟨lk_424, fun _ h => absurd h List.not_mem_nil⟩⟩
theorem bX12_promise_ok : ∀ b ∈ bX12_promise, xbok RX12 cX12_promise b := xbF_ok (lk := lX12_promise) (ls := []) kX12_promise xno_sw (by decide +kernel)
set_option maxRecDepth 20000 in
theorem vX12_promise : xMok mX12_promise := ⟨⟨wc_5.1, xtc9 43 rfl rfl, wc_5.2.1, wc_5.2.2, by decide +kernel, by decide, rfl⟩, bX12_promise_ok⟩
def lX12_puts : List xL := [(3, 13, 194, 98, 193), (3, 1, 12, 12, 20)]
theorem kX12_puts : ∀ q ∈ lX12_puts, xLq RX12 q := List.forall_mem_cons.mpr ⟨lk_258, List.forall_mem_cons.mpr ⟨lk_343, fun _ h => absurd h List.not_mem_nil⟩⟩
theorem bX12_puts_ok : ∀ b ∈ bX12_puts, xbok RX12 cX12_puts b := xbF_ok (lk := lX12_puts) (ls := []) kX12_puts xno_sw (by decide +kernel)
set_option maxRecDepth 20000 in
theorem vX12_puts : xMok mX12_puts := ⟨⟨wc_5.1, xtc7 200 rfl rfl, wc_5.2.1, wc_5.2.2, by decide +kernel, by decide, rfl⟩, bX12_puts_ok⟩
def lX12_quarrel : List xL := [(3, 13, 190, 96, 409), (3, 13, 114, 96, 400), (3, 13, 200, 98, 379), (3, 13, 170, 96, 412)]
theorem kX12_quarrel : ∀ q ∈ lX12_quarrel, xLq RX12 q := List.forall_mem_cons.mpr ⟨lk_300, List.forall_mem_cons.mpr ⟨lk_394, List.forall_mem_cons.mpr ⟨lk_410, List.forall_mem_cons.mpr ⟨lk_425, fun _ h => absurd h List.not_mem_nil⟩⟩⟩⟩
theorem bX12_quarrel_ok : ∀ b ∈ bX12_quarrel, xbok RX12 cX12_quarrel b := xbF_ok (lk := lX12_quarrel) (ls := []) kX12_quarrel xno_sw (by decide +kernel)
set_option maxRecDepth 20000 in
theorem vX12_quarrel : xMok mX12_quarrel := ⟨⟨wc_5.1, xtc9 95 rfl rfl, wc_5.2.1, wc_5.2.2, by decide +kernel, by decide, rfl⟩, bX12_quarrel_ok⟩
def lX12_reorders : List xL := [(3, 1, 12, 15, 26), (3, 13, 226, 96, 257)]
theorem kX12_reorders : ∀ q ∈ lX12_reorders, xLq RX12 q := List.forall_mem_cons.mpr ⟨lk_354, List.forall_mem_cons.mpr ⟨lk_426, fun _ h => absurd h List.not_mem_nil⟩⟩
theorem bX12_reorders_ok : ∀ b ∈ bX12_reorders, xbok RX12 cX12_reorders b := xbF_ok (lk := lX12_reorders) (ls := []) kX12_reorders xno_sw (by decide +kernel)
set_option maxRecDepth 20000 in
theorem vX12_reorders : xMok mX12_reorders := ⟨⟨wc_5.1, xtc8 36 rfl rfl, wc_5.2.1, wc_5.2.2, by decide +kernel, by decide, rfl⟩, bX12_reorders_ok⟩
def lX12_rulePuts : List xL := [(3, 1, 12, 14, 212), (3, 1, 12, 45, 99)]
theorem kX12_rulePuts : ∀ q ∈ lX12_rulePuts, xLq RX12 q := List.forall_mem_cons.mpr ⟨lk_263, List.forall_mem_cons.mpr ⟨lk_427, fun _ h => absurd h List.not_mem_nil⟩⟩
theorem bX12_rulePuts_ok : ∀ b ∈ bX12_rulePuts, xbok RX12 cX12_rulePuts b := xbF_ok (lk := lX12_rulePuts) (ls := []) kX12_rulePuts xno_sw (by decide +kernel)
set_option maxRecDepth 20000 in
theorem vX12_rulePuts : xMok mX12_rulePuts := ⟨⟨wc_5.1, xtc9 127 rfl rfl, wc_5.2.1, wc_5.2.2, by decide +kernel, by decide, rfl⟩, bX12_rulePuts_ok⟩
def lX12_ruleWordOf : List xL := [(3, 13, 229, 98, 117), (3, 13, 220, 98, 131), (3, 13, 146, 98, 125), (3, 13, 148, 98, 121), (3, 52, 294, 0, 135)]
theorem kX12_ruleWordOf : ∀ q ∈ lX12_ruleWordOf, xLq RX12 q := List.forall_mem_cons.mpr ⟨lk_352, List.forall_mem_cons.mpr ⟨lk_428, List.forall_mem_cons.mpr ⟨lk_429, List.forall_mem_cons.mpr ⟨lk_345, List.forall_mem_cons.mpr ⟨lk_430, fun _ h => absurd h List.not_mem_nil⟩⟩⟩⟩⟩
theorem bX12_ruleWordOf_ok : ∀ b ∈ bX12_ruleWordOf, xbok RX12 cX12_ruleWordOf b := xbF_ok (lk := lX12_ruleWordOf) (ls := []) kX12_ruleWordOf xno_sw (by decide +kernel)
set_option maxRecDepth 20000 in
theorem vX12_ruleWordOf : xMok mX12_ruleWordOf := ⟨⟨wc_5.1, xtc7 146 rfl rfl, wc_5.2.1, wc_5.2.2, by decide +kernel, by decide, rfl⟩, bX12_ruleWordOf_ok⟩
def lX12_rules : List xL := [(3, 13, 121, 96, 215), (3, 13, 110, 96, 190), (3, 1, 12, 10, 180), (3, 1, 12, 7, 151), (3, 13, 108, 96, 430), (3, 1, 12, 0, 7), (3, 1, 12, 45, 99), (3, 1, 12, 14, 212)]
theorem kX12_rules : ∀ q ∈ lX12_rules, xLq RX12 q := List.forall_mem_cons.mpr ⟨lk_342, List.forall_mem_cons.mpr ⟨lk_254, List.forall_mem_cons.mpr ⟨lk_250, List.forall_mem_cons.mpr ⟨lk_251, List.forall_mem_cons.mpr ⟨lk_431, List.forall_mem_cons.mpr ⟨lk_290, List.forall_mem_cons.mpr ⟨lk_427, List.forall_mem_cons.mpr ⟨lk_263, fun _ h => absurd h List.not_mem_nil⟩⟩⟩⟩⟩⟩⟩⟩
theorem bX12_rules_ok : ∀ b ∈ bX12_rules, xbok RX12 cX12_rules b := xbF_ok (lk := lX12_rules) (ls := []) kX12_rules xno_sw (by decide +kernel)
set_option maxRecDepth 20000 in
theorem vX12_rules : xMok mX12_rules := ⟨⟨wc_5.1, xtc9 107 rfl rfl, wc_5.2.1, wc_5.2.2, by decide +kernel, by decide, rfl⟩, bX12_rules_ok⟩
def lX12_share : List xL := [(3, 13, 161, 98, 105), (3, 13, 218, 96, 390)]
theorem kX12_share : ∀ q ∈ lX12_share, xLq RX12 q := List.forall_mem_cons.mpr ⟨lk_256, List.forall_mem_cons.mpr ⟨lk_424, fun _ h => absurd h List.not_mem_nil⟩⟩
theorem bX12_share_ok : ∀ b ∈ bX12_share, xbok RX12 cX12_share b := xbF_ok (lk := lX12_share) (ls := []) kX12_share xno_sw (by decide +kernel)
set_option maxRecDepth 20000 in
theorem vX12_share : xMok mX12_share := ⟨⟨wc_5.1, xtc9 35 rfl rfl, wc_5.2.1, wc_5.2.2, by decide +kernel, by decide, rfl⟩, bX12_share_ok⟩
def lX12_shareOf : List xL := [(3, 13, 116, 96, 244), (3, 1, 12, 0, 7), (3, 13, 123, 96, 387)]
theorem kX12_shareOf : ∀ q ∈ lX12_shareOf, xLq RX12 q := List.forall_mem_cons.mpr ⟨lk_304, List.forall_mem_cons.mpr ⟨lk_290, List.forall_mem_cons.mpr ⟨lk_323, fun _ h => absurd h List.not_mem_nil⟩⟩⟩
theorem bX12_shareOf_ok : ∀ b ∈ bX12_shareOf, xbok RX12 cX12_shareOf b := xbF_ok (lk := lX12_shareOf) (ls := []) kX12_shareOf xno_sw (by decide +kernel)
set_option maxRecDepth 20000 in
theorem vX12_shareOf : xMok mX12_shareOf := ⟨⟨wc_5.1, xtc9 39 rfl rfl, wc_5.2.1, wc_5.2.2, by decide +kernel, by decide, rfl⟩, bX12_shareOf_ok⟩
def lX12_shift : List xL := [(3, 1, 12, 0, 7), (3, 13, 177, 96, 393)]
theorem kX12_shift : ∀ q ∈ lX12_shift, xLq RX12 q := List.forall_mem_cons.mpr ⟨lk_290, List.forall_mem_cons.mpr ⟨lk_396, fun _ h => absurd h List.not_mem_nil⟩⟩
theorem bX12_shift_ok : ∀ b ∈ bX12_shift, xbok RX12 cX12_shift b := xbF_ok (lk := lX12_shift) (ls := []) kX12_shift xno_sw (by decide +kernel)
set_option maxRecDepth 20000 in
theorem vX12_shift : xMok mX12_shift := ⟨⟨wc_5.1, xtc9 55 rfl rfl, wc_5.2.1, wc_5.2.2, by decide +kernel, by decide, rfl⟩, bX12_shift_ok⟩
def lX12_six : List xL := [(3, 52, 32768, 0, 129)]
theorem kX12_six : ∀ q ∈ lX12_six, xLq RX12 q := List.forall_mem_cons.mpr ⟨lk_432, fun _ h => absurd h List.not_mem_nil⟩
theorem bX12_six_ok : ∀ b ∈ bX12_six, xbok RX12 cX12_six b := xbF_ok (lk := lX12_six) (ls := []) kX12_six xno_sw (by decide +kernel)
set_option maxRecDepth 20000 in
theorem vX12_six : xMok mX12_six := ⟨⟨wc_5.1, xtc7 152 rfl rfl, wc_5.2.1, wc_5.2.2, by decide +kernel, by decide, rfl⟩, bX12_six_ok⟩
def lX12_size0 : List xL := []
theorem kX12_size0 : ∀ q ∈ lX12_size0, xLq RX12 q := fun _ h => absurd h List.not_mem_nil
theorem bX12_size0_ok : ∀ b ∈ bX12_size0, xbok RX12 cX12_size0 b := xbF_ok (lk := lX12_size0) (ls := []) kX12_size0 xno_sw (by decide +kernel)
set_option maxRecDepth 20000 in
theorem vX12_size0 : xMok mX12_size0 := ⟨⟨wc_5.1, xtc7 236 rfl rfl, wc_5.2.1, wc_5.2.2, by decide +kernel, by decide, rfl⟩, bX12_size0_ok⟩
def lX12_slides : List xL := [(3, 1, 12, 0, 7)]
theorem kX12_slides : ∀ q ∈ lX12_slides, xLq RX12 q := List.forall_mem_cons.mpr ⟨lk_290, fun _ h => absurd h List.not_mem_nil⟩
theorem bX12_slides_ok : ∀ b ∈ bX12_slides, xbok RX12 cX12_slides b := xbF_ok (lk := lX12_slides) (ls := []) kX12_slides xno_sw (by decide +kernel)
set_option maxRecDepth 20000 in
theorem vX12_slides : xMok mX12_slides := ⟨⟨wc_5.1, xtc9 147 rfl rfl, wc_5.2.1, wc_5.2.2, by decide +kernel, by decide, rfl⟩, bX12_slides_ok⟩
def lX12_span : List xL := [(3, 13, 161, 98, 105), (3, 13, 174, 96, 403), (3, 13, 164, 96, 406), (3, 13, 179, 98, 397)]
theorem kX12_span : ∀ q ∈ lX12_span, xLq RX12 q := List.forall_mem_cons.mpr ⟨lk_256, List.forall_mem_cons.mpr ⟨lk_398, List.forall_mem_cons.mpr ⟨lk_399, List.forall_mem_cons.mpr ⟨lk_395, fun _ h => absurd h List.not_mem_nil⟩⟩⟩⟩
theorem bX12_span_ok : ∀ b ∈ bX12_span, xbok RX12 cX12_span b := xbF_ok (lk := lX12_span) (ls := []) kX12_span xno_sw (by decide +kernel)
set_option maxRecDepth 20000 in
theorem vX12_span : xMok mX12_span := ⟨⟨wc_5.1, xtc9 91 rfl rfl, wc_5.2.1, wc_5.2.2, by decide +kernel, by decide, rfl⟩, bX12_span_ok⟩
def lX12_spreads : List xL := [(3, 14, 12, 33, 290), (3, 1, 12, 32, 69), (3, 1, 12, 0, 7), (3, 1, 12, 27, 54), (3, 13, 191, 96, 293), (3, 1, 12, 33, 290), (3, 1, 12, 31, 66), (3, 1, 12, 29, 60), (3, 1, 12, 25, 48), (3, 1, 12, 30, 63), (3, 1, 12, 26, 51)]
theorem kX12_spreads : ∀ q ∈ lX12_spreads, xLq RX12 q := List.forall_mem_cons.mpr ⟨lk_409, List.forall_mem_cons.mpr ⟨lk_350, List.forall_mem_cons.mpr ⟨lk_290, List.forall_mem_cons.mpr ⟨lk_348, List.forall_mem_cons.mpr ⟨lk_433, List.forall_mem_cons.mpr ⟨lk_408, List.forall_mem_cons.mpr ⟨lk_407, List.forall_mem_cons.mpr ⟨lk_390, List.forall_mem_cons.mpr ⟨lk_346, List.forall_mem_cons.mpr ⟨lk_392, List.forall_mem_cons.mpr ⟨lk_347, fun _ h => absurd h List.not_mem_nil⟩⟩⟩⟩⟩⟩⟩⟩⟩⟩⟩
theorem bX12_spreads_ok : ∀ b ∈ bX12_spreads, xbok RX12 cX12_spreads b := xbF_ok (lk := lX12_spreads) (ls := []) kX12_spreads xno_sw (by decide +kernel)
set_option maxRecDepth 20000 in
theorem vX12_spreads : xMok mX12_spreads := ⟨⟨wc_5.1, xtc8 104 rfl rfl, wc_5.2.1, wc_5.2.2, by decide +kernel, by decide, rfl⟩, bX12_spreads_ok⟩
def lX12_stretch : List xL := [(3, 13, 168, 96, 241), (3, 13, 171, 96, 247), (2, 35, 2294967296, 0, 250), (3, 13, 116, 96, 244), (3, 52, 1000000, 0, 251), (3, 1, 12, 21, 45), (3, 1, 12, 20, 42)]
theorem kX12_stretch : ∀ q ∈ lX12_stretch, xLq RX12 q := List.forall_mem_cons.mpr ⟨lk_302, List.forall_mem_cons.mpr ⟨lk_303, List.forall_mem_cons.mpr ⟨lk_434, List.forall_mem_cons.mpr ⟨lk_304, List.forall_mem_cons.mpr ⟨lk_435, List.forall_mem_cons.mpr ⟨lk_306, List.forall_mem_cons.mpr ⟨lk_309, fun _ h => absurd h List.not_mem_nil⟩⟩⟩⟩⟩⟩⟩
theorem bX12_stretch_ok : ∀ b ∈ bX12_stretch, xbok RX12 cX12_stretch b := xbF_ok (lk := lX12_stretch) (ls := []) kX12_stretch xno_sw (by decide +kernel)
set_option maxRecDepth 20000 in
theorem vX12_stretch : xMok mX12_stretch := ⟨⟨wc_5.1, xtc8 5 rfl rfl, wc_5.2.1, wc_5.2.2, by decide +kernel, by decide, rfl⟩, bX12_stretch_ok⟩
def lX12_swap : List xL := [(3, 1, 12, 15, 26)]
theorem kX12_swap : ∀ q ∈ lX12_swap, xLq RX12 q := List.forall_mem_cons.mpr ⟨lk_354, fun _ h => absurd h List.not_mem_nil⟩
theorem bX12_swap_ok : ∀ b ∈ bX12_swap, xbok RX12 cX12_swap b := xbF_ok (lk := lX12_swap) (ls := []) kX12_swap xno_sw (by decide +kernel)
set_option maxRecDepth 20000 in
theorem vX12_swap : xMok mX12_swap := ⟨⟨wc_5.1, xtc8 40 rfl rfl, wc_5.2.1, wc_5.2.2, by decide +kernel, by decide, rfl⟩, bX12_swap_ok⟩
def lX12_takes : List xL := [(3, 1, 12, 10, 180), (3, 1, 12, 7, 151), (3, 1, 12, 9, 165), (3, 13, 110, 96, 190)]
theorem kX12_takes : ∀ q ∈ lX12_takes, xLq RX12 q := List.forall_mem_cons.mpr ⟨lk_250, List.forall_mem_cons.mpr ⟨lk_251, List.forall_mem_cons.mpr ⟨lk_252, List.forall_mem_cons.mpr ⟨lk_254, fun _ h => absurd h List.not_mem_nil⟩⟩⟩⟩
theorem bX12_takes_ok : ∀ b ∈ bX12_takes, xbok RX12 cX12_takes b := xbF_ok (lk := lX12_takes) (ls := []) kX12_takes xno_sw (by decide +kernel)
set_option maxRecDepth 20000 in
theorem vX12_takes : xMok mX12_takes := ⟨⟨wc_5.1, xtc9 115 rfl rfl, wc_5.2.1, wc_5.2.2, by decide +kernel, by decide, rfl⟩, bX12_takes_ok⟩
def lX12_test : List xL := [(3, 1, 12, 0, 7), (3, 13, 161, 98, 105), (3, 36, 999999, 0, 396)]
theorem kX12_test : ∀ q ∈ lX12_test, xLq RX12 q := List.forall_mem_cons.mpr ⟨lk_290, List.forall_mem_cons.mpr ⟨lk_256, List.forall_mem_cons.mpr ⟨lk_436, fun _ h => absurd h List.not_mem_nil⟩⟩⟩
theorem bX12_test_ok : ∀ b ∈ bX12_test, xbok RX12 cX12_test b := xbF_ok (lk := lX12_test) (ls := []) kX12_test xno_sw (by decide +kernel)
set_option maxRecDepth 20000 in
theorem vX12_test : xMok mX12_test := ⟨⟨wc_5.1, xtc9 59 rfl rfl, wc_5.2.1, wc_5.2.2, by decide +kernel, by decide, rfl⟩, bX12_test_ok⟩
def lX12_three : List xL := [(3, 52, 32, 0, 113), (3, 52, 96, 0, 115)]
theorem kX12_three : ∀ q ∈ lX12_three, xLq RX12 q := List.forall_mem_cons.mpr ⟨lk_278, List.forall_mem_cons.mpr ⟨lk_279, fun _ h => absurd h List.not_mem_nil⟩⟩
theorem bX12_three_ok : ∀ b ∈ bX12_three, xbok RX12 cX12_three b := xbF_ok (lk := lX12_three) (ls := []) kX12_three xno_sw (by decide +kernel)
set_option maxRecDepth 20000 in
theorem vX12_three : xMok mX12_three := ⟨⟨wc_5.1, xtc7 149 rfl rfl, wc_5.2.1, wc_5.2.2, by decide +kernel, by decide, rfl⟩, bX12_three_ok⟩
def lX12_tired : List xL := [(3, 13, 168, 96, 241), (3, 1, 12, 0, 7), (3, 13, 161, 98, 105), (3, 13, 116, 96, 244), (3, 13, 231, 96, 273), (3, 52, 1000, 0, 231), (3, 1, 12, 22, 267), (3, 1, 12, 23, 263)]
theorem kX12_tired : ∀ q ∈ lX12_tired, xLq RX12 q := List.forall_mem_cons.mpr ⟨lk_302, List.forall_mem_cons.mpr ⟨lk_290, List.forall_mem_cons.mpr ⟨lk_256, List.forall_mem_cons.mpr ⟨lk_304, List.forall_mem_cons.mpr ⟨lk_317, List.forall_mem_cons.mpr ⟨lk_305, List.forall_mem_cons.mpr ⟨lk_319, List.forall_mem_cons.mpr ⟨lk_320, fun _ h => absurd h List.not_mem_nil⟩⟩⟩⟩⟩⟩⟩⟩
theorem bX12_tired_ok : ∀ b ∈ bX12_tired, xbok RX12 cX12_tired b := xbF_ok (lk := lX12_tired) (ls := []) kX12_tired xno_sw (by decide +kernel)
set_option maxRecDepth 20000 in
theorem vX12_tired : xMok mX12_tired := ⟨⟨wc_5.1, xtc8 44 rfl rfl, wc_5.2.1, wc_5.2.2, by decide +kernel, by decide, rfl⟩, bX12_tired_ok⟩
def lX12_tires : List xL := [(3, 71, 12, 23, 263), (3, 71, 12, 22, 267), (3, 1, 12, 0, 7), (3, 1, 12, 23, 263), (3, 13, 188, 96, 270), (3, 1, 12, 22, 267)]
theorem kX12_tires : ∀ q ∈ lX12_tires, xLq RX12 q := List.forall_mem_cons.mpr ⟨lk_437, List.forall_mem_cons.mpr ⟨lk_322, List.forall_mem_cons.mpr ⟨lk_290, List.forall_mem_cons.mpr ⟨lk_320, List.forall_mem_cons.mpr ⟨lk_318, List.forall_mem_cons.mpr ⟨lk_319, fun _ h => absurd h List.not_mem_nil⟩⟩⟩⟩⟩⟩
theorem bX12_tires_ok : ∀ b ∈ bX12_tires, xbok RX12 cX12_tires b := xbF_ok (lk := lX12_tires) (ls := []) kX12_tires xno_sw (by decide +kernel)
set_option maxRecDepth 20000 in
theorem vX12_tires : xMok mX12_tires := ⟨⟨wc_5.1, xtc8 48 rfl rfl, wc_5.2.1, wc_5.2.2, by decide +kernel, by decide, rfl⟩, bX12_tires_ok⟩
def lX12_unlike : List xL := [(3, 13, 112, 96, 326), (3, 13, 169, 96, 323), (3, 13, 187, 96, 329)]
theorem kX12_unlike : ∀ q ∈ lX12_unlike, xLq RX12 q := List.forall_mem_cons.mpr ⟨lk_340, List.forall_mem_cons.mpr ⟨lk_333, List.forall_mem_cons.mpr ⟨lk_388, fun _ h => absurd h List.not_mem_nil⟩⟩⟩
theorem bX12_unlike_ok : ∀ b ∈ bX12_unlike, xbok RX12 cX12_unlike b := xbF_ok (lk := lX12_unlike) (ls := []) kX12_unlike xno_sw (by decide +kernel)
set_option maxRecDepth 20000 in
theorem vX12_unlike : xMok mX12_unlike := ⟨⟨wc_5.1, xtc8 164 rfl rfl, wc_5.2.1, wc_5.2.2, by decide +kernel, by decide, rfl⟩, bX12_unlike_ok⟩
def lX12_value : List xL := [(3, 1, 12, 0, 7), (3, 13, 161, 98, 105), (3, 13, 234, 96, 358), (3, 1, 12, 37, 81), (3, 13, 118, 98, 344)]
theorem kX12_value : ∀ q ∈ lX12_value, xLq RX12 q := List.forall_mem_cons.mpr ⟨lk_290, List.forall_mem_cons.mpr ⟨lk_256, List.forall_mem_cons.mpr ⟨lk_420, List.forall_mem_cons.mpr ⟨lk_419, List.forall_mem_cons.mpr ⟨lk_402, fun _ h => absurd h List.not_mem_nil⟩⟩⟩⟩⟩
theorem bX12_value_ok : ∀ b ∈ bX12_value, xbok RX12 cX12_value b := xbF_ok (lk := lX12_value) (ls := []) kX12_value xno_sw (by decide +kernel)
set_option maxRecDepth 20000 in
theorem vX12_value : xMok mX12_value := ⟨⟨wc_5.1, xtc8 200 rfl rfl, wc_5.2.1, wc_5.2.2, by decide +kernel, by decide, rfl⟩, bX12_value_ok⟩
def lX12_values : List xL := [(3, 1, 12, 0, 7), (3, 1, 12, 38, 84), (3, 13, 118, 98, 344), (3, 13, 151, 96, 351), (3, 1, 12, 37, 81), (3, 13, 206, 96, 355)]
theorem kX12_values : ∀ q ∈ lX12_values, xLq RX12 q := List.forall_mem_cons.mpr ⟨lk_290, List.forall_mem_cons.mpr ⟨lk_417, List.forall_mem_cons.mpr ⟨lk_402, List.forall_mem_cons.mpr ⟨lk_438, List.forall_mem_cons.mpr ⟨lk_419, List.forall_mem_cons.mpr ⟨lk_439, fun _ h => absurd h List.not_mem_nil⟩⟩⟩⟩⟩⟩
theorem bX12_values_ok : ∀ b ∈ bX12_values, xbok RX12 cX12_values b := xbF_ok (lk := lX12_values) (ls := []) kX12_values xno_sw (by decide +kernel)
set_option maxRecDepth 20000 in
theorem vX12_values : xMok mX12_values := ⟨⟨wc_5.1, xtc8 204 rfl rfl, wc_5.2.1, wc_5.2.2, by decide +kernel, by decide, rfl⟩, bX12_values_ok⟩
def lX12_view : List xL := [(3, 1, 12, 0, 7), (3, 13, 161, 98, 105)]
theorem kX12_view : ∀ q ∈ lX12_view, xLq RX12 q := List.forall_mem_cons.mpr ⟨lk_290, List.forall_mem_cons.mpr ⟨lk_256, fun _ h => absurd h List.not_mem_nil⟩⟩
theorem bX12_view_ok : ∀ b ∈ bX12_view, xbok RX12 cX12_view b := xbF_ok (lk := lX12_view) (ls := []) kX12_view xno_sw (by decide +kernel)
set_option maxRecDepth 20000 in
theorem vX12_view : xMok mX12_view := ⟨⟨wc_5.1, xtc8 64 rfl rfl, wc_5.2.1, wc_5.2.2, by decide +kernel, by decide, rfl⟩, bX12_view_ok⟩
def lX12_wet : List xL := [(3, 13, 161, 98, 105), (3, 1, 12, 0, 7)]
theorem kX12_wet : ∀ q ∈ lX12_wet, xLq RX12 q := List.forall_mem_cons.mpr ⟨lk_256, List.forall_mem_cons.mpr ⟨lk_290, fun _ h => absurd h List.not_mem_nil⟩⟩
theorem bX12_wet_ok : ∀ b ∈ bX12_wet, xbok RX12 cX12_wet b := xbF_ok (lk := lX12_wet) (ls := []) kX12_wet xno_sw (by decide +kernel)
set_option maxRecDepth 20000 in
theorem vX12_wet : xMok mX12_wet := ⟨⟨wc_5.1, xtc8 168 rfl rfl, wc_5.2.1, wc_5.2.2, by decide +kernel, by decide, rfl⟩, bX12_wet_ok⟩
def lX12_wetAt : List xL := [(3, 13, 169, 96, 323), (3, 1, 12, 35, 75)]
theorem kX12_wetAt : ∀ q ∈ lX12_wetAt, xLq RX12 q := List.forall_mem_cons.mpr ⟨lk_333, List.forall_mem_cons.mpr ⟨lk_335, fun _ h => absurd h List.not_mem_nil⟩⟩
theorem bX12_wetAt_ok : ∀ b ∈ bX12_wetAt, xbok RX12 cX12_wetAt b := xbF_ok (lk := lX12_wetAt) (ls := []) kX12_wetAt xno_sw (by decide +kernel)
set_option maxRecDepth 20000 in
theorem vX12_wetAt : xMok mX12_wetAt := ⟨⟨wc_5.1, xtc8 180 rfl rfl, wc_5.2.1, wc_5.2.2, by decide +kernel, by decide, rfl⟩, bX12_wetAt_ok⟩
def lX12_wordOf : List xL := [(3, 13, 146, 98, 125), (3, 13, 148, 98, 121), (3, 13, 229, 98, 117)]
theorem kX12_wordOf : ∀ q ∈ lX12_wordOf, xLq RX12 q := List.forall_mem_cons.mpr ⟨lk_429, List.forall_mem_cons.mpr ⟨lk_345, List.forall_mem_cons.mpr ⟨lk_352, fun _ h => absurd h List.not_mem_nil⟩⟩⟩
theorem bX12_wordOf_ok : ∀ b ∈ bX12_wordOf, xbok RX12 cX12_wordOf b := xbF_ok (lk := lX12_wordOf) (ls := []) kX12_wordOf xno_sw (by decide +kernel)
set_option maxRecDepth 20000 in
theorem vX12_wordOf : xMok mX12_wordOf := ⟨⟨wc_5.1, xtc7 163 rfl rfl, wc_5.2.1, wc_5.2.2, by decide +kernel, by decide, rfl⟩, bX12_wordOf_ok⟩
def lX12_worst : List xL := [(3, 1, 12, 0, 7), (3, 13, 171, 96, 247), (3, 13, 116, 96, 244), (3, 1, 12, 21, 45), (3, 13, 221, 98, 227), (3, 1, 12, 20, 42), (3, 13, 181, 96, 222)]
theorem kX12_worst : ∀ q ∈ lX12_worst, xLq RX12 q := List.forall_mem_cons.mpr ⟨lk_290, List.forall_mem_cons.mpr ⟨lk_303, List.forall_mem_cons.mpr ⟨lk_304, List.forall_mem_cons.mpr ⟨lk_306, List.forall_mem_cons.mpr ⟨lk_307, List.forall_mem_cons.mpr ⟨lk_309, List.forall_mem_cons.mpr ⟨lk_308, fun _ h => absurd h List.not_mem_nil⟩⟩⟩⟩⟩⟩⟩
theorem bX12_worst_ok : ∀ b ∈ bX12_worst, xbok RX12 cX12_worst b := xbF_ok (lk := lX12_worst) (ls := []) kX12_worst xno_sw (by decide +kernel)
set_option maxRecDepth 20000 in
theorem vX12_worst : xMok mX12_worst := ⟨⟨wc_5.1, xtc8 28 rfl rfl, wc_5.2.1, wc_5.2.2, by decide +kernel, by decide, rfl⟩, bX12_worst_ok⟩
def lX1_clear : List xL := [(3, 1, 1, 0, 14), (3, 13, 283, 40, 50), (3, 1, 1, 1, 18), (3, 1, 1, 2, 21), (3, 1, 1, 3, 24), (3, 1, 1, 4, 27), (3, 14, 1, 5, 30), (3, 14, 1, 6, 34), (3, 14, 1, 7, 37), (3, 14, 1, 8, 40), (3, 14, 1, 9, 53)]
theorem kX1_clear : ∀ q ∈ lX1_clear, xLq RX1 q := List.forall_mem_cons.mpr ⟨lk_440, List.forall_mem_cons.mpr ⟨lk_441, List.forall_mem_cons.mpr ⟨lk_442, List.forall_mem_cons.mpr ⟨lk_443, List.forall_mem_cons.mpr ⟨lk_444, List.forall_mem_cons.mpr ⟨lk_445, List.forall_mem_cons.mpr ⟨lk_446, List.forall_mem_cons.mpr ⟨lk_447, List.forall_mem_cons.mpr ⟨lk_448, List.forall_mem_cons.mpr ⟨lk_449, List.forall_mem_cons.mpr ⟨lk_450, fun _ h => absurd h List.not_mem_nil⟩⟩⟩⟩⟩⟩⟩⟩⟩⟩⟩
theorem bX1_clear_ok : ∀ b ∈ bX1_clear, xbok RX1 cX1_clear b := xbF_ok (lk := lX1_clear) (ls := []) kX1_clear xno_sw (by decide +kernel)
theorem wc_6 : plainName RX1 = true ∧ Cond.initialized RX1 ∈ lw_gt ∧ (RX1 ≠ "java/lang/invoke/MethodHandle" ∧ RX1 ≠ "java/lang/invoke/VarHandle") := ⟨by decide +kernel, xtc1 3 rfl rfl, by decide +kernel, by decide +kernel⟩
set_option maxRecDepth 20000 in
theorem vX1_clear : xMok mX1_clear := ⟨⟨wc_6.1, xtc3 72 rfl rfl, wc_6.2.1, wc_6.2.2, by decide +kernel, by decide, rfl⟩, bX1_clear_ok⟩
def lX1_copy : List xL := [(3, 1, 1, 0, 14), (3, 13, 284, 40, 56), (3, 1, 1, 1, 18), (3, 1, 1, 2, 21), (3, 1, 1, 3, 24), (3, 1, 1, 4, 27), (3, 1, 1, 5, 30), (3, 14, 1, 5, 30), (3, 1, 1, 6, 34), (3, 14, 1, 6, 34), (3, 1, 1, 7, 37), (3, 14, 1, 7, 37), (3, 1, 1, 8, 40), (3, 14, 1, 8, 40), (3, 1, 1, 9, 53), (3, 14, 1, 9, 53)]
theorem kX1_copy : ∀ q ∈ lX1_copy, xLq RX1 q := List.forall_mem_cons.mpr ⟨lk_440, List.forall_mem_cons.mpr ⟨lk_451, List.forall_mem_cons.mpr ⟨lk_442, List.forall_mem_cons.mpr ⟨lk_443, List.forall_mem_cons.mpr ⟨lk_444, List.forall_mem_cons.mpr ⟨lk_445, List.forall_mem_cons.mpr ⟨lk_452, List.forall_mem_cons.mpr ⟨lk_446, List.forall_mem_cons.mpr ⟨lk_453, List.forall_mem_cons.mpr ⟨lk_447, List.forall_mem_cons.mpr ⟨lk_454, List.forall_mem_cons.mpr ⟨lk_448, List.forall_mem_cons.mpr ⟨lk_455, List.forall_mem_cons.mpr ⟨lk_449, List.forall_mem_cons.mpr ⟨lk_456, List.forall_mem_cons.mpr ⟨lk_450, fun _ h => absurd h List.not_mem_nil⟩⟩⟩⟩⟩⟩⟩⟩⟩⟩⟩⟩⟩⟩⟩⟩
theorem bX1_copy_ok : ∀ b ∈ bX1_copy, xbok RX1 cX1_copy b := xbF_ok (lk := lX1_copy) (ls := []) kX1_copy xno_sw (by decide +kernel)
set_option maxRecDepth 20000 in
theorem vX1_copy : xMok mX1_copy := ⟨⟨wc_6.1, xtc4 0 rfl rfl, wc_6.2.1, wc_6.2.2, by decide +kernel, by decide, rfl⟩, bX1_copy_ok⟩
def lX1_init : List xL := [(3, 25, 0, 0, 1), (3, 24, 5, 0, 7), (3, 13, 288, 44, 11), (3, 61, 1, 0, 14), (3, 61, 1, 1, 18), (3, 61, 1, 2, 21), (3, 61, 1, 3, 24), (3, 61, 1, 4, 27), (3, 14, 1, 5, 30), (3, 14, 1, 6, 34), (3, 14, 1, 7, 37), (3, 14, 1, 8, 40)]
theorem kX1_init : ∀ q ∈ lX1_init, xLq RX1 q := List.forall_mem_cons.mpr ⟨lk_457, List.forall_mem_cons.mpr ⟨lk_458, List.forall_mem_cons.mpr ⟨lk_459, List.forall_mem_cons.mpr ⟨lk_460, List.forall_mem_cons.mpr ⟨lk_461, List.forall_mem_cons.mpr ⟨lk_462, List.forall_mem_cons.mpr ⟨lk_463, List.forall_mem_cons.mpr ⟨lk_464, List.forall_mem_cons.mpr ⟨lk_446, List.forall_mem_cons.mpr ⟨lk_447, List.forall_mem_cons.mpr ⟨lk_448, List.forall_mem_cons.mpr ⟨lk_449, fun _ h => absurd h List.not_mem_nil⟩⟩⟩⟩⟩⟩⟩⟩⟩⟩⟩⟩
end
section
theorem bX1_init_ok : ∀ b ∈ bX1_init, xbok RX1 cX1_init b := xbF_ok (lk := lX1_init) (ls := []) kX1_init xno_sw (by decide +kernel)
set_option maxRecDepth 20000 in
theorem vX1_init : xMok mX1_init := ⟨⟨wc_6.1, xtc1 40 rfl rfl, wc_6.2.1, wc_6.2.2, by decide +kernel, by decide, rfl⟩, bX1_init_ok⟩
def lX1_rowsOf : List xL := [(3, 1, 1, 0, 14), (3, 1, 1, 1, 18), (3, 1, 1, 2, 21), (3, 1, 1, 3, 24), (3, 1, 1, 4, 27)]
theorem kX1_rowsOf : ∀ q ∈ lX1_rowsOf, xLq RX1 q := List.forall_mem_cons.mpr ⟨lk_440, List.forall_mem_cons.mpr ⟨lk_442, List.forall_mem_cons.mpr ⟨lk_443, List.forall_mem_cons.mpr ⟨lk_444, List.forall_mem_cons.mpr ⟨lk_445, fun _ h => absurd h List.not_mem_nil⟩⟩⟩⟩⟩
theorem swX1_rowsOf_0 : xLs RX1 (1, 35, 33, 61, 0, 13) := ⟨_, rfl, 60, 0, 4, #[35, 40, 45, 50, 55], [(0, 36), (1, 41), (2, 46), (3, 51), (4, 56)], rfl, rfl, by decide, by decide, by decide, by decide, rfl, by decide +kernel⟩
def sX1_rowsOf : List xI := [(1, 35, 33, 61, 0, 13)]
theorem zX1_rowsOf : ∀ e ∈ sX1_rowsOf, xLs RX1 e := List.forall_mem_cons.mpr ⟨swX1_rowsOf_0, fun _ h => absurd h List.not_mem_nil⟩
theorem bX1_rowsOf_ok : ∀ b ∈ bX1_rowsOf, xbok RX1 cX1_rowsOf b := xbF_ok (lk := lX1_rowsOf) (ls := sX1_rowsOf) kX1_rowsOf zX1_rowsOf (by decide +kernel)
set_option maxRecDepth 20000 in
theorem vX1_rowsOf : xMok mX1_rowsOf := ⟨⟨wc_6.1, xtc3 192 rfl rfl, wc_6.2.1, wc_6.2.2, by decide +kernel, by decide, ⟨_, rfl, Or.inl ⟨_, rfl⟩⟩⟩, bX1_rowsOf_ok⟩
def lX1_slidesAnywhere : List xL := [(3, 1, 1, 0, 14), (3, 1, 5, 3, 43), (3, 13, 285, 40, 46)]
theorem kX1_slidesAnywhere : ∀ q ∈ lX1_slidesAnywhere, xLq RX1 q := List.forall_mem_cons.mpr ⟨lk_440, List.forall_mem_cons.mpr ⟨lk_465, List.forall_mem_cons.mpr ⟨lk_466, fun _ h => absurd h List.not_mem_nil⟩⟩⟩
theorem bX1_slidesAnywhere_ok : ∀ b ∈ bX1_slidesAnywhere, xbok RX1 cX1_slidesAnywhere b := xbF_ok (lk := lX1_slidesAnywhere) (ls := []) kX1_slidesAnywhere xno_sw (by decide +kernel)
set_option maxRecDepth 20000 in
theorem vX1_slidesAnywhere : xMok mX1_slidesAnywhere := ⟨⟨wc_6.1, xtc6 167 rfl rfl, wc_6.2.1, wc_6.2.2, by decide +kernel, by decide, rfl⟩, bX1_slidesAnywhere_ok⟩
def lX2_findFlawBeside : List xL := [(3, 1, 2, 9, 57), (3, 1, 2, 2, 12), (3, 1, 1, 4, 211), (3, 1, 5, 3, 185), (3, 1, 2, 5, 25), (3, 13, 285, 40, 188), (3, 1, 1, 5, 192), (3, 1, 1, 6, 195), (3, 14, 2, 9, 57), (3, 14, 2, 10, 88)]
theorem kX2_findFlawBeside : ∀ q ∈ lX2_findFlawBeside, xLq RX2 q := List.forall_mem_cons.mpr ⟨lk_467, List.forall_mem_cons.mpr ⟨lk_468, List.forall_mem_cons.mpr ⟨lk_469, List.forall_mem_cons.mpr ⟨lk_470, List.forall_mem_cons.mpr ⟨lk_471, List.forall_mem_cons.mpr ⟨lk_472, List.forall_mem_cons.mpr ⟨lk_473, List.forall_mem_cons.mpr ⟨lk_474, List.forall_mem_cons.mpr ⟨lk_475, List.forall_mem_cons.mpr ⟨lk_476, fun _ h => absurd h List.not_mem_nil⟩⟩⟩⟩⟩⟩⟩⟩⟩⟩
theorem bX2_findFlawBeside_ok : ∀ b ∈ bX2_findFlawBeside, xbok RX2 cX2_findFlawBeside b := xbF_ok (lk := lX2_findFlawBeside) (ls := []) kX2_findFlawBeside xno_sw (by decide +kernel)
theorem wc_7 : plainName RX2 = true ∧ Cond.initialized RX2 ∈ lw_gt ∧ (RX2 ≠ "java/lang/invoke/MethodHandle" ∧ RX2 ≠ "java/lang/invoke/VarHandle") := ⟨by decide +kernel, xtc1 5 rfl rfl, by decide +kernel, by decide +kernel⟩
set_option maxRecDepth 20000 in
theorem vX2_findFlawBeside : xMok mX2_findFlawBeside := ⟨⟨wc_7.1, xtc3 236 rfl rfl, wc_7.2.1, wc_7.2.2, by decide +kernel, by decide, rfl⟩, bX2_findFlawBeside_ok⟩
def lX2_init : List xL := [(3, 25, 0, 0, 3), (3, 24, 1, 0, 9), (3, 13, 242, 13, 11), (3, 61, 2, 2, 12), (3, 61, 2, 3, 18), (3, 61, 2, 4, 22), (3, 61, 2, 5, 25), (3, 61, 2, 0, 28), (3, 24, 8, 0, 32), (3, 1, 9, 0, 34), (3, 13, 313, 68, 40), (3, 61, 2, 1, 43)]
theorem kX2_init : ∀ q ∈ lX2_init, xLq RX2 q := List.forall_mem_cons.mpr ⟨lk_477, List.forall_mem_cons.mpr ⟨lk_478, List.forall_mem_cons.mpr ⟨lk_479, List.forall_mem_cons.mpr ⟨lk_480, List.forall_mem_cons.mpr ⟨lk_481, List.forall_mem_cons.mpr ⟨lk_482, List.forall_mem_cons.mpr ⟨lk_483, List.forall_mem_cons.mpr ⟨lk_484, List.forall_mem_cons.mpr ⟨lk_485, List.forall_mem_cons.mpr ⟨lk_486, List.forall_mem_cons.mpr ⟨lk_487, List.forall_mem_cons.mpr ⟨lk_488, fun _ h => absurd h List.not_mem_nil⟩⟩⟩⟩⟩⟩⟩⟩⟩⟩⟩⟩
theorem bX2_init_ok : ∀ b ∈ bX2_init, xbok RX2 cX2_init b := xbF_ok (lk := lX2_init) (ls := []) kX2_init xno_sw (by decide +kernel)
set_option maxRecDepth 20000 in
theorem vX2_init : xMok mX2_init := ⟨⟨wc_7.1, xtc1 205 rfl rfl, wc_7.2.1, wc_7.2.2, by decide +kernel, by decide, rfl⟩, bX2_init_ok⟩
def lX2_isFine : List xL := [(3, 13, 249, 16, 158), (3, 14, 2, 9, 57), (3, 14, 2, 10, 88), (3, 37, 1, 0, 115), (3, 1, 2, 3, 18), (3, 37, 2, 0, 162), (3, 37, 3, 0, 165), (3, 13, 70, 91, 168), (3, 1, 2, 4, 22)]
theorem kX2_isFine : ∀ q ∈ lX2_isFine, xLq RX2 q := List.forall_mem_cons.mpr ⟨lk_489, List.forall_mem_cons.mpr ⟨lk_475, List.forall_mem_cons.mpr ⟨lk_476, List.forall_mem_cons.mpr ⟨lk_490, List.forall_mem_cons.mpr ⟨lk_491, List.forall_mem_cons.mpr ⟨lk_492, List.forall_mem_cons.mpr ⟨lk_493, List.forall_mem_cons.mpr ⟨lk_494, List.forall_mem_cons.mpr ⟨lk_495, fun _ h => absurd h List.not_mem_nil⟩⟩⟩⟩⟩⟩⟩⟩⟩
theorem bX2_isFine_ok : ∀ b ∈ bX2_isFine, xbok RX2 cX2_isFine b := xbF_ok (lk := lX2_isFine) (ls := []) kX2_isFine xno_sw (by decide +kernel)
set_option maxRecDepth 20000 in
theorem vX2_isFine : xMok mX2_isFine := ⟨⟨wc_7.1, xtc3 184 rfl rfl, wc_7.2.1, wc_7.2.2, by decide +kernel, by decide, rfl⟩, bX2_isFine_ok⟩
def lX2_isLifeTold : List xL := [(3, 1, 2, 2, 12), (3, 1, 1, 1, 182), (3, 1, 5, 3, 185), (3, 13, 285, 40, 188)]
theorem kX2_isLifeTold : ∀ q ∈ lX2_isLifeTold, xLq RX2 q := List.forall_mem_cons.mpr ⟨lk_468, List.forall_mem_cons.mpr ⟨lk_496, List.forall_mem_cons.mpr ⟨lk_470, List.forall_mem_cons.mpr ⟨lk_472, fun _ h => absurd h List.not_mem_nil⟩⟩⟩⟩
theorem bX2_isLifeTold_ok : ∀ b ∈ bX2_isLifeTold, xbok RX2 cX2_isLifeTold b := xbF_ok (lk := lX2_isLifeTold) (ls := []) kX2_isLifeTold xno_sw (by decide +kernel)
set_option maxRecDepth 20000 in
theorem vX2_isLifeTold : xMok mX2_isLifeTold := ⟨⟨wc_7.1, xtc3 200 rfl rfl, wc_7.2.1, wc_7.2.2, by decide +kernel, by decide, rfl⟩, bX2_isLifeTold_ok⟩
def lX2_isTooMany : List xL := [(3, 1, 2, 7, 50), (3, 1, 2, 8, 54), (3, 1, 2, 2, 12), (3, 13, 243, 8, 172), (3, 13, 289, 40, 176), (3, 1, 2, 3, 18), (3, 13, 248, 16, 179)]
theorem kX2_isTooMany : ∀ q ∈ lX2_isTooMany, xLq RX2 q := List.forall_mem_cons.mpr ⟨lk_497, List.forall_mem_cons.mpr ⟨lk_498, List.forall_mem_cons.mpr ⟨lk_468, List.forall_mem_cons.mpr ⟨lk_499, List.forall_mem_cons.mpr ⟨lk_500, List.forall_mem_cons.mpr ⟨lk_491, List.forall_mem_cons.mpr ⟨lk_501, fun _ h => absurd h List.not_mem_nil⟩⟩⟩⟩⟩⟩⟩
theorem bX2_isTooMany_ok : ∀ b ∈ bX2_isTooMany, xbok RX2 cX2_isTooMany b := xbF_ok (lk := lX2_isTooMany) (ls := []) kX2_isTooMany xno_sw (by decide +kernel)
set_option maxRecDepth 20000 in
theorem vX2_isTooMany : xMok mX2_isTooMany := ⟨⟨wc_7.1, xtc3 188 rfl rfl, wc_7.2.1, wc_7.2.2, by decide +kernel, by decide, rfl⟩, bX2_isTooMany_ok⟩
def lX2_readFilm : List xL := [(3, 1, 2, 2, 12), (3, 13, 240, 8, 47), (3, 59, 2, 7, 50), (3, 59, 2, 8, 54), (3, 14, 2, 9, 57), (3, 1, 2, 1, 43), (3, 1, 2, 0, 28), (3, 1, 9, 1, 61), (3, 13, 319, 64, 64), (3, 1, 1, 9, 68), (3, 1, 8, 2, 71), (3, 13, 252, 16, 74), (3, 1, 8, 3, 78), (3, 13, 326, 72, 81), (3, 14, 1, 9, 68), (3, 13, 245, 16, 85), (3, 1, 2, 9, 57), (3, 1, 2, 10, 88), (3, 1, 9, 4, 91), (3, 13, 241, 8, 94), (3, 1, 9, 5, 98), (3, 13, 283, 40, 102), (3, 1, 9, 8, 105)]
theorem kX2_readFilm : ∀ q ∈ lX2_readFilm, xLq RX2 q := List.forall_mem_cons.mpr ⟨lk_468, List.forall_mem_cons.mpr ⟨lk_502, List.forall_mem_cons.mpr ⟨lk_503, List.forall_mem_cons.mpr ⟨lk_504, List.forall_mem_cons.mpr ⟨lk_475, List.forall_mem_cons.mpr ⟨lk_505, List.forall_mem_cons.mpr ⟨lk_506, List.forall_mem_cons.mpr ⟨lk_507, List.forall_mem_cons.mpr ⟨lk_508, List.forall_mem_cons.mpr ⟨lk_509, List.forall_mem_cons.mpr ⟨lk_510, List.forall_mem_cons.mpr ⟨lk_511, List.forall_mem_cons.mpr ⟨lk_512, List.forall_mem_cons.mpr ⟨lk_513, List.forall_mem_cons.mpr ⟨lk_514, List.forall_mem_cons.mpr ⟨lk_515, List.forall_mem_cons.mpr ⟨lk_467, List.forall_mem_cons.mpr ⟨lk_516, List.forall_mem_cons.mpr ⟨lk_517, List.forall_mem_cons.mpr ⟨lk_518, List.forall_mem_cons.mpr ⟨lk_519, List.forall_mem_cons.mpr ⟨lk_520, List.forall_mem_cons.mpr ⟨lk_521, fun _ h => absurd h List.not_mem_nil⟩⟩⟩⟩⟩⟩⟩⟩⟩⟩⟩⟩⟩⟩⟩⟩⟩⟩⟩⟩⟩⟩⟩
theorem bX2_readFilm_ok : ∀ b ∈ bX2_readFilm, xbok RX2 cX2_readFilm b := xbF_ok (lk := lX2_readFilm) (ls := []) kX2_readFilm xno_sw (by decide +kernel)
set_option maxRecDepth 20000 in
theorem vX2_readFilm : xMok mX2_readFilm := ⟨⟨wc_7.1, xtc3 68 rfl rfl, wc_7.2.1, wc_7.2.2, by decide +kernel, by decide, rfl⟩, bX2_readFilm_ok⟩
def lX2_readGlue : List xL := [(3, 1, 2, 1, 43), (2, 72, 0, 0, 151), (3, 13, 318, 64, 135), (3, 59, 2, 6, 153), (3, 1, 2, 6, 153), (2, 72, 1, 0, 156), (3, 13, 312, 64, 112)]
theorem kX2_readGlue : ∀ q ∈ lX2_readGlue, xLq RX2 q := List.forall_mem_cons.mpr ⟨lk_505, List.forall_mem_cons.mpr ⟨lk_522, List.forall_mem_cons.mpr ⟨lk_523, List.forall_mem_cons.mpr ⟨lk_524, List.forall_mem_cons.mpr ⟨lk_525, List.forall_mem_cons.mpr ⟨lk_526, List.forall_mem_cons.mpr ⟨lk_527, fun _ h => absurd h List.not_mem_nil⟩⟩⟩⟩⟩⟩⟩
theorem bX2_readGlue_ok : ∀ b ∈ bX2_readGlue, xbok RX2 cX2_readGlue b := xbF_ok (lk := lX2_readGlue) (ls := []) kX2_readGlue xno_sw (by decide +kernel)
set_option maxRecDepth 20000 in
theorem vX2_readGlue : xMok mX2_readGlue := ⟨⟨wc_7.1, xtc3 174 rfl rfl, wc_7.2.1, wc_7.2.2, by decide +kernel, by decide, rfl⟩, bX2_readGlue_ok⟩
def lX2_readLine : List xL := [(3, 13, 253, 16, 108), (3, 1, 2, 1, 43), (3, 1, 8, 3, 78), (3, 13, 312, 64, 112), (3, 37, 1, 0, 115), (3, 1, 8, 2, 71), (3, 1, 2, 3, 18), (3, 1, 8, 5, 118), (3, 1, 2, 4, 22), (3, 13, 251, 16, 121), (3, 13, 316, 64, 124), (3, 1, 2, 9, 57), (3, 13, 247, 16, 128), (3, 13, 254, 16, 132)]
theorem kX2_readLine : ∀ q ∈ lX2_readLine, xLq RX2 q := List.forall_mem_cons.mpr ⟨lk_528, List.forall_mem_cons.mpr ⟨lk_505, List.forall_mem_cons.mpr ⟨lk_512, List.forall_mem_cons.mpr ⟨lk_527, List.forall_mem_cons.mpr ⟨lk_490, List.forall_mem_cons.mpr ⟨lk_510, List.forall_mem_cons.mpr ⟨lk_491, List.forall_mem_cons.mpr ⟨lk_529, List.forall_mem_cons.mpr ⟨lk_495, List.forall_mem_cons.mpr ⟨lk_530, List.forall_mem_cons.mpr ⟨lk_531, List.forall_mem_cons.mpr ⟨lk_467, List.forall_mem_cons.mpr ⟨lk_532, List.forall_mem_cons.mpr ⟨lk_533, fun _ h => absurd h List.not_mem_nil⟩⟩⟩⟩⟩⟩⟩⟩⟩⟩⟩⟩⟩⟩
theorem bX2_readLine_ok : ∀ b ∈ bX2_readLine, xbok RX2 cX2_readLine b := xbF_ok (lk := lX2_readLine) (ls := []) kX2_readLine xno_sw (by decide +kernel)
set_option maxRecDepth 20000 in
theorem vX2_readLine : xMok mX2_readLine := ⟨⟨wc_7.1, xtc3 104 rfl rfl, wc_7.2.1, wc_7.2.2, by decide +kernel, by decide, rfl⟩, bX2_readLine_ok⟩
def lX2_sortOfWord : List xL := [(3, 1, 2, 1, 43), (2, 72, 2, 0, 133), (3, 13, 318, 64, 135), (2, 72, 3, 0, 139), (2, 72, 4, 0, 141), (2, 72, 5, 0, 143), (2, 72, 6, 0, 145), (2, 72, 7, 0, 147), (2, 72, 8, 0, 149)]
theorem kX2_sortOfWord : ∀ q ∈ lX2_sortOfWord, xLq RX2 q := List.forall_mem_cons.mpr ⟨lk_505, List.forall_mem_cons.mpr ⟨lk_534, List.forall_mem_cons.mpr ⟨lk_523, List.forall_mem_cons.mpr ⟨lk_535, List.forall_mem_cons.mpr ⟨lk_536, List.forall_mem_cons.mpr ⟨lk_537, List.forall_mem_cons.mpr ⟨lk_538, List.forall_mem_cons.mpr ⟨lk_539, List.forall_mem_cons.mpr ⟨lk_540, fun _ h => absurd h List.not_mem_nil⟩⟩⟩⟩⟩⟩⟩⟩⟩
theorem bX2_sortOfWord_ok : ∀ b ∈ bX2_sortOfWord, xbok RX2 cX2_sortOfWord b := xbF_ok (lk := lX2_sortOfWord) (ls := []) kX2_sortOfWord xno_sw (by decide +kernel)
set_option maxRecDepth 20000 in
theorem vX2_sortOfWord : xMok mX2_sortOfWord := ⟨⟨wc_7.1, xtc3 108 rfl rfl, wc_7.2.1, wc_7.2.2, by decide +kernel, by decide, rfl⟩, bX2_sortOfWord_ok⟩
def lX2_take : List xL := [(3, 1, 2, 2, 12), (3, 1, 2, 3, 18), (3, 14, 1, 5, 192), (3, 14, 1, 6, 195), (3, 59, 2, 7, 50), (3, 14, 1, 7, 198), (3, 14, 1, 8, 201), (3, 59, 2, 8, 54), (3, 13, 243, 8, 172), (3, 13, 289, 40, 176), (3, 13, 286, 40, 204), (3, 37, 1, 0, 115), (3, 13, 290, 40, 207), (3, 1, 2, 6, 153), (3, 1, 2, 5, 25)]
theorem kX2_take : ∀ q ∈ lX2_take, xLq RX2 q := List.forall_mem_cons.mpr ⟨lk_468, List.forall_mem_cons.mpr ⟨lk_491, List.forall_mem_cons.mpr ⟨lk_541, List.forall_mem_cons.mpr ⟨lk_542, List.forall_mem_cons.mpr ⟨lk_503, List.forall_mem_cons.mpr ⟨lk_543, List.forall_mem_cons.mpr ⟨lk_544, List.forall_mem_cons.mpr ⟨lk_504, List.forall_mem_cons.mpr ⟨lk_499, List.forall_mem_cons.mpr ⟨lk_500, List.forall_mem_cons.mpr ⟨lk_545, List.forall_mem_cons.mpr ⟨lk_490, List.forall_mem_cons.mpr ⟨lk_546, List.forall_mem_cons.mpr ⟨lk_525, List.forall_mem_cons.mpr ⟨lk_471, fun _ h => absurd h List.not_mem_nil⟩⟩⟩⟩⟩⟩⟩⟩⟩⟩⟩⟩⟩⟩⟩
theorem bX2_take_ok : ∀ b ∈ bX2_take, xbok RX2 cX2_take b := xbF_ok (lk := lX2_take) (ls := []) kX2_take xno_sw (by decide +kernel)
set_option maxRecDepth 20000 in
theorem vX2_take : xMok mX2_take := ⟨⟨wc_7.1, xtc3 215 rfl rfl, wc_7.2.1, wc_7.2.2, by decide +kernel, by decide, rfl⟩, bX2_take_ok⟩
def lX3_addPicture : List xL := [(3, 1, 3, 0, 21), (3, 1, 9, 8, 38), (3, 13, 285, 40, 54), (3, 63, 0, 0, 58), (3, 62, 0, 0, 63), (3, 1, 3, 1, 9)]
theorem kX3_addPicture : ∀ q ∈ lX3_addPicture, xLq RX3 q := List.forall_mem_cons.mpr ⟨lk_547, List.forall_mem_cons.mpr ⟨lk_548, List.forall_mem_cons.mpr ⟨lk_549, List.forall_mem_cons.mpr ⟨lk_550, List.forall_mem_cons.mpr ⟨lk_551, List.forall_mem_cons.mpr ⟨lk_552, fun _ h => absurd h List.not_mem_nil⟩⟩⟩⟩⟩⟩
theorem bX3_addPicture_ok : ∀ b ∈ bX3_addPicture, xbok RX3 cX3_addPicture b := xbF_ok (lk := lX3_addPicture) (ls := []) kX3_addPicture xno_sw (by decide +kernel)
theorem wc_8 : plainName RX3 = true ∧ Cond.initialized RX3 ∈ lw_gt ∧ (RX3 ≠ "java/lang/invoke/MethodHandle" ∧ RX3 ≠ "java/lang/invoke/VarHandle") := ⟨by decide +kernel, xtc1 10 rfl rfl, by decide +kernel, by decide +kernel⟩
set_option maxRecDepth 20000 in
theorem vX3_addPicture : xMok mX3_addPicture := ⟨⟨wc_8.1, xtc5 75 rfl rfl, wc_8.2.1, wc_8.2.2, by decide +kernel, by decide, rfl⟩, bX3_addPicture_ok⟩
def lX3_agingIn : List xL := [(3, 1, 3, 0, 21), (3, 1, 9, 4, 66), (3, 1, 1, 8, 73), (3, 1, 3, 1, 9)]
theorem kX3_agingIn : ∀ q ∈ lX3_agingIn, xLq RX3 q := List.forall_mem_cons.mpr ⟨lk_547, List.forall_mem_cons.mpr ⟨lk_553, List.forall_mem_cons.mpr ⟨lk_554, List.forall_mem_cons.mpr ⟨lk_552, fun _ h => absurd h List.not_mem_nil⟩⟩⟩⟩
theorem bX3_agingIn_ok : ∀ b ∈ bX3_agingIn, xbok RX3 cX3_agingIn b := xbF_ok (lk := lX3_agingIn) (ls := []) kX3_agingIn xno_sw (by decide +kernel)
set_option maxRecDepth 20000 in
theorem vX3_agingIn : xMok mX3_agingIn := ⟨⟨wc_8.1, xtc5 154 rfl rfl, wc_8.2.1, wc_8.2.2, by decide +kernel, by decide, rfl⟩, bX3_agingIn_ok⟩
def lX3_creepOn : List xL := [(3, 1, 3, 0, 21), (3, 1, 9, 4, 66), (3, 1, 1, 7, 70), (3, 1, 1, 8, 73), (3, 13, 258, 24, 87), (3, 1, 3, 3, 18), (3, 1, 3, 2, 15), (3, 58, 0, 0, 90)]
theorem kX3_creepOn : ∀ q ∈ lX3_creepOn, xLq RX3 q := List.forall_mem_cons.mpr ⟨lk_547, List.forall_mem_cons.mpr ⟨lk_553, List.forall_mem_cons.mpr ⟨lk_555, List.forall_mem_cons.mpr ⟨lk_554, List.forall_mem_cons.mpr ⟨lk_556, List.forall_mem_cons.mpr ⟨lk_557, List.forall_mem_cons.mpr ⟨lk_558, List.forall_mem_cons.mpr ⟨lk_559, fun _ h => absurd h List.not_mem_nil⟩⟩⟩⟩⟩⟩⟩⟩
theorem bX3_creepOn_ok : ∀ b ∈ bX3_creepOn, xbok RX3 cX3_creepOn b := xbF_ok (lk := lX3_creepOn) (ls := []) kX3_creepOn xno_sw (by decide +kernel)
set_option maxRecDepth 20000 in
theorem vX3_creepOn : xMok mX3_creepOn := ⟨⟨wc_8.1, xtc5 109 rfl rfl, wc_8.2.1, wc_8.2.2, by decide +kernel, by decide, rfl⟩, bX3_creepOn_ok⟩
def lX3_dampAt : List xL := [(3, 1, 3, 0, 21), (3, 1, 9, 4, 66), (3, 1, 1, 7, 70), (3, 1, 1, 8, 73), (3, 1, 3, 2, 15)]
theorem kX3_dampAt : ∀ q ∈ lX3_dampAt, xLq RX3 q := List.forall_mem_cons.mpr ⟨lk_547, List.forall_mem_cons.mpr ⟨lk_553, List.forall_mem_cons.mpr ⟨lk_555, List.forall_mem_cons.mpr ⟨lk_554, List.forall_mem_cons.mpr ⟨lk_558, fun _ h => absurd h List.not_mem_nil⟩⟩⟩⟩⟩
theorem bX3_dampAt_ok : ∀ b ∈ bX3_dampAt, xbok RX3 cX3_dampAt b := xbF_ok (lk := lX3_dampAt) (ls := []) kX3_dampAt xno_sw (by decide +kernel)
set_option maxRecDepth 20000 in
theorem vX3_dampAt : xMok mX3_dampAt := ⟨⟨wc_8.1, xtc5 113 rfl rfl, wc_8.2.1, wc_8.2.2, by decide +kernel, by decide, rfl⟩, bX3_dampAt_ok⟩
def lX3_forgetAges : List xL := [(3, 59, 3, 4, 25)]
theorem kX3_forgetAges : ∀ q ∈ lX3_forgetAges, xLq RX3 q := List.forall_mem_cons.mpr ⟨lk_560, fun _ h => absurd h List.not_mem_nil⟩
theorem bX3_forgetAges_ok : ∀ b ∈ bX3_forgetAges, xbok RX3 cX3_forgetAges b := xbF_ok (lk := lX3_forgetAges) (ls := []) kX3_forgetAges xno_sw (by decide +kernel)
set_option maxRecDepth 20000 in
theorem vX3_forgetAges : xMok mX3_forgetAges := ⟨⟨wc_8.1, xtc4 24 rfl rfl, wc_8.2.1, wc_8.2.2, by decide +kernel, by decide, rfl⟩, bX3_forgetAges_ok⟩
def lX3_forgetDamp : List xL := [(3, 59, 3, 5, 29)]
theorem kX3_forgetDamp : ∀ q ∈ lX3_forgetDamp, xLq RX3 q := List.forall_mem_cons.mpr ⟨lk_561, fun _ h => absurd h List.not_mem_nil⟩
theorem bX3_forgetDamp_ok : ∀ b ∈ bX3_forgetDamp, xbok RX3 cX3_forgetDamp b := xbF_ok (lk := lX3_forgetDamp) (ls := []) kX3_forgetDamp xno_sw (by decide +kernel)
set_option maxRecDepth 20000 in
theorem vX3_forgetDamp : xMok mX3_forgetDamp := ⟨⟨wc_8.1, xtc4 28 rfl rfl, wc_8.2.1, wc_8.2.2, by decide +kernel, by decide, rfl⟩, bX3_forgetDamp_ok⟩
def lX3_init : List xL := [(3, 25, 0, 0, 1), (3, 61, 3, 1, 9), (3, 61, 3, 2, 15), (3, 61, 3, 3, 18), (3, 61, 3, 0, 21)]
theorem kX3_init : ∀ q ∈ lX3_init, xLq RX3 q := List.forall_mem_cons.mpr ⟨lk_562, List.forall_mem_cons.mpr ⟨lk_563, List.forall_mem_cons.mpr ⟨lk_564, List.forall_mem_cons.mpr ⟨lk_565, List.forall_mem_cons.mpr ⟨lk_566, fun _ h => absurd h List.not_mem_nil⟩⟩⟩⟩⟩
theorem bX3_init_ok : ∀ b ∈ bX3_init, xbok RX3 cX3_init b := xbF_ok (lk := lX3_init) (ls := []) kX3_init xno_sw (by decide +kernel)
set_option maxRecDepth 20000 in
theorem vX3_init : xMok mX3_init := ⟨⟨wc_8.1, xtc2 161 rfl rfl, wc_8.2.1, wc_8.2.2, by decide +kernel, by decide, rfl⟩, bX3_init_ok⟩
def lX3_isDamp : List xL := [(3, 1, 3, 2, 15)]
theorem kX3_isDamp : ∀ q ∈ lX3_isDamp, xLq RX3 q := List.forall_mem_cons.mpr ⟨lk_558, fun _ h => absurd h List.not_mem_nil⟩
theorem bX3_isDamp_ok : ∀ b ∈ bX3_isDamp, xbok RX3 cX3_isDamp b := xbF_ok (lk := lX3_isDamp) (ls := []) kX3_isDamp xno_sw (by decide +kernel)
set_option maxRecDepth 20000 in
theorem vX3_isDamp : xMok mX3_isDamp := ⟨⟨wc_8.1, xtc5 130 rfl rfl, wc_8.2.1, wc_8.2.2, by decide +kernel, by decide, rfl⟩, bX3_isDamp_ok⟩
def lX3_leftOf : List xL := [(3, 1, 3, 1, 9), (3, 62, 0, 0, 63)]
theorem kX3_leftOf : ∀ q ∈ lX3_leftOf, xLq RX3 q := List.forall_mem_cons.mpr ⟨lk_552, List.forall_mem_cons.mpr ⟨lk_551, fun _ h => absurd h List.not_mem_nil⟩⟩
theorem bX3_leftOf_ok : ∀ b ∈ bX3_leftOf, xbok RX3 cX3_leftOf b := xbF_ok (lk := lX3_leftOf) (ls := []) kX3_leftOf xno_sw (by decide +kernel)
set_option maxRecDepth 20000 in
theorem vX3_leftOf : xMok mX3_leftOf := ⟨⟨wc_8.1, xtc5 84 rfl rfl, wc_8.2.1, wc_8.2.2, by decide +kernel, by decide, rfl⟩, bX3_leftOf_ok⟩
def lX3_leftSpread : List xL := [(3, 1, 3, 0, 21), (3, 1, 9, 4, 66), (3, 1, 1, 7, 70), (3, 1, 1, 8, 73), (3, 13, 263, 24, 76), (3, 63, 0, 0, 58), (3, 62, 0, 0, 63)]
theorem kX3_leftSpread : ∀ q ∈ lX3_leftSpread, xLq RX3 q := List.forall_mem_cons.mpr ⟨lk_547, List.forall_mem_cons.mpr ⟨lk_553, List.forall_mem_cons.mpr ⟨lk_555, List.forall_mem_cons.mpr ⟨lk_554, List.forall_mem_cons.mpr ⟨lk_567, List.forall_mem_cons.mpr ⟨lk_550, List.forall_mem_cons.mpr ⟨lk_551, fun _ h => absurd h List.not_mem_nil⟩⟩⟩⟩⟩⟩⟩
theorem bX3_leftSpread_ok : ∀ b ∈ bX3_leftSpread, xbok RX3 cX3_leftSpread b := xbF_ok (lk := lX3_leftSpread) (ls := []) kX3_leftSpread xno_sw (by decide +kernel)
set_option maxRecDepth 20000 in
theorem vX3_leftSpread : xMok mX3_leftSpread := ⟨⟨wc_8.1, xtc5 92 rfl rfl, wc_8.2.1, wc_8.2.2, by decide +kernel, by decide, rfl⟩, bX3_leftSpread_ok⟩
def lX3_refreshAges : List xL := [(3, 1, 3, 4, 25), (3, 1, 3, 1, 9), (3, 13, 1, 2, 32), (3, 1, 3, 0, 21), (3, 1, 9, 8, 38), (3, 1, 5, 3, 44), (3, 13, 255, 24, 50), (3, 59, 3, 4, 25)]
theorem kX3_refreshAges : ∀ q ∈ lX3_refreshAges, xLq RX3 q := List.forall_mem_cons.mpr ⟨lk_568, List.forall_mem_cons.mpr ⟨lk_552, List.forall_mem_cons.mpr ⟨lk_569, List.forall_mem_cons.mpr ⟨lk_547, List.forall_mem_cons.mpr ⟨lk_548, List.forall_mem_cons.mpr ⟨lk_570, List.forall_mem_cons.mpr ⟨lk_571, List.forall_mem_cons.mpr ⟨lk_560, fun _ h => absurd h List.not_mem_nil⟩⟩⟩⟩⟩⟩⟩⟩
theorem bX3_refreshAges_ok : ∀ b ∈ bX3_refreshAges, xbok RX3 cX3_refreshAges b := xbF_ok (lk := lX3_refreshAges) (ls := []) kX3_refreshAges xno_sw (by decide +kernel)
set_option maxRecDepth 20000 in
theorem vX3_refreshAges : xMok mX3_refreshAges := ⟨⟨wc_8.1, xtc5 70 rfl rfl, wc_8.2.1, wc_8.2.2, by decide +kernel, by decide, rfl⟩, bX3_refreshAges_ok⟩
def lX3_refreshDamp : List xL := [(3, 1, 3, 5, 29), (3, 1, 3, 2, 15), (3, 13, 1, 2, 32), (3, 1, 3, 0, 21), (3, 1, 9, 9, 80), (3, 13, 257, 24, 83), (3, 59, 3, 5, 29)]
theorem kX3_refreshDamp : ∀ q ∈ lX3_refreshDamp, xLq RX3 q := List.forall_mem_cons.mpr ⟨lk_572, List.forall_mem_cons.mpr ⟨lk_558, List.forall_mem_cons.mpr ⟨lk_569, List.forall_mem_cons.mpr ⟨lk_547, List.forall_mem_cons.mpr ⟨lk_573, List.forall_mem_cons.mpr ⟨lk_574, List.forall_mem_cons.mpr ⟨lk_561, fun _ h => absurd h List.not_mem_nil⟩⟩⟩⟩⟩⟩⟩
theorem bX3_refreshDamp_ok : ∀ b ∈ bX3_refreshDamp, xbok RX3 cX3_refreshDamp b := xbF_ok (lk := lX3_refreshDamp) (ls := []) kX3_refreshDamp xno_sw (by decide +kernel)
set_option maxRecDepth 20000 in
theorem vX3_refreshDamp : xMok mX3_refreshDamp := ⟨⟨wc_8.1, xtc5 105 rfl rfl, wc_8.2.1, wc_8.2.2, by decide +kernel, by decide, rfl⟩, bX3_refreshDamp_ok⟩
def lX3_roundsOfLamp : List xL := [(3, 1, 3, 0, 21), (3, 1, 9, 4, 66), (3, 1, 1, 8, 73), (3, 13, 256, 24, 100)]
theorem kX3_roundsOfLamp : ∀ q ∈ lX3_roundsOfLamp, xLq RX3 q := List.forall_mem_cons.mpr ⟨lk_547, List.forall_mem_cons.mpr ⟨lk_553, List.forall_mem_cons.mpr ⟨lk_554, List.forall_mem_cons.mpr ⟨lk_575, fun _ h => absurd h List.not_mem_nil⟩⟩⟩⟩
theorem bX3_roundsOfLamp_ok : ∀ b ∈ bX3_roundsOfLamp, xbok RX3 cX3_roundsOfLamp b := xbF_ok (lk := lX3_roundsOfLamp) (ls := []) kX3_roundsOfLamp xno_sw (by decide +kernel)
set_option maxRecDepth 20000 in
theorem vX3_roundsOfLamp : xMok mX3_roundsOfLamp := ⟨⟨wc_8.1, xtc5 150 rfl rfl, wc_8.2.1, wc_8.2.2, by decide +kernel, by decide, rfl⟩, bX3_roundsOfLamp_ok⟩
def lX3_roundsWith : List xL := [(3, 1, 3, 0, 21), (3, 1, 9, 4, 66), (3, 1, 1, 7, 70), (3, 1, 1, 8, 73), (3, 13, 267, 24, 96), (3, 63, 0, 0, 58)]
theorem kX3_roundsWith : ∀ q ∈ lX3_roundsWith, xLq RX3 q := List.forall_mem_cons.mpr ⟨lk_547, List.forall_mem_cons.mpr ⟨lk_553, List.forall_mem_cons.mpr ⟨lk_555, List.forall_mem_cons.mpr ⟨lk_554, List.forall_mem_cons.mpr ⟨lk_576, List.forall_mem_cons.mpr ⟨lk_550, fun _ h => absurd h List.not_mem_nil⟩⟩⟩⟩⟩⟩
theorem bX3_roundsWith_ok : ∀ b ∈ bX3_roundsWith, xbok RX3 cX3_roundsWith b := xbF_ok (lk := lX3_roundsWith) (ls := []) kX3_roundsWith xno_sw (by decide +kernel)
set_option maxRecDepth 20000 in
theorem vX3_roundsWith : xMok mX3_roundsWith := ⟨⟨wc_8.1, xtc5 146 rfl rfl, wc_8.2.1, wc_8.2.2, by decide +kernel, by decide, rfl⟩, bX3_roundsWith_ok⟩
def lX4_barsAll : List xL := [(3, 1, 4, 1, 11)]
theorem kX4_barsAll : ∀ q ∈ lX4_barsAll, xLq RX4 q := List.forall_mem_cons.mpr ⟨lk_577, fun _ h => absurd h List.not_mem_nil⟩
theorem bX4_barsAll_ok : ∀ b ∈ bX4_barsAll, xbok RX4 cX4_barsAll b := xbF_ok (lk := lX4_barsAll) (ls := []) kX4_barsAll xno_sw (by decide +kernel)
theorem wc_9 : plainName RX4 = true ∧ Cond.initialized RX4 ∈ lw_gt ∧ (RX4 ≠ "java/lang/invoke/MethodHandle" ∧ RX4 ≠ "java/lang/invoke/VarHandle") := ⟨by decide +kernel, xtc1 12 rfl rfl, by decide +kernel, by decide +kernel⟩
set_option maxRecDepth 20000 in
theorem vX4_barsAll : xMok mX4_barsAll := ⟨⟨wc_9.1, xtc6 79 rfl rfl, wc_9.2.1, wc_9.2.2, by decide +kernel, by decide, rfl⟩, bX4_barsAll_ok⟩
def lX4_bitOf : List xL := []
theorem kX4_bitOf : ∀ q ∈ lX4_bitOf, xLq RX4 q := fun _ h => absurd h List.not_mem_nil
theorem bX4_bitOf_ok : ∀ b ∈ bX4_bitOf, xbok RX4 cX4_bitOf b := xbF_ok (lk := lX4_bitOf) (ls := []) kX4_bitOf xno_sw (by decide +kernel)
set_option maxRecDepth 20000 in
theorem vX4_bitOf : xMok mX4_bitOf := ⟨⟨wc_9.1, xtc6 43 rfl rfl, wc_9.2.1, wc_9.2.2, by decide +kernel, by decide, rfl⟩, bX4_bitOf_ok⟩
def lX4_countTries : List xL := [(3, 1, 4, 2, 15), (3, 13, 1, 2, 94), (3, 1, 4, 3, 18), (3, 1, 4, 1, 11), (3, 13, 282, 34, 54)]
theorem kX4_countTries : ∀ q ∈ lX4_countTries, xLq RX4 q := List.forall_mem_cons.mpr ⟨lk_578, List.forall_mem_cons.mpr ⟨lk_579, List.forall_mem_cons.mpr ⟨lk_580, List.forall_mem_cons.mpr ⟨lk_577, List.forall_mem_cons.mpr ⟨lk_581, fun _ h => absurd h List.not_mem_nil⟩⟩⟩⟩⟩
theorem bX4_countTries_ok : ∀ b ∈ bX4_countTries, xbok RX4 cX4_countTries b := xbF_ok (lk := lX4_countTries) (ls := []) kX4_countTries xno_sw (by decide +kernel)
set_option maxRecDepth 20000 in
theorem vX4_countTries : xMok mX4_countTries := ⟨⟨wc_9.1, xtc6 95 rfl rfl, wc_9.2.1, wc_9.2.2, by decide +kernel, by decide, rfl⟩, bX4_countTries_ok⟩
def lX4_forget : List xL := [(3, 59, 4, 9, 25), (3, 59, 4, 10, 29), (3, 59, 4, 11, 32)]
theorem kX4_forget : ∀ q ∈ lX4_forget, xLq RX4 q := List.forall_mem_cons.mpr ⟨lk_582, List.forall_mem_cons.mpr ⟨lk_583, List.forall_mem_cons.mpr ⟨lk_584, fun _ h => absurd h List.not_mem_nil⟩⟩⟩
theorem bX4_forget_ok : ∀ b ∈ bX4_forget, xbok RX4 cX4_forget b := xbF_ok (lk := lX4_forget) (ls := []) kX4_forget xno_sw (by decide +kernel)
set_option maxRecDepth 20000 in
theorem vX4_forget : xMok mX4_forget := ⟨⟨wc_9.1, xtc6 24 rfl rfl, wc_9.2.1, wc_9.2.2, by decide +kernel, by decide, rfl⟩, bX4_forget_ok⟩
def lX4_init : List xL := [(3, 25, 0, 0, 3), (3, 61, 4, 1, 11), (3, 61, 4, 2, 15), (3, 61, 4, 3, 18), (3, 61, 4, 0, 21)]
theorem kX4_init : ∀ q ∈ lX4_init, xLq RX4 q := List.forall_mem_cons.mpr ⟨lk_585, List.forall_mem_cons.mpr ⟨lk_586, List.forall_mem_cons.mpr ⟨lk_587, List.forall_mem_cons.mpr ⟨lk_588, List.forall_mem_cons.mpr ⟨lk_589, fun _ h => absurd h List.not_mem_nil⟩⟩⟩⟩⟩
theorem bX4_init_ok : ∀ b ∈ bX4_init, xbok RX4 cX4_init b := xbF_ok (lk := lX4_init) (ls := []) kX4_init xno_sw (by decide +kernel)
set_option maxRecDepth 20000 in
theorem vX4_init : xMok mX4_init := ⟨⟨wc_9.1, xtc2 212 rfl rfl, wc_9.2.1, wc_9.2.2, by decide +kernel, by decide, rfl⟩, bX4_init_ok⟩
def lX4_keptAt : List xL := [(3, 1, 4, 1, 11)]
theorem kX4_keptAt : ∀ q ∈ lX4_keptAt, xLq RX4 q := List.forall_mem_cons.mpr ⟨lk_577, fun _ h => absurd h List.not_mem_nil⟩
theorem bX4_keptAt_ok : ∀ b ∈ bX4_keptAt, xbok RX4 cX4_keptAt b := xbF_ok (lk := lX4_keptAt) (ls := []) kX4_keptAt xno_sw (by decide +kernel)
set_option maxRecDepth 20000 in
theorem vX4_keptAt : xMok mX4_keptAt := ⟨⟨wc_9.1, xtc6 51 rfl rfl, wc_9.2.1, wc_9.2.2, by decide +kernel, by decide, rfl⟩, bX4_keptAt_ok⟩
def lX4_quarrelAt : List xL := [(3, 1, 4, 0, 21), (3, 1, 5, 3, 43), (3, 1, 4, 5, 71), (3, 13, 270, 34, 57)]
theorem kX4_quarrelAt : ∀ q ∈ lX4_quarrelAt, xLq RX4 q := List.forall_mem_cons.mpr ⟨lk_590, List.forall_mem_cons.mpr ⟨lk_591, List.forall_mem_cons.mpr ⟨lk_592, List.forall_mem_cons.mpr ⟨lk_593, fun _ h => absurd h List.not_mem_nil⟩⟩⟩⟩
theorem bX4_quarrelAt_ok : ∀ b ∈ bX4_quarrelAt, xbok RX4 cX4_quarrelAt b := xbF_ok (lk := lX4_quarrelAt) (ls := []) kX4_quarrelAt xno_sw (by decide +kernel)
set_option maxRecDepth 20000 in
theorem vX4_quarrelAt : xMok mX4_quarrelAt := ⟨⟨wc_9.1, xtc6 83 rfl rfl, wc_9.2.1, wc_9.2.2, by decide +kernel, by decide, rfl⟩, bX4_quarrelAt_ok⟩
def lX4_refresh : List xL := [(3, 1, 4, 9, 25), (3, 14, 4, 4, 35), (3, 1, 4, 1, 11), (3, 13, 281, 32, 39), (3, 1, 4, 4, 35), (3, 59, 4, 9, 25)]
theorem kX4_refresh : ∀ q ∈ lX4_refresh, xLq RX4 q := List.forall_mem_cons.mpr ⟨lk_594, List.forall_mem_cons.mpr ⟨lk_595, List.forall_mem_cons.mpr ⟨lk_577, List.forall_mem_cons.mpr ⟨lk_596, List.forall_mem_cons.mpr ⟨lk_597, List.forall_mem_cons.mpr ⟨lk_582, fun _ h => absurd h List.not_mem_nil⟩⟩⟩⟩⟩⟩
theorem bX4_refresh_ok : ∀ b ∈ bX4_refresh, xbok RX4 cX4_refresh b := xbF_ok (lk := lX4_refresh) (ls := []) kX4_refresh xno_sw (by decide +kernel)
set_option maxRecDepth 20000 in
theorem vX4_refresh : xMok mX4_refresh := ⟨⟨wc_9.1, xtc6 32 rfl rfl, wc_9.2.1, wc_9.2.2, by decide +kernel, by decide, rfl⟩, bX4_refresh_ok⟩
def lX4_refreshNext : List xL := [(3, 1, 4, 11, 32), (3, 14, 4, 8, 81), (3, 13, 271, 32, 84), (3, 1, 4, 2, 15), (3, 1, 4, 3, 18), (3, 62, 0, 0, 68), (3, 1, 4, 8, 81), (3, 14, 4, 6, 88), (3, 14, 4, 7, 91), (3, 59, 4, 11, 32)]
theorem kX4_refreshNext : ∀ q ∈ lX4_refreshNext, xLq RX4 q := List.forall_mem_cons.mpr ⟨lk_598, List.forall_mem_cons.mpr ⟨lk_599, List.forall_mem_cons.mpr ⟨lk_600, List.forall_mem_cons.mpr ⟨lk_578, List.forall_mem_cons.mpr ⟨lk_580, List.forall_mem_cons.mpr ⟨lk_601, List.forall_mem_cons.mpr ⟨lk_602, List.forall_mem_cons.mpr ⟨lk_603, List.forall_mem_cons.mpr ⟨lk_604, List.forall_mem_cons.mpr ⟨lk_584, fun _ h => absurd h List.not_mem_nil⟩⟩⟩⟩⟩⟩⟩⟩⟩⟩
theorem bX4_refreshNext_ok : ∀ b ∈ bX4_refreshNext, xbok RX4 cX4_refreshNext b := xbF_ok (lk := lX4_refreshNext) (ls := []) kX4_refreshNext xno_sw (by decide +kernel)
set_option maxRecDepth 20000 in
theorem vX4_refreshNext : xMok mX4_refreshNext := ⟨⟨wc_9.1, xtc6 91 rfl rfl, wc_9.2.1, wc_9.2.2, by decide +kernel, by decide, rfl⟩, bX4_refreshNext_ok⟩
def lX4_refreshQuarrel : List xL := [(3, 1, 4, 10, 29), (3, 1, 4, 0, 21), (3, 1, 5, 3, 43), (3, 13, 270, 34, 57), (3, 14, 4, 5, 71), (3, 13, 0, 2, 74), (3, 13, 269, 32, 77), (3, 59, 4, 10, 29)]
theorem kX4_refreshQuarrel : ∀ q ∈ lX4_refreshQuarrel, xLq RX4 q := List.forall_mem_cons.mpr ⟨lk_605, List.forall_mem_cons.mpr ⟨lk_590, List.forall_mem_cons.mpr ⟨lk_591, List.forall_mem_cons.mpr ⟨lk_593, List.forall_mem_cons.mpr ⟨lk_606, List.forall_mem_cons.mpr ⟨lk_607, List.forall_mem_cons.mpr ⟨lk_608, List.forall_mem_cons.mpr ⟨lk_583, fun _ h => absurd h List.not_mem_nil⟩⟩⟩⟩⟩⟩⟩⟩
theorem bX4_refreshQuarrel_ok : ∀ b ∈ bX4_refreshQuarrel, xbok RX4 cX4_refreshQuarrel b := xbF_ok (lk := lX4_refreshQuarrel) (ls := []) kX4_refreshQuarrel xno_sw (by decide +kernel)
set_option maxRecDepth 20000 in
theorem vX4_refreshQuarrel : xMok mX4_refreshQuarrel := ⟨⟨wc_9.1, xtc6 74 rfl rfl, wc_9.2.1, wc_9.2.2, by decide +kernel, by decide, rfl⟩, bX4_refreshQuarrel_ok⟩
def lX4_spanEnd : List xL := [(3, 1, 4, 1, 11), (3, 13, 282, 34, 54), (3, 62, 0, 0, 68)]
theorem kX4_spanEnd : ∀ q ∈ lX4_spanEnd, xLq RX4 q := List.forall_mem_cons.mpr ⟨lk_577, List.forall_mem_cons.mpr ⟨lk_581, List.forall_mem_cons.mpr ⟨lk_601, fun _ h => absurd h List.not_mem_nil⟩⟩⟩
theorem bX4_spanEnd_ok : ∀ b ∈ bX4_spanEnd, xbok RX4 cX4_spanEnd b := xbF_ok (lk := lX4_spanEnd) (ls := []) kX4_spanEnd xno_sw (by decide +kernel)
set_option maxRecDepth 20000 in
theorem vX4_spanEnd : xMok mX4_spanEnd := ⟨⟨wc_9.1, xtc6 59 rfl rfl, wc_9.2.1, wc_9.2.2, by decide +kernel, by decide, rfl⟩, bX4_spanEnd_ok⟩
def lX4_spanStart : List xL := [(2, 35, 2147483647, 0, 62), (3, 1, 4, 1, 11), (3, 13, 282, 34, 54), (3, 63, 0, 0, 63)]
theorem kX4_spanStart : ∀ q ∈ lX4_spanStart, xLq RX4 q := List.forall_mem_cons.mpr ⟨lk_609, List.forall_mem_cons.mpr ⟨lk_577, List.forall_mem_cons.mpr ⟨lk_581, List.forall_mem_cons.mpr ⟨lk_610, fun _ h => absurd h List.not_mem_nil⟩⟩⟩⟩
theorem bX4_spanStart_ok : ∀ b ∈ bX4_spanStart, xbok RX4 cX4_spanStart b := xbF_ok (lk := lX4_spanStart) (ls := []) kX4_spanStart xno_sw (by decide +kernel)
set_option maxRecDepth 20000 in
theorem vX4_spanStart : xMok mX4_spanStart := ⟨⟨wc_9.1, xtc6 64 rfl rfl, wc_9.2.1, wc_9.2.2, by decide +kernel, by decide, rfl⟩, bX4_spanStart_ok⟩
def lX4_testsAgainst : List xL := [(3, 1, 4, 0, 21), (3, 1, 5, 3, 43), (3, 13, 285, 40, 50), (3, 13, 282, 34, 54), (3, 13, 270, 34, 57)]
theorem kX4_testsAgainst : ∀ q ∈ lX4_testsAgainst, xLq RX4 q := List.forall_mem_cons.mpr ⟨lk_590, List.forall_mem_cons.mpr ⟨lk_591, List.forall_mem_cons.mpr ⟨lk_611, List.forall_mem_cons.mpr ⟨lk_581, List.forall_mem_cons.mpr ⟨lk_593, fun _ h => absurd h List.not_mem_nil⟩⟩⟩⟩⟩
theorem bX4_testsAgainst_ok : ∀ b ∈ bX4_testsAgainst, xbok RX4 cX4_testsAgainst b := xbF_ok (lk := lX4_testsAgainst) (ls := []) kX4_testsAgainst xno_sw (by decide +kernel)
set_option maxRecDepth 20000 in
theorem vX4_testsAgainst : xMok mX4_testsAgainst := ⟨⟨wc_9.1, xtc6 36 rfl rfl, wc_9.2.1, wc_9.2.2, by decide +kernel, by decide, rfl⟩, bX4_testsAgainst_ok⟩
def lX4_unitAt : List xL := []
theorem kX4_unitAt : ∀ q ∈ lX4_unitAt, xLq RX4 q := fun _ h => absurd h List.not_mem_nil
theorem bX4_unitAt_ok : ∀ b ∈ bX4_unitAt, xbok RX4 cX4_unitAt b := xbF_ok (lk := lX4_unitAt) (ls := []) kX4_unitAt xno_sw (by decide +kernel)
set_option maxRecDepth 20000 in
theorem vX4_unitAt : xMok mX4_unitAt := ⟨⟨wc_9.1, xtc6 40 rfl rfl, wc_9.2.1, wc_9.2.2, by decide +kernel, by decide, rfl⟩, bX4_unitAt_ok⟩
def lX5_clear : List xL := [(3, 14, 5, 3, 22)]
theorem kX5_clear : ∀ q ∈ lX5_clear, xLq RX5 q := List.forall_mem_cons.mpr ⟨lk_612, fun _ h => absurd h List.not_mem_nil⟩
theorem bX5_clear_ok : ∀ b ∈ bX5_clear, xbok RX5 cX5_clear b := xbF_ok (lk := lX5_clear) (ls := []) kX5_clear xno_sw (by decide +kernel)
theorem wc_10 : plainName RX5 = true ∧ Cond.initialized RX5 ∈ lw_gt ∧ (RX5 ≠ "java/lang/invoke/MethodHandle" ∧ RX5 ≠ "java/lang/invoke/VarHandle") := ⟨by decide +kernel, xtc1 4 rfl rfl, by decide +kernel, by decide +kernel⟩
set_option maxRecDepth 20000 in
theorem vX5_clear : xMok mX5_clear := ⟨⟨wc_10.1, xtc3 76 rfl rfl, wc_10.2.1, wc_10.2.2, by decide +kernel, by decide, rfl⟩, bX5_clear_ok⟩
def lX5_copy : List xL := [(3, 1, 5, 0, 9), (3, 1, 5, 1, 15), (3, 1, 5, 3, 22), (3, 14, 5, 3, 22), (3, 1, 5, 2, 18), (3, 58, 0, 0, 33)]
theorem kX5_copy : ∀ q ∈ lX5_copy, xLq RX5 q := List.forall_mem_cons.mpr ⟨lk_613, List.forall_mem_cons.mpr ⟨lk_614, List.forall_mem_cons.mpr ⟨lk_615, List.forall_mem_cons.mpr ⟨lk_612, List.forall_mem_cons.mpr ⟨lk_616, List.forall_mem_cons.mpr ⟨lk_617, fun _ h => absurd h List.not_mem_nil⟩⟩⟩⟩⟩⟩
theorem bX5_copy_ok : ∀ b ∈ bX5_copy, xbok RX5 cX5_copy b := xbF_ok (lk := lX5_copy) (ls := []) kX5_copy xno_sw (by decide +kernel)
set_option maxRecDepth 20000 in
theorem vX5_copy : xMok mX5_copy := ⟨⟨wc_10.1, xtc4 4 rfl rfl, wc_10.2.1, wc_10.2.2, by decide +kernel, by decide, rfl⟩, bX5_copy_ok⟩
def lX5_get : List xL := [(3, 1, 5, 3, 22), (3, 1, 5, 1, 15), (3, 1, 5, 2, 18)]
theorem kX5_get : ∀ q ∈ lX5_get, xLq RX5 q := List.forall_mem_cons.mpr ⟨lk_615, List.forall_mem_cons.mpr ⟨lk_614, List.forall_mem_cons.mpr ⟨lk_616, fun _ h => absurd h List.not_mem_nil⟩⟩⟩
theorem bX5_get_ok : ∀ b ∈ bX5_get, xbok RX5 cX5_get b := xbF_ok (lk := lX5_get) (ls := []) kX5_get xno_sw (by decide +kernel)
set_option maxRecDepth 20000 in
theorem vX5_get : xMok mX5_get := ⟨⟨wc_10.1, xtc3 204 rfl rfl, wc_10.2.1, wc_10.2.2, by decide +kernel, by decide, rfl⟩, bX5_get_ok⟩
def lX5_grow : List xL := [(3, 13, 289, 40, 29), (3, 1, 5, 3, 22), (3, 14, 5, 3, 22)]
theorem kX5_grow : ∀ q ∈ lX5_grow, xLq RX5 q := List.forall_mem_cons.mpr ⟨lk_618, List.forall_mem_cons.mpr ⟨lk_615, List.forall_mem_cons.mpr ⟨lk_612, fun _ h => absurd h List.not_mem_nil⟩⟩⟩
theorem bX5_grow_ok : ∀ b ∈ bX5_grow, xbok RX5 cX5_grow b := xbF_ok (lk := lX5_grow) (ls := []) kX5_grow xno_sw (by decide +kernel)
set_option maxRecDepth 20000 in
theorem vX5_grow : xMok mX5_grow := ⟨⟨wc_10.1, xtc3 219 rfl rfl, wc_10.2.1, wc_10.2.2, by decide +kernel, by decide, rfl⟩, bX5_grow_ok⟩
def lX5_has : List xL := [(3, 1, 5, 3, 22)]
theorem kX5_has : ∀ q ∈ lX5_has, xLq RX5 q := List.forall_mem_cons.mpr ⟨lk_615, fun _ h => absurd h List.not_mem_nil⟩
theorem bX5_has_ok : ∀ b ∈ bX5_has, xbok RX5 cX5_has b := xbF_ok (lk := lX5_has) (ls := []) kX5_has xno_sw (by decide +kernel)
set_option maxRecDepth 20000 in
theorem vX5_has : xMok mX5_has := ⟨⟨wc_10.1, xtc3 228 rfl rfl, wc_10.2.1, wc_10.2.2, by decide +kernel, by decide, rfl⟩, bX5_has_ok⟩
def lX5_init : List xL := [(3, 25, 0, 0, 3), (3, 22, 5, 0, 9), (3, 22, 5, 1, 15), (3, 61, 5, 2, 18)]
theorem kX5_init : ∀ q ∈ lX5_init, xLq RX5 q := List.forall_mem_cons.mpr ⟨lk_619, List.forall_mem_cons.mpr ⟨lk_620, List.forall_mem_cons.mpr ⟨lk_621, List.forall_mem_cons.mpr ⟨lk_622, fun _ h => absurd h List.not_mem_nil⟩⟩⟩⟩
theorem bX5_init_ok : ∀ b ∈ bX5_init, xbok RX5 cX5_init b := xbF_ok (lk := lX5_init) (ls := []) kX5_init xno_sw (by decide +kernel)
set_option maxRecDepth 20000 in
theorem vX5_init : xMok mX5_init := ⟨⟨wc_10.1, xtc1 46 rfl rfl, wc_10.2.1, wc_10.2.2, by decide +kernel, by decide, rfl⟩, bX5_init_ok⟩
def lX5_isFull : List xL := [(3, 1, 5, 3, 22), (3, 1, 5, 0, 9)]
theorem kX5_isFull : ∀ q ∈ lX5_isFull, xLq RX5 q := List.forall_mem_cons.mpr ⟨lk_615, List.forall_mem_cons.mpr ⟨lk_613, fun _ h => absurd h List.not_mem_nil⟩⟩
theorem bX5_isFull_ok : ∀ b ∈ bX5_isFull, xbok RX5 cX5_isFull b := xbF_ok (lk := lX5_isFull) (ls := []) kX5_isFull xno_sw (by decide +kernel)
set_option maxRecDepth 20000 in
theorem vX5_isFull : xMok mX5_isFull := ⟨⟨wc_10.1, xtc3 196 rfl rfl, wc_10.2.1, wc_10.2.2, by decide +kernel, by decide, rfl⟩, bX5_isFull_ok⟩
def lX5_put : List xL := [(3, 13, 287, 40, 25), (3, 1, 5, 1, 15), (3, 1, 5, 2, 18)]
theorem kX5_put : ∀ q ∈ lX5_put, xLq RX5 q := List.forall_mem_cons.mpr ⟨lk_623, List.forall_mem_cons.mpr ⟨lk_614, List.forall_mem_cons.mpr ⟨lk_616, fun _ h => absurd h List.not_mem_nil⟩⟩⟩
theorem bX5_put_ok : ∀ b ∈ bX5_put, xbok RX5 cX5_put b := xbF_ok (lk := lX5_put) (ls := []) kX5_put xno_sw (by decide +kernel)
set_option maxRecDepth 20000 in
theorem vX5_put : xMok mX5_put := ⟨⟨wc_10.1, xtc3 224 rfl rfl, wc_10.2.1, wc_10.2.2, by decide +kernel, by decide, rfl⟩, bX5_put_ok⟩
def lX6_init : List xL := [(3, 25, 0, 0, 3), (3, 24, 5, 0, 9), (3, 13, 288, 44, 13), (3, 61, 6, 2, 16), (3, 61, 6, 3, 20), (3, 61, 6, 0, 23), (3, 24, 8, 0, 27), (3, 1, 9, 0, 29), (3, 13, 313, 68, 35), (3, 61, 6, 1, 38)]
theorem kX6_init : ∀ q ∈ lX6_init, xLq RX6 q := List.forall_mem_cons.mpr ⟨lk_624, List.forall_mem_cons.mpr ⟨lk_625, List.forall_mem_cons.mpr ⟨lk_626, List.forall_mem_cons.mpr ⟨lk_627, List.forall_mem_cons.mpr ⟨lk_628, List.forall_mem_cons.mpr ⟨lk_629, List.forall_mem_cons.mpr ⟨lk_630, List.forall_mem_cons.mpr ⟨lk_631, List.forall_mem_cons.mpr ⟨lk_632, List.forall_mem_cons.mpr ⟨lk_633, fun _ h => absurd h List.not_mem_nil⟩⟩⟩⟩⟩⟩⟩⟩⟩⟩
theorem bX6_init_ok : ∀ b ∈ bX6_init, xbok RX6 cX6_init b := xbF_ok (lk := lX6_init) (ls := []) kX6_init xno_sw (by decide +kernel)
theorem wc_11 : plainName RX6 = true ∧ Cond.initialized RX6 ∈ lw_gt ∧ (RX6 ≠ "java/lang/invoke/MethodHandle" ∧ RX6 ≠ "java/lang/invoke/VarHandle") := ⟨by decide +kernel, xtc1 7 rfl rfl, by decide +kernel, by decide +kernel⟩
set_option maxRecDepth 20000 in
theorem vX6_init : xMok mX6_init := ⟨⟨wc_11.1, xtc2 38 rfl rfl, wc_11.2.1, wc_11.2.2, by decide +kernel, by decide, rfl⟩, bX6_init_ok⟩
def lX6_measureOfWord : List xL := [(3, 1, 6, 1, 38), (2, 72, 9, 0, 138), (3, 13, 318, 64, 97), (2, 72, 10, 0, 140), (2, 72, 11, 0, 142), (2, 72, 12, 0, 144), (2, 72, 13, 0, 146), (2, 72, 14, 0, 148), (2, 72, 15, 0, 150), (2, 72, 16, 0, 152), (2, 72, 17, 0, 154), (2, 72, 18, 0, 156), (2, 72, 19, 0, 158)]
theorem kX6_measureOfWord : ∀ q ∈ lX6_measureOfWord, xLq RX6 q := List.forall_mem_cons.mpr ⟨lk_634, List.forall_mem_cons.mpr ⟨lk_635, List.forall_mem_cons.mpr ⟨lk_636, List.forall_mem_cons.mpr ⟨lk_637, List.forall_mem_cons.mpr ⟨lk_638, List.forall_mem_cons.mpr ⟨lk_639, List.forall_mem_cons.mpr ⟨lk_640, List.forall_mem_cons.mpr ⟨lk_641, List.forall_mem_cons.mpr ⟨lk_642, List.forall_mem_cons.mpr ⟨lk_643, List.forall_mem_cons.mpr ⟨lk_644, List.forall_mem_cons.mpr ⟨lk_645, List.forall_mem_cons.mpr ⟨lk_646, fun _ h => absurd h List.not_mem_nil⟩⟩⟩⟩⟩⟩⟩⟩⟩⟩⟩⟩⟩
theorem bX6_measureOfWord_ok : ∀ b ∈ bX6_measureOfWord, xbok RX6 cX6_measureOfWord b := xbF_ok (lk := lX6_measureOfWord) (ls := []) kX6_measureOfWord xno_sw (by decide +kernel)
set_option maxRecDepth 20000 in
theorem vX6_measureOfWord : xMok mX6_measureOfWord := ⟨⟨wc_11.1, xtc6 132 rfl rfl, wc_11.2.1, wc_11.2.2, by decide +kernel, by decide, rfl⟩, bX6_measureOfWord_ok⟩
def lX6_noteTooMany : List xL := [(3, 1, 6, 4, 45), (3, 14, 6, 4, 45), (3, 1, 6, 1, 38), (3, 1, 8, 3, 63), (3, 14, 6, 5, 69)]
theorem kX6_noteTooMany : ∀ q ∈ lX6_noteTooMany, xLq RX6 q := List.forall_mem_cons.mpr ⟨lk_647, List.forall_mem_cons.mpr ⟨lk_648, List.forall_mem_cons.mpr ⟨lk_634, List.forall_mem_cons.mpr ⟨lk_649, List.forall_mem_cons.mpr ⟨lk_650, fun _ h => absurd h List.not_mem_nil⟩⟩⟩⟩⟩
theorem bX6_noteTooMany_ok : ∀ b ∈ bX6_noteTooMany, xbok RX6 cX6_noteTooMany b := xbF_ok (lk := lX6_noteTooMany) (ls := []) kX6_noteTooMany xno_sw (by decide +kernel)
set_option maxRecDepth 20000 in
theorem vX6_noteTooMany : xMok mX6_noteTooMany := ⟨⟨wc_11.1, xtc6 115 rfl rfl, wc_11.2.1, wc_11.2.2, by decide +kernel, by decide, rfl⟩, bX6_noteTooMany_ok⟩
def lX6_readLine : List xL := [(3, 1, 6, 2, 16), (3, 13, 289, 40, 85), (3, 13, 293, 48, 88), (3, 13, 286, 40, 91), (3, 1, 6, 1, 38), (2, 72, 20, 0, 95), (3, 13, 318, 64, 97), (3, 13, 297, 48, 101), (3, 13, 298, 48, 105), (3, 13, 312, 64, 108), (3, 1, 8, 2, 56), (3, 1, 8, 5, 111), (3, 13, 316, 64, 114), (3, 13, 290, 40, 118)]
theorem kX6_readLine : ∀ q ∈ lX6_readLine, xLq RX6 q := List.forall_mem_cons.mpr ⟨lk_651, List.forall_mem_cons.mpr ⟨lk_652, List.forall_mem_cons.mpr ⟨lk_653, List.forall_mem_cons.mpr ⟨lk_654, List.forall_mem_cons.mpr ⟨lk_634, List.forall_mem_cons.mpr ⟨lk_655, List.forall_mem_cons.mpr ⟨lk_636, List.forall_mem_cons.mpr ⟨lk_656, List.forall_mem_cons.mpr ⟨lk_657, List.forall_mem_cons.mpr ⟨lk_658, List.forall_mem_cons.mpr ⟨lk_659, List.forall_mem_cons.mpr ⟨lk_660, List.forall_mem_cons.mpr ⟨lk_661, List.forall_mem_cons.mpr ⟨lk_662, fun _ h => absurd h List.not_mem_nil⟩⟩⟩⟩⟩⟩⟩⟩⟩⟩⟩⟩⟩⟩
theorem bX6_readLine_ok : ∀ b ∈ bX6_readLine, xbok RX6 cX6_readLine b := xbF_ok (lk := lX6_readLine) (ls := []) kX6_readLine xno_sw (by decide +kernel)
set_option maxRecDepth 20000 in
theorem vX6_readLine : xMok mX6_readLine := ⟨⟨wc_11.1, xtc6 110 rfl rfl, wc_11.2.1, wc_11.2.2, by decide +kernel, by decide, rfl⟩, bX6_readLine_ok⟩
def lX6_readRules : List xL := [(3, 1, 6, 2, 16), (3, 13, 283, 40, 42), (3, 1, 6, 3, 20), (3, 14, 6, 4, 45), (3, 1, 6, 1, 38), (3, 1, 6, 0, 23), (3, 1, 9, 1, 49), (3, 13, 319, 64, 52), (3, 1, 8, 2, 56), (3, 13, 294, 48, 59), (3, 1, 8, 3, 63), (3, 13, 326, 72, 66), (3, 1, 6, 4, 45), (3, 1, 6, 5, 69), (3, 1, 9, 12, 72), (3, 13, 284, 40, 75), (3, 1, 9, 13, 79), (3, 1, 5, 3, 82)]
theorem kX6_readRules : ∀ q ∈ lX6_readRules, xLq RX6 q := List.forall_mem_cons.mpr ⟨lk_651, List.forall_mem_cons.mpr ⟨lk_663, List.forall_mem_cons.mpr ⟨lk_664, List.forall_mem_cons.mpr ⟨lk_648, List.forall_mem_cons.mpr ⟨lk_634, List.forall_mem_cons.mpr ⟨lk_665, List.forall_mem_cons.mpr ⟨lk_666, List.forall_mem_cons.mpr ⟨lk_667, List.forall_mem_cons.mpr ⟨lk_659, List.forall_mem_cons.mpr ⟨lk_668, List.forall_mem_cons.mpr ⟨lk_649, List.forall_mem_cons.mpr ⟨lk_669, List.forall_mem_cons.mpr ⟨lk_647, List.forall_mem_cons.mpr ⟨lk_670, List.forall_mem_cons.mpr ⟨lk_671, List.forall_mem_cons.mpr ⟨lk_672, List.forall_mem_cons.mpr ⟨lk_673, List.forall_mem_cons.mpr ⟨lk_674, fun _ h => absurd h List.not_mem_nil⟩⟩⟩⟩⟩⟩⟩⟩⟩⟩⟩⟩⟩⟩⟩⟩⟩⟩
theorem bX6_readRules_ok : ∀ b ∈ bX6_readRules, xbok RX6 cX6_readRules b := xbF_ok (lk := lX6_readRules) (ls := []) kX6_readRules xno_sw (by decide +kernel)
set_option maxRecDepth 20000 in
theorem vX6_readRules : xMok mX6_readRules := ⟨⟨wc_11.1, xtc6 104 rfl rfl, wc_11.2.1, wc_11.2.2, by decide +kernel, by decide, rfl⟩, bX6_readRules_ok⟩
def lX6_readTest : List xL := [(3, 1, 6, 1, 38), (2, 72, 21, 0, 133), (3, 13, 318, 64, 97), (3, 13, 312, 64, 108), (3, 13, 292, 48, 135), (3, 13, 316, 64, 114), (3, 1, 8, 2, 56), (3, 1, 8, 5, 111), (3, 1, 6, 4, 45), (3, 1, 6, 3, 20), (3, 13, 286, 40, 91), (3, 13, 290, 40, 118)]
theorem kX6_readTest : ∀ q ∈ lX6_readTest, xLq RX6 q := List.forall_mem_cons.mpr ⟨lk_634, List.forall_mem_cons.mpr ⟨lk_675, List.forall_mem_cons.mpr ⟨lk_636, List.forall_mem_cons.mpr ⟨lk_658, List.forall_mem_cons.mpr ⟨lk_676, List.forall_mem_cons.mpr ⟨lk_661, List.forall_mem_cons.mpr ⟨lk_659, List.forall_mem_cons.mpr ⟨lk_660, List.forall_mem_cons.mpr ⟨lk_647, List.forall_mem_cons.mpr ⟨lk_664, List.forall_mem_cons.mpr ⟨lk_654, List.forall_mem_cons.mpr ⟨lk_662, fun _ h => absurd h List.not_mem_nil⟩⟩⟩⟩⟩⟩⟩⟩⟩⟩⟩⟩
theorem bX6_readTest_ok : ∀ b ∈ bX6_readTest, xbok RX6 cX6_readTest b := xbF_ok (lk := lX6_readTest) (ls := []) kX6_readTest xno_sw (by decide +kernel)
set_option maxRecDepth 20000 in
theorem vX6_readTest : xMok mX6_readTest := ⟨⟨wc_11.1, xtc6 127 rfl rfl, wc_11.2.1, wc_11.2.2, by decide +kernel, by decide, rfl⟩, bX6_readTest_ok⟩
def lX6_readTests : List xL := [(3, 1, 6, 1, 38), (3, 13, 312, 64, 108), (3, 13, 293, 48, 88), (3, 13, 296, 48, 128), (3, 13, 316, 64, 114), (2, 72, 22, 0, 131), (3, 13, 318, 64, 97)]
theorem kX6_readTests : ∀ q ∈ lX6_readTests, xLq RX6 q := List.forall_mem_cons.mpr ⟨lk_634, List.forall_mem_cons.mpr ⟨lk_658, List.forall_mem_cons.mpr ⟨lk_653, List.forall_mem_cons.mpr ⟨lk_677, List.forall_mem_cons.mpr ⟨lk_661, List.forall_mem_cons.mpr ⟨lk_678, List.forall_mem_cons.mpr ⟨lk_636, fun _ h => absurd h List.not_mem_nil⟩⟩⟩⟩⟩⟩⟩
theorem bX6_readTests_ok : ∀ b ∈ bX6_readTests, xbok RX6 cX6_readTests b := xbF_ok (lk := lX6_readTests) (ls := []) kX6_readTests xno_sw (by decide +kernel)
set_option maxRecDepth 20000 in
theorem vX6_readTests : xMok mX6_readTests := ⟨⟨wc_11.1, xtc6 122 rfl rfl, wc_11.2.1, wc_11.2.2, by decide +kernel, by decide, rfl⟩, bX6_readTests_ok⟩
def lX6_verbOfWord : List xL := [(3, 1, 6, 1, 38), (2, 72, 23, 0, 122), (3, 13, 318, 64, 97), (2, 72, 24, 0, 124), (2, 72, 25, 0, 126)]
theorem kX6_verbOfWord : ∀ q ∈ lX6_verbOfWord, xLq RX6 q := List.forall_mem_cons.mpr ⟨lk_634, List.forall_mem_cons.mpr ⟨lk_679, List.forall_mem_cons.mpr ⟨lk_636, List.forall_mem_cons.mpr ⟨lk_680, List.forall_mem_cons.mpr ⟨lk_681, fun _ h => absurd h List.not_mem_nil⟩⟩⟩⟩⟩
theorem bX6_verbOfWord_ok : ∀ b ∈ bX6_verbOfWord, xbok RX6 cX6_verbOfWord b := xbF_ok (lk := lX6_verbOfWord) (ls := []) kX6_verbOfWord xno_sw (by decide +kernel)
set_option maxRecDepth 20000 in
theorem vX6_verbOfWord : xMok mX6_verbOfWord := ⟨⟨wc_11.1, xtc6 150 rfl rfl, wc_11.2.1, wc_11.2.2, by decide +kernel, by decide, rfl⟩, bX6_verbOfWord_ok⟩
def lX7_fillWorths : List xL := [(3, 1, 7, 0, 22), (3, 1, 1, 5, 33), (3, 1, 1, 6, 39), (3, 13, 301, 56, 50), (3, 1, 7, 1, 9), (3, 13, 304, 58, 54), (3, 13, 309, 56, 58), (3, 62, 0, 0, 61)]
theorem kX7_fillWorths : ∀ q ∈ lX7_fillWorths, xLq RX7 q := List.forall_mem_cons.mpr ⟨lk_682, List.forall_mem_cons.mpr ⟨lk_683, List.forall_mem_cons.mpr ⟨lk_684, List.forall_mem_cons.mpr ⟨lk_685, List.forall_mem_cons.mpr ⟨lk_686, List.forall_mem_cons.mpr ⟨lk_687, List.forall_mem_cons.mpr ⟨lk_688, List.forall_mem_cons.mpr ⟨lk_689, fun _ h => absurd h List.not_mem_nil⟩⟩⟩⟩⟩⟩⟩⟩
theorem bX7_fillWorths_ok : ∀ b ∈ bX7_fillWorths, xbok RX7 cX7_fillWorths b := xbF_ok (lk := lX7_fillWorths) (ls := []) kX7_fillWorths xno_sw (by decide +kernel)
theorem wc_12 : plainName RX7 = true ∧ Cond.initialized RX7 ∈ lw_gt ∧ (RX7 ≠ "java/lang/invoke/MethodHandle" ∧ RX7 ≠ "java/lang/invoke/VarHandle") := ⟨by decide +kernel, xtc1 11 rfl rfl, by decide +kernel, by decide +kernel⟩
set_option maxRecDepth 20000 in
theorem vX7_fillWorths : xMok mX7_fillWorths := ⟨⟨wc_12.1, xtc5 180 rfl rfl, wc_12.2.1, wc_12.2.2, by decide +kernel, by decide, rfl⟩, bX7_fillWorths_ok⟩
def lX7_forget : List xL := [(3, 59, 7, 3, 26), (3, 59, 7, 4, 30)]
theorem kX7_forget : ∀ q ∈ lX7_forget, xLq RX7 q := List.forall_mem_cons.mpr ⟨lk_690, List.forall_mem_cons.mpr ⟨lk_691, fun _ h => absurd h List.not_mem_nil⟩⟩
theorem bX7_forget_ok : ∀ b ∈ bX7_forget, xbok RX7 cX7_forget b := xbF_ok (lk := lX7_forget) (ls := []) kX7_forget xno_sw (by decide +kernel)
set_option maxRecDepth 20000 in
theorem vX7_forget : xMok mX7_forget := ⟨⟨wc_12.1, xtc4 32 rfl rfl, wc_12.2.1, wc_12.2.2, by decide +kernel, by decide, rfl⟩, bX7_forget_ok⟩
def lX7_hasFlaw : List xL := [(3, 1, 7, 0, 22), (3, 1, 1, 4, 82), (3, 1, 5, 3, 72), (3, 13, 285, 40, 79)]
theorem kX7_hasFlaw : ∀ q ∈ lX7_hasFlaw, xLq RX7 q := List.forall_mem_cons.mpr ⟨lk_682, List.forall_mem_cons.mpr ⟨lk_692, List.forall_mem_cons.mpr ⟨lk_693, List.forall_mem_cons.mpr ⟨lk_694, fun _ h => absurd h List.not_mem_nil⟩⟩⟩⟩
theorem bX7_hasFlaw_ok : ∀ b ∈ bX7_hasFlaw, xbok RX7 cX7_hasFlaw b := xbF_ok (lk := lX7_hasFlaw) (ls := []) kX7_hasFlaw xno_sw (by decide +kernel)
set_option maxRecDepth 20000 in
theorem vX7_hasFlaw : xMok mX7_hasFlaw := ⟨⟨wc_12.1, xtc5 184 rfl rfl, wc_12.2.1, wc_12.2.2, by decide +kernel, by decide, rfl⟩, bX7_hasFlaw_ok⟩
def lX7_init : List xL := [(3, 25, 0, 0, 1), (3, 61, 7, 1, 9), (3, 24, 5, 0, 13), (3, 13, 288, 44, 15), (3, 61, 7, 2, 18), (3, 61, 7, 0, 22)]
theorem kX7_init : ∀ q ∈ lX7_init, xLq RX7 q := List.forall_mem_cons.mpr ⟨lk_695, List.forall_mem_cons.mpr ⟨lk_696, List.forall_mem_cons.mpr ⟨lk_697, List.forall_mem_cons.mpr ⟨lk_698, List.forall_mem_cons.mpr ⟨lk_699, List.forall_mem_cons.mpr ⟨lk_700, fun _ h => absurd h List.not_mem_nil⟩⟩⟩⟩⟩⟩
theorem bX7_init_ok : ∀ b ∈ bX7_init, xbok RX7 cX7_init b := xbF_ok (lk := lX7_init) (ls := []) kX7_init xno_sw (by decide +kernel)
set_option maxRecDepth 20000 in
theorem vX7_init : xMok mX7_init := ⟨⟨wc_12.1, xtc2 187 rfl rfl, wc_12.2.1, wc_12.2.2, by decide +kernel, by decide, rfl⟩, bX7_init_ok⟩
def lX7_isAsLarge : List xL := [(3, 1, 7, 0, 22), (3, 1, 1, 3, 69), (3, 13, 285, 40, 79)]
theorem kX7_isAsLarge : ∀ q ∈ lX7_isAsLarge, xLq RX7 q := List.forall_mem_cons.mpr ⟨lk_682, List.forall_mem_cons.mpr ⟨lk_701, List.forall_mem_cons.mpr ⟨lk_694, fun _ h => absurd h List.not_mem_nil⟩⟩⟩
theorem bX7_isAsLarge_ok : ∀ b ∈ bX7_isAsLarge, xbok RX7 cX7_isAsLarge b := xbF_ok (lk := lX7_isAsLarge) (ls := []) kX7_isAsLarge xno_sw (by decide +kernel)
set_option maxRecDepth 20000 in
theorem vX7_isAsLarge : xMok mX7_isAsLarge := ⟨⟨wc_12.1, xtc5 174 rfl rfl, wc_12.2.1, wc_12.2.2, by decide +kernel, by decide, rfl⟩, bX7_isAsLarge_ok⟩
def lX7_pieceOf : List xL := [(3, 37, 0, 0, 66)]
theorem kX7_pieceOf : ∀ q ∈ lX7_pieceOf, xLq RX7 q := List.forall_mem_cons.mpr ⟨lk_702, fun _ h => absurd h List.not_mem_nil⟩
theorem bX7_pieceOf_ok : ∀ b ∈ bX7_pieceOf, xbok RX7 cX7_pieceOf b := xbF_ok (lk := lX7_pieceOf) (ls := []) kX7_pieceOf xno_sw (by decide +kernel)
set_option maxRecDepth 20000 in
theorem vX7_pieceOf : xMok mX7_pieceOf := ⟨⟨wc_12.1, xtc5 187 rfl rfl, wc_12.2.1, wc_12.2.2, by decide +kernel, by decide, rfl⟩, bX7_pieceOf_ok⟩
def lX7_planPanel : List xL := [(3, 1, 7, 0, 22), (3, 1, 1, 3, 69), (3, 1, 5, 3, 72), (3, 13, 303, 56, 75), (3, 13, 285, 40, 79), (3, 1, 7, 2, 18), (3, 13, 286, 40, 102), (3, 13, 290, 40, 106)]
theorem kX7_planPanel : ∀ q ∈ lX7_planPanel, xLq RX7 q := List.forall_mem_cons.mpr ⟨lk_682, List.forall_mem_cons.mpr ⟨lk_701, List.forall_mem_cons.mpr ⟨lk_693, List.forall_mem_cons.mpr ⟨lk_703, List.forall_mem_cons.mpr ⟨lk_694, List.forall_mem_cons.mpr ⟨lk_704, List.forall_mem_cons.mpr ⟨lk_705, List.forall_mem_cons.mpr ⟨lk_706, fun _ h => absurd h List.not_mem_nil⟩⟩⟩⟩⟩⟩⟩⟩
theorem bX7_planPanel_ok : ∀ b ∈ bX7_planPanel, xbok RX7 cX7_planPanel b := xbF_ok (lk := lX7_planPanel) (ls := []) kX7_planPanel xno_sw (by decide +kernel)
set_option maxRecDepth 20000 in
theorem vX7_planPanel : xMok mX7_planPanel := ⟨⟨wc_12.1, xtc5 215 rfl rfl, wc_12.2.1, wc_12.2.2, by decide +kernel, by decide, rfl⟩, bX7_planPanel_ok⟩
def lX7_planPiece : List xL := [(3, 13, 310, 56, 95), (3, 13, 311, 56, 42), (3, 13, 301, 56, 50), (3, 13, 305, 56, 98), (3, 13, 306, 58, 91)]
theorem kX7_planPiece : ∀ q ∈ lX7_planPiece, xLq RX7 q := List.forall_mem_cons.mpr ⟨lk_707, List.forall_mem_cons.mpr ⟨lk_708, List.forall_mem_cons.mpr ⟨lk_685, List.forall_mem_cons.mpr ⟨lk_709, List.forall_mem_cons.mpr ⟨lk_710, fun _ h => absurd h List.not_mem_nil⟩⟩⟩⟩⟩
theorem bX7_planPiece_ok : ∀ b ∈ bX7_planPiece, xbok RX7 cX7_planPiece b := xbF_ok (lk := lX7_planPiece) (ls := []) kX7_planPiece xno_sw (by decide +kernel)
set_option maxRecDepth 20000 in
theorem vX7_planPiece : xMok mX7_planPiece := ⟨⟨wc_12.1, xtc5 210 rfl rfl, wc_12.2.1, wc_12.2.2, by decide +kernel, by decide, rfl⟩, bX7_planPiece_ok⟩
def lX7_refreshPlan : List xL := [(3, 1, 7, 4, 30), (3, 13, 308, 56, 85), (3, 1, 7, 2, 18), (3, 13, 283, 40, 88), (3, 1, 7, 0, 22), (3, 1, 1, 5, 33), (3, 1, 1, 6, 39), (3, 13, 306, 58, 91), (3, 59, 7, 4, 30)]
theorem kX7_refreshPlan : ∀ q ∈ lX7_refreshPlan, xLq RX7 q := List.forall_mem_cons.mpr ⟨lk_711, List.forall_mem_cons.mpr ⟨lk_712, List.forall_mem_cons.mpr ⟨lk_704, List.forall_mem_cons.mpr ⟨lk_713, List.forall_mem_cons.mpr ⟨lk_682, List.forall_mem_cons.mpr ⟨lk_683, List.forall_mem_cons.mpr ⟨lk_684, List.forall_mem_cons.mpr ⟨lk_710, List.forall_mem_cons.mpr ⟨lk_691, fun _ h => absurd h List.not_mem_nil⟩⟩⟩⟩⟩⟩⟩⟩⟩
theorem bX7_refreshPlan_ok : ∀ b ∈ bX7_refreshPlan, xbok RX7 cX7_refreshPlan b := xbF_ok (lk := lX7_refreshPlan) (ls := []) kX7_refreshPlan xno_sw (by decide +kernel)
set_option maxRecDepth 20000 in
theorem vX7_refreshPlan : xMok mX7_refreshPlan := ⟨⟨wc_12.1, xtc5 205 rfl rfl, wc_12.2.1, wc_12.2.2, by decide +kernel, by decide, rfl⟩, bX7_refreshPlan_ok⟩
def lX7_refreshWorth : List xL := [(3, 1, 7, 3, 26), (3, 1, 7, 0, 22), (3, 1, 1, 5, 33), (3, 1, 1, 6, 39), (3, 13, 311, 56, 42), (3, 13, 299, 56, 46), (3, 59, 7, 3, 26)]
theorem kX7_refreshWorth : ∀ q ∈ lX7_refreshWorth, xLq RX7 q := List.forall_mem_cons.mpr ⟨lk_714, List.forall_mem_cons.mpr ⟨lk_682, List.forall_mem_cons.mpr ⟨lk_683, List.forall_mem_cons.mpr ⟨lk_684, List.forall_mem_cons.mpr ⟨lk_708, List.forall_mem_cons.mpr ⟨lk_715, List.forall_mem_cons.mpr ⟨lk_690, fun _ h => absurd h List.not_mem_nil⟩⟩⟩⟩⟩⟩⟩
theorem bX7_refreshWorth_ok : ∀ b ∈ bX7_refreshWorth, xbok RX7 cX7_refreshWorth b := xbF_ok (lk := lX7_refreshWorth) (ls := []) kX7_refreshWorth xno_sw (by decide +kernel)
set_option maxRecDepth 20000 in
theorem vX7_refreshWorth : xMok mX7_refreshWorth := ⟨⟨wc_12.1, xtc5 166 rfl rfl, wc_12.2.1, wc_12.2.2, by decide +kernel, by decide, rfl⟩, bX7_refreshWorth_ok⟩
def lX7_worthCut : List xL := [(3, 37, 0, 0, 66), (3, 1, 7, 1, 9), (3, 62, 0, 0, 61)]
theorem kX7_worthCut : ∀ q ∈ lX7_worthCut, xLq RX7 q := List.forall_mem_cons.mpr ⟨lk_702, List.forall_mem_cons.mpr ⟨lk_686, List.forall_mem_cons.mpr ⟨lk_689, fun _ h => absurd h List.not_mem_nil⟩⟩⟩
theorem bX7_worthCut_ok : ∀ b ∈ bX7_worthCut, xbok RX7 cX7_worthCut b := xbF_ok (lk := lX7_worthCut) (ls := []) kX7_worthCut xno_sw (by decide +kernel)
set_option maxRecDepth 20000 in
theorem vX7_worthCut : xMok mX7_worthCut := ⟨⟨wc_12.1, xtc5 193 rfl rfl, wc_12.2.1, wc_12.2.2, by decide +kernel, by decide, rfl⟩, bX7_worthCut_ok⟩
def lX7_worthOf : List xL := [(3, 1, 7, 1, 9), (3, 13, 304, 58, 54)]
theorem kX7_worthOf : ∀ q ∈ lX7_worthOf, xLq RX7 q := List.forall_mem_cons.mpr ⟨lk_686, List.forall_mem_cons.mpr ⟨lk_687, fun _ h => absurd h List.not_mem_nil⟩⟩
theorem bX7_worthOf_ok : ∀ b ∈ bX7_worthOf, xbok RX7 cX7_worthOf b := xbF_ok (lk := lX7_worthOf) (ls := []) kX7_worthOf xno_sw (by decide +kernel)
set_option maxRecDepth 20000 in
theorem vX7_worthOf : xMok mX7_worthOf := ⟨⟨wc_12.1, xtc5 197 rfl rfl, wc_12.2.1, wc_12.2.2, by decide +kernel, by decide, rfl⟩, bX7_worthOf_ok⟩
def lX7_worthOfSize : List xL := [(3, 1, 7, 0, 22), (3, 1, 1, 3, 69), (3, 1, 5, 3, 72), (3, 13, 303, 56, 75), (3, 13, 285, 40, 79), (3, 62, 0, 0, 61)]
theorem kX7_worthOfSize : ∀ q ∈ lX7_worthOfSize, xLq RX7 q := List.forall_mem_cons.mpr ⟨lk_682, List.forall_mem_cons.mpr ⟨lk_701, List.forall_mem_cons.mpr ⟨lk_693, List.forall_mem_cons.mpr ⟨lk_703, List.forall_mem_cons.mpr ⟨lk_694, List.forall_mem_cons.mpr ⟨lk_689, fun _ h => absurd h List.not_mem_nil⟩⟩⟩⟩⟩⟩
theorem bX7_worthOfSize_ok : ∀ b ∈ bX7_worthOfSize, xbok RX7 cX7_worthOfSize b := xbF_ok (lk := lX7_worthOfSize) (ls := []) kX7_worthOfSize xno_sw (by decide +kernel)
set_option maxRecDepth 20000 in
theorem vX7_worthOfSize : xMok mX7_worthOfSize := ⟨⟨wc_12.1, xtc5 170 rfl rfl, wc_12.2.1, wc_12.2.2, by decide +kernel, by decide, rfl⟩, bX7_worthOfSize_ok⟩
def lX8_advance : List xL := [(3, 1, 8, 4, 23), (3, 1, 8, 1, 19), (3, 1, 8, 0, 7), (3, 14, 8, 4, 23), (3, 14, 8, 3, 29), (3, 14, 8, 2, 32), (3, 13, 315, 66, 35), (3, 13, 314, 66, 39), (3, 13, 320, 64, 42), (3, 13, 317, 66, 45)]
theorem kX8_advance : ∀ q ∈ lX8_advance, xLq RX8 q := List.forall_mem_cons.mpr ⟨lk_716, List.forall_mem_cons.mpr ⟨lk_717, List.forall_mem_cons.mpr ⟨lk_718, List.forall_mem_cons.mpr ⟨lk_719, List.forall_mem_cons.mpr ⟨lk_720, List.forall_mem_cons.mpr ⟨lk_721, List.forall_mem_cons.mpr ⟨lk_722, List.forall_mem_cons.mpr ⟨lk_723, List.forall_mem_cons.mpr ⟨lk_724, List.forall_mem_cons.mpr ⟨lk_725, fun _ h => absurd h List.not_mem_nil⟩⟩⟩⟩⟩⟩⟩⟩⟩⟩
theorem bX8_advance_ok : ∀ b ∈ bX8_advance, xbok RX8 cX8_advance b := xbF_ok (lk := lX8_advance) (ls := []) kX8_advance xno_sw (by decide +kernel)
theorem wc_13 : plainName RX8 = true ∧ Cond.initialized RX8 ∈ lw_gt ∧ (RX8 ≠ "java/lang/invoke/MethodHandle" ∧ RX8 ≠ "java/lang/invoke/VarHandle") := ⟨by decide +kernel, xtc1 6 rfl rfl, by decide +kernel, by decide +kernel⟩
set_option maxRecDepth 20000 in
theorem vX8_advance : xMok mX8_advance := ⟨⟨wc_13.1, xtc3 87 rfl rfl, wc_13.2.1, wc_13.2.2, by decide +kernel, by decide, rfl⟩, bX8_advance_ok⟩
def lX8_init : List xL := [(3, 25, 0, 0, 1), (3, 61, 8, 0, 7)]
theorem kX8_init : ∀ q ∈ lX8_init, xLq RX8 q := List.forall_mem_cons.mpr ⟨lk_726, List.forall_mem_cons.mpr ⟨lk_727, fun _ h => absurd h List.not_mem_nil⟩⟩
theorem bX8_init_ok : ∀ b ∈ bX8_init, xbok RX8 cX8_init b := xbF_ok (lk := lX8_init) (ls := []) kX8_init xno_sw (by decide +kernel)
set_option maxRecDepth 20000 in
theorem vX8_init : xMok mX8_init := ⟨⟨wc_13.1, xtc1 213 rfl rfl, wc_13.2.1, wc_13.2.2, by decide +kernel, by decide, rfl⟩, bX8_init_ok⟩
def lX8_isDigit : List xL := []
theorem kX8_isDigit : ∀ q ∈ lX8_isDigit, xLq RX8 q := fun _ h => absurd h List.not_mem_nil
theorem bX8_isDigit_ok : ∀ b ∈ bX8_isDigit, xbok RX8 cX8_isDigit b := xbF_ok (lk := lX8_isDigit) (ls := []) kX8_isDigit xno_sw (by decide +kernel)
set_option maxRecDepth 20000 in
theorem vX8_isDigit : xMok mX8_isDigit := ⟨⟨wc_13.1, xtc3 93 rfl rfl, wc_13.2.1, wc_13.2.2, by decide +kernel, by decide, rfl⟩, bX8_isDigit_ok⟩
def lX8_isLetter : List xL := []
theorem kX8_isLetter : ∀ q ∈ lX8_isLetter, xLq RX8 q := fun _ h => absurd h List.not_mem_nil
theorem bX8_isLetter_ok : ∀ b ∈ bX8_isLetter, xbok RX8 cX8_isLetter b := xbF_ok (lk := lX8_isLetter) (ls := []) kX8_isLetter xno_sw (by decide +kernel)
set_option maxRecDepth 20000 in
theorem vX8_isLetter : xMok mX8_isLetter := ⟨⟨wc_13.1, xtc3 90 rfl rfl, wc_13.2.1, wc_13.2.2, by decide +kernel, by decide, rfl⟩, bX8_isLetter_ok⟩
def lX8_isSign : List xL := [(3, 1, 8, 2, 32), (3, 1, 8, 0, 7), (3, 1, 8, 3, 29)]
theorem kX8_isSign : ∀ q ∈ lX8_isSign, xLq RX8 q := List.forall_mem_cons.mpr ⟨lk_728, List.forall_mem_cons.mpr ⟨lk_718, List.forall_mem_cons.mpr ⟨lk_729, fun _ h => absurd h List.not_mem_nil⟩⟩⟩
theorem bX8_isSign_ok : ∀ b ∈ bX8_isSign, xbok RX8 cX8_isSign b := xbF_ok (lk := lX8_isSign) (ls := []) kX8_isSign xno_sw (by decide +kernel)
set_option maxRecDepth 20000 in
theorem vX8_isSign : xMok mX8_isSign := ⟨⟨wc_13.1, xtc3 180 rfl rfl, wc_13.2.1, wc_13.2.2, by decide +kernel, by decide, rfl⟩, bX8_isSign_ok⟩
def lX8_isSignByte : List xL := []
theorem kX8_isSignByte : ∀ q ∈ lX8_isSignByte, xLq RX8 q := fun _ h => absurd h List.not_mem_nil
theorem bX8_isSignByte_ok : ∀ b ∈ bX8_isSignByte, xbok RX8 cX8_isSignByte b := xbF_ok (lk := lX8_isSignByte) (ls := []) kX8_isSignByte xno_sw (by decide +kernel)
set_option maxRecDepth 20000 in
theorem vX8_isSignByte : xMok mX8_isSignByte := ⟨⟨wc_13.1, xtc3 100 rfl rfl, wc_13.2.1, wc_13.2.2, by decide +kernel, by decide, rfl⟩, bX8_isSignByte_ok⟩
def lX8_isWord : List xL := [(3, 1, 8, 2, 32), (3, 1, 8, 4, 23), (3, 1, 8, 3, 29), (3, 73, 0, 0, 51), (3, 1, 8, 0, 7), (3, 74, 0, 0, 56)]
theorem kX8_isWord : ∀ q ∈ lX8_isWord, xLq RX8 q := List.forall_mem_cons.mpr ⟨lk_728, List.forall_mem_cons.mpr ⟨lk_716, List.forall_mem_cons.mpr ⟨lk_729, List.forall_mem_cons.mpr ⟨lk_730, List.forall_mem_cons.mpr ⟨lk_718, List.forall_mem_cons.mpr ⟨lk_731, fun _ h => absurd h List.not_mem_nil⟩⟩⟩⟩⟩⟩
theorem bX8_isWord_ok : ∀ b ∈ bX8_isWord, xbok RX8 cX8_isWord b := xbF_ok (lk := lX8_isWord) (ls := []) kX8_isWord xno_sw (by decide +kernel)
set_option maxRecDepth 20000 in
theorem vX8_isWord : xMok mX8_isWord := ⟨⟨wc_13.1, xtc3 113 rfl rfl, wc_13.2.1, wc_13.2.2, by decide +kernel, by decide, rfl⟩, bX8_isWord_ok⟩
def lX8_start : List xL := [(3, 1, 8, 0, 7), (3, 63, 0, 0, 13), (3, 14, 8, 1, 19), (3, 14, 8, 4, 23), (3, 13, 312, 64, 26)]
theorem kX8_start : ∀ q ∈ lX8_start, xLq RX8 q := List.forall_mem_cons.mpr ⟨lk_718, List.forall_mem_cons.mpr ⟨lk_732, List.forall_mem_cons.mpr ⟨lk_733, List.forall_mem_cons.mpr ⟨lk_719, List.forall_mem_cons.mpr ⟨lk_734, fun _ h => absurd h List.not_mem_nil⟩⟩⟩⟩⟩
end
section
theorem bX8_start_ok : ∀ b ∈ bX8_start, xbok RX8 cX8_start b := xbF_ok (lk := lX8_start) (ls := []) kX8_start xno_sw (by decide +kernel)
set_option maxRecDepth 20000 in
theorem vX8_start : xMok mX8_start := ⟨⟨wc_13.1, xtc3 80 rfl rfl, wc_13.2.1, wc_13.2.2, by decide +kernel, by decide, rfl⟩, bX8_start_ok⟩
def lX8_takeDigits : List xL := [(3, 14, 8, 5, 48), (3, 1, 8, 4, 23), (3, 1, 8, 1, 19), (3, 1, 8, 0, 7), (3, 13, 314, 66, 39), (3, 1, 8, 3, 29), (3, 1, 8, 5, 48), (3, 14, 8, 4, 23), (3, 14, 8, 2, 32)]
theorem kX8_takeDigits : ∀ q ∈ lX8_takeDigits, xLq RX8 q := List.forall_mem_cons.mpr ⟨lk_735, List.forall_mem_cons.mpr ⟨lk_716, List.forall_mem_cons.mpr ⟨lk_717, List.forall_mem_cons.mpr ⟨lk_718, List.forall_mem_cons.mpr ⟨lk_723, List.forall_mem_cons.mpr ⟨lk_729, List.forall_mem_cons.mpr ⟨lk_736, List.forall_mem_cons.mpr ⟨lk_719, List.forall_mem_cons.mpr ⟨lk_721, fun _ h => absurd h List.not_mem_nil⟩⟩⟩⟩⟩⟩⟩⟩⟩
theorem bX8_takeDigits_ok : ∀ b ∈ bX8_takeDigits, xbok RX8 cX8_takeDigits b := xbF_ok (lk := lX8_takeDigits) (ls := []) kX8_takeDigits xno_sw (by decide +kernel)
set_option maxRecDepth 20000 in
theorem vX8_takeDigits : xMok mX8_takeDigits := ⟨⟨wc_13.1, xtc3 97 rfl rfl, wc_13.2.1, wc_13.2.2, by decide +kernel, by decide, rfl⟩, bX8_takeDigits_ok⟩
def lX9_append : List xL := [(3, 1, 9, 1, 57), (3, 1, 9, 0, 11), (3, 14, 9, 1, 57)]
theorem kX9_append : ∀ q ∈ lX9_append, xLq RX9 q := List.forall_mem_cons.mpr ⟨lk_737, List.forall_mem_cons.mpr ⟨lk_738, List.forall_mem_cons.mpr ⟨lk_739, fun _ h => absurd h List.not_mem_nil⟩⟩⟩
theorem bX9_append_ok : ∀ b ∈ bX9_append, xbok RX9 cX9_append b := xbF_ok (lk := lX9_append) (ls := []) kX9_append xno_sw (by decide +kernel)
theorem wc_14 : plainName RX9 = true ∧ Cond.initialized RX9 ∈ lw_gt ∧ (RX9 ≠ "java/lang/invoke/MethodHandle" ∧ RX9 ≠ "java/lang/invoke/VarHandle") := ⟨by decide +kernel, xtc1 2 rfl rfl, by decide +kernel, by decide +kernel⟩
set_option maxRecDepth 20000 in
theorem vX9_append : xMok mX9_append := ⟨⟨wc_14.1, xtc3 56 rfl rfl, wc_14.2.1, wc_14.2.2, by decide +kernel, by decide, rfl⟩, bX9_append_ok⟩
def lX9_copy : List xL := [(3, 1, 9, 0, 11), (3, 58, 0, 0, 70), (3, 1, 9, 1, 57), (3, 14, 9, 1, 57), (3, 1, 9, 2, 60), (3, 14, 9, 2, 60), (3, 1, 9, 3, 15), (3, 14, 9, 3, 15), (3, 1, 9, 4, 22), (3, 13, 241, 8, 76), (3, 1, 9, 5, 31), (3, 13, 284, 40, 80), (3, 1, 9, 6, 83), (3, 14, 9, 6, 83), (3, 1, 9, 7, 35), (3, 14, 9, 7, 35), (3, 1, 9, 8, 38), (3, 1, 9, 9, 86), (3, 14, 9, 9, 86), (3, 1, 9, 10, 41), (3, 1, 9, 11, 46), (3, 1, 9, 12, 51), (3, 1, 9, 13, 54)]
theorem kX9_copy : ∀ q ∈ lX9_copy, xLq RX9 q := List.forall_mem_cons.mpr ⟨lk_738, List.forall_mem_cons.mpr ⟨lk_740, List.forall_mem_cons.mpr ⟨lk_737, List.forall_mem_cons.mpr ⟨lk_739, List.forall_mem_cons.mpr ⟨lk_741, List.forall_mem_cons.mpr ⟨lk_742, List.forall_mem_cons.mpr ⟨lk_743, List.forall_mem_cons.mpr ⟨lk_744, List.forall_mem_cons.mpr ⟨lk_745, List.forall_mem_cons.mpr ⟨lk_746, List.forall_mem_cons.mpr ⟨lk_747, List.forall_mem_cons.mpr ⟨lk_748, List.forall_mem_cons.mpr ⟨lk_749, List.forall_mem_cons.mpr ⟨lk_750, List.forall_mem_cons.mpr ⟨lk_751, List.forall_mem_cons.mpr ⟨lk_752, List.forall_mem_cons.mpr ⟨lk_753, List.forall_mem_cons.mpr ⟨lk_754, List.forall_mem_cons.mpr ⟨lk_755, List.forall_mem_cons.mpr ⟨lk_756, List.forall_mem_cons.mpr ⟨lk_757, List.forall_mem_cons.mpr ⟨lk_758, List.forall_mem_cons.mpr ⟨lk_759, fun _ h => absurd h List.not_mem_nil⟩⟩⟩⟩⟩⟩⟩⟩⟩⟩⟩⟩⟩⟩⟩⟩⟩⟩⟩⟩⟩⟩⟩
theorem bX9_copy_ok : ∀ b ∈ bX9_copy, xbok RX9 cX9_copy b := xbF_ok (lk := lX9_copy) (ls := []) kX9_copy xno_sw (by decide +kernel)
set_option maxRecDepth 20000 in
theorem vX9_copy : xMok mX9_copy := ⟨⟨wc_14.1, xtc6 199 rfl rfl, wc_14.2.1, wc_14.2.2, by decide +kernel, by decide, rfl⟩, bX9_copy_ok⟩
def lX9_cracksInView : List xL := [(3, 1, 9, 7, 35), (3, 1, 9, 5, 31), (3, 1, 5, 3, 63), (3, 13, 285, 40, 66)]
theorem kX9_cracksInView : ∀ q ∈ lX9_cracksInView, xLq RX9 q := List.forall_mem_cons.mpr ⟨lk_751, List.forall_mem_cons.mpr ⟨lk_747, List.forall_mem_cons.mpr ⟨lk_760, List.forall_mem_cons.mpr ⟨lk_761, fun _ h => absurd h List.not_mem_nil⟩⟩⟩⟩
theorem bX9_cracksInView_ok : ∀ b ∈ bX9_cracksInView, xbok RX9 cX9_cracksInView b := xbF_ok (lk := lX9_cracksInView) (ls := []) kX9_cracksInView xno_sw (by decide +kernel)
set_option maxRecDepth 20000 in
theorem vX9_cracksInView : xMok mX9_cracksInView := ⟨⟨wc_14.1, xtc4 214 rfl rfl, wc_14.2.1, wc_14.2.2, by decide +kernel, by decide, rfl⟩, bX9_cracksInView_ok⟩
def lX9_findCrack : List xL := [(3, 1, 9, 5, 31), (3, 1, 5, 3, 63), (3, 13, 285, 40, 66)]
theorem kX9_findCrack : ∀ q ∈ lX9_findCrack, xLq RX9 q := List.forall_mem_cons.mpr ⟨lk_747, List.forall_mem_cons.mpr ⟨lk_760, List.forall_mem_cons.mpr ⟨lk_761, fun _ h => absurd h List.not_mem_nil⟩⟩⟩
theorem bX9_findCrack_ok : ∀ b ∈ bX9_findCrack, xbok RX9 cX9_findCrack b := xbF_ok (lk := lX9_findCrack) (ls := []) kX9_findCrack xno_sw (by decide +kernel)
set_option maxRecDepth 20000 in
theorem vX9_findCrack : xMok mX9_findCrack := ⟨⟨wc_14.1, xtc4 203 rfl rfl, wc_14.2.1, wc_14.2.2, by decide +kernel, by decide, rfl⟩, bX9_findCrack_ok⟩
def lX9_init : List xL := [(3, 25, 0, 0, 3), (3, 61, 9, 0, 11), (3, 14, 9, 3, 15), (3, 24, 1, 0, 19), (3, 13, 242, 13, 21), (3, 61, 9, 4, 22), (3, 24, 5, 0, 26), (3, 13, 288, 44, 28), (3, 61, 9, 5, 31), (3, 14, 9, 7, 35), (3, 61, 9, 8, 38), (3, 61, 9, 10, 41), (3, 61, 9, 11, 46), (3, 61, 9, 12, 51), (3, 61, 9, 13, 54)]
theorem kX9_init : ∀ q ∈ lX9_init, xLq RX9 q := List.forall_mem_cons.mpr ⟨lk_762, List.forall_mem_cons.mpr ⟨lk_763, List.forall_mem_cons.mpr ⟨lk_744, List.forall_mem_cons.mpr ⟨lk_764, List.forall_mem_cons.mpr ⟨lk_765, List.forall_mem_cons.mpr ⟨lk_766, List.forall_mem_cons.mpr ⟨lk_767, List.forall_mem_cons.mpr ⟨lk_768, List.forall_mem_cons.mpr ⟨lk_769, List.forall_mem_cons.mpr ⟨lk_752, List.forall_mem_cons.mpr ⟨lk_770, List.forall_mem_cons.mpr ⟨lk_771, List.forall_mem_cons.mpr ⟨lk_772, List.forall_mem_cons.mpr ⟨lk_773, List.forall_mem_cons.mpr ⟨lk_774, fun _ h => absurd h List.not_mem_nil⟩⟩⟩⟩⟩⟩⟩⟩⟩⟩⟩⟩⟩⟩⟩
theorem bX9_init_ok : ∀ b ∈ bX9_init, xbok RX9 cX9_init b := xbF_ok (lk := lX9_init) (ls := []) kX9_init xno_sw (by decide +kernel)
set_option maxRecDepth 20000 in
theorem vX9_init : xMok mX9_init := ⟨⟨wc_14.1, xtc1 34 rfl rfl, wc_14.2.1, wc_14.2.2, by decide +kernel, by decide, rfl⟩, bX9_init_ok⟩
def lX9_take : List xL := [(3, 14, 9, 1, 57), (3, 14, 9, 2, 60), (3, 14, 9, 3, 15)]
theorem kX9_take : ∀ q ∈ lX9_take, xLq RX9 q := List.forall_mem_cons.mpr ⟨lk_739, List.forall_mem_cons.mpr ⟨lk_742, List.forall_mem_cons.mpr ⟨lk_744, fun _ h => absurd h List.not_mem_nil⟩⟩⟩
theorem bX9_take_ok : ∀ b ∈ bX9_take, xbok RX9 cX9_take b := xbF_ok (lk := lX9_take) (ls := []) kX9_take xno_sw (by decide +kernel)
set_option maxRecDepth 20000 in
theorem vX9_take : xMok mX9_take := ⟨⟨wc_14.1, xtc3 232 rfl rfl, wc_14.2.1, wc_14.2.2, by decide +kernel, by decide, rfl⟩, bX9_take_ok⟩
end
