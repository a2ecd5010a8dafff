def lJ6_bitCount_0f7a4 : List xL := [(3, 36, 1431655765, 0, 265), (3, 36, 858993459, 0, 266), (3, 36, 252645135, 0, 267)]
theorem kJ6_bitCount_0f7a4 : ∀ q ∈ lJ6_bitCount_0f7a4, xLq RJ6 q := List.forall_mem_cons.mpr ⟨lk_0, List.forall_mem_cons.mpr ⟨lk_1, List.forall_mem_cons.mpr ⟨lk_2, fun _ h => absurd h List.not_mem_nil⟩⟩⟩
theorem bJ6_bitCount_0f7a4_ok : ∀ b ∈ bJ6_bitCount_0f7a4, xbok RJ6 cJ6_bitCount_0f7a4 b := xbF_ok (lk := lJ6_bitCount_0f7a4) (ls := []) kJ6_bitCount_0f7a4 xno_sw (by decide +kernel)
theorem wc_0 : plainName RJ6 = true ∧ Cond.initialized RJ6 ∈ lw_gt ∧ (RJ6 ≠ "java/lang/invoke/MethodHandle" ∧ RJ6 ≠ "java/lang/invoke/VarHandle") := ⟨by decide +kernel, xtc1 21 rfl rfl, by decide +kernel, by decide +kernel⟩
set_option maxRecDepth 20000 in
theorem vJ6_bitCount_0f7a4 : xMok mJ6_bitCount_0f7a4 := ⟨⟨wc_0.1, xtc5 55 rfl rfl, wc_0.2.1, wc_0.2.2, by decide +kernel, by decide, rfl⟩, bJ6_bitCount_0f7a4_ok⟩
def lJ7_fill_53178 : List xL := []
theorem kJ7_fill_53178 : ∀ q ∈ lJ7_fill_53178, xLq RJ7 q := fun _ h => absurd h List.not_mem_nil
theorem bJ7_fill_53178_ok : ∀ b ∈ bJ7_fill_53178, xbok RJ7 cJ7_fill_53178 b := xbF_ok (lk := lJ7_fill_53178) (ls := []) kJ7_fill_53178 xno_sw (by decide +kernel)
theorem wc_1 : plainName RJ7 = true ∧ Cond.initialized RJ7 ∈ lw_gt ∧ (RJ7 ≠ "java/lang/invoke/MethodHandle" ∧ RJ7 ≠ "java/lang/invoke/VarHandle") := ⟨by decide +kernel, xtc1 20 rfl rfl, by decide +kernel, by decide +kernel⟩
set_option maxRecDepth 20000 in
theorem vJ7_fill_53178 : xMok mJ7_fill_53178 := ⟨⟨wc_1.1, xtc4 236 rfl rfl, wc_1.2.1, wc_1.2.2, by decide +kernel, by decide, rfl⟩, bJ7_fill_53178_ok⟩
def lJ7_fill_d0a16 : List xL := []
theorem kJ7_fill_d0a16 : ∀ q ∈ lJ7_fill_d0a16, xLq RJ7 q := fun _ h => absurd h List.not_mem_nil
theorem bJ7_fill_d0a16_ok : ∀ b ∈ bJ7_fill_d0a16, xbok RJ7 cJ7_fill_d0a16 b := xbF_ok (lk := lJ7_fill_d0a16) (ls := []) kJ7_fill_d0a16 xno_sw (by decide +kernel)
set_option maxRecDepth 20000 in
theorem vJ7_fill_d0a16 : xMok mJ7_fill_d0a16 := ⟨⟨wc_1.1, xtc4 150 rfl rfl, wc_1.2.1, wc_1.2.2, by decide +kernel, by decide, rfl⟩, bJ7_fill_d0a16_ok⟩
def lX0_borneBy : List xL := [(3, 1, 0, 0, 39), (3, 1, 1, 0, 50), (3, 1, 0, 1, 11), (3, 13, 285, 40, 60), (3, 1, 0, 5, 27), (3, 1, 0, 3, 20)]
theorem kX0_borneBy : ∀ q ∈ lX0_borneBy, xLq RX0 q := List.forall_mem_cons.mpr ⟨lk_3, List.forall_mem_cons.mpr ⟨lk_4, List.forall_mem_cons.mpr ⟨lk_5, List.forall_mem_cons.mpr ⟨lk_6, List.forall_mem_cons.mpr ⟨lk_7, List.forall_mem_cons.mpr ⟨lk_8, fun _ h => absurd h List.not_mem_nil⟩⟩⟩⟩⟩⟩
theorem bX0_borneBy_ok : ∀ b ∈ bX0_borneBy, xbok RX0 cX0_borneBy b := xbF_ok (lk := lX0_borneBy) (ls := []) kX0_borneBy xno_sw (by decide +kernel)
theorem wc_2 : plainName RX0 = true ∧ Cond.initialized RX0 ∈ lw_gt ∧ (RX0 ≠ "java/lang/invoke/MethodHandle" ∧ RX0 ≠ "java/lang/invoke/VarHandle") := ⟨by decide +kernel, xtc1 8 rfl rfl, by decide +kernel, by decide +kernel⟩
set_option maxRecDepth 20000 in
theorem vX0_borneBy : xMok mX0_borneBy := ⟨⟨wc_2.1, xtc4 93 rfl rfl, wc_2.2.1, wc_2.2.2, by decide +kernel, by decide, rfl⟩, bX0_borneBy_ok⟩
def lX0_breaksBehind : List xL := [(3, 1, 0, 0, 39), (3, 1, 1, 0, 50), (3, 1, 5, 3, 54), (3, 13, 16, 0, 139), (3, 1, 1, 2, 142), (3, 13, 285, 40, 60), (3, 13, 21, 0, 145), (3, 13, 10, 0, 149)]
theorem kX0_breaksBehind : ∀ q ∈ lX0_breaksBehind, xLq RX0 q := List.forall_mem_cons.mpr ⟨lk_3, List.forall_mem_cons.mpr ⟨lk_4, List.forall_mem_cons.mpr ⟨lk_9, List.forall_mem_cons.mpr ⟨lk_10, List.forall_mem_cons.mpr ⟨lk_11, List.forall_mem_cons.mpr ⟨lk_6, List.forall_mem_cons.mpr ⟨lk_12, List.forall_mem_cons.mpr ⟨lk_13, fun _ h => absurd h List.not_mem_nil⟩⟩⟩⟩⟩⟩⟩⟩
theorem bX0_breaksBehind_ok : ∀ b ∈ bX0_breaksBehind, xbok RX0 cX0_breaksBehind b := xbF_ok (lk := lX0_breaksBehind) (ls := []) kX0_breaksBehind xno_sw (by decide +kernel)
set_option maxRecDepth 20000 in
theorem vX0_breaksBehind : xMok mX0_breaksBehind := ⟨⟨wc_2.1, xtc5 238 rfl rfl, wc_2.2.1, wc_2.2.2, by decide +kernel, by decide, rfl⟩, bX0_breaksBehind_ok⟩
def lX0_canBear : List xL := [(3, 52, 1000, 0, 72), (3, 1, 0, 6, 30), (3, 75, 0, 0, 66), (3, 13, 3, 0, 80)]
theorem kX0_canBear : ∀ q ∈ lX0_canBear, xLq RX0 q := List.forall_mem_cons.mpr ⟨lk_14, List.forall_mem_cons.mpr ⟨lk_15, List.forall_mem_cons.mpr ⟨lk_16, List.forall_mem_cons.mpr ⟨lk_17, fun _ h => absurd h List.not_mem_nil⟩⟩⟩⟩
theorem bX0_canBear_ok : ∀ b ∈ bX0_canBear, xbok RX0 cX0_canBear b := xbF_ok (lk := lX0_canBear) (ls := []) kX0_canBear xno_sw (by decide +kernel)
set_option maxRecDepth 20000 in
theorem vX0_canBear : xMok mX0_canBear := ⟨⟨wc_2.1, xtc4 89 rfl rfl, wc_2.2.1, wc_2.2.2, by decide +kernel, by decide, rfl⟩, bX0_canBear_ok⟩
def lX0_commonLife : List xL := [(3, 1, 0, 0, 39), (3, 1, 1, 1, 126), (3, 1, 5, 3, 54), (3, 13, 285, 40, 60)]
theorem kX0_commonLife : ∀ q ∈ lX0_commonLife, xLq RX0 q := List.forall_mem_cons.mpr ⟨lk_3, List.forall_mem_cons.mpr ⟨lk_18, List.forall_mem_cons.mpr ⟨lk_9, List.forall_mem_cons.mpr ⟨lk_6, fun _ h => absurd h List.not_mem_nil⟩⟩⟩⟩
theorem bX0_commonLife_ok : ∀ b ∈ bX0_commonLife, xbok RX0 cX0_commonLife b := xbF_ok (lk := lX0_commonLife) (ls := []) kX0_commonLife xno_sw (by decide +kernel)
set_option maxRecDepth 20000 in
theorem vX0_commonLife : xMok mX0_commonLife := ⟨⟨wc_2.1, xtc4 162 rfl rfl, wc_2.2.1, wc_2.2.2, by decide +kernel, by decide, rfl⟩, bX0_commonLife_ok⟩
def lX0_findOrder : List xL := [(3, 1, 0, 10, 43), (3, 13, 12, 0, 92), (3, 13, 13, 0, 95), (3, 13, 20, 0, 99), (3, 13, 17, 0, 103), (3, 13, 11, 0, 47), (3, 1, 0, 9, 107), (3, 59, 0, 10, 43)]
theorem kX0_findOrder : ∀ q ∈ lX0_findOrder, xLq RX0 q := List.forall_mem_cons.mpr ⟨lk_19, List.forall_mem_cons.mpr ⟨lk_20, List.forall_mem_cons.mpr ⟨lk_21, List.forall_mem_cons.mpr ⟨lk_22, List.forall_mem_cons.mpr ⟨lk_23, List.forall_mem_cons.mpr ⟨lk_24, List.forall_mem_cons.mpr ⟨lk_25, List.forall_mem_cons.mpr ⟨lk_26, fun _ h => absurd h List.not_mem_nil⟩⟩⟩⟩⟩⟩⟩⟩
theorem bX0_findOrder_ok : ∀ b ∈ bX0_findOrder, xbok RX0 cX0_findOrder b := xbF_ok (lk := lX0_findOrder) (ls := []) kX0_findOrder xno_sw (by decide +kernel)
set_option maxRecDepth 20000 in
theorem vX0_findOrder : xMok mX0_findOrder := ⟨⟨wc_2.1, xtc4 124 rfl rfl, wc_2.2.1, wc_2.2.2, by decide +kernel, by decide, rfl⟩, bX0_findOrder_ok⟩
def lX0_forgetOrder : List xL := [(3, 59, 0, 10, 43)]
theorem kX0_forgetOrder : ∀ q ∈ lX0_forgetOrder, xLq RX0 q := List.forall_mem_cons.mpr ⟨lk_26, fun _ h => absurd h List.not_mem_nil⟩
theorem bX0_forgetOrder_ok : ∀ b ∈ bX0_forgetOrder, xbok RX0 cX0_forgetOrder b := xbF_ok (lk := lX0_forgetOrder) (ls := []) kX0_forgetOrder xno_sw (by decide +kernel)
set_option maxRecDepth 20000 in
theorem vX0_forgetOrder : xMok mX0_forgetOrder := ⟨⟨wc_2.1, xtc4 16 rfl rfl, wc_2.2.1, wc_2.2.2, by decide +kernel, by decide, rfl⟩, bX0_forgetOrder_ok⟩
def lX0_init : List xL := [(3, 25, 0, 0, 3), (3, 61, 0, 1, 11), (3, 61, 0, 2, 17), (3, 61, 0, 3, 20), (3, 61, 0, 4, 23), (3, 61, 0, 5, 27), (3, 61, 0, 6, 30), (3, 61, 0, 7, 33), (3, 61, 0, 8, 36), (3, 61, 0, 0, 39)]
theorem kX0_init : ∀ q ∈ lX0_init, xLq RX0 q := List.forall_mem_cons.mpr ⟨lk_27, List.forall_mem_cons.mpr ⟨lk_28, List.forall_mem_cons.mpr ⟨lk_29, List.forall_mem_cons.mpr ⟨lk_30, List.forall_mem_cons.mpr ⟨lk_31, List.forall_mem_cons.mpr ⟨lk_32, List.forall_mem_cons.mpr ⟨lk_33, List.forall_mem_cons.mpr ⟨lk_34, List.forall_mem_cons.mpr ⟨lk_35, List.forall_mem_cons.mpr ⟨lk_36, fun _ h => absurd h List.not_mem_nil⟩⟩⟩⟩⟩⟩⟩⟩⟩⟩
theorem bX0_init_ok : ∀ b ∈ bX0_init, xbok RX0 cX0_init b := xbF_ok (lk := lX0_init) (ls := []) kX0_init xno_sw (by decide +kernel)
set_option maxRecDepth 20000 in
theorem vX0_init : xMok mX0_init := ⟨⟨wc_2.1, xtc2 67 rfl rfl, wc_2.2.1, wc_2.2.2, by decide +kernel, by decide, rfl⟩, bX0_init_ok⟩
def lX0_isWornOut : List xL := [(3, 13, 6, 0, 129), (3, 13, 22, 0, 133), (3, 13, 15, 0, 136)]
theorem kX0_isWornOut : ∀ q ∈ lX0_isWornOut, xLq RX0 q := List.forall_mem_cons.mpr ⟨lk_37, List.forall_mem_cons.mpr ⟨lk_38, List.forall_mem_cons.mpr ⟨lk_39, fun _ h => absurd h List.not_mem_nil⟩⟩⟩
theorem bX0_isWornOut_ok : ∀ b ∈ bX0_isWornOut, xbok RX0 cX0_isWornOut b := xbF_ok (lk := lX0_isWornOut) (ls := []) kX0_isWornOut xno_sw (by decide +kernel)
set_option maxRecDepth 20000 in
theorem vX0_isWornOut : xMok mX0_isWornOut := ⟨⟨wc_2.1, xtc4 178 rfl rfl, wc_2.2.1, wc_2.2.2, by decide +kernel, by decide, rfl⟩, bX0_isWornOut_ok⟩
def lX0_lay : List xL := [(3, 1, 0, 0, 39), (3, 1, 1, 0, 50), (3, 1, 5, 3, 54), (3, 13, 285, 40, 60), (3, 1, 0, 4, 23), (3, 1, 0, 5, 27), (3, 1, 0, 1, 11), (3, 52, 2, 0, 64), (3, 1, 0, 3, 20), (3, 1, 0, 2, 17), (3, 1, 0, 6, 30), (3, 75, 0, 0, 66)]
theorem kX0_lay : ∀ q ∈ lX0_lay, xLq RX0 q := List.forall_mem_cons.mpr ⟨lk_3, List.forall_mem_cons.mpr ⟨lk_4, List.forall_mem_cons.mpr ⟨lk_9, List.forall_mem_cons.mpr ⟨lk_6, List.forall_mem_cons.mpr ⟨lk_40, List.forall_mem_cons.mpr ⟨lk_7, List.forall_mem_cons.mpr ⟨lk_5, List.forall_mem_cons.mpr ⟨lk_41, List.forall_mem_cons.mpr ⟨lk_8, List.forall_mem_cons.mpr ⟨lk_42, List.forall_mem_cons.mpr ⟨lk_15, List.forall_mem_cons.mpr ⟨lk_16, fun _ h => absurd h List.not_mem_nil⟩⟩⟩⟩⟩⟩⟩⟩⟩⟩⟩⟩
theorem bX0_lay_ok : ∀ b ∈ bX0_lay, xbok RX0 cX0_lay b := xbF_ok (lk := lX0_lay) (ls := []) kX0_lay xno_sw (by decide +kernel)
set_option maxRecDepth 20000 in
theorem vX0_lay : xMok mX0_lay := ⟨⟨wc_2.1, xtc4 49 rfl rfl, wc_2.2.1, wc_2.2.2, by decide +kernel, by decide, rfl⟩, bX0_lay_ok⟩
def lX0_layAsTold : List xL := [(3, 1, 0, 1, 11), (3, 13, 11, 0, 47)]
theorem kX0_layAsTold : ∀ q ∈ lX0_layAsTold, xLq RX0 q := List.forall_mem_cons.mpr ⟨lk_5, List.forall_mem_cons.mpr ⟨lk_24, fun _ h => absurd h List.not_mem_nil⟩⟩
theorem bX0_layAsTold_ok : ∀ b ∈ bX0_layAsTold, xbok RX0 cX0_layAsTold b := xbF_ok (lk := lX0_layAsTold) (ls := []) kX0_layAsTold xno_sw (by decide +kernel)
set_option maxRecDepth 20000 in
theorem vX0_layAsTold : xMok mX0_layAsTold := ⟨⟨wc_2.1, xtc4 45 rfl rfl, wc_2.2.1, wc_2.2.2, by decide +kernel, by decide, rfl⟩, bX0_layAsTold_ok⟩
def lX0_leastRound : List xL := [(3, 1, 0, 0, 39), (3, 1, 1, 0, 50), (3, 1, 5, 3, 54), (3, 13, 3, 0, 80), (3, 52, 1000, 0, 72), (3, 1, 0, 6, 30), (3, 75, 0, 0, 66), (3, 13, 55, 91, 74), (3, 76, 0, 0, 84), (3, 52, 10000, 0, 87), (3, 77, 0, 0, 89)]
theorem kX0_leastRound : ∀ q ∈ lX0_leastRound, xLq RX0 q := List.forall_mem_cons.mpr ⟨lk_3, List.forall_mem_cons.mpr ⟨lk_4, List.forall_mem_cons.mpr ⟨lk_9, List.forall_mem_cons.mpr ⟨lk_17, List.forall_mem_cons.mpr ⟨lk_14, List.forall_mem_cons.mpr ⟨lk_15, List.forall_mem_cons.mpr ⟨lk_16, List.forall_mem_cons.mpr ⟨lk_43, List.forall_mem_cons.mpr ⟨lk_44, List.forall_mem_cons.mpr ⟨lk_45, List.forall_mem_cons.mpr ⟨lk_46, fun _ h => absurd h List.not_mem_nil⟩⟩⟩⟩⟩⟩⟩⟩⟩⟩⟩
theorem bX0_leastRound_ok : ∀ b ∈ bX0_leastRound, xbok RX0 cX0_leastRound b := xbF_ok (lk := lX0_leastRound) (ls := []) kX0_leastRound xno_sw (by decide +kernel)
set_option maxRecDepth 20000 in
theorem vX0_leastRound : xMok mX0_leastRound := ⟨⟨wc_2.1, xtc4 101 rfl rfl, wc_2.2.1, wc_2.2.2, by decide +kernel, by decide, rfl⟩, bX0_leastRound_ok⟩
def lX0_neutralThousandths : List xL := [(3, 52, 1000, 0, 72), (3, 1, 0, 4, 23), (3, 1, 0, 3, 20), (3, 1, 0, 5, 27), (3, 13, 55, 91, 74)]
theorem kX0_neutralThousandths : ∀ q ∈ lX0_neutralThousandths, xLq RX0 q := List.forall_mem_cons.mpr ⟨lk_14, List.forall_mem_cons.mpr ⟨lk_40, List.forall_mem_cons.mpr ⟨lk_8, List.forall_mem_cons.mpr ⟨lk_7, List.forall_mem_cons.mpr ⟨lk_43, fun _ h => absurd h List.not_mem_nil⟩⟩⟩⟩⟩
theorem bX0_neutralThousandths_ok : ∀ b ∈ bX0_neutralThousandths, xbok RX0 cX0_neutralThousandths b := xbF_ok (lk := lX0_neutralThousandths) (ls := []) kX0_neutralThousandths xno_sw (by decide +kernel)
set_option maxRecDepth 20000 in
theorem vX0_neutralThousandths : xMok mX0_neutralThousandths := ⟨⟨wc_2.1, xtc4 63 rfl rfl, wc_2.2.1, wc_2.2.2, by decide +kernel, by decide, rfl⟩, bX0_neutralThousandths_ok⟩
def lX0_partLives : List xL := [(3, 1, 0, 0, 39), (3, 1, 1, 1, 126), (3, 1, 5, 3, 54), (3, 13, 285, 40, 60), (3, 1, 0, 7, 33), (3, 13, 55, 91, 74)]
theorem kX0_partLives : ∀ q ∈ lX0_partLives, xLq RX0 q := List.forall_mem_cons.mpr ⟨lk_3, List.forall_mem_cons.mpr ⟨lk_18, List.forall_mem_cons.mpr ⟨lk_9, List.forall_mem_cons.mpr ⟨lk_6, List.forall_mem_cons.mpr ⟨lk_47, List.forall_mem_cons.mpr ⟨lk_43, fun _ h => absurd h List.not_mem_nil⟩⟩⟩⟩⟩⟩
theorem bX0_partLives_ok : ∀ b ∈ bX0_partLives, xbok RX0 cX0_partLives b := xbF_ok (lk := lX0_partLives) (ls := []) kX0_partLives xno_sw (by decide +kernel)
set_option maxRecDepth 20000 in
theorem vX0_partLives : xMok mX0_partLives := ⟨⟨wc_2.1, xtc4 170 rfl rfl, wc_2.2.1, wc_2.2.2, by decide +kernel, by decide, rfl⟩, bX0_partLives_ok⟩
def lX0_restWear : List xL := [(3, 1, 0, 7, 33), (3, 13, 2, 2, 120)]
theorem kX0_restWear : ∀ q ∈ lX0_restWear, xLq RX0 q := List.forall_mem_cons.mpr ⟨lk_47, List.forall_mem_cons.mpr ⟨lk_48, fun _ h => absurd h List.not_mem_nil⟩⟩
theorem bX0_restWear_ok : ∀ b ∈ bX0_restWear, xbok RX0 cX0_restWear b := xbF_ok (lk := lX0_restWear) (ls := []) kX0_restWear xno_sw (by decide +kernel)
set_option maxRecDepth 20000 in
theorem vX0_restWear : xMok mX0_restWear := ⟨⟨wc_2.1, xtc4 147 rfl rfl, wc_2.2.1, wc_2.2.2, by decide +kernel, by decide, rfl⟩, bX0_restWear_ok⟩
def lX0_stepOrder : List xL := [(3, 1, 0, 0, 39), (3, 1, 1, 0, 50), (3, 1, 5, 3, 54), (3, 1, 0, 1, 11), (3, 13, 19, 0, 116)]
theorem kX0_stepOrder : ∀ q ∈ lX0_stepOrder, xLq RX0 q := List.forall_mem_cons.mpr ⟨lk_3, List.forall_mem_cons.mpr ⟨lk_4, List.forall_mem_cons.mpr ⟨lk_9, List.forall_mem_cons.mpr ⟨lk_5, List.forall_mem_cons.mpr ⟨lk_49, fun _ h => absurd h List.not_mem_nil⟩⟩⟩⟩⟩
theorem bX0_stepOrder_ok : ∀ b ∈ bX0_stepOrder, xbok RX0 cX0_stepOrder b := xbF_ok (lk := lX0_stepOrder) (ls := []) kX0_stepOrder xno_sw (by decide +kernel)
set_option maxRecDepth 20000 in
theorem vX0_stepOrder : xMok mX0_stepOrder := ⟨⟨wc_2.1, xtc4 135 rfl rfl, wc_2.2.1, wc_2.2.2, by decide +kernel, by decide, rfl⟩, bX0_stepOrder_ok⟩
def lX0_stretchMillionths : List xL := [(3, 52, 1000000, 0, 78), (3, 1, 0, 6, 30), (3, 1, 0, 5, 27), (3, 1, 0, 3, 20), (3, 13, 55, 91, 74)]
theorem kX0_stretchMillionths : ∀ q ∈ lX0_stretchMillionths, xLq RX0 q := List.forall_mem_cons.mpr ⟨lk_50, List.forall_mem_cons.mpr ⟨lk_15, List.forall_mem_cons.mpr ⟨lk_7, List.forall_mem_cons.mpr ⟨lk_8, List.forall_mem_cons.mpr ⟨lk_43, fun _ h => absurd h List.not_mem_nil⟩⟩⟩⟩⟩
theorem bX0_stretchMillionths_ok : ∀ b ∈ bX0_stretchMillionths, xbok RX0 cX0_stretchMillionths b := xbF_ok (lk := lX0_stretchMillionths) (ls := []) kX0_stretchMillionths xno_sw (by decide +kernel)
set_option maxRecDepth 20000 in
theorem vX0_stretchMillionths : xMok mX0_stretchMillionths := ⟨⟨wc_2.1, xtc4 80 rfl rfl, wc_2.2.1, wc_2.2.2, by decide +kernel, by decide, rfl⟩, bX0_stretchMillionths_ok⟩
def lX0_swapPlaces : List xL := [(3, 1, 0, 1, 11)]
theorem kX0_swapPlaces : ∀ q ∈ lX0_swapPlaces, xLq RX0 q := List.forall_mem_cons.mpr ⟨lk_5, fun _ h => absurd h List.not_mem_nil⟩
theorem bX0_swapPlaces_ok : ∀ b ∈ bX0_swapPlaces, xbok RX0 cX0_swapPlaces b := xbF_ok (lk := lX0_swapPlaces) (ls := []) kX0_swapPlaces xno_sw (by decide +kernel)
set_option maxRecDepth 20000 in
theorem vX0_swapPlaces : xMok mX0_swapPlaces := ⟨⟨wc_2.1, xtc4 139 rfl rfl, wc_2.2.1, wc_2.2.2, by decide +kernel, by decide, rfl⟩, bX0_swapPlaces_ok⟩
def lX0_takeOrder : List xL := [(3, 14, 0, 9, 107), (3, 1, 0, 1, 11), (3, 1, 0, 8, 36), (3, 58, 0, 0, 110)]
theorem kX0_takeOrder : ∀ q ∈ lX0_takeOrder, xLq RX0 q := List.forall_mem_cons.mpr ⟨lk_51, List.forall_mem_cons.mpr ⟨lk_5, List.forall_mem_cons.mpr ⟨lk_52, List.forall_mem_cons.mpr ⟨lk_53, fun _ h => absurd h List.not_mem_nil⟩⟩⟩⟩
theorem bX0_takeOrder_ok : ∀ b ∈ bX0_takeOrder, xbok RX0 cX0_takeOrder b := xbF_ok (lk := lX0_takeOrder) (ls := []) kX0_takeOrder xno_sw (by decide +kernel)
set_option maxRecDepth 20000 in
theorem vX0_takeOrder : xMok mX0_takeOrder := ⟨⟨wc_2.1, xtc4 130 rfl rfl, wc_2.2.1, wc_2.2.2, by decide +kernel, by decide, rfl⟩, bX0_takeOrder_ok⟩
def lX0_wear : List xL := [(3, 1, 0, 0, 39), (3, 1, 1, 1, 126), (3, 1, 5, 3, 54), (3, 13, 285, 40, 60), (3, 1, 0, 5, 27), (3, 1, 0, 3, 20), (3, 52, 1000, 0, 72), (3, 1, 0, 6, 30), (3, 75, 0, 0, 66), (3, 1, 0, 7, 33)]
theorem kX0_wear : ∀ q ∈ lX0_wear, xLq RX0 q := List.forall_mem_cons.mpr ⟨lk_3, List.forall_mem_cons.mpr ⟨lk_18, List.forall_mem_cons.mpr ⟨lk_9, List.forall_mem_cons.mpr ⟨lk_6, List.forall_mem_cons.mpr ⟨lk_7, List.forall_mem_cons.mpr ⟨lk_8, List.forall_mem_cons.mpr ⟨lk_14, List.forall_mem_cons.mpr ⟨lk_15, List.forall_mem_cons.mpr ⟨lk_16, List.forall_mem_cons.mpr ⟨lk_47, fun _ h => absurd h List.not_mem_nil⟩⟩⟩⟩⟩⟩⟩⟩⟩⟩
theorem bX0_wear_ok : ∀ b ∈ bX0_wear, xbok RX0 cX0_wear b := xbF_ok (lk := lX0_wear) (ls := []) kX0_wear xno_sw (by decide +kernel)
set_option maxRecDepth 20000 in
theorem vX0_wear : xMok mX0_wear := ⟨⟨wc_2.1, xtc4 154 rfl rfl, wc_2.2.1, wc_2.2.2, by decide +kernel, by decide, rfl⟩, bX0_wear_ok⟩
def lX0_wholeLives : List xL := [(3, 1, 0, 0, 39), (3, 1, 1, 1, 126), (3, 1, 5, 3, 54), (3, 1, 0, 7, 33), (3, 13, 285, 40, 60), (3, 13, 55, 91, 74)]
theorem kX0_wholeLives : ∀ q ∈ lX0_wholeLives, xLq RX0 q := List.forall_mem_cons.mpr ⟨lk_3, List.forall_mem_cons.mpr ⟨lk_18, List.forall_mem_cons.mpr ⟨lk_9, List.forall_mem_cons.mpr ⟨lk_47, List.forall_mem_cons.mpr ⟨lk_6, List.forall_mem_cons.mpr ⟨lk_43, fun _ h => absurd h List.not_mem_nil⟩⟩⟩⟩⟩⟩
theorem bX0_wholeLives_ok : ∀ b ∈ bX0_wholeLives, xbok RX0 cX0_wholeLives b := xbF_ok (lk := lX0_wholeLives) (ls := []) kX0_wholeLives xno_sw (by decide +kernel)
set_option maxRecDepth 20000 in
theorem vX0_wholeLives : xMok mX0_wholeLives := ⟨⟨wc_2.1, xtc4 166 rfl rfl, wc_2.2.1, wc_2.2.2, by decide +kernel, by decide, rfl⟩, bX0_wholeLives_ok⟩
def lX0_wornThousandths : List xL := [(3, 13, 6, 0, 129), (3, 52, 1000, 0, 72), (3, 13, 22, 0, 133), (3, 13, 15, 0, 136), (3, 13, 55, 91, 74)]
theorem kX0_wornThousandths : ∀ q ∈ lX0_wornThousandths, xLq RX0 q := List.forall_mem_cons.mpr ⟨lk_37, List.forall_mem_cons.mpr ⟨lk_14, List.forall_mem_cons.mpr ⟨lk_38, List.forall_mem_cons.mpr ⟨lk_39, List.forall_mem_cons.mpr ⟨lk_43, fun _ h => absurd h List.not_mem_nil⟩⟩⟩⟩⟩
theorem bX0_wornThousandths_ok : ∀ b ∈ bX0_wornThousandths, xbok RX0 cX0_wornThousandths b := xbF_ok (lk := lX0_wornThousandths) (ls := []) kX0_wornThousandths xno_sw (by decide +kernel)
set_option maxRecDepth 20000 in
theorem vX0_wornThousandths : xMok mX0_wornThousandths := ⟨⟨wc_2.1, xtc4 158 rfl rfl, wc_2.2.1, wc_2.2.2, by decide +kernel, by decide, rfl⟩, bX0_wornThousandths_ok⟩
def lX0_worstPlace : List xL := [(3, 1, 0, 0, 39), (3, 1, 1, 0, 50), (3, 1, 5, 3, 54), (3, 1, 0, 6, 30), (3, 75, 0, 0, 66), (3, 13, 3, 0, 80)]
theorem kX0_worstPlace : ∀ q ∈ lX0_worstPlace, xLq RX0 q := List.forall_mem_cons.mpr ⟨lk_3, List.forall_mem_cons.mpr ⟨lk_4, List.forall_mem_cons.mpr ⟨lk_9, List.forall_mem_cons.mpr ⟨lk_15, List.forall_mem_cons.mpr ⟨lk_16, List.forall_mem_cons.mpr ⟨lk_17, fun _ h => absurd h List.not_mem_nil⟩⟩⟩⟩⟩⟩
theorem bX0_worstPlace_ok : ∀ b ∈ bX0_worstPlace, xbok RX0 cX0_worstPlace b := xbF_ok (lk := lX0_worstPlace) (ls := []) kX0_worstPlace xno_sw (by decide +kernel)
set_option maxRecDepth 20000 in
theorem vX0_worstPlace : xMok mX0_worstPlace := ⟨⟨wc_2.1, xtc4 116 rfl rfl, wc_2.2.1, wc_2.2.2, by decide +kernel, by decide, rfl⟩, bX0_worstPlace_ok⟩
def lX10_addWay : List xL := [(3, 13, 28, 80, 100), (3, 1, 10, 7, 33), (3, 13, 32, 80, 103), (3, 1, 10, 8, 36), (3, 1, 10, 3, 20), (3, 13, 36, 82, 107), (3, 1, 10, 4, 24), (3, 1, 10, 5, 27)]
theorem kX10_addWay : ∀ q ∈ lX10_addWay, xLq RX10 q := List.forall_mem_cons.mpr ⟨lk_54, List.forall_mem_cons.mpr ⟨lk_55, List.forall_mem_cons.mpr ⟨lk_56, List.forall_mem_cons.mpr ⟨lk_57, List.forall_mem_cons.mpr ⟨lk_58, List.forall_mem_cons.mpr ⟨lk_59, List.forall_mem_cons.mpr ⟨lk_60, List.forall_mem_cons.mpr ⟨lk_61, fun _ h => absurd h List.not_mem_nil⟩⟩⟩⟩⟩⟩⟩⟩
theorem swX10_addWay_0 : xLs RX10 (44, 32, 33, 136, 0, 0) := ⟨_, rfl, 92, 1, 4, #[32, 47, 62, 77], [(1, 76), (2, 91), (3, 106), (4, 121)], rfl, rfl, by decide, by decide, by decide, by decide, rfl, by decide +kernel⟩
def sX10_addWay : List xI := [(44, 32, 33, 136, 0, 0)]
theorem zX10_addWay : ∀ e ∈ sX10_addWay, xLs RX10 e := List.forall_mem_cons.mpr ⟨swX10_addWay_0, fun _ h => absurd h List.not_mem_nil⟩
theorem bX10_addWay_ok : ∀ b ∈ bX10_addWay, xbok RX10 cX10_addWay b := xbF_ok (lk := lX10_addWay) (ls := sX10_addWay) kX10_addWay zX10_addWay (by decide +kernel)
theorem wc_3 : plainName RX10 = true ∧ Cond.initialized RX10 ∈ lw_gt ∧ (RX10 ≠ "java/lang/invoke/MethodHandle" ∧ RX10 ≠ "java/lang/invoke/VarHandle") := ⟨by decide +kernel, xtc1 9 rfl rfl, by decide +kernel, by decide +kernel⟩
set_option maxRecDepth 20000 in
theorem vX10_addWay : xMok mX10_addWay := ⟨⟨wc_3.1, xtc5 0 rfl rfl, wc_3.2.1, wc_3.2.2, by decide +kernel, by decide, rfl⟩, bX10_addWay_ok⟩
def lX10_countCut : List xL := [(3, 1, 10, 0, 42), (3, 1, 9, 4, 56), (3, 1, 1, 8, 66), (3, 1, 1, 7, 62), (3, 13, 27, 80, 118)]
theorem kX10_countCut : ∀ q ∈ lX10_countCut, xLq RX10 q := List.forall_mem_cons.mpr ⟨lk_62, List.forall_mem_cons.mpr ⟨lk_63, List.forall_mem_cons.mpr ⟨lk_64, List.forall_mem_cons.mpr ⟨lk_65, List.forall_mem_cons.mpr ⟨lk_66, fun _ h => absurd h List.not_mem_nil⟩⟩⟩⟩⟩
theorem bX10_countCut_ok : ∀ b ∈ bX10_countCut, xbok RX10 cX10_countCut b := xbF_ok (lk := lX10_countCut) (ls := []) kX10_countCut xno_sw (by decide +kernel)
set_option maxRecDepth 20000 in
theorem vX10_countCut : xMok mX10_countCut := ⟨⟨wc_3.1, xtc5 27 rfl rfl, wc_3.2.1, wc_3.2.2, by decide +kernel, by decide, rfl⟩, bX10_countCut_ok⟩
def lX10_cuts : List xL := [(3, 13, 70, 91, 83), (3, 1, 10, 1, 11), (3, 13, 32, 80, 103), (3, 1, 10, 2, 17), (3, 1, 10, 0, 42), (3, 1, 9, 4, 56), (3, 1, 1, 8, 66)]
theorem kX10_cuts : ∀ q ∈ lX10_cuts, xLq RX10 q := List.forall_mem_cons.mpr ⟨lk_67, List.forall_mem_cons.mpr ⟨lk_68, List.forall_mem_cons.mpr ⟨lk_56, List.forall_mem_cons.mpr ⟨lk_69, List.forall_mem_cons.mpr ⟨lk_62, List.forall_mem_cons.mpr ⟨lk_63, List.forall_mem_cons.mpr ⟨lk_64, fun _ h => absurd h List.not_mem_nil⟩⟩⟩⟩⟩⟩⟩
theorem swX10_cuts_0 : xLs RX10 (22, 26, 33, 135, 0, 1) := ⟨_, rfl, 113, 0, 2, #[26, 62, 96], [(0, 48), (1, 84), (2, 118)], rfl, rfl, by decide, by decide, by decide, by decide, rfl, by decide +kernel⟩
def sX10_cuts : List xI := [(22, 26, 33, 135, 0, 1)]
theorem zX10_cuts : ∀ e ∈ sX10_cuts, xLs RX10 e := List.forall_mem_cons.mpr ⟨swX10_cuts_0, fun _ h => absurd h List.not_mem_nil⟩
theorem bX10_cuts_ok : ∀ b ∈ bX10_cuts, xbok RX10 cX10_cuts b := xbF_ok (lk := lX10_cuts) (ls := sX10_cuts) kX10_cuts zX10_cuts (by decide +kernel)
set_option maxRecDepth 20000 in
theorem vX10_cuts : xMok mX10_cuts := ⟨⟨wc_3.1, xtc5 31 rfl rfl, wc_3.2.1, wc_3.2.2, by decide +kernel, by decide, rfl⟩, bX10_cuts_ok⟩
def lX10_explore : List xL := [(3, 1, 10, 8, 36), (3, 13, 1, 2, 87), (3, 14, 10, 10, 111), (3, 1, 10, 0, 42), (3, 1, 9, 4, 56), (3, 1, 1, 7, 62), (3, 1, 10, 5, 27), (3, 13, 34, 80, 114), (3, 1, 1, 8, 66), (3, 1, 10, 10, 111), (3, 1, 10, 9, 39), (3, 1, 10, 6, 30), (3, 1, 10, 7, 33), (3, 1, 10, 1, 11), (3, 1, 10, 3, 20), (3, 1, 10, 2, 17), (3, 1, 10, 4, 24)]
theorem kX10_explore : ∀ q ∈ lX10_explore, xLq RX10 q := List.forall_mem_cons.mpr ⟨lk_57, List.forall_mem_cons.mpr ⟨lk_70, List.forall_mem_cons.mpr ⟨lk_71, List.forall_mem_cons.mpr ⟨lk_62, List.forall_mem_cons.mpr ⟨lk_63, List.forall_mem_cons.mpr ⟨lk_65, List.forall_mem_cons.mpr ⟨lk_61, List.forall_mem_cons.mpr ⟨lk_72, List.forall_mem_cons.mpr ⟨lk_64, List.forall_mem_cons.mpr ⟨lk_73, List.forall_mem_cons.mpr ⟨lk_74, List.forall_mem_cons.mpr ⟨lk_75, List.forall_mem_cons.mpr ⟨lk_55, List.forall_mem_cons.mpr ⟨lk_68, List.forall_mem_cons.mpr ⟨lk_58, List.forall_mem_cons.mpr ⟨lk_69, List.forall_mem_cons.mpr ⟨lk_60, fun _ h => absurd h List.not_mem_nil⟩⟩⟩⟩⟩⟩⟩⟩⟩⟩⟩⟩⟩⟩⟩⟩⟩
theorem bX10_explore_ok : ∀ b ∈ bX10_explore, xbok RX10 cX10_explore b := xbF_ok (lk := lX10_explore) (ls := []) kX10_explore xno_sw (by decide +kernel)
set_option maxRecDepth 20000 in
theorem vX10_explore : xMok mX10_explore := ⟨⟨wc_3.1, xtc5 4 rfl rfl, wc_3.2.1, wc_3.2.2, by decide +kernel, by decide, rfl⟩, bX10_explore_ok⟩
def lX10_findWays : List xL := [(3, 1, 10, 3, 20), (3, 13, 1, 2, 87), (3, 1, 10, 4, 24), (3, 1, 10, 5, 27), (3, 1, 10, 6, 30), (3, 1, 10, 7, 33), (3, 14, 10, 11, 93), (3, 1, 10, 0, 42), (3, 1, 9, 4, 56), (3, 1, 1, 7, 62), (3, 13, 25, 80, 96), (3, 1, 10, 11, 93), (3, 13, 28, 80, 100)]
theorem kX10_findWays : ∀ q ∈ lX10_findWays, xLq RX10 q := List.forall_mem_cons.mpr ⟨lk_58, List.forall_mem_cons.mpr ⟨lk_70, List.forall_mem_cons.mpr ⟨lk_60, List.forall_mem_cons.mpr ⟨lk_61, List.forall_mem_cons.mpr ⟨lk_75, List.forall_mem_cons.mpr ⟨lk_55, List.forall_mem_cons.mpr ⟨lk_76, List.forall_mem_cons.mpr ⟨lk_62, List.forall_mem_cons.mpr ⟨lk_63, List.forall_mem_cons.mpr ⟨lk_65, List.forall_mem_cons.mpr ⟨lk_77, List.forall_mem_cons.mpr ⟨lk_78, List.forall_mem_cons.mpr ⟨lk_54, fun _ h => absurd h List.not_mem_nil⟩⟩⟩⟩⟩⟩⟩⟩⟩⟩⟩⟩⟩
theorem bX10_findWays_ok : ∀ b ∈ bX10_findWays, xbok RX10 cX10_findWays b := xbF_ok (lk := lX10_findWays) (ls := []) kX10_findWays xno_sw (by decide +kernel)
set_option maxRecDepth 20000 in
theorem vX10_findWays : xMok mX10_findWays := ⟨⟨wc_3.1, xtc4 233 rfl rfl, wc_3.2.1, wc_3.2.2, by decide +kernel, by decide, rfl⟩, bX10_findWays_ok⟩
def lX10_forget : List xL := [(3, 59, 10, 12, 46)]
theorem kX10_forget : ∀ q ∈ lX10_forget, xLq RX10 q := List.forall_mem_cons.mpr ⟨lk_79, fun _ h => absurd h List.not_mem_nil⟩
theorem bX10_forget_ok : ∀ b ∈ bX10_forget, xbok RX10 cX10_forget b := xbF_ok (lk := lX10_forget) (ls := []) kX10_forget xno_sw (by decide +kernel)
set_option maxRecDepth 20000 in
theorem vX10_forget : xMok mX10_forget := ⟨⟨wc_3.1, xtc4 20 rfl rfl, wc_3.2.1, wc_3.2.2, by decide +kernel, by decide, rfl⟩, bX10_forget_ok⟩
def lX10_init : List xL := [(3, 25, 0, 0, 3), (3, 61, 10, 1, 11), (3, 61, 10, 2, 17), (3, 61, 10, 3, 20), (3, 61, 10, 4, 24), (3, 61, 10, 5, 27), (3, 61, 10, 6, 30), (3, 61, 10, 7, 33), (3, 61, 10, 8, 36), (3, 61, 10, 9, 39), (3, 61, 10, 0, 42)]
theorem kX10_init : ∀ q ∈ lX10_init, xLq RX10 q := List.forall_mem_cons.mpr ⟨lk_80, List.forall_mem_cons.mpr ⟨lk_81, List.forall_mem_cons.mpr ⟨lk_82, List.forall_mem_cons.mpr ⟨lk_83, List.forall_mem_cons.mpr ⟨lk_84, List.forall_mem_cons.mpr ⟨lk_85, List.forall_mem_cons.mpr ⟨lk_86, List.forall_mem_cons.mpr ⟨lk_87, List.forall_mem_cons.mpr ⟨lk_88, List.forall_mem_cons.mpr ⟨lk_89, List.forall_mem_cons.mpr ⟨lk_90, fun _ h => absurd h List.not_mem_nil⟩⟩⟩⟩⟩⟩⟩⟩⟩⟩⟩
theorem bX10_init_ok : ∀ b ∈ bX10_init, xbok RX10 cX10_init b := xbF_ok (lk := lX10_init) (ls := []) kX10_init xno_sw (by decide +kernel)
set_option maxRecDepth 20000 in
theorem vX10_init : xMok mX10_init := ⟨⟨wc_3.1, xtc2 112 rfl rfl, wc_3.2.1, wc_3.2.2, by decide +kernel, by decide, rfl⟩, bX10_init_ok⟩
def lX10_isReached : List xL := [(3, 1, 10, 8, 36)]
theorem kX10_isReached : ∀ q ∈ lX10_isReached, xLq RX10 q := List.forall_mem_cons.mpr ⟨lk_57, fun _ h => absurd h List.not_mem_nil⟩
theorem bX10_isReached_ok : ∀ b ∈ bX10_isReached, xbok RX10 cX10_isReached b := xbF_ok (lk := lX10_isReached) (ls := []) kX10_isReached xno_sw (by decide +kernel)
set_option maxRecDepth 20000 in
theorem vX10_isReached : xMok mX10_isReached := ⟨⟨wc_3.1, xtc5 12 rfl rfl, wc_3.2.1, wc_3.2.2, by decide +kernel, by decide, rfl⟩, bX10_isReached_ok⟩
def lX10_layNet : List xL := [(3, 1, 10, 0, 42), (3, 1, 9, 4, 56), (3, 1, 10, 1, 11), (3, 1, 1, 7, 62), (3, 1, 1, 8, 66), (3, 1, 10, 2, 17), (3, 13, 323, 72, 69), (3, 1, 9, 5, 73), (3, 13, 285, 40, 77), (3, 13, 70, 91, 83)]
theorem kX10_layNet : ∀ q ∈ lX10_layNet, xLq RX10 q := List.forall_mem_cons.mpr ⟨lk_62, List.forall_mem_cons.mpr ⟨lk_63, List.forall_mem_cons.mpr ⟨lk_68, List.forall_mem_cons.mpr ⟨lk_65, List.forall_mem_cons.mpr ⟨lk_64, List.forall_mem_cons.mpr ⟨lk_69, List.forall_mem_cons.mpr ⟨lk_91, List.forall_mem_cons.mpr ⟨lk_92, List.forall_mem_cons.mpr ⟨lk_93, List.forall_mem_cons.mpr ⟨lk_67, fun _ h => absurd h List.not_mem_nil⟩⟩⟩⟩⟩⟩⟩⟩⟩⟩
theorem bX10_layNet_ok : ∀ b ∈ bX10_layNet, xbok RX10 cX10_layNet b := xbF_ok (lk := lX10_layNet) (ls := []) kX10_layNet xno_sw (by decide +kernel)
set_option maxRecDepth 20000 in
theorem vX10_layNet : xMok mX10_layNet := ⟨⟨wc_3.1, xtc4 226 rfl rfl, wc_3.2.1, wc_3.2.2, by decide +kernel, by decide, rfl⟩, bX10_layNet_ok⟩
def lX10_reach : List xL := [(3, 1, 10, 8, 36), (3, 1, 10, 10, 111), (3, 1, 10, 9, 39), (3, 14, 10, 10, 111)]
theorem kX10_reach : ∀ q ∈ lX10_reach, xLq RX10 q := List.forall_mem_cons.mpr ⟨lk_57, List.forall_mem_cons.mpr ⟨lk_73, List.forall_mem_cons.mpr ⟨lk_74, List.forall_mem_cons.mpr ⟨lk_71, fun _ h => absurd h List.not_mem_nil⟩⟩⟩⟩
theorem bX10_reach_ok : ∀ b ∈ bX10_reach, xbok RX10 cX10_reach b := xbF_ok (lk := lX10_reach) (ls := []) kX10_reach xno_sw (by decide +kernel)
set_option maxRecDepth 20000 in
theorem vX10_reach : xMok mX10_reach := ⟨⟨wc_3.1, xtc5 8 rfl rfl, wc_3.2.1, wc_3.2.2, by decide +kernel, by decide, rfl⟩, bX10_reach_ok⟩
def lX10_refresh : List xL := [(3, 1, 10, 12, 46), (3, 13, 33, 80, 50), (3, 13, 29, 80, 53), (3, 59, 10, 12, 46)]
theorem kX10_refresh : ∀ q ∈ lX10_refresh, xLq RX10 q := List.forall_mem_cons.mpr ⟨lk_94, List.forall_mem_cons.mpr ⟨lk_95, List.forall_mem_cons.mpr ⟨lk_96, List.forall_mem_cons.mpr ⟨lk_79, fun _ h => absurd h List.not_mem_nil⟩⟩⟩⟩
theorem bX10_refresh_ok : ∀ b ∈ bX10_refresh, xbok RX10 cX10_refresh b := xbF_ok (lk := lX10_refresh) (ls := []) kX10_refresh xno_sw (by decide +kernel)
set_option maxRecDepth 20000 in
theorem vX10_refresh : xMok mX10_refresh := ⟨⟨wc_3.1, xtc4 222 rfl rfl, wc_3.2.1, wc_3.2.2, by decide +kernel, by decide, rfl⟩, bX10_refresh_ok⟩
def lX10_turnFlow : List xL := []
theorem kX10_turnFlow : ∀ q ∈ lX10_turnFlow, xLq RX10 q := fun _ h => absurd h List.not_mem_nil
theorem bX10_turnFlow_ok : ∀ b ∈ bX10_turnFlow, xbok RX10 cX10_turnFlow b := xbF_ok (lk := lX10_turnFlow) (ls := []) kX10_turnFlow xno_sw (by decide +kernel)
set_option maxRecDepth 20000 in
theorem vX10_turnFlow : xMok mX10_turnFlow := ⟨⟨wc_3.1, xtc5 15 rfl rfl, wc_3.2.1, wc_3.2.2, by decide +kernel, by decide, rfl⟩, bX10_turnFlow_ok⟩
def lX11_again : List xL := [(3, 13, 70, 90, 238), (3, 1, 11, 1, 16), (3, 1, 11, 0, 10), (3, 13, 322, 72, 378), (3, 13, 61, 88, 103), (3, 1, 11, 8, 79), (3, 13, 272, 32, 326)]
theorem kX11_again : ∀ q ∈ lX11_again, xLq RX11 q := List.forall_mem_cons.mpr ⟨lk_97, List.forall_mem_cons.mpr ⟨lk_98, List.forall_mem_cons.mpr ⟨lk_99, List.forall_mem_cons.mpr ⟨lk_100, List.forall_mem_cons.mpr ⟨lk_101, List.forall_mem_cons.mpr ⟨lk_102, List.forall_mem_cons.mpr ⟨lk_103, fun _ h => absurd h List.not_mem_nil⟩⟩⟩⟩⟩⟩⟩
theorem bX11_again_ok : ∀ b ∈ bX11_again, xbok RX11 cX11_again b := xbF_ok (lk := lX11_again) (ls := []) kX11_again xno_sw (by decide +kernel)
theorem wc_4 : plainName RX11 = true ∧ Cond.initialized RX11 ∈ lw_gt ∧ (RX11 ≠ "java/lang/invoke/MethodHandle" ∧ RX11 ≠ "java/lang/invoke/VarHandle") := ⟨by decide +kernel, xtc1 1 rfl rfl, by decide +kernel, by decide +kernel⟩
set_option maxRecDepth 20000 in
theorem vX11_again : xMok mX11_again := ⟨⟨wc_4.1, xtc6 206 rfl rfl, wc_4.2.1, wc_4.2.2, by decide +kernel, by decide, rfl⟩, bX11_again_ok⟩
def lX11_barred : List xL := [(3, 13, 80, 88, 361), (3, 13, 72, 88, 364), (3, 1, 11, 0, 10), (3, 1, 9, 12, 367), (3, 1, 5, 3, 151), (3, 1, 11, 10, 87), (3, 13, 285, 40, 132)]
theorem kX11_barred : ∀ q ∈ lX11_barred, xLq RX11 q := List.forall_mem_cons.mpr ⟨lk_104, List.forall_mem_cons.mpr ⟨lk_105, List.forall_mem_cons.mpr ⟨lk_99, List.forall_mem_cons.mpr ⟨lk_106, List.forall_mem_cons.mpr ⟨lk_107, List.forall_mem_cons.mpr ⟨lk_108, List.forall_mem_cons.mpr ⟨lk_109, fun _ h => absurd h List.not_mem_nil⟩⟩⟩⟩⟩⟩⟩
theorem bX11_barred_ok : ∀ b ∈ bX11_barred, xbok RX11 cX11_barred b := xbF_ok (lk := lX11_barred) (ls := []) kX11_barred xno_sw (by decide +kernel)
set_option maxRecDepth 20000 in
theorem vX11_barred : xMok mX11_barred := ⟨⟨wc_4.1, xtc6 159 rfl rfl, wc_4.2.1, wc_4.2.2, by decide +kernel, by decide, rfl⟩, bX11_barred_ok⟩
def lX11_bears : List xL := [(3, 1, 11, 0, 10), (3, 1, 9, 4, 38), (3, 1, 1, 0, 112), (3, 13, 287, 40, 117), (3, 13, 71, 90, 140), (3, 1, 11, 4, 45), (3, 13, 12, 0, 123), (3, 13, 5, 0, 147)]
theorem kX11_bears : ∀ q ∈ lX11_bears, xLq RX11 q := List.forall_mem_cons.mpr ⟨lk_99, List.forall_mem_cons.mpr ⟨lk_110, List.forall_mem_cons.mpr ⟨lk_111, List.forall_mem_cons.mpr ⟨lk_112, List.forall_mem_cons.mpr ⟨lk_113, List.forall_mem_cons.mpr ⟨lk_114, List.forall_mem_cons.mpr ⟨lk_115, List.forall_mem_cons.mpr ⟨lk_116, fun _ h => absurd h List.not_mem_nil⟩⟩⟩⟩⟩⟩⟩⟩
theorem bX11_bears_ok : ∀ b ∈ bX11_bears, xbok RX11 cX11_bears b := xbF_ok (lk := lX11_bears) (ls := []) kX11_bears xno_sw (by decide +kernel)
set_option maxRecDepth 20000 in
theorem vX11_bears : xMok mX11_bears := ⟨⟨wc_4.1, xtc4 85 rfl rfl, wc_4.2.1, wc_4.2.2, by decide +kernel, by decide, rfl⟩, bX11_bears_ok⟩
def lX11_broken : List xL := [(3, 1, 11, 0, 10), (3, 1, 9, 10, 316), (3, 13, 287, 40, 117), (3, 13, 70, 90, 238), (3, 1, 11, 4, 45), (3, 13, 12, 0, 123), (3, 13, 68, 88, 319)]
theorem kX11_broken : ∀ q ∈ lX11_broken, xLq RX11 q := List.forall_mem_cons.mpr ⟨lk_99, List.forall_mem_cons.mpr ⟨lk_117, List.forall_mem_cons.mpr ⟨lk_112, List.forall_mem_cons.mpr ⟨lk_97, List.forall_mem_cons.mpr ⟨lk_114, List.forall_mem_cons.mpr ⟨lk_115, List.forall_mem_cons.mpr ⟨lk_118, fun _ h => absurd h List.not_mem_nil⟩⟩⟩⟩⟩⟩⟩
theorem bX11_broken_ok : ∀ b ∈ bX11_broken, xbok RX11 cX11_broken b := xbF_ok (lk := lX11_broken) (ls := []) kX11_broken xno_sw (by decide +kernel)
set_option maxRecDepth 20000 in
theorem vX11_broken : xMok mX11_broken := ⟨⟨wc_4.1, xtc5 229 rfl rfl, wc_4.2.1, wc_4.2.2, by decide +kernel, by decide, rfl⟩, bX11_broken_ok⟩
def lX11_brokenShare : List xL := [(3, 1, 11, 0, 10), (3, 1, 9, 10, 316), (3, 1, 5, 3, 151), (3, 13, 285, 40, 132), (3, 13, 68, 88, 319), (3, 52, 1000, 0, 394), (3, 13, 55, 90, 396)]
theorem kX11_brokenShare : ∀ q ∈ lX11_brokenShare, xLq RX11 q := List.forall_mem_cons.mpr ⟨lk_99, List.forall_mem_cons.mpr ⟨lk_117, List.forall_mem_cons.mpr ⟨lk_107, List.forall_mem_cons.mpr ⟨lk_109, List.forall_mem_cons.mpr ⟨lk_118, List.forall_mem_cons.mpr ⟨lk_119, List.forall_mem_cons.mpr ⟨lk_120, fun _ h => absurd h List.not_mem_nil⟩⟩⟩⟩⟩⟩⟩
theorem bX11_brokenShare_ok : ∀ b ∈ bX11_brokenShare, xbok RX11 cX11_brokenShare b := xbF_ok (lk := lX11_brokenShare) (ls := []) kX11_brokenShare xno_sw (by decide +kernel)
set_option maxRecDepth 20000 in
theorem vX11_brokenShare : xMok mX11_brokenShare := ⟨⟨wc_4.1, xtc6 9 rfl rfl, wc_4.2.1, wc_4.2.2, by decide +kernel, by decide, rfl⟩, bX11_brokenShare_ok⟩
def lX11_cost : List xL := [(3, 1, 11, 0, 10), (3, 1, 9, 5, 195), (3, 13, 287, 40, 117), (3, 13, 70, 90, 238), (3, 13, 290, 40, 212)]
theorem kX11_cost : ∀ q ∈ lX11_cost, xLq RX11 q := List.forall_mem_cons.mpr ⟨lk_99, List.forall_mem_cons.mpr ⟨lk_121, List.forall_mem_cons.mpr ⟨lk_112, List.forall_mem_cons.mpr ⟨lk_97, List.forall_mem_cons.mpr ⟨lk_122, fun _ h => absurd h List.not_mem_nil⟩⟩⟩⟩⟩
theorem bX11_cost_ok : ∀ b ∈ bX11_cost, xbok RX11 cX11_cost b := xbF_ok (lk := lX11_cost) (ls := []) kX11_cost xno_sw (by decide +kernel)
set_option maxRecDepth 20000 in
theorem vX11_cost : xMok mX11_cost := ⟨⟨wc_4.1, xtc5 40 rfl rfl, wc_4.2.1, wc_4.2.2, by decide +kernel, by decide, rfl⟩, bX11_cost_ok⟩
def lX11_costOf : List xL := [(3, 1, 11, 0, 10), (3, 1, 9, 5, 195), (3, 1, 5, 3, 151), (3, 13, 285, 40, 132)]
theorem kX11_costOf : ∀ q ∈ lX11_costOf, xLq RX11 q := List.forall_mem_cons.mpr ⟨lk_99, List.forall_mem_cons.mpr ⟨lk_121, List.forall_mem_cons.mpr ⟨lk_107, List.forall_mem_cons.mpr ⟨lk_109, fun _ h => absurd h List.not_mem_nil⟩⟩⟩⟩
theorem bX11_costOf_ok : ∀ b ∈ bX11_costOf, xbok RX11 cX11_costOf b := xbF_ok (lk := lX11_costOf) (ls := []) kX11_costOf xno_sw (by decide +kernel)
set_option maxRecDepth 20000 in
theorem vX11_costOf : xMok mX11_costOf := ⟨⟨wc_4.1, xtc5 52 rfl rfl, wc_4.2.1, wc_4.2.2, by decide +kernel, by decide, rfl⟩, bX11_costOf_ok⟩
def lX11_count : List xL := [(3, 1, 11, 0, 10), (3, 1, 9, 5, 195), (3, 1, 5, 3, 151), (3, 1, 9, 8, 252), (3, 1, 9, 6, 186), (3, 1, 9, 7, 189), (3, 1, 9, 9, 273), (3, 1, 9, 10, 316), (3, 1, 9, 11, 72), (3, 1, 9, 12, 367), (3, 13, 323, 72, 216), (3, 13, 46, 88, 375)]
theorem kX11_count : ∀ q ∈ lX11_count, xLq RX11 q := List.forall_mem_cons.mpr ⟨lk_99, List.forall_mem_cons.mpr ⟨lk_121, List.forall_mem_cons.mpr ⟨lk_107, List.forall_mem_cons.mpr ⟨lk_123, List.forall_mem_cons.mpr ⟨lk_124, List.forall_mem_cons.mpr ⟨lk_125, List.forall_mem_cons.mpr ⟨lk_126, List.forall_mem_cons.mpr ⟨lk_117, List.forall_mem_cons.mpr ⟨lk_127, List.forall_mem_cons.mpr ⟨lk_106, List.forall_mem_cons.mpr ⟨lk_128, List.forall_mem_cons.mpr ⟨lk_129, fun _ h => absurd h List.not_mem_nil⟩⟩⟩⟩⟩⟩⟩⟩⟩⟩⟩⟩
theorem swX11_count_0 : xLs RX11 (1, 55, 33, 143, 0, 2) := ⟨_, rfl, 142, 9, 18, #[55, 66, 77, 85, 93, 142, 101, 112, 123, 134], [(9, 56), (10, 67), (11, 78), (12, 86), (13, 94), (14, 143), (15, 102), (16, 113), (17, 124), (18, 135)], rfl, rfl, by decide, by decide, by decide, by decide, rfl, by decide +kernel⟩
def sX11_count : List xI := [(1, 55, 33, 143, 0, 2)]
theorem zX11_count : ∀ e ∈ sX11_count, xLs RX11 e := List.forall_mem_cons.mpr ⟨swX11_count_0, fun _ h => absurd h List.not_mem_nil⟩
theorem bX11_count_ok : ∀ b ∈ bX11_count, xbok RX11 cX11_count b := xbF_ok (lk := lX11_count) (ls := sX11_count) kX11_count zX11_count (by decide +kernel)
set_option maxRecDepth 20000 in
theorem vX11_count : xMok mX11_count := ⟨⟨wc_4.1, xtc6 186 rfl rfl, wc_4.2.1, wc_4.2.2, by decide +kernel, by decide, rfl⟩, bX11_count_ok⟩
def lX11_countDark : List xL := [(3, 1, 11, 0, 10), (3, 1, 9, 4, 38), (3, 1, 1, 7, 225), (3, 1, 1, 8, 255), (3, 13, 69, 88, 288)]
theorem kX11_countDark : ∀ q ∈ lX11_countDark, xLq RX11 q := List.forall_mem_cons.mpr ⟨lk_99, List.forall_mem_cons.mpr ⟨lk_110, List.forall_mem_cons.mpr ⟨lk_130, List.forall_mem_cons.mpr ⟨lk_131, List.forall_mem_cons.mpr ⟨lk_132, fun _ h => absurd h List.not_mem_nil⟩⟩⟩⟩⟩
theorem bX11_countDark_ok : ∀ b ∈ bX11_countDark, xbok RX11 cX11_countDark b := xbF_ok (lk := lX11_countDark) (ls := []) kX11_countDark xno_sw (by decide +kernel)
set_option maxRecDepth 20000 in
theorem vX11_countDark : xMok mX11_countDark := ⟨⟨wc_4.1, xtc5 138 rfl rfl, wc_4.2.1, wc_4.2.2, by decide +kernel, by decide, rfl⟩, bX11_countDark_ok⟩
def lX11_countOfFilm : List xL := [(3, 1, 11, 0, 10), (3, 1, 9, 4, 38), (3, 1, 1, 7, 225), (3, 1, 1, 8, 255), (3, 1, 1, 5, 297), (3, 1, 1, 6, 300), (3, 1, 1, 9, 412), (3, 13, 243, 8, 415), (3, 1, 5, 3, 151)]
theorem kX11_countOfFilm : ∀ q ∈ lX11_countOfFilm, xLq RX11 q := List.forall_mem_cons.mpr ⟨lk_99, List.forall_mem_cons.mpr ⟨lk_110, List.forall_mem_cons.mpr ⟨lk_130, List.forall_mem_cons.mpr ⟨lk_131, List.forall_mem_cons.mpr ⟨lk_133, List.forall_mem_cons.mpr ⟨lk_134, List.forall_mem_cons.mpr ⟨lk_135, List.forall_mem_cons.mpr ⟨lk_136, List.forall_mem_cons.mpr ⟨lk_107, fun _ h => absurd h List.not_mem_nil⟩⟩⟩⟩⟩⟩⟩⟩⟩
theorem swX11_countOfFilm_0 : xLs RX11 (9, 55, 33, 89, 0, 3) := ⟨_, rfl, 80, 5, 14, #[55, 60, 65, 70, 80, 80, 80, 80, 80, 75], [(5, 64), (6, 69), (7, 74), (8, 79), (9, 89), (10, 89), (11, 89), (12, 89), (13, 89), (14, 84)], rfl, rfl, by decide, by decide, by decide, by decide, rfl, by decide +kernel⟩
def sX11_countOfFilm : List xI := [(9, 55, 33, 89, 0, 3)]
theorem zX11_countOfFilm : ∀ e ∈ sX11_countOfFilm, xLs RX11 e := List.forall_mem_cons.mpr ⟨swX11_countOfFilm_0, fun _ h => absurd h List.not_mem_nil⟩
theorem bX11_countOfFilm_ok : ∀ b ∈ bX11_countOfFilm, xbok RX11 cX11_countOfFilm b := xbF_ok (lk := lX11_countOfFilm) (ls := sX11_countOfFilm) kX11_countOfFilm zX11_countOfFilm (by decide +kernel)
set_option maxRecDepth 20000 in
theorem vX11_countOfFilm : xMok mX11_countOfFilm := ⟨⟨wc_4.1, xtc6 190 rfl rfl, wc_4.2.1, wc_4.2.2, by decide +kernel, by decide, rfl⟩, bX11_countOfFilm_ok⟩
def lX11_crack : List xL := [(3, 1, 11, 0, 10), (3, 1, 9, 5, 195), (3, 13, 289, 40, 198), (3, 13, 63, 88, 201), (3, 13, 324, 72, 205), (3, 13, 286, 40, 209), (3, 13, 290, 40, 212), (3, 1, 9, 6, 186), (3, 1, 11, 5, 52), (3, 13, 30, 80, 192)]
theorem kX11_crack : ∀ q ∈ lX11_crack, xLq RX11 q := List.forall_mem_cons.mpr ⟨lk_99, List.forall_mem_cons.mpr ⟨lk_121, List.forall_mem_cons.mpr ⟨lk_137, List.forall_mem_cons.mpr ⟨lk_138, List.forall_mem_cons.mpr ⟨lk_139, List.forall_mem_cons.mpr ⟨lk_140, List.forall_mem_cons.mpr ⟨lk_122, List.forall_mem_cons.mpr ⟨lk_124, List.forall_mem_cons.mpr ⟨lk_141, List.forall_mem_cons.mpr ⟨lk_142, fun _ h => absurd h List.not_mem_nil⟩⟩⟩⟩⟩⟩⟩⟩⟩⟩
theorem bX11_crack_ok : ∀ b ∈ bX11_crack, xbok RX11 cX11_crack b := xbF_ok (lk := lX11_crack) (ls := []) kX11_crack xno_sw (by decide +kernel)
set_option maxRecDepth 20000 in
theorem vX11_crack : xMok mX11_crack := ⟨⟨wc_4.1, xtc4 190 rfl rfl, wc_4.2.1, wc_4.2.2, by decide +kernel, by decide, rfl⟩, bX11_crack_ok⟩
def lX11_cracks : List xL := [(3, 1, 11, 0, 10), (3, 1, 9, 4, 38), (3, 1, 1, 2, 169), (3, 1, 1, 0, 112), (3, 13, 287, 40, 117), (3, 1, 11, 4, 45), (3, 13, 12, 0, 123), (3, 13, 16, 0, 172), (3, 1, 5, 3, 151), (3, 13, 285, 40, 132), (3, 13, 21, 0, 175), (3, 13, 10, 0, 182)]
theorem kX11_cracks : ∀ q ∈ lX11_cracks, xLq RX11 q := List.forall_mem_cons.mpr ⟨lk_99, List.forall_mem_cons.mpr ⟨lk_110, List.forall_mem_cons.mpr ⟨lk_143, List.forall_mem_cons.mpr ⟨lk_111, List.forall_mem_cons.mpr ⟨lk_112, List.forall_mem_cons.mpr ⟨lk_114, List.forall_mem_cons.mpr ⟨lk_115, List.forall_mem_cons.mpr ⟨lk_144, List.forall_mem_cons.mpr ⟨lk_107, List.forall_mem_cons.mpr ⟨lk_109, List.forall_mem_cons.mpr ⟨lk_145, List.forall_mem_cons.mpr ⟨lk_146, fun _ h => absurd h List.not_mem_nil⟩⟩⟩⟩⟩⟩⟩⟩⟩⟩⟩⟩
theorem bX11_cracks_ok : ∀ b ∈ bX11_cracks, xbok RX11 cX11_cracks b := xbF_ok (lk := lX11_cracks) (ls := []) kX11_cracks xno_sw (by decide +kernel)
set_option maxRecDepth 20000 in
theorem vX11_cracks : xMok mX11_cracks := ⟨⟨wc_4.1, xtc4 174 rfl rfl, wc_4.2.1, wc_4.2.2, by decide +kernel, by decide, rfl⟩, bX11_cracks_ok⟩
def lX11_cracksToMend : List xL := [(3, 1, 11, 0, 10), (3, 13, 323, 72, 216), (3, 1, 9, 5, 195), (3, 13, 285, 40, 132)]
theorem kX11_cracksToMend : ∀ q ∈ lX11_cracksToMend, xLq RX11 q := List.forall_mem_cons.mpr ⟨lk_99, List.forall_mem_cons.mpr ⟨lk_128, List.forall_mem_cons.mpr ⟨lk_121, List.forall_mem_cons.mpr ⟨lk_109, fun _ h => absurd h List.not_mem_nil⟩⟩⟩⟩
theorem bX11_cracksToMend_ok : ∀ b ∈ bX11_cracksToMend, xbok RX11 cX11_cracksToMend b := xbF_ok (lk := lX11_cracksToMend) (ls := []) kX11_cracksToMend xno_sw (by decide +kernel)
set_option maxRecDepth 20000 in
theorem vX11_cracksToMend : xMok mX11_cracksToMend := ⟨⟨wc_4.1, xtc5 48 rfl rfl, wc_4.2.1, wc_4.2.2, by decide +kernel, by decide, rfl⟩, bX11_cracksToMend_ok⟩
def lX11_cut : List xL := [(3, 1, 11, 5, 52), (3, 13, 35, 80, 219), (3, 1, 10, 11, 222), (3, 13, 26, 80, 231)]
theorem kX11_cut : ∀ q ∈ lX11_cut, xLq RX11 q := List.forall_mem_cons.mpr ⟨lk_141, List.forall_mem_cons.mpr ⟨lk_147, List.forall_mem_cons.mpr ⟨lk_148, List.forall_mem_cons.mpr ⟨lk_149, fun _ h => absurd h List.not_mem_nil⟩⟩⟩⟩
theorem bX11_cut_ok : ∀ b ∈ bX11_cut, xbok RX11 cX11_cut b := xbF_ok (lk := lX11_cut) (ls := []) kX11_cut xno_sw (by decide +kernel)
set_option maxRecDepth 20000 in
theorem vX11_cut : xMok mX11_cut := ⟨⟨wc_4.1, xtc5 23 rfl rfl, wc_4.2.1, wc_4.2.2, by decide +kernel, by decide, rfl⟩, bX11_cut_ok⟩
def lX11_damp : List xL := [(3, 13, 64, 88, 261), (3, 1, 11, 6, 59), (3, 13, 266, 24, 279), (3, 1, 3, 2, 282)]
theorem kX11_damp : ∀ q ∈ lX11_damp, xLq RX11 q := List.forall_mem_cons.mpr ⟨lk_150, List.forall_mem_cons.mpr ⟨lk_151, List.forall_mem_cons.mpr ⟨lk_152, List.forall_mem_cons.mpr ⟨lk_153, fun _ h => absurd h List.not_mem_nil⟩⟩⟩⟩
theorem bX11_damp_ok : ∀ b ∈ bX11_damp, xbok RX11 cX11_damp b := xbF_ok (lk := lX11_damp) (ls := []) kX11_damp xno_sw (by decide +kernel)
set_option maxRecDepth 20000 in
theorem vX11_damp : xMok mX11_damp := ⟨⟨wc_4.1, xtc5 101 rfl rfl, wc_4.2.1, wc_4.2.2, by decide +kernel, by decide, rfl⟩, bX11_damp_ok⟩
def lX11_dark : List xL := [(3, 13, 64, 88, 261), (3, 13, 92, 88, 285), (3, 13, 69, 88, 288)]
theorem kX11_dark : ∀ q ∈ lX11_dark, xLq RX11 q := List.forall_mem_cons.mpr ⟨lk_150, List.forall_mem_cons.mpr ⟨lk_154, List.forall_mem_cons.mpr ⟨lk_132, fun _ h => absurd h List.not_mem_nil⟩⟩⟩
theorem bX11_dark_ok : ∀ b ∈ bX11_dark, xbok RX11 cX11_dark b := xbF_ok (lk := lX11_dark) (ls := []) kX11_dark xno_sw (by decide +kernel)
set_option maxRecDepth 20000 in
theorem vX11_dark : xMok mX11_dark := ⟨⟨wc_4.1, xtc5 118 rfl rfl, wc_4.2.1, wc_4.2.2, by decide +kernel, by decide, rfl⟩, bX11_dark_ok⟩
def lX11_darks : List xL := [(3, 13, 92, 88, 285), (3, 13, 45, 88, 291)]
theorem kX11_darks : ∀ q ∈ lX11_darks, xLq RX11 q := List.forall_mem_cons.mpr ⟨lk_154, List.forall_mem_cons.mpr ⟨lk_155, fun _ h => absurd h List.not_mem_nil⟩⟩
theorem bX11_darks_ok : ∀ b ∈ bX11_darks, xbok RX11 cX11_darks b := xbF_ok (lk := lX11_darks) (ls := []) kX11_darks xno_sw (by decide +kernel)
set_option maxRecDepth 20000 in
theorem vX11_darks : xMok mX11_darks := ⟨⟨wc_4.1, xtc5 134 rfl rfl, wc_4.2.1, wc_4.2.2, by decide +kernel, by decide, rfl⟩, bX11_darks_ok⟩
def lX11_day : List xL := [(3, 1, 11, 0, 10), (3, 1, 9, 6, 186), (3, 14, 9, 6, 186)]
theorem kX11_day : ∀ q ∈ lX11_day, xLq RX11 q := List.forall_mem_cons.mpr ⟨lk_99, List.forall_mem_cons.mpr ⟨lk_124, List.forall_mem_cons.mpr ⟨lk_156, fun _ h => absurd h List.not_mem_nil⟩⟩⟩
theorem bX11_day_ok : ∀ b ∈ bX11_day, xbok RX11 cX11_day b := xbF_ok (lk := lX11_day) (ls := []) kX11_day xno_sw (by decide +kernel)
set_option maxRecDepth 20000 in
theorem vX11_day : xMok mX11_day := ⟨⟨wc_4.1, xtc4 182 rfl rfl, wc_4.2.1, wc_4.2.2, by decide +kernel, by decide, rfl⟩, bX11_day_ok⟩
def lX11_divide : List xL := []
theorem kX11_divide : ∀ q ∈ lX11_divide, xLq RX11 q := fun _ h => absurd h List.not_mem_nil
theorem bX11_divide_ok : ∀ b ∈ bX11_divide, xbok RX11 cX11_divide b := xbF_ok (lk := lX11_divide) (ls := []) kX11_divide xno_sw (by decide +kernel)
set_option maxRecDepth 20000 in
theorem vX11_divide : xMok mX11_divide := ⟨⟨wc_4.1, xtc4 67 rfl rfl, wc_4.2.1, wc_4.2.2, by decide +kernel, by decide, rfl⟩, bX11_divide_ok⟩
def lX11_end : List xL := [(3, 1, 11, 0, 10), (3, 1, 9, 1, 91), (3, 14, 9, 1, 91)]
theorem kX11_end : ∀ q ∈ lX11_end, xLq RX11 q := List.forall_mem_cons.mpr ⟨lk_99, List.forall_mem_cons.mpr ⟨lk_157, List.forall_mem_cons.mpr ⟨lk_158, fun _ h => absurd h List.not_mem_nil⟩⟩⟩
theorem bX11_end_ok : ∀ b ∈ bX11_end, xbok RX11 cX11_end b := xbF_ok (lk := lX11_end) (ls := []) kX11_end xno_sw (by decide +kernel)
set_option maxRecDepth 20000 in
theorem vX11_end : xMok mX11_end := ⟨⟨wc_4.1, xtc3 60 rfl rfl, wc_4.2.1, wc_4.2.2, by decide +kernel, by decide, rfl⟩, bX11_end_ok⟩
def lX11_fault : List xL := [(3, 1, 11, 0, 10), (3, 1, 9, 2, 106), (3, 1, 9, 3, 109)]
theorem kX11_fault : ∀ q ∈ lX11_fault, xLq RX11 q := List.forall_mem_cons.mpr ⟨lk_99, List.forall_mem_cons.mpr ⟨lk_159, List.forall_mem_cons.mpr ⟨lk_160, fun _ h => absurd h List.not_mem_nil⟩⟩⟩
theorem swX11_fault_0 : xLs RX11 (1, 27, 34, 44, 0, 4) := ⟨_, rfl, 43, #[(0, 27), (1, 35)], [(0, 28), (1, 36)], rfl, rfl, by decide +kernel, by decide, by decide +kernel, by decide +kernel, by decide +kernel⟩
def sX11_fault : List xI := [(1, 27, 34, 44, 0, 4)]
theorem zX11_fault : ∀ e ∈ sX11_fault, xLs RX11 e := List.forall_mem_cons.mpr ⟨swX11_fault_0, fun _ h => absurd h List.not_mem_nil⟩
theorem bX11_fault_ok : ∀ b ∈ bX11_fault, xbok RX11 cX11_fault b := xbF_ok (lk := lX11_fault) (ls := sX11_fault) kX11_fault zX11_fault (by decide +kernel)
set_option maxRecDepth 20000 in
theorem vX11_fault : xMok mX11_fault := ⟨⟨wc_4.1, xtc4 36 rfl rfl, wc_4.2.1, wc_4.2.2, by decide +kernel, by decide, rfl⟩, bX11_fault_ok⟩
def lX11_fed : List xL := [(3, 1, 11, 0, 10), (3, 1, 9, 4, 38), (3, 1, 1, 7, 225), (3, 1, 11, 5, 52), (3, 13, 35, 80, 219), (3, 1, 10, 7, 228)]
theorem kX11_fed : ∀ q ∈ lX11_fed, xLq RX11 q := List.forall_mem_cons.mpr ⟨lk_99, List.forall_mem_cons.mpr ⟨lk_110, List.forall_mem_cons.mpr ⟨lk_130, List.forall_mem_cons.mpr ⟨lk_141, List.forall_mem_cons.mpr ⟨lk_147, List.forall_mem_cons.mpr ⟨lk_161, fun _ h => absurd h List.not_mem_nil⟩⟩⟩⟩⟩⟩
theorem bX11_fed_ok : ∀ b ∈ bX11_fed, xbok RX11 cX11_fed b := xbF_ok (lk := lX11_fed) (ls := []) kX11_fed xno_sw (by decide +kernel)
set_option maxRecDepth 20000 in
theorem vX11_fed : xMok mX11_fed := ⟨⟨wc_4.1, xtc5 19 rfl rfl, wc_4.2.1, wc_4.2.2, by decide +kernel, by decide, rfl⟩, bX11_fed_ok⟩
def lX11_feed : List xL := [(3, 1, 11, 0, 10), (3, 1, 9, 1, 91), (3, 13, 321, 72, 95)]
theorem kX11_feed : ∀ q ∈ lX11_feed, xLq RX11 q := List.forall_mem_cons.mpr ⟨lk_99, List.forall_mem_cons.mpr ⟨lk_157, List.forall_mem_cons.mpr ⟨lk_162, fun _ h => absurd h List.not_mem_nil⟩⟩⟩
theorem bX11_feed_ok : ∀ b ∈ bX11_feed, xbok RX11 cX11_feed b := xbF_ok (lk := lX11_feed) (ls := []) kX11_feed xno_sw (by decide +kernel)
set_option maxRecDepth 20000 in
theorem vX11_feed : xMok mX11_feed := ⟨⟨wc_4.1, xtc3 52 rfl rfl, wc_4.2.1, wc_4.2.2, by decide +kernel, by decide, rfl⟩, bX11_feed_ok⟩
def lX11_film : List xL := [(3, 1, 11, 2, 25), (3, 13, 250, 16, 99), (3, 13, 61, 88, 103)]
theorem kX11_film : ∀ q ∈ lX11_film, xLq RX11 q := List.forall_mem_cons.mpr ⟨lk_163, List.forall_mem_cons.mpr ⟨lk_164, List.forall_mem_cons.mpr ⟨lk_101, fun _ h => absurd h List.not_mem_nil⟩⟩⟩
theorem bX11_film_ok : ∀ b ∈ bX11_film, xbok RX11 cX11_film b := xbF_ok (lk := lX11_film) (ls := []) kX11_film xno_sw (by decide +kernel)
set_option maxRecDepth 20000 in
theorem vX11_film : xMok mX11_film := ⟨⟨wc_4.1, xtc3 64 rfl rfl, wc_4.2.1, wc_4.2.2, by decide +kernel, by decide, rfl⟩, bX11_film_ok⟩
def lX11_forgetFilm : List xL := [(3, 1, 11, 4, 45), (3, 13, 8, 0, 381), (3, 1, 11, 5, 52), (3, 13, 30, 80, 192), (3, 1, 11, 6, 59), (3, 13, 259, 24, 258), (3, 13, 260, 24, 276), (3, 1, 11, 7, 66), (3, 13, 300, 56, 384)]
theorem kX11_forgetFilm : ∀ q ∈ lX11_forgetFilm, xLq RX11 q := List.forall_mem_cons.mpr ⟨lk_114, List.forall_mem_cons.mpr ⟨lk_165, List.forall_mem_cons.mpr ⟨lk_141, List.forall_mem_cons.mpr ⟨lk_142, List.forall_mem_cons.mpr ⟨lk_151, List.forall_mem_cons.mpr ⟨lk_166, List.forall_mem_cons.mpr ⟨lk_167, List.forall_mem_cons.mpr ⟨lk_168, List.forall_mem_cons.mpr ⟨lk_169, fun _ h => absurd h List.not_mem_nil⟩⟩⟩⟩⟩⟩⟩⟩⟩
theorem bX11_forgetFilm_ok : ∀ b ∈ bX11_forgetFilm, xbok RX11 cX11_forgetFilm b := xbF_ok (lk := lX11_forgetFilm) (ls := []) kX11_forgetFilm xno_sw (by decide +kernel)
set_option maxRecDepth 20000 in
theorem vX11_forgetFilm : xMok mX11_forgetFilm := ⟨⟨wc_4.1, xtc4 12 rfl rfl, wc_4.2.1, wc_4.2.2, by decide +kernel, by decide, rfl⟩, bX11_forgetFilm_ok⟩
def lX11_hand : List xL := [(3, 1, 11, 0, 10), (3, 1, 9, 10, 316), (3, 13, 289, 40, 198), (3, 13, 70, 90, 238), (3, 13, 71, 90, 140), (3, 13, 286, 40, 209), (3, 13, 290, 40, 212)]
theorem kX11_hand : ∀ q ∈ lX11_hand, xLq RX11 q := List.forall_mem_cons.mpr ⟨lk_99, List.forall_mem_cons.mpr ⟨lk_117, List.forall_mem_cons.mpr ⟨lk_137, List.forall_mem_cons.mpr ⟨lk_97, List.forall_mem_cons.mpr ⟨lk_113, List.forall_mem_cons.mpr ⟨lk_140, List.forall_mem_cons.mpr ⟨lk_122, fun _ h => absurd h List.not_mem_nil⟩⟩⟩⟩⟩⟩⟩
theorem bX11_hand_ok : ∀ b ∈ bX11_hand, xbok RX11 cX11_hand b := xbF_ok (lk := lX11_hand) (ls := []) kX11_hand xno_sw (by decide +kernel)
set_option maxRecDepth 20000 in
theorem vX11_hand : xMok mX11_hand := ⟨⟨wc_4.1, xtc5 225 rfl rfl, wc_4.2.1, wc_4.2.2, by decide +kernel, by decide, rfl⟩, bX11_hand_ok⟩
def lX11_hasPart : List xL := [(3, 13, 64, 88, 261), (3, 1, 11, 0, 10), (3, 1, 9, 4, 38), (3, 1, 1, 7, 225), (3, 1, 1, 8, 255)]
theorem kX11_hasPart : ∀ q ∈ lX11_hasPart, xLq RX11 q := List.forall_mem_cons.mpr ⟨lk_150, List.forall_mem_cons.mpr ⟨lk_99, List.forall_mem_cons.mpr ⟨lk_110, List.forall_mem_cons.mpr ⟨lk_130, List.forall_mem_cons.mpr ⟨lk_131, fun _ h => absurd h List.not_mem_nil⟩⟩⟩⟩⟩
theorem bX11_hasPart_ok : ∀ b ∈ bX11_hasPart, xbok RX11 cX11_hasPart b := xbF_ok (lk := lX11_hasPart) (ls := []) kX11_hasPart xno_sw (by decide +kernel)
set_option maxRecDepth 20000 in
theorem vX11_hasPart : xMok mX11_hasPart := ⟨⟨wc_4.1, xtc4 195 rfl rfl, wc_4.2.1, wc_4.2.2, by decide +kernel, by decide, rfl⟩, bX11_hasPart_ok⟩
def lX11_hasPoint : List xL := [(3, 1, 11, 0, 10), (3, 1, 9, 4, 38), (3, 1, 1, 7, 225), (3, 1, 1, 8, 255)]
theorem kX11_hasPoint : ∀ q ∈ lX11_hasPoint, xLq RX11 q := List.forall_mem_cons.mpr ⟨lk_99, List.forall_mem_cons.mpr ⟨lk_110, List.forall_mem_cons.mpr ⟨lk_130, List.forall_mem_cons.mpr ⟨lk_131, fun _ h => absurd h List.not_mem_nil⟩⟩⟩⟩
theorem bX11_hasPoint_ok : ∀ b ∈ bX11_hasPoint, xbok RX11 cX11_hasPoint b := xbF_ok (lk := lX11_hasPoint) (ls := []) kX11_hasPoint xno_sw (by decide +kernel)
set_option maxRecDepth 20000 in
theorem vX11_hasPoint : xMok mX11_hasPoint := ⟨⟨wc_4.1, xtc4 199 rfl rfl, wc_4.2.1, wc_4.2.2, by decide +kernel, by decide, rfl⟩, bX11_hasPoint_ok⟩
def lX11_image : List xL := [(3, 13, 70, 90, 238), (3, 1, 11, 1, 16), (3, 24, 9, 0, 7), (3, 13, 325, 77, 9), (3, 1, 11, 0, 10), (3, 13, 322, 72, 378)]
theorem kX11_image : ∀ q ∈ lX11_image, xLq RX11 q := List.forall_mem_cons.mpr ⟨lk_97, List.forall_mem_cons.mpr ⟨lk_98, List.forall_mem_cons.mpr ⟨lk_170, List.forall_mem_cons.mpr ⟨lk_171, List.forall_mem_cons.mpr ⟨lk_99, List.forall_mem_cons.mpr ⟨lk_100, fun _ h => absurd h List.not_mem_nil⟩⟩⟩⟩⟩⟩
theorem bX11_image_ok : ∀ b ∈ bX11_image, xbok RX11 cX11_image b := xbF_ok (lk := lX11_image) (ls := []) kX11_image xno_sw (by decide +kernel)
set_option maxRecDepth 20000 in
theorem vX11_image : xMok mX11_image := ⟨⟨wc_4.1, xtc6 195 rfl rfl, wc_4.2.1, wc_4.2.2, by decide +kernel, by decide, rfl⟩, bX11_image_ok⟩
def lX11_inCut : List xL := [(3, 1, 11, 5, 52), (3, 13, 35, 80, 219), (3, 1, 11, 0, 10), (3, 1, 9, 4, 38), (3, 1, 1, 7, 225), (3, 13, 27, 80, 234), (3, 13, 63, 88, 201)]
theorem kX11_inCut : ∀ q ∈ lX11_inCut, xLq RX11 q := List.forall_mem_cons.mpr ⟨lk_141, List.forall_mem_cons.mpr ⟨lk_147, List.forall_mem_cons.mpr ⟨lk_99, List.forall_mem_cons.mpr ⟨lk_110, List.forall_mem_cons.mpr ⟨lk_130, List.forall_mem_cons.mpr ⟨lk_172, List.forall_mem_cons.mpr ⟨lk_138, fun _ h => absurd h List.not_mem_nil⟩⟩⟩⟩⟩⟩⟩
theorem bX11_inCut_ok : ∀ b ∈ bX11_inCut, xbok RX11 cX11_inCut b := xbF_ok (lk := lX11_inCut) (ls := []) kX11_inCut xno_sw (by decide +kernel)
set_option maxRecDepth 20000 in
theorem vX11_inCut : xMok mX11_inCut := ⟨⟨wc_4.1, xtc5 35 rfl rfl, wc_4.2.1, wc_4.2.2, by decide +kernel, by decide, rfl⟩, bX11_inCut_ok⟩
def lX11_init : List xL := [(3, 25, 0, 0, 1), (3, 24, 9, 0, 7), (3, 13, 325, 77, 9), (3, 61, 11, 0, 10), (3, 46, 0, 0, 7), (3, 61, 11, 1, 16), (3, 24, 2, 0, 20), (3, 1, 11, 0, 10), (3, 13, 246, 20, 22), (3, 61, 11, 2, 25), (3, 24, 6, 0, 29), (3, 13, 291, 52, 31), (3, 61, 11, 3, 32), (3, 24, 0, 0, 36), (3, 1, 9, 4, 38), (3, 13, 9, 4, 42), (3, 61, 11, 4, 45), (3, 24, 10, 0, 49), (3, 13, 31, 84, 51), (3, 61, 11, 5, 52), (3, 24, 3, 0, 56), (3, 13, 261, 28, 58), (3, 61, 11, 6, 59), (3, 24, 7, 0, 63), (3, 13, 302, 60, 65), (3, 61, 11, 7, 66), (3, 24, 4, 0, 70), (3, 1, 9, 11, 72), (3, 13, 273, 36, 76), (3, 61, 11, 8, 79), (3, 61, 11, 9, 83), (3, 61, 11, 10, 87)]
theorem kX11_init : ∀ q ∈ lX11_init, xLq RX11 q := List.forall_mem_cons.mpr ⟨lk_173, List.forall_mem_cons.mpr ⟨lk_170, List.forall_mem_cons.mpr ⟨lk_171, List.forall_mem_cons.mpr ⟨lk_174, List.forall_mem_cons.mpr ⟨lk_175, List.forall_mem_cons.mpr ⟨lk_176, List.forall_mem_cons.mpr ⟨lk_177, List.forall_mem_cons.mpr ⟨lk_99, List.forall_mem_cons.mpr ⟨lk_178, List.forall_mem_cons.mpr ⟨lk_179, List.forall_mem_cons.mpr ⟨lk_180, List.forall_mem_cons.mpr ⟨lk_181, List.forall_mem_cons.mpr ⟨lk_182, List.forall_mem_cons.mpr ⟨lk_183, List.forall_mem_cons.mpr ⟨lk_110, List.forall_mem_cons.mpr ⟨lk_184, List.forall_mem_cons.mpr ⟨lk_185, List.forall_mem_cons.mpr ⟨lk_186, List.forall_mem_cons.mpr ⟨lk_187, List.forall_mem_cons.mpr ⟨lk_188, List.forall_mem_cons.mpr ⟨lk_189, List.forall_mem_cons.mpr ⟨lk_190, List.forall_mem_cons.mpr ⟨lk_191, List.forall_mem_cons.mpr ⟨lk_192, List.forall_mem_cons.mpr ⟨lk_193, List.forall_mem_cons.mpr ⟨lk_194, List.forall_mem_cons.mpr ⟨lk_195, List.forall_mem_cons.mpr ⟨lk_127, List.forall_mem_cons.mpr ⟨lk_196, List.forall_mem_cons.mpr ⟨lk_197, List.forall_mem_cons.mpr ⟨lk_198, List.forall_mem_cons.mpr ⟨lk_199, fun _ h => absurd h List.not_mem_nil⟩⟩⟩⟩⟩⟩⟩⟩⟩⟩⟩⟩⟩⟩⟩⟩⟩⟩⟩⟩⟩⟩⟩⟩⟩⟩⟩⟩⟩⟩⟩⟩
theorem bX11_init_ok : ∀ b ∈ bX11_init, xbok RX11 cX11_init b := xbF_ok (lk := lX11_init) (ls := []) kX11_init xno_sw (by decide +kernel)
set_option maxRecDepth 20000 in
theorem vX11_init : xMok mX11_init := ⟨⟨wc_4.1, xtc1 26 rfl rfl, wc_4.2.1, wc_4.2.2, by decide +kernel, by decide, rfl⟩, bX11_init_ok⟩
def lX11_isBroken : List xL := [(3, 52, 365, 0, 388), (3, 1, 11, 0, 10), (3, 1, 9, 10, 316), (3, 13, 285, 40, 132), (3, 1, 11, 4, 45), (3, 13, 4, 0, 390)]
theorem kX11_isBroken : ∀ q ∈ lX11_isBroken, xLq RX11 q := List.forall_mem_cons.mpr ⟨lk_200, List.forall_mem_cons.mpr ⟨lk_99, List.forall_mem_cons.mpr ⟨lk_117, List.forall_mem_cons.mpr ⟨lk_109, List.forall_mem_cons.mpr ⟨lk_114, List.forall_mem_cons.mpr ⟨lk_201, fun _ h => absurd h List.not_mem_nil⟩⟩⟩⟩⟩⟩
theorem bX11_isBroken_ok : ∀ b ∈ bX11_isBroken, xbok RX11 cX11_isBroken b := xbF_ok (lk := lX11_isBroken) (ls := []) kX11_isBroken xno_sw (by decide +kernel)
set_option maxRecDepth 20000 in
theorem vX11_isBroken : xMok mX11_isBroken := ⟨⟨wc_4.1, xtc5 233 rfl rfl, wc_4.2.1, wc_4.2.2, by decide +kernel, by decide, rfl⟩, bX11_isBroken_ok⟩
def lX11_isDark : List xL := [(3, 1, 11, 5, 52), (3, 1, 10, 7, 228), (3, 1, 11, 6, 59), (3, 13, 263, 24, 267), (3, 13, 262, 24, 385)]
theorem kX11_isDark : ∀ q ∈ lX11_isDark, xLq RX11 q := List.forall_mem_cons.mpr ⟨lk_141, List.forall_mem_cons.mpr ⟨lk_161, List.forall_mem_cons.mpr ⟨lk_151, List.forall_mem_cons.mpr ⟨lk_202, List.forall_mem_cons.mpr ⟨lk_203, fun _ h => absurd h List.not_mem_nil⟩⟩⟩⟩⟩
theorem bX11_isDark_ok : ∀ b ∈ bX11_isDark, xbok RX11 cX11_isDark b := xbF_ok (lk := lX11_isDark) (ls := []) kX11_isDark xno_sw (by decide +kernel)
set_option maxRecDepth 20000 in
theorem vX11_isDark : xMok mX11_isDark := ⟨⟨wc_4.1, xtc5 126 rfl rfl, wc_4.2.1, wc_4.2.2, by decide +kernel, by decide, rfl⟩, bX11_isDark_ok⟩
def lX11_isIn : List xL := []
theorem kX11_isIn : ∀ q ∈ lX11_isIn, xLq RX11 q := fun _ h => absurd h List.not_mem_nil
theorem bX11_isIn_ok : ∀ b ∈ bX11_isIn, xbok RX11 cX11_isIn b := xbF_ok (lk := lX11_isIn) (ls := []) kX11_isIn xno_sw (by decide +kernel)
set_option maxRecDepth 20000 in
theorem vX11_isIn : xMok mX11_isIn := ⟨⟨wc_4.1, xtc3 211 rfl rfl, wc_4.2.1, wc_4.2.2, by decide +kernel, by decide, rfl⟩, bX11_isIn_ok⟩
def lX11_isRound : List xL := [(3, 13, 70, 90, 238)]
theorem kX11_isRound : ∀ q ∈ lX11_isRound, xLq RX11 q := List.forall_mem_cons.mpr ⟨lk_97, fun _ h => absurd h List.not_mem_nil⟩
theorem bX11_isRound_ok : ∀ b ∈ bX11_isRound, xbok RX11 cX11_isRound b := xbF_ok (lk := lX11_isRound) (ls := []) kX11_isRound xno_sw (by decide +kernel)
set_option maxRecDepth 20000 in
theorem vX11_isRound : xMok mX11_isRound := ⟨⟨wc_4.1, xtc4 74 rfl rfl, wc_4.2.1, wc_4.2.2, by decide +kernel, by decide, rfl⟩, bX11_isRound_ok⟩
def lX11_judgeLines : List xL := [(3, 1, 11, 10, 87), (3, 1, 11, 0, 10), (3, 1, 9, 13, 406), (3, 1, 5, 3, 151), (3, 13, 285, 40, 132), (3, 13, 99, 88, 409)]
theorem kX11_judgeLines : ∀ q ∈ lX11_judgeLines, xLq RX11 q := List.forall_mem_cons.mpr ⟨lk_108, List.forall_mem_cons.mpr ⟨lk_99, List.forall_mem_cons.mpr ⟨lk_204, List.forall_mem_cons.mpr ⟨lk_107, List.forall_mem_cons.mpr ⟨lk_109, List.forall_mem_cons.mpr ⟨lk_205, fun _ h => absurd h List.not_mem_nil⟩⟩⟩⟩⟩⟩
theorem bX11_judgeLines_ok : ∀ b ∈ bX11_judgeLines, xbok RX11 cX11_judgeLines b := xbF_ok (lk := lX11_judgeLines) (ls := []) kX11_judgeLines xno_sw (by decide +kernel)
set_option maxRecDepth 20000 in
theorem vX11_judgeLines : xMok mX11_judgeLines := ⟨⟨wc_4.1, xtc6 173 rfl rfl, wc_4.2.1, wc_4.2.2, by decide +kernel, by decide, rfl⟩, bX11_judgeLines_ok⟩
def lX11_kept : List xL := [(3, 1, 11, 8, 79), (3, 13, 276, 32, 327), (3, 1, 4, 4, 328)]
theorem kX11_kept : ∀ q ∈ lX11_kept, xLq RX11 q := List.forall_mem_cons.mpr ⟨lk_102, List.forall_mem_cons.mpr ⟨lk_206, List.forall_mem_cons.mpr ⟨lk_207, fun _ h => absurd h List.not_mem_nil⟩⟩⟩
theorem bX11_kept_ok : ∀ b ∈ bX11_kept, xbok RX11 cX11_kept b := xbF_ok (lk := lX11_kept) (ls := []) kX11_kept xno_sw (by decide +kernel)
set_option maxRecDepth 20000 in
theorem vX11_kept : xMok mX11_kept := ⟨⟨wc_4.1, xtc6 28 rfl rfl, wc_4.2.1, wc_4.2.2, by decide +kernel, by decide, rfl⟩, bX11_kept_ok⟩
def lX11_lasts : List xL := [(3, 13, 70, 90, 238), (3, 1, 11, 0, 10), (3, 1, 9, 8, 252), (3, 1, 5, 3, 151), (3, 1, 11, 6, 59), (3, 13, 265, 24, 264), (3, 13, 268, 24, 294)]
theorem kX11_lasts : ∀ q ∈ lX11_lasts, xLq RX11 q := List.forall_mem_cons.mpr ⟨lk_97, List.forall_mem_cons.mpr ⟨lk_99, List.forall_mem_cons.mpr ⟨lk_123, List.forall_mem_cons.mpr ⟨lk_107, List.forall_mem_cons.mpr ⟨lk_151, List.forall_mem_cons.mpr ⟨lk_208, List.forall_mem_cons.mpr ⟨lk_209, fun _ h => absurd h List.not_mem_nil⟩⟩⟩⟩⟩⟩⟩
