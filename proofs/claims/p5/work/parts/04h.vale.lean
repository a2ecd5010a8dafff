theorem bX8_start_ok : ∀ b ∈ bX8_start, xbok RX8 cX8_start b := xbF_ok (lk := lX8_start) (ls := []) kX8_start xno_sw (by decide +kernel)
set_option maxRecDepth 20000 in
theorem vX8_start : xMok mX8_start := ⟨⟨wc_13.1, xtc3 80 rfl rfl, wc_13.2.1, wc_13.2.2, by decide +kernel, by decide, rfl⟩, bX8_start_ok⟩
def lX8_takeDigits : List xL := [(3, 14, 8, 5, 48), (3, 1, 8, 4, 23), (3, 1, 8, 1, 19), (3, 1, 8, 0, 7), (3, 13, 314, 66, 39), (3, 1, 8, 3, 29), (3, 1, 8, 5, 48), (3, 14, 8, 4, 23), (3, 14, 8, 2, 32)]
theorem kX8_takeDigits : ∀ q ∈ lX8_takeDigits, xLq RX8 q := List.forall_mem_cons.mpr ⟨lk_735, List.forall_mem_cons.mpr ⟨lk_716, List.forall_mem_cons.mpr ⟨lk_717, List.forall_mem_cons.mpr ⟨lk_718, List.forall_mem_cons.mpr ⟨lk_723, List.forall_mem_cons.mpr ⟨lk_729, List.forall_mem_cons.mpr ⟨lk_736, List.forall_mem_cons.mpr ⟨lk_719, List.forall_mem_cons.mpr ⟨lk_721, fun _ h => absurd h List.not_mem_nil⟩⟩⟩⟩⟩⟩⟩⟩⟩
theorem bX8_takeDigits_ok : ∀ b ∈ bX8_takeDigits, xbok RX8 cX8_takeDigits b := xbF_ok (lk := lX8_takeDigits) (ls := []) kX8_takeDigits xno_sw (by decide +kernel)
set_option maxRecDepth 20000 in
theorem vX8_takeDigits : xMok mX8_takeDigits := ⟨⟨wc_13.1, xtc3 97 rfl rfl, wc_13.2.1, wc_13.2.2, by decide +kernel, by decide, rfl⟩, bX8_takeDigits_ok⟩
def lX9_append : List xL := [(3, 1, 9, 1, 57), (3, 1, 9, 0, 11), (3, 14, 9, 1, 57)]
theorem kX9_append : ∀ q ∈ lX9_append, xLq RX9 q := List.forall_mem_cons.mpr ⟨lk_737, List.forall_mem_cons.mpr ⟨lk_738, List.forall_mem_cons.mpr ⟨lk_739, fun _ h => absurd h List.not_mem_nil⟩⟩⟩
theorem bX9_append_ok : ∀ b ∈ bX9_append, xbok RX9 cX9_append b := xbF_ok (lk := lX9_append) (ls := []) kX9_append xno_sw (by decide +kernel)
theorem wc_14 : plainName RX9 = true ∧ Cond.initialized RX9 ∈ lw_gt ∧ (RX9 ≠ "java/lang/invoke/MethodHandle" ∧ RX9 ≠ "java/lang/invoke/VarHandle") := ⟨by decide +kernel, xtc1 2 rfl rfl, by decide +kernel, by decide +kernel⟩
set_option maxRecDepth 20000 in
theorem vX9_append : xMok mX9_append := ⟨⟨wc_14.1, xtc3 56 rfl rfl, wc_14.2.1, wc_14.2.2, by decide +kernel, by decide, rfl⟩, bX9_append_ok⟩
def lX9_copy : List xL := [(3, 1, 9, 0, 11), (3, 58, 0, 0, 70), (3, 1, 9, 1, 57), (3, 14, 9, 1, 57), (3, 1, 9, 2, 60), (3, 14, 9, 2, 60), (3, 1, 9, 3, 15), (3, 14, 9, 3, 15), (3, 1, 9, 4, 22), (3, 13, 241, 8, 76), (3, 1, 9, 5, 31), (3, 13, 284, 40, 80), (3, 1, 9, 6, 83), (3, 14, 9, 6, 83), (3, 1, 9, 7, 35), (3, 14, 9, 7, 35), (3, 1, 9, 8, 38), (3, 1, 9, 9, 86), (3, 14, 9, 9, 86), (3, 1, 9, 10, 41), (3, 1, 9, 11, 46), (3, 1, 9, 12, 51), (3, 1, 9, 13, 54)]
theorem kX9_copy : ∀ q ∈ lX9_copy, xLq RX9 q := List.forall_mem_cons.mpr ⟨lk_738, List.forall_mem_cons.mpr ⟨lk_740, List.forall_mem_cons.mpr ⟨lk_737, List.forall_mem_cons.mpr ⟨lk_739, List.forall_mem_cons.mpr ⟨lk_741, List.forall_mem_cons.mpr ⟨lk_742, List.forall_mem_cons.mpr ⟨lk_743, List.forall_mem_cons.mpr ⟨lk_744, List.forall_mem_cons.mpr ⟨lk_745, List.forall_mem_cons.mpr ⟨lk_746, List.forall_mem_cons.mpr ⟨lk_747, List.forall_mem_cons.mpr ⟨lk_748, List.forall_mem_cons.mpr ⟨lk_749, List.forall_mem_cons.mpr ⟨lk_750, List.forall_mem_cons.mpr ⟨lk_751, List.forall_mem_cons.mpr ⟨lk_752, List.forall_mem_cons.mpr ⟨lk_753, List.forall_mem_cons.mpr ⟨lk_754, List.forall_mem_cons.mpr ⟨lk_755, List.forall_mem_cons.mpr ⟨lk_756, List.forall_mem_cons.mpr ⟨lk_757, List.forall_mem_cons.mpr ⟨lk_758, List.forall_mem_cons.mpr ⟨lk_759, fun _ h => absurd h List.not_mem_nil⟩⟩⟩⟩⟩⟩⟩⟩⟩⟩⟩⟩⟩⟩⟩⟩⟩⟩⟩⟩⟩⟩⟩
theorem bX9_copy_ok : ∀ b ∈ bX9_copy, xbok RX9 cX9_copy b := xbF_ok (lk := lX9_copy) (ls := []) kX9_copy xno_sw (by decide +kernel)
set_option maxRecDepth 20000 in
theorem vX9_copy : xMok mX9_copy := ⟨⟨wc_14.1, xtc6 199 rfl rfl, wc_14.2.1, wc_14.2.2, by decide +kernel, by decide, rfl⟩, bX9_copy_ok⟩
def lX9_cracksInView : List xL := [(3, 1, 9, 7, 35), (3, 1, 9, 5, 31), (3, 1, 5, 3, 63), (3, 13, 285, 40, 66)]
theorem kX9_cracksInView : ∀ q ∈ lX9_cracksInView, xLq RX9 q := List.forall_mem_cons.mpr ⟨lk_751, List.forall_mem_cons.mpr ⟨lk_747, List.forall_mem_cons.mpr ⟨lk_760, List.forall_mem_cons.mpr ⟨lk_761, fun _ h => absurd h List.not_mem_nil⟩⟩⟩⟩
theorem bX9_cracksInView_ok : ∀ b ∈ bX9_cracksInView, xbok RX9 cX9_cracksInView b := xbF_ok (lk := lX9_cracksInView) (ls := []) kX9_cracksInView xno_sw (by decide +kernel)
set_option maxRecDepth 20000 in
theorem vX9_cracksInView : xMok mX9_cracksInView := ⟨⟨wc_14.1, xtc4 214 rfl rfl, wc_14.2.1, wc_14.2.2, by decide +kernel, by decide, rfl⟩, bX9_cracksInView_ok⟩
def lX9_findCrack : List xL := [(3, 1, 9, 5, 31), (3, 1, 5, 3, 63), (3, 13, 285, 40, 66)]
theorem kX9_findCrack : ∀ q ∈ lX9_findCrack, xLq RX9 q := List.forall_mem_cons.mpr ⟨lk_747, List.forall_mem_cons.mpr ⟨lk_760, List.forall_mem_cons.mpr ⟨lk_761, fun _ h => absurd h List.not_mem_nil⟩⟩⟩
theorem bX9_findCrack_ok : ∀ b ∈ bX9_findCrack, xbok RX9 cX9_findCrack b := xbF_ok (lk := lX9_findCrack) (ls := []) kX9_findCrack xno_sw (by decide +kernel)
set_option maxRecDepth 20000 in
theorem vX9_findCrack : xMok mX9_findCrack := ⟨⟨wc_14.1, xtc4 203 rfl rfl, wc_14.2.1, wc_14.2.2, by decide +kernel, by decide, rfl⟩, bX9_findCrack_ok⟩
def lX9_init : List xL := [(3, 25, 0, 0, 3), (3, 61, 9, 0, 11), (3, 14, 9, 3, 15), (3, 24, 1, 0, 19), (3, 13, 242, 13, 21), (3, 61, 9, 4, 22), (3, 24, 5, 0, 26), (3, 13, 288, 44, 28), (3, 61, 9, 5, 31), (3, 14, 9, 7, 35), (3, 61, 9, 8, 38), (3, 61, 9, 10, 41), (3, 61, 9, 11, 46), (3, 61, 9, 12, 51), (3, 61, 9, 13, 54)]
theorem kX9_init : ∀ q ∈ lX9_init, xLq RX9 q := List.forall_mem_cons.mpr ⟨lk_762, List.forall_mem_cons.mpr ⟨lk_763, List.forall_mem_cons.mpr ⟨lk_744, List.forall_mem_cons.mpr ⟨lk_764, List.forall_mem_cons.mpr ⟨lk_765, List.forall_mem_cons.mpr ⟨lk_766, List.forall_mem_cons.mpr ⟨lk_767, List.forall_mem_cons.mpr ⟨lk_768, List.forall_mem_cons.mpr ⟨lk_769, List.forall_mem_cons.mpr ⟨lk_752, List.forall_mem_cons.mpr ⟨lk_770, List.forall_mem_cons.mpr ⟨lk_771, List.forall_mem_cons.mpr ⟨lk_772, List.forall_mem_cons.mpr ⟨lk_773, List.forall_mem_cons.mpr ⟨lk_774, fun _ h => absurd h List.not_mem_nil⟩⟩⟩⟩⟩⟩⟩⟩⟩⟩⟩⟩⟩⟩⟩
theorem bX9_init_ok : ∀ b ∈ bX9_init, xbok RX9 cX9_init b := xbF_ok (lk := lX9_init) (ls := []) kX9_init xno_sw (by decide +kernel)
set_option maxRecDepth 20000 in
theorem vX9_init : xMok mX9_init := ⟨⟨wc_14.1, xtc1 34 rfl rfl, wc_14.2.1, wc_14.2.2, by decide +kernel, by decide, rfl⟩, bX9_init_ok⟩
def lX9_take : List xL := [(3, 14, 9, 1, 57), (3, 14, 9, 2, 60), (3, 14, 9, 3, 15)]
theorem kX9_take : ∀ q ∈ lX9_take, xLq RX9 q := List.forall_mem_cons.mpr ⟨lk_739, List.forall_mem_cons.mpr ⟨lk_742, List.forall_mem_cons.mpr ⟨lk_744, fun _ h => absurd h List.not_mem_nil⟩⟩⟩
theorem bX9_take_ok : ∀ b ∈ bX9_take, xbok RX9 cX9_take b := xbF_ok (lk := lX9_take) (ls := []) kX9_take xno_sw (by decide +kernel)
set_option maxRecDepth 20000 in
theorem vX9_take : xMok mX9_take := ⟨⟨wc_14.1, xtc3 232 rfl rfl, wc_14.2.1, wc_14.2.2, by decide +kernel, by decide, rfl⟩, bX9_take_ok⟩
