theorem bX1_init_ok : ∀ b ∈ bX1_init, xbok RX1 cX1_init b := xbF_ok (lk := lX1_init) (ls := []) kX1_init xno_sw (by decide +kernel)
set_option maxRecDepth 20000 in
theorem vX1_init : xMok mX1_init := ⟨⟨wc_6.1, xtc1 40 rfl rfl, wc_6.2.1, wc_6.2.2, by decide +kernel, by decide, rfl⟩, bX1_init_ok⟩
def lX1_rowsOf : List xL := [(3, 1, 1, 0, 14), (3, 1, 1, 1, 18), (3, 1, 1, 2, 21), (3, 1, 1, 3, 24), (3, 1, 1, 4, 27)]
theorem kX1_rowsOf : ∀ q ∈ lX1_rowsOf, xLq RX1 q := List.forall_mem_cons.mpr ⟨lk_440, List.forall_mem_cons.mpr ⟨lk_442, List.forall_mem_cons.mpr ⟨lk_443, List.forall_mem_cons.mpr ⟨lk_444, List.forall_mem_cons.mpr ⟨lk_445, fun _ h => absurd h List.not_mem_nil⟩⟩⟩⟩⟩
theorem swX1_rowsOf_0 : xLs RX1 (1, 35, 33, 61, 0, 13) := ⟨_, rfl, 60, 0, 4, #[35, 40, 45, 50, 55], [(0, 36), (1, 41), (2, 46), (3, 51), (4, 56)], rfl, rfl, by decide, by decide, by decide, by decide, rfl, by decide +kernel⟩
def sX1_rowsOf : List xI := [(1, 35, 33, 61, 0, 13)]
theorem zX1_rowsOf : ∀ e ∈ sX1_rowsOf, xLs RX1 e := List.forall_mem_cons.mpr ⟨swX1_rowsOf_0, fun _ h => absurd h List.not_mem_nil⟩
theorem bX1_rowsOf_ok : ∀ b ∈ bX1_rowsOf, xbok RX1 cX1_rowsOf b := xbF_ok (lk := lX1_rowsOf) (ls := sX1_rowsOf) kX1_rowsOf zX1_rowsOf (by decide +kernel)
set_option maxRecDepth 20000 in
theorem vX1_rowsOf : xMok mX1_rowsOf := ⟨⟨wc_6.1, xtc3 192 rfl rfl, wc_6.2.1, wc_6.2.2, by decide +kernel, by decide, ⟨_, rfl, Or.inl ⟨_, rfl⟩⟩⟩, bX1_rowsOf_ok⟩
def lX1_slidesAnywhere : List xL := [(3, 1, 1, 0, 14), (3, 1, 5, 3, 43), (3, 13, 285, 40, 46)]
theorem kX1_slidesAnywhere : ∀ q ∈ lX1_slidesAnywhere, xLq RX1 q := List.forall_mem_cons.mpr ⟨lk_440, List.forall_mem_cons.mpr ⟨lk_465, List.forall_mem_cons.mpr ⟨lk_466, fun _ h => absurd h List.not_mem_nil⟩⟩⟩
theorem bX1_slidesAnywhere_ok : ∀ b ∈ bX1_slidesAnywhere, xbok RX1 cX1_slidesAnywhere b := xbF_ok (lk := lX1_slidesAnywhere) (ls := []) kX1_slidesAnywhere xno_sw (by decide +kernel)
set_option maxRecDepth 20000 in
theorem vX1_slidesAnywhere : xMok mX1_slidesAnywhere := ⟨⟨wc_6.1, xtc6 167 rfl rfl, wc_6.2.1, wc_6.2.2, by decide +kernel, by decide, rfl⟩, bX1_slidesAnywhere_ok⟩
def lX2_findFlawBeside : List xL := [(3, 1, 2, 9, 57), (3, 1, 2, 2, 12), (3, 1, 1, 4, 211), (3, 1, 5, 3, 185), (3, 1, 2, 5, 25), (3, 13, 285, 40, 188), (3, 1, 1, 5, 192), (3, 1, 1, 6, 195), (3, 14, 2, 9, 57), (3, 14, 2, 10, 88)]
theorem kX2_findFlawBeside : ∀ q ∈ lX2_findFlawBeside, xLq RX2 q := List.forall_mem_cons.mpr ⟨lk_467, List.forall_mem_cons.mpr ⟨lk_468, List.forall_mem_cons.mpr ⟨lk_469, List.forall_mem_cons.mpr ⟨lk_470, List.forall_mem_cons.mpr ⟨lk_471, List.forall_mem_cons.mpr ⟨lk_472, List.forall_mem_cons.mpr ⟨lk_473, List.forall_mem_cons.mpr ⟨lk_474, List.forall_mem_cons.mpr ⟨lk_475, List.forall_mem_cons.mpr ⟨lk_476, fun _ h => absurd h List.not_mem_nil⟩⟩⟩⟩⟩⟩⟩⟩⟩⟩
theorem bX2_findFlawBeside_ok : ∀ b ∈ bX2_findFlawBeside, xbok RX2 cX2_findFlawBeside b := xbF_ok (lk := lX2_findFlawBeside) (ls := []) kX2_findFlawBeside xno_sw (by decide +kernel)
theorem wc_7 : plainName RX2 = true ∧ Cond.initialized RX2 ∈ lw_gt ∧ (RX2 ≠ "java/lang/invoke/MethodHandle" ∧ RX2 ≠ "java/lang/invoke/VarHandle") := ⟨by decide +kernel, xtc1 5 rfl rfl, by decide +kernel, by decide +kernel⟩
set_option maxRecDepth 20000 in
theorem vX2_findFlawBeside : xMok mX2_findFlawBeside := ⟨⟨wc_7.1, xtc3 236 rfl rfl, wc_7.2.1, wc_7.2.2, by decide +kernel, by decide, rfl⟩, bX2_findFlawBeside_ok⟩
def lX2_init : List xL := [(3, 25, 0, 0, 3), (3, 24, 1, 0, 9), (3, 13, 242, 13, 11), (3, 61, 2, 2, 12), (3, 61, 2, 3, 18), (3, 61, 2, 4, 22), (3, 61, 2, 5, 25), (3, 61, 2, 0, 28), (3, 24, 8, 0, 32), (3, 1, 9, 0, 34), (3, 13, 313, 68, 40), (3, 61, 2, 1, 43)]
theorem kX2_init : ∀ q ∈ lX2_init, xLq RX2 q := List.forall_mem_cons.mpr ⟨lk_477, List.forall_mem_cons.mpr ⟨lk_478, List.forall_mem_cons.mpr ⟨lk_479, List.forall_mem_cons.mpr ⟨lk_480, List.forall_mem_cons.mpr ⟨lk_481, List.forall_mem_cons.mpr ⟨lk_482, List.forall_mem_cons.mpr ⟨lk_483, List.forall_mem_cons.mpr ⟨lk_484, List.forall_mem_cons.mpr ⟨lk_485, List.forall_mem_cons.mpr ⟨lk_486, List.forall_mem_cons.mpr ⟨lk_487, List.forall_mem_cons.mpr ⟨lk_488, fun _ h => absurd h List.not_mem_nil⟩⟩⟩⟩⟩⟩⟩⟩⟩⟩⟩⟩
theorem bX2_init_ok : ∀ b ∈ bX2_init, xbok RX2 cX2_init b := xbF_ok (lk := lX2_init) (ls := []) kX2_init xno_sw (by decide +kernel)
set_option maxRecDepth 20000 in
theorem vX2_init : xMok mX2_init := ⟨⟨wc_7.1, xtc1 205 rfl rfl, wc_7.2.1, wc_7.2.2, by decide +kernel, by decide, rfl⟩, bX2_init_ok⟩
def lX2_isFine : List xL := [(3, 13, 249, 16, 158), (3, 14, 2, 9, 57), (3, 14, 2, 10, 88), (3, 37, 1, 0, 115), (3, 1, 2, 3, 18), (3, 37, 2, 0, 162), (3, 37, 3, 0, 165), (3, 13, 70, 91, 168), (3, 1, 2, 4, 22)]
theorem kX2_isFine : ∀ q ∈ lX2_isFine, xLq RX2 q := List.forall_mem_cons.mpr ⟨lk_489, List.forall_mem_cons.mpr ⟨lk_475, List.forall_mem_cons.mpr ⟨lk_476, List.forall_mem_cons.mpr ⟨lk_490, List.forall_mem_cons.mpr ⟨lk_491, List.forall_mem_cons.mpr ⟨lk_492, List.forall_mem_cons.mpr ⟨lk_493, List.forall_mem_cons.mpr ⟨lk_494, List.forall_mem_cons.mpr ⟨lk_495, fun _ h => absurd h List.not_mem_nil⟩⟩⟩⟩⟩⟩⟩⟩⟩
theorem bX2_isFine_ok : ∀ b ∈ bX2_isFine, xbok RX2 cX2_isFine b := xbF_ok (lk := lX2_isFine) (ls := []) kX2_isFine xno_sw (by decide +kernel)
set_option maxRecDepth 20000 in
theorem vX2_isFine : xMok mX2_isFine := ⟨⟨wc_7.1, xtc3 184 rfl rfl, wc_7.2.1, wc_7.2.2, by decide +kernel, by decide, rfl⟩, bX2_isFine_ok⟩
def lX2_isLifeTold : List xL := [(3, 1, 2, 2, 12), (3, 1, 1, 1, 182), (3, 1, 5, 3, 185), (3, 13, 285, 40, 188)]
theorem kX2_isLifeTold : ∀ q ∈ lX2_isLifeTold, xLq RX2 q := List.forall_mem_cons.mpr ⟨lk_468, List.forall_mem_cons.mpr ⟨lk_496, List.forall_mem_cons.mpr ⟨lk_470, List.forall_mem_cons.mpr ⟨lk_472, fun _ h => absurd h List.not_mem_nil⟩⟩⟩⟩
theorem bX2_isLifeTold_ok : ∀ b ∈ bX2_isLifeTold, xbok RX2 cX2_isLifeTold b := xbF_ok (lk := lX2_isLifeTold) (ls := []) kX2_isLifeTold xno_sw (by decide +kernel)
set_option maxRecDepth 20000 in
theorem vX2_isLifeTold : xMok mX2_isLifeTold := ⟨⟨wc_7.1, xtc3 200 rfl rfl, wc_7.2.1, wc_7.2.2, by decide +kernel, by decide, rfl⟩, bX2_isLifeTold_ok⟩
def lX2_isTooMany : List xL := [(3, 1, 2, 7, 50), (3, 1, 2, 8, 54), (3, 1, 2, 2, 12), (3, 13, 243, 8, 172), (3, 13, 289, 40, 176), (3, 1, 2, 3, 18), (3, 13, 248, 16, 179)]
theorem kX2_isTooMany : ∀ q ∈ lX2_isTooMany, xLq RX2 q := List.forall_mem_cons.mpr ⟨lk_497, List.forall_mem_cons.mpr ⟨lk_498, List.forall_mem_cons.mpr ⟨lk_468, List.forall_mem_cons.mpr ⟨lk_499, List.forall_mem_cons.mpr ⟨lk_500, List.forall_mem_cons.mpr ⟨lk_491, List.forall_mem_cons.mpr ⟨lk_501, fun _ h => absurd h List.not_mem_nil⟩⟩⟩⟩⟩⟩⟩
theorem bX2_isTooMany_ok : ∀ b ∈ bX2_isTooMany, xbok RX2 cX2_isTooMany b := xbF_ok (lk := lX2_isTooMany) (ls := []) kX2_isTooMany xno_sw (by decide +kernel)
set_option maxRecDepth 20000 in
theorem vX2_isTooMany : xMok mX2_isTooMany := ⟨⟨wc_7.1, xtc3 188 rfl rfl, wc_7.2.1, wc_7.2.2, by decide +kernel, by decide, rfl⟩, bX2_isTooMany_ok⟩
def lX2_readFilm : List xL := [(3, 1, 2, 2, 12), (3, 13, 240, 8, 47), (3, 59, 2, 7, 50), (3, 59, 2, 8, 54), (3, 14, 2, 9, 57), (3, 1, 2, 1, 43), (3, 1, 2, 0, 28), (3, 1, 9, 1, 61), (3, 13, 319, 64, 64), (3, 1, 1, 9, 68), (3, 1, 8, 2, 71), (3, 13, 252, 16, 74), (3, 1, 8, 3, 78), (3, 13, 326, 72, 81), (3, 14, 1, 9, 68), (3, 13, 245, 16, 85), (3, 1, 2, 9, 57), (3, 1, 2, 10, 88), (3, 1, 9, 4, 91), (3, 13, 241, 8, 94), (3, 1, 9, 5, 98), (3, 13, 283, 40, 102), (3, 1, 9, 8, 105)]
theorem kX2_readFilm : ∀ q ∈ lX2_readFilm, xLq RX2 q := List.forall_mem_cons.mpr ⟨lk_468, List.forall_mem_cons.mpr ⟨lk_502, List.forall_mem_cons.mpr ⟨lk_503, List.forall_mem_cons.mpr ⟨lk_504, List.forall_mem_cons.mpr ⟨lk_475, List.forall_mem_cons.mpr ⟨lk_505, List.forall_mem_cons.mpr ⟨lk_506, List.forall_mem_cons.mpr ⟨lk_507, List.forall_mem_cons.mpr ⟨lk_508, List.forall_mem_cons.mpr ⟨lk_509, List.forall_mem_cons.mpr ⟨lk_510, List.forall_mem_cons.mpr ⟨lk_511, List.forall_mem_cons.mpr ⟨lk_512, List.forall_mem_cons.mpr ⟨lk_513, List.forall_mem_cons.mpr ⟨lk_514, List.forall_mem_cons.mpr ⟨lk_515, List.forall_mem_cons.mpr ⟨lk_467, List.forall_mem_cons.mpr ⟨lk_516, List.forall_mem_cons.mpr ⟨lk_517, List.forall_mem_cons.mpr ⟨lk_518, List.forall_mem_cons.mpr ⟨lk_519, List.forall_mem_cons.mpr ⟨lk_520, List.forall_mem_cons.mpr ⟨lk_521, fun _ h => absurd h List.not_mem_nil⟩⟩⟩⟩⟩⟩⟩⟩⟩⟩⟩⟩⟩⟩⟩⟩⟩⟩⟩⟩⟩⟩⟩
theorem bX2_readFilm_ok : ∀ b ∈ bX2_readFilm, xbok RX2 cX2_readFilm b := xbF_ok (lk := lX2_readFilm) (ls := []) kX2_readFilm xno_sw (by decide +kernel)
set_option maxRecDepth 20000 in
theorem vX2_readFilm : xMok mX2_readFilm := ⟨⟨wc_7.1, xtc3 68 rfl rfl, wc_7.2.1, wc_7.2.2, by decide +kernel, by decide, rfl⟩, bX2_readFilm_ok⟩
def lX2_readGlue : List xL := [(3, 1, 2, 1, 43), (2, 72, 0, 0, 151), (3, 13, 318, 64, 135), (3, 59, 2, 6, 153), (3, 1, 2, 6, 153), (2, 72, 1, 0, 156), (3, 13, 312, 64, 112)]
theorem kX2_readGlue : ∀ q ∈ lX2_readGlue, xLq RX2 q := List.forall_mem_cons.mpr ⟨lk_505, List.forall_mem_cons.mpr ⟨lk_522, List.forall_mem_cons.mpr ⟨lk_523, List.forall_mem_cons.mpr ⟨lk_524, List.forall_mem_cons.mpr ⟨lk_525, List.forall_mem_cons.mpr ⟨lk_526, List.forall_mem_cons.mpr ⟨lk_527, fun _ h => absurd h List.not_mem_nil⟩⟩⟩⟩⟩⟩⟩
theorem bX2_readGlue_ok : ∀ b ∈ bX2_readGlue, xbok RX2 cX2_readGlue b := xbF_ok (lk := lX2_readGlue) (ls := []) kX2_readGlue xno_sw (by decide +kernel)
set_option maxRecDepth 20000 in
theorem vX2_readGlue : xMok mX2_readGlue := ⟨⟨wc_7.1, xtc3 174 rfl rfl, wc_7.2.1, wc_7.2.2, by decide +kernel, by decide, rfl⟩, bX2_readGlue_ok⟩
def lX2_readLine : List xL := [(3, 13, 253, 16, 108), (3, 1, 2, 1, 43), (3, 1, 8, 3, 78), (3, 13, 312, 64, 112), (3, 37, 1, 0, 115), (3, 1, 8, 2, 71), (3, 1, 2, 3, 18), (3, 1, 8, 5, 118), (3, 1, 2, 4, 22), (3, 13, 251, 16, 121), (3, 13, 316, 64, 124), (3, 1, 2, 9, 57), (3, 13, 247, 16, 128), (3, 13, 254, 16, 132)]
theorem kX2_readLine : ∀ q ∈ lX2_readLine, xLq RX2 q := List.forall_mem_cons.mpr ⟨lk_528, List.forall_mem_cons.mpr ⟨lk_505, List.forall_mem_cons.mpr ⟨lk_512, List.forall_mem_cons.mpr ⟨lk_527, List.forall_mem_cons.mpr ⟨lk_490, List.forall_mem_cons.mpr ⟨lk_510, List.forall_mem_cons.mpr ⟨lk_491, List.forall_mem_cons.mpr ⟨lk_529, List.forall_mem_cons.mpr ⟨lk_495, List.forall_mem_cons.mpr ⟨lk_530, List.forall_mem_cons.mpr ⟨lk_531, List.forall_mem_cons.mpr ⟨lk_467, List.forall_mem_cons.mpr ⟨lk_532, List.forall_mem_cons.mpr ⟨lk_533, fun _ h => absurd h List.not_mem_nil⟩⟩⟩⟩⟩⟩⟩⟩⟩⟩⟩⟩⟩⟩
theorem bX2_readLine_ok : ∀ b ∈ bX2_readLine, xbok RX2 cX2_readLine b := xbF_ok (lk := lX2_readLine) (ls := []) kX2_readLine xno_sw (by decide +kernel)
set_option maxRecDepth 20000 in
theorem vX2_readLine : xMok mX2_readLine := ⟨⟨wc_7.1, xtc3 104 rfl rfl, wc_7.2.1, wc_7.2.2, by decide +kernel, by decide, rfl⟩, bX2_readLine_ok⟩
def lX2_sortOfWord : List xL := [(3, 1, 2, 1, 43), (2, 72, 2, 0, 133), (3, 13, 318, 64, 135), (2, 72, 3, 0, 139), (2, 72, 4, 0, 141), (2, 72, 5, 0, 143), (2, 72, 6, 0, 145), (2, 72, 7, 0, 147), (2, 72, 8, 0, 149)]
theorem kX2_sortOfWord : ∀ q ∈ lX2_sortOfWord, xLq RX2 q := List.forall_mem_cons.mpr ⟨lk_505, List.forall_mem_cons.mpr ⟨lk_534, List.forall_mem_cons.mpr ⟨lk_523, List.forall_mem_cons.mpr ⟨lk_535, List.forall_mem_cons.mpr ⟨lk_536, List.forall_mem_cons.mpr ⟨lk_537, List.forall_mem_cons.mpr ⟨lk_538, List.forall_mem_cons.mpr ⟨lk_539, List.forall_mem_cons.mpr ⟨lk_540, fun _ h => absurd h List.not_mem_nil⟩⟩⟩⟩⟩⟩⟩⟩⟩
theorem bX2_sortOfWord_ok : ∀ b ∈ bX2_sortOfWord, xbok RX2 cX2_sortOfWord b := xbF_ok (lk := lX2_sortOfWord) (ls := []) kX2_sortOfWord xno_sw (by decide +kernel)
set_option maxRecDepth 20000 in
theorem vX2_sortOfWord : xMok mX2_sortOfWord := ⟨⟨wc_7.1, xtc3 108 rfl rfl, wc_7.2.1, wc_7.2.2, by decide +kernel, by decide, rfl⟩, bX2_sortOfWord_ok⟩
def lX2_take : List xL := [(3, 1, 2, 2, 12), (3, 1, 2, 3, 18), (3, 14, 1, 5, 192), (3, 14, 1, 6, 195), (3, 59, 2, 7, 50), (3, 14, 1, 7, 198), (3, 14, 1, 8, 201), (3, 59, 2, 8, 54), (3, 13, 243, 8, 172), (3, 13, 289, 40, 176), (3, 13, 286, 40, 204), (3, 37, 1, 0, 115), (3, 13, 290, 40, 207), (3, 1, 2, 6, 153), (3, 1, 2, 5, 25)]
theorem kX2_take : ∀ q ∈ lX2_take, xLq RX2 q := List.forall_mem_cons.mpr ⟨lk_468, List.forall_mem_cons.mpr ⟨lk_491, List.forall_mem_cons.mpr ⟨lk_541, List.forall_mem_cons.mpr ⟨lk_542, List.forall_mem_cons.mpr ⟨lk_503, List.forall_mem_cons.mpr ⟨lk_543, List.forall_mem_cons.mpr ⟨lk_544, List.forall_mem_cons.mpr ⟨lk_504, List.forall_mem_cons.mpr ⟨lk_499, List.forall_mem_cons.mpr ⟨lk_500, List.forall_mem_cons.mpr ⟨lk_545, List.forall_mem_cons.mpr ⟨lk_490, List.forall_mem_cons.mpr ⟨lk_546, List.forall_mem_cons.mpr ⟨lk_525, List.forall_mem_cons.mpr ⟨lk_471, fun _ h => absurd h List.not_mem_nil⟩⟩⟩⟩⟩⟩⟩⟩⟩⟩⟩⟩⟩⟩⟩
theorem bX2_take_ok : ∀ b ∈ bX2_take, xbok RX2 cX2_take b := xbF_ok (lk := lX2_take) (ls := []) kX2_take xno_sw (by decide +kernel)
set_option maxRecDepth 20000 in
theorem vX2_take : xMok mX2_take := ⟨⟨wc_7.1, xtc3 215 rfl rfl, wc_7.2.1, wc_7.2.2, by decide +kernel, by decide, rfl⟩, bX2_take_ok⟩
def lX3_addPicture : List xL := [(3, 1, 3, 0, 21), (3, 1, 9, 8, 38), (3, 13, 285, 40, 54), (3, 63, 0, 0, 58), (3, 62, 0, 0, 63), (3, 1, 3, 1, 9)]
theorem kX3_addPicture : ∀ q ∈ lX3_addPicture, xLq RX3 q := List.forall_mem_cons.mpr ⟨lk_547, List.forall_mem_cons.mpr ⟨lk_548, List.forall_mem_cons.mpr ⟨lk_549, List.forall_mem_cons.mpr ⟨lk_550, List.forall_mem_cons.mpr ⟨lk_551, List.forall_mem_cons.mpr ⟨lk_552, fun _ h => absurd h List.not_mem_nil⟩⟩⟩⟩⟩⟩
theorem bX3_addPicture_ok : ∀ b ∈ bX3_addPicture, xbok RX3 cX3_addPicture b := xbF_ok (lk := lX3_addPicture) (ls := []) kX3_addPicture xno_sw (by decide +kernel)
theorem wc_8 : plainName RX3 = true ∧ Cond.initialized RX3 ∈ lw_gt ∧ (RX3 ≠ "java/lang/invoke/MethodHandle" ∧ RX3 ≠ "java/lang/invoke/VarHandle") := ⟨by decide +kernel, xtc1 10 rfl rfl, by decide +kernel, by decide +kernel⟩
set_option maxRecDepth 20000 in
theorem vX3_addPicture : xMok mX3_addPicture := ⟨⟨wc_8.1, xtc5 75 rfl rfl, wc_8.2.1, wc_8.2.2, by decide +kernel, by decide, rfl⟩, bX3_addPicture_ok⟩
def lX3_agingIn : List xL := [(3, 1, 3, 0, 21), (3, 1, 9, 4, 66), (3, 1, 1, 8, 73), (3, 1, 3, 1, 9)]
theorem kX3_agingIn : ∀ q ∈ lX3_agingIn, xLq RX3 q := List.forall_mem_cons.mpr ⟨lk_547, List.forall_mem_cons.mpr ⟨lk_553, List.forall_mem_cons.mpr ⟨lk_554, List.forall_mem_cons.mpr ⟨lk_552, fun _ h => absurd h List.not_mem_nil⟩⟩⟩⟩
theorem bX3_agingIn_ok : ∀ b ∈ bX3_agingIn, xbok RX3 cX3_agingIn b := xbF_ok (lk := lX3_agingIn) (ls := []) kX3_agingIn xno_sw (by decide +kernel)
set_option maxRecDepth 20000 in
theorem vX3_agingIn : xMok mX3_agingIn := ⟨⟨wc_8.1, xtc5 154 rfl rfl, wc_8.2.1, wc_8.2.2, by decide +kernel, by decide, rfl⟩, bX3_agingIn_ok⟩
def lX3_creepOn : List xL := [(3, 1, 3, 0, 21), (3, 1, 9, 4, 66), (3, 1, 1, 7, 70), (3, 1, 1, 8, 73), (3, 13, 258, 24, 87), (3, 1, 3, 3, 18), (3, 1, 3, 2, 15), (3, 58, 0, 0, 90)]
theorem kX3_creepOn : ∀ q ∈ lX3_creepOn, xLq RX3 q := List.forall_mem_cons.mpr ⟨lk_547, List.forall_mem_cons.mpr ⟨lk_553, List.forall_mem_cons.mpr ⟨lk_555, List.forall_mem_cons.mpr ⟨lk_554, List.forall_mem_cons.mpr ⟨lk_556, List.forall_mem_cons.mpr ⟨lk_557, List.forall_mem_cons.mpr ⟨lk_558, List.forall_mem_cons.mpr ⟨lk_559, fun _ h => absurd h List.not_mem_nil⟩⟩⟩⟩⟩⟩⟩⟩
theorem bX3_creepOn_ok : ∀ b ∈ bX3_creepOn, xbok RX3 cX3_creepOn b := xbF_ok (lk := lX3_creepOn) (ls := []) kX3_creepOn xno_sw (by decide +kernel)
set_option maxRecDepth 20000 in
theorem vX3_creepOn : xMok mX3_creepOn := ⟨⟨wc_8.1, xtc5 109 rfl rfl, wc_8.2.1, wc_8.2.2, by decide +kernel, by decide, rfl⟩, bX3_creepOn_ok⟩
def lX3_dampAt : List xL := [(3, 1, 3, 0, 21), (3, 1, 9, 4, 66), (3, 1, 1, 7, 70), (3, 1, 1, 8, 73), (3, 1, 3, 2, 15)]
theorem kX3_dampAt : ∀ q ∈ lX3_dampAt, xLq RX3 q := List.forall_mem_cons.mpr ⟨lk_547, List.forall_mem_cons.mpr ⟨lk_553, List.forall_mem_cons.mpr ⟨lk_555, List.forall_mem_cons.mpr ⟨lk_554, List.forall_mem_cons.mpr ⟨lk_558, fun _ h => absurd h List.not_mem_nil⟩⟩⟩⟩⟩
theorem bX3_dampAt_ok : ∀ b ∈ bX3_dampAt, xbok RX3 cX3_dampAt b := xbF_ok (lk := lX3_dampAt) (ls := []) kX3_dampAt xno_sw (by decide +kernel)
set_option maxRecDepth 20000 in
theorem vX3_dampAt : xMok mX3_dampAt := ⟨⟨wc_8.1, xtc5 113 rfl rfl, wc_8.2.1, wc_8.2.2, by decide +kernel, by decide, rfl⟩, bX3_dampAt_ok⟩
def lX3_forgetAges : List xL := [(3, 59, 3, 4, 25)]
theorem kX3_forgetAges : ∀ q ∈ lX3_forgetAges, xLq RX3 q := List.forall_mem_cons.mpr ⟨lk_560, fun _ h => absurd h List.not_mem_nil⟩
theorem bX3_forgetAges_ok : ∀ b ∈ bX3_forgetAges, xbok RX3 cX3_forgetAges b := xbF_ok (lk := lX3_forgetAges) (ls := []) kX3_forgetAges xno_sw (by decide +kernel)
set_option maxRecDepth 20000 in
theorem vX3_forgetAges : xMok mX3_forgetAges := ⟨⟨wc_8.1, xtc4 24 rfl rfl, wc_8.2.1, wc_8.2.2, by decide +kernel, by decide, rfl⟩, bX3_forgetAges_ok⟩
def lX3_forgetDamp : List xL := [(3, 59, 3, 5, 29)]
theorem kX3_forgetDamp : ∀ q ∈ lX3_forgetDamp, xLq RX3 q := List.forall_mem_cons.mpr ⟨lk_561, fun _ h => absurd h List.not_mem_nil⟩
theorem bX3_forgetDamp_ok : ∀ b ∈ bX3_forgetDamp, xbok RX3 cX3_forgetDamp b := xbF_ok (lk := lX3_forgetDamp) (ls := []) kX3_forgetDamp xno_sw (by decide +kernel)
set_option maxRecDepth 20000 in
theorem vX3_forgetDamp : xMok mX3_forgetDamp := ⟨⟨wc_8.1, xtc4 28 rfl rfl, wc_8.2.1, wc_8.2.2, by decide +kernel, by decide, rfl⟩, bX3_forgetDamp_ok⟩
def lX3_init : List xL := [(3, 25, 0, 0, 1), (3, 61, 3, 1, 9), (3, 61, 3, 2, 15), (3, 61, 3, 3, 18), (3, 61, 3, 0, 21)]
theorem kX3_init : ∀ q ∈ lX3_init, xLq RX3 q := List.forall_mem_cons.mpr ⟨lk_562, List.forall_mem_cons.mpr ⟨lk_563, List.forall_mem_cons.mpr ⟨lk_564, List.forall_mem_cons.mpr ⟨lk_565, List.forall_mem_cons.mpr ⟨lk_566, fun _ h => absurd h List.not_mem_nil⟩⟩⟩⟩⟩
theorem bX3_init_ok : ∀ b ∈ bX3_init, xbok RX3 cX3_init b := xbF_ok (lk := lX3_init) (ls := []) kX3_init xno_sw (by decide +kernel)
set_option maxRecDepth 20000 in
theorem vX3_init : xMok mX3_init := ⟨⟨wc_8.1, xtc2 161 rfl rfl, wc_8.2.1, wc_8.2.2, by decide +kernel, by decide, rfl⟩, bX3_init_ok⟩
def lX3_isDamp : List xL := [(3, 1, 3, 2, 15)]
theorem kX3_isDamp : ∀ q ∈ lX3_isDamp, xLq RX3 q := List.forall_mem_cons.mpr ⟨lk_558, fun _ h => absurd h List.not_mem_nil⟩
theorem bX3_isDamp_ok : ∀ b ∈ bX3_isDamp, xbok RX3 cX3_isDamp b := xbF_ok (lk := lX3_isDamp) (ls := []) kX3_isDamp xno_sw (by decide +kernel)
set_option maxRecDepth 20000 in
theorem vX3_isDamp : xMok mX3_isDamp := ⟨⟨wc_8.1, xtc5 130 rfl rfl, wc_8.2.1, wc_8.2.2, by decide +kernel, by decide, rfl⟩, bX3_isDamp_ok⟩
def lX3_leftOf : List xL := [(3, 1, 3, 1, 9), (3, 62, 0, 0, 63)]
theorem kX3_leftOf : ∀ q ∈ lX3_leftOf, xLq RX3 q := List.forall_mem_cons.mpr ⟨lk_552, List.forall_mem_cons.mpr ⟨lk_551, fun _ h => absurd h List.not_mem_nil⟩⟩
theorem bX3_leftOf_ok : ∀ b ∈ bX3_leftOf, xbok RX3 cX3_leftOf b := xbF_ok (lk := lX3_leftOf) (ls := []) kX3_leftOf xno_sw (by decide +kernel)
set_option maxRecDepth 20000 in
theorem vX3_leftOf : xMok mX3_leftOf := ⟨⟨wc_8.1, xtc5 84 rfl rfl, wc_8.2.1, wc_8.2.2, by decide +kernel, by decide, rfl⟩, bX3_leftOf_ok⟩
def lX3_leftSpread : List xL := [(3, 1, 3, 0, 21), (3, 1, 9, 4, 66), (3, 1, 1, 7, 70), (3, 1, 1, 8, 73), (3, 13, 263, 24, 76), (3, 63, 0, 0, 58), (3, 62, 0, 0, 63)]
theorem kX3_leftSpread : ∀ q ∈ lX3_leftSpread, xLq RX3 q := List.forall_mem_cons.mpr ⟨lk_547, List.forall_mem_cons.mpr ⟨lk_553, List.forall_mem_cons.mpr ⟨lk_555, List.forall_mem_cons.mpr ⟨lk_554, List.forall_mem_cons.mpr ⟨lk_567, List.forall_mem_cons.mpr ⟨lk_550, List.forall_mem_cons.mpr ⟨lk_551, fun _ h => absurd h List.not_mem_nil⟩⟩⟩⟩⟩⟩⟩
theorem bX3_leftSpread_ok : ∀ b ∈ bX3_leftSpread, xbok RX3 cX3_leftSpread b := xbF_ok (lk := lX3_leftSpread) (ls := []) kX3_leftSpread xno_sw (by decide +kernel)
set_option maxRecDepth 20000 in
theorem vX3_leftSpread : xMok mX3_leftSpread := ⟨⟨wc_8.1, xtc5 92 rfl rfl, wc_8.2.1, wc_8.2.2, by decide +kernel, by decide, rfl⟩, bX3_leftSpread_ok⟩
def lX3_refreshAges : List xL := [(3, 1, 3, 4, 25), (3, 1, 3, 1, 9), (3, 13, 1, 2, 32), (3, 1, 3, 0, 21), (3, 1, 9, 8, 38), (3, 1, 5, 3, 44), (3, 13, 255, 24, 50), (3, 59, 3, 4, 25)]
theorem kX3_refreshAges : ∀ q ∈ lX3_refreshAges, xLq RX3 q := List.forall_mem_cons.mpr ⟨lk_568, List.forall_mem_cons.mpr ⟨lk_552, List.forall_mem_cons.mpr ⟨lk_569, List.forall_mem_cons.mpr ⟨lk_547, List.forall_mem_cons.mpr ⟨lk_548, List.forall_mem_cons.mpr ⟨lk_570, List.forall_mem_cons.mpr ⟨lk_571, List.forall_mem_cons.mpr ⟨lk_560, fun _ h => absurd h List.not_mem_nil⟩⟩⟩⟩⟩⟩⟩⟩
theorem bX3_refreshAges_ok : ∀ b ∈ bX3_refreshAges, xbok RX3 cX3_refreshAges b := xbF_ok (lk := lX3_refreshAges) (ls := []) kX3_refreshAges xno_sw (by decide +kernel)
set_option maxRecDepth 20000 in
theorem vX3_refreshAges : xMok mX3_refreshAges := ⟨⟨wc_8.1, xtc5 70 rfl rfl, wc_8.2.1, wc_8.2.2, by decide +kernel, by decide, rfl⟩, bX3_refreshAges_ok⟩
def lX3_refreshDamp : List xL := [(3, 1, 3, 5, 29), (3, 1, 3, 2, 15), (3, 13, 1, 2, 32), (3, 1, 3, 0, 21), (3, 1, 9, 9, 80), (3, 13, 257, 24, 83), (3, 59, 3, 5, 29)]
theorem kX3_refreshDamp : ∀ q ∈ lX3_refreshDamp, xLq RX3 q := List.forall_mem_cons.mpr ⟨lk_572, List.forall_mem_cons.mpr ⟨lk_558, List.forall_mem_cons.mpr ⟨lk_569, List.forall_mem_cons.mpr ⟨lk_547, List.forall_mem_cons.mpr ⟨lk_573, List.forall_mem_cons.mpr ⟨lk_574, List.forall_mem_cons.mpr ⟨lk_561, fun _ h => absurd h List.not_mem_nil⟩⟩⟩⟩⟩⟩⟩
theorem bX3_refreshDamp_ok : ∀ b ∈ bX3_refreshDamp, xbok RX3 cX3_refreshDamp b := xbF_ok (lk := lX3_refreshDamp) (ls := []) kX3_refreshDamp xno_sw (by decide +kernel)
set_option maxRecDepth 20000 in
theorem vX3_refreshDamp : xMok mX3_refreshDamp := ⟨⟨wc_8.1, xtc5 105 rfl rfl, wc_8.2.1, wc_8.2.2, by decide +kernel, by decide, rfl⟩, bX3_refreshDamp_ok⟩
def lX3_roundsOfLamp : List xL := [(3, 1, 3, 0, 21), (3, 1, 9, 4, 66), (3, 1, 1, 8, 73), (3, 13, 256, 24, 100)]
theorem kX3_roundsOfLamp : ∀ q ∈ lX3_roundsOfLamp, xLq RX3 q := List.forall_mem_cons.mpr ⟨lk_547, List.forall_mem_cons.mpr ⟨lk_553, List.forall_mem_cons.mpr ⟨lk_554, List.forall_mem_cons.mpr ⟨lk_575, fun _ h => absurd h List.not_mem_nil⟩⟩⟩⟩
theorem bX3_roundsOfLamp_ok : ∀ b ∈ bX3_roundsOfLamp, xbok RX3 cX3_roundsOfLamp b := xbF_ok (lk := lX3_roundsOfLamp) (ls := []) kX3_roundsOfLamp xno_sw (by decide +kernel)
set_option maxRecDepth 20000 in
theorem vX3_roundsOfLamp : xMok mX3_roundsOfLamp := ⟨⟨wc_8.1, xtc5 150 rfl rfl, wc_8.2.1, wc_8.2.2, by decide +kernel, by decide, rfl⟩, bX3_roundsOfLamp_ok⟩
def lX3_roundsWith : List xL := [(3, 1, 3, 0, 21), (3, 1, 9, 4, 66), (3, 1, 1, 7, 70), (3, 1, 1, 8, 73), (3, 13, 267, 24, 96), (3, 63, 0, 0, 58)]
theorem kX3_roundsWith : ∀ q ∈ lX3_roundsWith, xLq RX3 q := List.forall_mem_cons.mpr ⟨lk_547, List.forall_mem_cons.mpr ⟨lk_553, List.forall_mem_cons.mpr ⟨lk_555, List.forall_mem_cons.mpr ⟨lk_554, List.forall_mem_cons.mpr ⟨lk_576, List.forall_mem_cons.mpr ⟨lk_550, fun _ h => absurd h List.not_mem_nil⟩⟩⟩⟩⟩⟩
theorem bX3_roundsWith_ok : ∀ b ∈ bX3_roundsWith, xbok RX3 cX3_roundsWith b := xbF_ok (lk := lX3_roundsWith) (ls := []) kX3_roundsWith xno_sw (by decide +kernel)
set_option maxRecDepth 20000 in
theorem vX3_roundsWith : xMok mX3_roundsWith := ⟨⟨wc_8.1, xtc5 146 rfl rfl, wc_8.2.1, wc_8.2.2, by decide +kernel, by decide, rfl⟩, bX3_roundsWith_ok⟩
def lX4_barsAll : List xL := [(3, 1, 4, 1, 11)]
theorem kX4_barsAll : ∀ q ∈ lX4_barsAll, xLq RX4 q := List.forall_mem_cons.mpr ⟨lk_577, fun _ h => absurd h List.not_mem_nil⟩
theorem bX4_barsAll_ok : ∀ b ∈ bX4_barsAll, xbok RX4 cX4_barsAll b := xbF_ok (lk := lX4_barsAll) (ls := []) kX4_barsAll xno_sw (by decide +kernel)
theorem wc_9 : plainName RX4 = true ∧ Cond.initialized RX4 ∈ lw_gt ∧ (RX4 ≠ "java/lang/invoke/MethodHandle" ∧ RX4 ≠ "java/lang/invoke/VarHandle") := ⟨by decide +kernel, xtc1 12 rfl rfl, by decide +kernel, by decide +kernel⟩
set_option maxRecDepth 20000 in
theorem vX4_barsAll : xMok mX4_barsAll := ⟨⟨wc_9.1, xtc6 79 rfl rfl, wc_9.2.1, wc_9.2.2, by decide +kernel, by decide, rfl⟩, bX4_barsAll_ok⟩
def lX4_bitOf : List xL := []
theorem kX4_bitOf : ∀ q ∈ lX4_bitOf, xLq RX4 q := fun _ h => absurd h List.not_mem_nil
theorem bX4_bitOf_ok : ∀ b ∈ bX4_bitOf, xbok RX4 cX4_bitOf b := xbF_ok (lk := lX4_bitOf) (ls := []) kX4_bitOf xno_sw (by decide +kernel)
set_option maxRecDepth 20000 in
theorem vX4_bitOf : xMok mX4_bitOf := ⟨⟨wc_9.1, xtc6 43 rfl rfl, wc_9.2.1, wc_9.2.2, by decide +kernel, by decide, rfl⟩, bX4_bitOf_ok⟩
def lX4_countTries : List xL := [(3, 1, 4, 2, 15), (3, 13, 1, 2, 94), (3, 1, 4, 3, 18), (3, 1, 4, 1, 11), (3, 13, 282, 34, 54)]
theorem kX4_countTries : ∀ q ∈ lX4_countTries, xLq RX4 q := List.forall_mem_cons.mpr ⟨lk_578, List.forall_mem_cons.mpr ⟨lk_579, List.forall_mem_cons.mpr ⟨lk_580, List.forall_mem_cons.mpr ⟨lk_577, List.forall_mem_cons.mpr ⟨lk_581, fun _ h => absurd h List.not_mem_nil⟩⟩⟩⟩⟩
theorem bX4_countTries_ok : ∀ b ∈ bX4_countTries, xbok RX4 cX4_countTries b := xbF_ok (lk := lX4_countTries) (ls := []) kX4_countTries xno_sw (by decide +kernel)
set_option maxRecDepth 20000 in
theorem vX4_countTries : xMok mX4_countTries := ⟨⟨wc_9.1, xtc6 95 rfl rfl, wc_9.2.1, wc_9.2.2, by decide +kernel, by decide, rfl⟩, bX4_countTries_ok⟩
def lX4_forget : List xL := [(3, 59, 4, 9, 25), (3, 59, 4, 10, 29), (3, 59, 4, 11, 32)]
theorem kX4_forget : ∀ q ∈ lX4_forget, xLq RX4 q := List.forall_mem_cons.mpr ⟨lk_582, List.forall_mem_cons.mpr ⟨lk_583, List.forall_mem_cons.mpr ⟨lk_584, fun _ h => absurd h List.not_mem_nil⟩⟩⟩
theorem bX4_forget_ok : ∀ b ∈ bX4_forget, xbok RX4 cX4_forget b := xbF_ok (lk := lX4_forget) (ls := []) kX4_forget xno_sw (by decide +kernel)
set_option maxRecDepth 20000 in
theorem vX4_forget : xMok mX4_forget := ⟨⟨wc_9.1, xtc6 24 rfl rfl, wc_9.2.1, wc_9.2.2, by decide +kernel, by decide, rfl⟩, bX4_forget_ok⟩
def lX4_init : List xL := [(3, 25, 0, 0, 3), (3, 61, 4, 1, 11), (3, 61, 4, 2, 15), (3, 61, 4, 3, 18), (3, 61, 4, 0, 21)]
theorem kX4_init : ∀ q ∈ lX4_init, xLq RX4 q := List.forall_mem_cons.mpr ⟨lk_585, List.forall_mem_cons.mpr ⟨lk_586, List.forall_mem_cons.mpr ⟨lk_587, List.forall_mem_cons.mpr ⟨lk_588, List.forall_mem_cons.mpr ⟨lk_589, fun _ h => absurd h List.not_mem_nil⟩⟩⟩⟩⟩
theorem bX4_init_ok : ∀ b ∈ bX4_init, xbok RX4 cX4_init b := xbF_ok (lk := lX4_init) (ls := []) kX4_init xno_sw (by decide +kernel)
set_option maxRecDepth 20000 in
theorem vX4_init : xMok mX4_init := ⟨⟨wc_9.1, xtc2 212 rfl rfl, wc_9.2.1, wc_9.2.2, by decide +kernel, by decide, rfl⟩, bX4_init_ok⟩
def lX4_keptAt : List xL := [(3, 1, 4, 1, 11)]
theorem kX4_keptAt : ∀ q ∈ lX4_keptAt, xLq RX4 q := List.forall_mem_cons.mpr ⟨lk_577, fun _ h => absurd h List.not_mem_nil⟩
theorem bX4_keptAt_ok : ∀ b ∈ bX4_keptAt, xbok RX4 cX4_keptAt b := xbF_ok (lk := lX4_keptAt) (ls := []) kX4_keptAt xno_sw (by decide +kernel)
set_option maxRecDepth 20000 in
theorem vX4_keptAt : xMok mX4_keptAt := ⟨⟨wc_9.1, xtc6 51 rfl rfl, wc_9.2.1, wc_9.2.2, by decide +kernel, by decide, rfl⟩, bX4_keptAt_ok⟩
def lX4_quarrelAt : List xL := [(3, 1, 4, 0, 21), (3, 1, 5, 3, 43), (3, 1, 4, 5, 71), (3, 13, 270, 34, 57)]
theorem kX4_quarrelAt : ∀ q ∈ lX4_quarrelAt, xLq RX4 q := List.forall_mem_cons.mpr ⟨lk_590, List.forall_mem_cons.mpr ⟨lk_591, List.forall_mem_cons.mpr ⟨lk_592, List.forall_mem_cons.mpr ⟨lk_593, fun _ h => absurd h List.not_mem_nil⟩⟩⟩⟩
theorem bX4_quarrelAt_ok : ∀ b ∈ bX4_quarrelAt, xbok RX4 cX4_quarrelAt b := xbF_ok (lk := lX4_quarrelAt) (ls := []) kX4_quarrelAt xno_sw (by decide +kernel)
set_option maxRecDepth 20000 in
theorem vX4_quarrelAt : xMok mX4_quarrelAt := ⟨⟨wc_9.1, xtc6 83 rfl rfl, wc_9.2.1, wc_9.2.2, by decide +kernel, by decide, rfl⟩, bX4_quarrelAt_ok⟩
def lX4_refresh : List xL := [(3, 1, 4, 9, 25), (3, 14, 4, 4, 35), (3, 1, 4, 1, 11), (3, 13, 281, 32, 39), (3, 1, 4, 4, 35), (3, 59, 4, 9, 25)]
theorem kX4_refresh : ∀ q ∈ lX4_refresh, xLq RX4 q := List.forall_mem_cons.mpr ⟨lk_594, List.forall_mem_cons.mpr ⟨lk_595, List.forall_mem_cons.mpr ⟨lk_577, List.forall_mem_cons.mpr ⟨lk_596, List.forall_mem_cons.mpr ⟨lk_597, List.forall_mem_cons.mpr ⟨lk_582, fun _ h => absurd h List.not_mem_nil⟩⟩⟩⟩⟩⟩
theorem bX4_refresh_ok : ∀ b ∈ bX4_refresh, xbok RX4 cX4_refresh b := xbF_ok (lk := lX4_refresh) (ls := []) kX4_refresh xno_sw (by decide +kernel)
set_option maxRecDepth 20000 in
theorem vX4_refresh : xMok mX4_refresh := ⟨⟨wc_9.1, xtc6 32 rfl rfl, wc_9.2.1, wc_9.2.2, by decide +kernel, by decide, rfl⟩, bX4_refresh_ok⟩
def lX4_refreshNext : List xL := [(3, 1, 4, 11, 32), (3, 14, 4, 8, 81), (3, 13, 271, 32, 84), (3, 1, 4, 2, 15), (3, 1, 4, 3, 18), (3, 62, 0, 0, 68), (3, 1, 4, 8, 81), (3, 14, 4, 6, 88), (3, 14, 4, 7, 91), (3, 59, 4, 11, 32)]
theorem kX4_refreshNext : ∀ q ∈ lX4_refreshNext, xLq RX4 q := List.forall_mem_cons.mpr ⟨lk_598, List.forall_mem_cons.mpr ⟨lk_599, List.forall_mem_cons.mpr ⟨lk_600, List.forall_mem_cons.mpr ⟨lk_578, List.forall_mem_cons.mpr ⟨lk_580, List.forall_mem_cons.mpr ⟨lk_601, List.forall_mem_cons.mpr ⟨lk_602, List.forall_mem_cons.mpr ⟨lk_603, List.forall_mem_cons.mpr ⟨lk_604, List.forall_mem_cons.mpr ⟨lk_584, fun _ h => absurd h List.not_mem_nil⟩⟩⟩⟩⟩⟩⟩⟩⟩⟩
theorem bX4_refreshNext_ok : ∀ b ∈ bX4_refreshNext, xbok RX4 cX4_refreshNext b := xbF_ok (lk := lX4_refreshNext) (ls := []) kX4_refreshNext xno_sw (by decide +kernel)
set_option maxRecDepth 20000 in
theorem vX4_refreshNext : xMok mX4_refreshNext := ⟨⟨wc_9.1, xtc6 91 rfl rfl, wc_9.2.1, wc_9.2.2, by decide +kernel, by decide, rfl⟩, bX4_refreshNext_ok⟩
def lX4_refreshQuarrel : List xL := [(3, 1, 4, 10, 29), (3, 1, 4, 0, 21), (3, 1, 5, 3, 43), (3, 13, 270, 34, 57), (3, 14, 4, 5, 71), (3, 13, 0, 2, 74), (3, 13, 269, 32, 77), (3, 59, 4, 10, 29)]
theorem kX4_refreshQuarrel : ∀ q ∈ lX4_refreshQuarrel, xLq RX4 q := List.forall_mem_cons.mpr ⟨lk_605, List.forall_mem_cons.mpr ⟨lk_590, List.forall_mem_cons.mpr ⟨lk_591, List.forall_mem_cons.mpr ⟨lk_593, List.forall_mem_cons.mpr ⟨lk_606, List.forall_mem_cons.mpr ⟨lk_607, List.forall_mem_cons.mpr ⟨lk_608, List.forall_mem_cons.mpr ⟨lk_583, fun _ h => absurd h List.not_mem_nil⟩⟩⟩⟩⟩⟩⟩⟩
theorem bX4_refreshQuarrel_ok : ∀ b ∈ bX4_refreshQuarrel, xbok RX4 cX4_refreshQuarrel b := xbF_ok (lk := lX4_refreshQuarrel) (ls := []) kX4_refreshQuarrel xno_sw (by decide +kernel)
set_option maxRecDepth 20000 in
theorem vX4_refreshQuarrel : xMok mX4_refreshQuarrel := ⟨⟨wc_9.1, xtc6 74 rfl rfl, wc_9.2.1, wc_9.2.2, by decide +kernel, by decide, rfl⟩, bX4_refreshQuarrel_ok⟩
def lX4_spanEnd : List xL := [(3, 1, 4, 1, 11), (3, 13, 282, 34, 54), (3, 62, 0, 0, 68)]
theorem kX4_spanEnd : ∀ q ∈ lX4_spanEnd, xLq RX4 q := List.forall_mem_cons.mpr ⟨lk_577, List.forall_mem_cons.mpr ⟨lk_581, List.forall_mem_cons.mpr ⟨lk_601, fun _ h => absurd h List.not_mem_nil⟩⟩⟩
theorem bX4_spanEnd_ok : ∀ b ∈ bX4_spanEnd, xbok RX4 cX4_spanEnd b := xbF_ok (lk := lX4_spanEnd) (ls := []) kX4_spanEnd xno_sw (by decide +kernel)
set_option maxRecDepth 20000 in
theorem vX4_spanEnd : xMok mX4_spanEnd := ⟨⟨wc_9.1, xtc6 59 rfl rfl, wc_9.2.1, wc_9.2.2, by decide +kernel, by decide, rfl⟩, bX4_spanEnd_ok⟩
def lX4_spanStart : List xL := [(2, 35, 2147483647, 0, 62), (3, 1, 4, 1, 11), (3, 13, 282, 34, 54), (3, 63, 0, 0, 63)]
theorem kX4_spanStart : ∀ q ∈ lX4_spanStart, xLq RX4 q := List.forall_mem_cons.mpr ⟨lk_609, List.forall_mem_cons.mpr ⟨lk_577, List.forall_mem_cons.mpr ⟨lk_581, List.forall_mem_cons.mpr ⟨lk_610, fun _ h => absurd h List.not_mem_nil⟩⟩⟩⟩
theorem bX4_spanStart_ok : ∀ b ∈ bX4_spanStart, xbok RX4 cX4_spanStart b := xbF_ok (lk := lX4_spanStart) (ls := []) kX4_spanStart xno_sw (by decide +kernel)
set_option maxRecDepth 20000 in
theorem vX4_spanStart : xMok mX4_spanStart := ⟨⟨wc_9.1, xtc6 64 rfl rfl, wc_9.2.1, wc_9.2.2, by decide +kernel, by decide, rfl⟩, bX4_spanStart_ok⟩
def lX4_testsAgainst : List xL := [(3, 1, 4, 0, 21), (3, 1, 5, 3, 43), (3, 13, 285, 40, 50), (3, 13, 282, 34, 54), (3, 13, 270, 34, 57)]
theorem kX4_testsAgainst : ∀ q ∈ lX4_testsAgainst, xLq RX4 q := List.forall_mem_cons.mpr ⟨lk_590, List.forall_mem_cons.mpr ⟨lk_591, List.forall_mem_cons.mpr ⟨lk_611, List.forall_mem_cons.mpr ⟨lk_581, List.forall_mem_cons.mpr ⟨lk_593, fun _ h => absurd h List.not_mem_nil⟩⟩⟩⟩⟩
theorem bX4_testsAgainst_ok : ∀ b ∈ bX4_testsAgainst, xbok RX4 cX4_testsAgainst b := xbF_ok (lk := lX4_testsAgainst) (ls := []) kX4_testsAgainst xno_sw (by decide +kernel)
set_option maxRecDepth 20000 in
theorem vX4_testsAgainst : xMok mX4_testsAgainst := ⟨⟨wc_9.1, xtc6 36 rfl rfl, wc_9.2.1, wc_9.2.2, by decide +kernel, by decide, rfl⟩, bX4_testsAgainst_ok⟩
def lX4_unitAt : List xL := []
theorem kX4_unitAt : ∀ q ∈ lX4_unitAt, xLq RX4 q := fun _ h => absurd h List.not_mem_nil
theorem bX4_unitAt_ok : ∀ b ∈ bX4_unitAt, xbok RX4 cX4_unitAt b := xbF_ok (lk := lX4_unitAt) (ls := []) kX4_unitAt xno_sw (by decide +kernel)
set_option maxRecDepth 20000 in
theorem vX4_unitAt : xMok mX4_unitAt := ⟨⟨wc_9.1, xtc6 40 rfl rfl, wc_9.2.1, wc_9.2.2, by decide +kernel, by decide, rfl⟩, bX4_unitAt_ok⟩
def lX5_clear : List xL := [(3, 14, 5, 3, 22)]
theorem kX5_clear : ∀ q ∈ lX5_clear, xLq RX5 q := List.forall_mem_cons.mpr ⟨lk_612, fun _ h => absurd h List.not_mem_nil⟩
theorem bX5_clear_ok : ∀ b ∈ bX5_clear, xbok RX5 cX5_clear b := xbF_ok (lk := lX5_clear) (ls := []) kX5_clear xno_sw (by decide +kernel)
theorem wc_10 : plainName RX5 = true ∧ Cond.initialized RX5 ∈ lw_gt ∧ (RX5 ≠ "java/lang/invoke/MethodHandle" ∧ RX5 ≠ "java/lang/invoke/VarHandle") := ⟨by decide +kernel, xtc1 4 rfl rfl, by decide +kernel, by decide +kernel⟩
set_option maxRecDepth 20000 in
theorem vX5_clear : xMok mX5_clear := ⟨⟨wc_10.1, xtc3 76 rfl rfl, wc_10.2.1, wc_10.2.2, by decide +kernel, by decide, rfl⟩, bX5_clear_ok⟩
def lX5_copy : List xL := [(3, 1, 5, 0, 9), (3, 1, 5, 1, 15), (3, 1, 5, 3, 22), (3, 14, 5, 3, 22), (3, 1, 5, 2, 18), (3, 58, 0, 0, 33)]
theorem kX5_copy : ∀ q ∈ lX5_copy, xLq RX5 q := List.forall_mem_cons.mpr ⟨lk_613, List.forall_mem_cons.mpr ⟨lk_614, List.forall_mem_cons.mpr ⟨lk_615, List.forall_mem_cons.mpr ⟨lk_612, List.forall_mem_cons.mpr ⟨lk_616, List.forall_mem_cons.mpr ⟨lk_617, fun _ h => absurd h List.not_mem_nil⟩⟩⟩⟩⟩⟩
theorem bX5_copy_ok : ∀ b ∈ bX5_copy, xbok RX5 cX5_copy b := xbF_ok (lk := lX5_copy) (ls := []) kX5_copy xno_sw (by decide +kernel)
set_option maxRecDepth 20000 in
theorem vX5_copy : xMok mX5_copy := ⟨⟨wc_10.1, xtc4 4 rfl rfl, wc_10.2.1, wc_10.2.2, by decide +kernel, by decide, rfl⟩, bX5_copy_ok⟩
def lX5_get : List xL := [(3, 1, 5, 3, 22), (3, 1, 5, 1, 15), (3, 1, 5, 2, 18)]
theorem kX5_get : ∀ q ∈ lX5_get, xLq RX5 q := List.forall_mem_cons.mpr ⟨lk_615, List.forall_mem_cons.mpr ⟨lk_614, List.forall_mem_cons.mpr ⟨lk_616, fun _ h => absurd h List.not_mem_nil⟩⟩⟩
theorem bX5_get_ok : ∀ b ∈ bX5_get, xbok RX5 cX5_get b := xbF_ok (lk := lX5_get) (ls := []) kX5_get xno_sw (by decide +kernel)
set_option maxRecDepth 20000 in
theorem vX5_get : xMok mX5_get := ⟨⟨wc_10.1, xtc3 204 rfl rfl, wc_10.2.1, wc_10.2.2, by decide +kernel, by decide, rfl⟩, bX5_get_ok⟩
def lX5_grow : List xL := [(3, 13, 289, 40, 29), (3, 1, 5, 3, 22), (3, 14, 5, 3, 22)]
theorem kX5_grow : ∀ q ∈ lX5_grow, xLq RX5 q := List.forall_mem_cons.mpr ⟨lk_618, List.forall_mem_cons.mpr ⟨lk_615, List.forall_mem_cons.mpr ⟨lk_612, fun _ h => absurd h List.not_mem_nil⟩⟩⟩
theorem bX5_grow_ok : ∀ b ∈ bX5_grow, xbok RX5 cX5_grow b := xbF_ok (lk := lX5_grow) (ls := []) kX5_grow xno_sw (by decide +kernel)
set_option maxRecDepth 20000 in
theorem vX5_grow : xMok mX5_grow := ⟨⟨wc_10.1, xtc3 219 rfl rfl, wc_10.2.1, wc_10.2.2, by decide +kernel, by decide, rfl⟩, bX5_grow_ok⟩
def lX5_has : List xL := [(3, 1, 5, 3, 22)]
theorem kX5_has : ∀ q ∈ lX5_has, xLq RX5 q := List.forall_mem_cons.mpr ⟨lk_615, fun _ h => absurd h List.not_mem_nil⟩
theorem bX5_has_ok : ∀ b ∈ bX5_has, xbok RX5 cX5_has b := xbF_ok (lk := lX5_has) (ls := []) kX5_has xno_sw (by decide +kernel)
set_option maxRecDepth 20000 in
theorem vX5_has : xMok mX5_has := ⟨⟨wc_10.1, xtc3 228 rfl rfl, wc_10.2.1, wc_10.2.2, by decide +kernel, by decide, rfl⟩, bX5_has_ok⟩
def lX5_init : List xL := [(3, 25, 0, 0, 3), (3, 22, 5, 0, 9), (3, 22, 5, 1, 15), (3, 61, 5, 2, 18)]
theorem kX5_init : ∀ q ∈ lX5_init, xLq RX5 q := List.forall_mem_cons.mpr ⟨lk_619, List.forall_mem_cons.mpr ⟨lk_620, List.forall_mem_cons.mpr ⟨lk_621, List.forall_mem_cons.mpr ⟨lk_622, fun _ h => absurd h List.not_mem_nil⟩⟩⟩⟩
theorem bX5_init_ok : ∀ b ∈ bX5_init, xbok RX5 cX5_init b := xbF_ok (lk := lX5_init) (ls := []) kX5_init xno_sw (by decide +kernel)
set_option maxRecDepth 20000 in
theorem vX5_init : xMok mX5_init := ⟨⟨wc_10.1, xtc1 46 rfl rfl, wc_10.2.1, wc_10.2.2, by decide +kernel, by decide, rfl⟩, bX5_init_ok⟩
def lX5_isFull : List xL := [(3, 1, 5, 3, 22), (3, 1, 5, 0, 9)]
theorem kX5_isFull : ∀ q ∈ lX5_isFull, xLq RX5 q := List.forall_mem_cons.mpr ⟨lk_615, List.forall_mem_cons.mpr ⟨lk_613, fun _ h => absurd h List.not_mem_nil⟩⟩
theorem bX5_isFull_ok : ∀ b ∈ bX5_isFull, xbok RX5 cX5_isFull b := xbF_ok (lk := lX5_isFull) (ls := []) kX5_isFull xno_sw (by decide +kernel)
set_option maxRecDepth 20000 in
theorem vX5_isFull : xMok mX5_isFull := ⟨⟨wc_10.1, xtc3 196 rfl rfl, wc_10.2.1, wc_10.2.2, by decide +kernel, by decide, rfl⟩, bX5_isFull_ok⟩
def lX5_put : List xL := [(3, 13, 287, 40, 25), (3, 1, 5, 1, 15), (3, 1, 5, 2, 18)]
theorem kX5_put : ∀ q ∈ lX5_put, xLq RX5 q := List.forall_mem_cons.mpr ⟨lk_623, List.forall_mem_cons.mpr ⟨lk_614, List.forall_mem_cons.mpr ⟨lk_616, fun _ h => absurd h List.not_mem_nil⟩⟩⟩
theorem bX5_put_ok : ∀ b ∈ bX5_put, xbok RX5 cX5_put b := xbF_ok (lk := lX5_put) (ls := []) kX5_put xno_sw (by decide +kernel)
set_option maxRecDepth 20000 in
theorem vX5_put : xMok mX5_put := ⟨⟨wc_10.1, xtc3 224 rfl rfl, wc_10.2.1, wc_10.2.2, by decide +kernel, by decide, rfl⟩, bX5_put_ok⟩
def lX6_init : List xL := [(3, 25, 0, 0, 3), (3, 24, 5, 0, 9), (3, 13, 288, 44, 13), (3, 61, 6, 2, 16), (3, 61, 6, 3, 20), (3, 61, 6, 0, 23), (3, 24, 8, 0, 27), (3, 1, 9, 0, 29), (3, 13, 313, 68, 35), (3, 61, 6, 1, 38)]
theorem kX6_init : ∀ q ∈ lX6_init, xLq RX6 q := List.forall_mem_cons.mpr ⟨lk_624, List.forall_mem_cons.mpr ⟨lk_625, List.forall_mem_cons.mpr ⟨lk_626, List.forall_mem_cons.mpr ⟨lk_627, List.forall_mem_cons.mpr ⟨lk_628, List.forall_mem_cons.mpr ⟨lk_629, List.forall_mem_cons.mpr ⟨lk_630, List.forall_mem_cons.mpr ⟨lk_631, List.forall_mem_cons.mpr ⟨lk_632, List.forall_mem_cons.mpr ⟨lk_633, fun _ h => absurd h List.not_mem_nil⟩⟩⟩⟩⟩⟩⟩⟩⟩⟩
theorem bX6_init_ok : ∀ b ∈ bX6_init, xbok RX6 cX6_init b := xbF_ok (lk := lX6_init) (ls := []) kX6_init xno_sw (by decide +kernel)
theorem wc_11 : plainName RX6 = true ∧ Cond.initialized RX6 ∈ lw_gt ∧ (RX6 ≠ "java/lang/invoke/MethodHandle" ∧ RX6 ≠ "java/lang/invoke/VarHandle") := ⟨by decide +kernel, xtc1 7 rfl rfl, by decide +kernel, by decide +kernel⟩
set_option maxRecDepth 20000 in
theorem vX6_init : xMok mX6_init := ⟨⟨wc_11.1, xtc2 38 rfl rfl, wc_11.2.1, wc_11.2.2, by decide +kernel, by decide, rfl⟩, bX6_init_ok⟩
def lX6_measureOfWord : List xL := [(3, 1, 6, 1, 38), (2, 72, 9, 0, 138), (3, 13, 318, 64, 97), (2, 72, 10, 0, 140), (2, 72, 11, 0, 142), (2, 72, 12, 0, 144), (2, 72, 13, 0, 146), (2, 72, 14, 0, 148), (2, 72, 15, 0, 150), (2, 72, 16, 0, 152), (2, 72, 17, 0, 154), (2, 72, 18, 0, 156), (2, 72, 19, 0, 158)]
theorem kX6_measureOfWord : ∀ q ∈ lX6_measureOfWord, xLq RX6 q := List.forall_mem_cons.mpr ⟨lk_634, List.forall_mem_cons.mpr ⟨lk_635, List.forall_mem_cons.mpr ⟨lk_636, List.forall_mem_cons.mpr ⟨lk_637, List.forall_mem_cons.mpr ⟨lk_638, List.forall_mem_cons.mpr ⟨lk_639, List.forall_mem_cons.mpr ⟨lk_640, List.forall_mem_cons.mpr ⟨lk_641, List.forall_mem_cons.mpr ⟨lk_642, List.forall_mem_cons.mpr ⟨lk_643, List.forall_mem_cons.mpr ⟨lk_644, List.forall_mem_cons.mpr ⟨lk_645, List.forall_mem_cons.mpr ⟨lk_646, fun _ h => absurd h List.not_mem_nil⟩⟩⟩⟩⟩⟩⟩⟩⟩⟩⟩⟩⟩
theorem bX6_measureOfWord_ok : ∀ b ∈ bX6_measureOfWord, xbok RX6 cX6_measureOfWord b := xbF_ok (lk := lX6_measureOfWord) (ls := []) kX6_measureOfWord xno_sw (by decide +kernel)
set_option maxRecDepth 20000 in
theorem vX6_measureOfWord : xMok mX6_measureOfWord := ⟨⟨wc_11.1, xtc6 132 rfl rfl, wc_11.2.1, wc_11.2.2, by decide +kernel, by decide, rfl⟩, bX6_measureOfWord_ok⟩
def lX6_noteTooMany : List xL := [(3, 1, 6, 4, 45), (3, 14, 6, 4, 45), (3, 1, 6, 1, 38), (3, 1, 8, 3, 63), (3, 14, 6, 5, 69)]
theorem kX6_noteTooMany : ∀ q ∈ lX6_noteTooMany, xLq RX6 q := List.forall_mem_cons.mpr ⟨lk_647, List.forall_mem_cons.mpr ⟨lk_648, List.forall_mem_cons.mpr ⟨lk_634, List.forall_mem_cons.mpr ⟨lk_649, List.forall_mem_cons.mpr ⟨lk_650, fun _ h => absurd h List.not_mem_nil⟩⟩⟩⟩⟩
theorem bX6_noteTooMany_ok : ∀ b ∈ bX6_noteTooMany, xbok RX6 cX6_noteTooMany b := xbF_ok (lk := lX6_noteTooMany) (ls := []) kX6_noteTooMany xno_sw (by decide +kernel)
set_option maxRecDepth 20000 in
theorem vX6_noteTooMany : xMok mX6_noteTooMany := ⟨⟨wc_11.1, xtc6 115 rfl rfl, wc_11.2.1, wc_11.2.2, by decide +kernel, by decide, rfl⟩, bX6_noteTooMany_ok⟩
def lX6_readLine : List xL := [(3, 1, 6, 2, 16), (3, 13, 289, 40, 85), (3, 13, 293, 48, 88), (3, 13, 286, 40, 91), (3, 1, 6, 1, 38), (2, 72, 20, 0, 95), (3, 13, 318, 64, 97), (3, 13, 297, 48, 101), (3, 13, 298, 48, 105), (3, 13, 312, 64, 108), (3, 1, 8, 2, 56), (3, 1, 8, 5, 111), (3, 13, 316, 64, 114), (3, 13, 290, 40, 118)]
theorem kX6_readLine : ∀ q ∈ lX6_readLine, xLq RX6 q := List.forall_mem_cons.mpr ⟨lk_651, List.forall_mem_cons.mpr ⟨lk_652, List.forall_mem_cons.mpr ⟨lk_653, List.forall_mem_cons.mpr ⟨lk_654, List.forall_mem_cons.mpr ⟨lk_634, List.forall_mem_cons.mpr ⟨lk_655, List.forall_mem_cons.mpr ⟨lk_636, List.forall_mem_cons.mpr ⟨lk_656, List.forall_mem_cons.mpr ⟨lk_657, List.forall_mem_cons.mpr ⟨lk_658, List.forall_mem_cons.mpr ⟨lk_659, List.forall_mem_cons.mpr ⟨lk_660, List.forall_mem_cons.mpr ⟨lk_661, List.forall_mem_cons.mpr ⟨lk_662, fun _ h => absurd h List.not_mem_nil⟩⟩⟩⟩⟩⟩⟩⟩⟩⟩⟩⟩⟩⟩
theorem bX6_readLine_ok : ∀ b ∈ bX6_readLine, xbok RX6 cX6_readLine b := xbF_ok (lk := lX6_readLine) (ls := []) kX6_readLine xno_sw (by decide +kernel)
set_option maxRecDepth 20000 in
theorem vX6_readLine : xMok mX6_readLine := ⟨⟨wc_11.1, xtc6 110 rfl rfl, wc_11.2.1, wc_11.2.2, by decide +kernel, by decide, rfl⟩, bX6_readLine_ok⟩
def lX6_readRules : List xL := [(3, 1, 6, 2, 16), (3, 13, 283, 40, 42), (3, 1, 6, 3, 20), (3, 14, 6, 4, 45), (3, 1, 6, 1, 38), (3, 1, 6, 0, 23), (3, 1, 9, 1, 49), (3, 13, 319, 64, 52), (3, 1, 8, 2, 56), (3, 13, 294, 48, 59), (3, 1, 8, 3, 63), (3, 13, 326, 72, 66), (3, 1, 6, 4, 45), (3, 1, 6, 5, 69), (3, 1, 9, 12, 72), (3, 13, 284, 40, 75), (3, 1, 9, 13, 79), (3, 1, 5, 3, 82)]
theorem kX6_readRules : ∀ q ∈ lX6_readRules, xLq RX6 q := List.forall_mem_cons.mpr ⟨lk_651, List.forall_mem_cons.mpr ⟨lk_663, List.forall_mem_cons.mpr ⟨lk_664, List.forall_mem_cons.mpr ⟨lk_648, List.forall_mem_cons.mpr ⟨lk_634, List.forall_mem_cons.mpr ⟨lk_665, List.forall_mem_cons.mpr ⟨lk_666, List.forall_mem_cons.mpr ⟨lk_667, List.forall_mem_cons.mpr ⟨lk_659, List.forall_mem_cons.mpr ⟨lk_668, List.forall_mem_cons.mpr ⟨lk_649, List.forall_mem_cons.mpr ⟨lk_669, List.forall_mem_cons.mpr ⟨lk_647, List.forall_mem_cons.mpr ⟨lk_670, List.forall_mem_cons.mpr ⟨lk_671, List.forall_mem_cons.mpr ⟨lk_672, List.forall_mem_cons.mpr ⟨lk_673, List.forall_mem_cons.mpr ⟨lk_674, fun _ h => absurd h List.not_mem_nil⟩⟩⟩⟩⟩⟩⟩⟩⟩⟩⟩⟩⟩⟩⟩⟩⟩⟩
theorem bX6_readRules_ok : ∀ b ∈ bX6_readRules, xbok RX6 cX6_readRules b := xbF_ok (lk := lX6_readRules) (ls := []) kX6_readRules xno_sw (by decide +kernel)
set_option maxRecDepth 20000 in
theorem vX6_readRules : xMok mX6_readRules := ⟨⟨wc_11.1, xtc6 104 rfl rfl, wc_11.2.1, wc_11.2.2, by decide +kernel, by decide, rfl⟩, bX6_readRules_ok⟩
def lX6_readTest : List xL := [(3, 1, 6, 1, 38), (2, 72, 21, 0, 133), (3, 13, 318, 64, 97), (3, 13, 312, 64, 108), (3, 13, 292, 48, 135), (3, 13, 316, 64, 114), (3, 1, 8, 2, 56), (3, 1, 8, 5, 111), (3, 1, 6, 4, 45), (3, 1, 6, 3, 20), (3, 13, 286, 40, 91), (3, 13, 290, 40, 118)]
theorem kX6_readTest : ∀ q ∈ lX6_readTest, xLq RX6 q := List.forall_mem_cons.mpr ⟨lk_634, List.forall_mem_cons.mpr ⟨lk_675, List.forall_mem_cons.mpr ⟨lk_636, List.forall_mem_cons.mpr ⟨lk_658, List.forall_mem_cons.mpr ⟨lk_676, List.forall_mem_cons.mpr ⟨lk_661, List.forall_mem_cons.mpr ⟨lk_659, List.forall_mem_cons.mpr ⟨lk_660, List.forall_mem_cons.mpr ⟨lk_647, List.forall_mem_cons.mpr ⟨lk_664, List.forall_mem_cons.mpr ⟨lk_654, List.forall_mem_cons.mpr ⟨lk_662, fun _ h => absurd h List.not_mem_nil⟩⟩⟩⟩⟩⟩⟩⟩⟩⟩⟩⟩
theorem bX6_readTest_ok : ∀ b ∈ bX6_readTest, xbok RX6 cX6_readTest b := xbF_ok (lk := lX6_readTest) (ls := []) kX6_readTest xno_sw (by decide +kernel)
set_option maxRecDepth 20000 in
theorem vX6_readTest : xMok mX6_readTest := ⟨⟨wc_11.1, xtc6 127 rfl rfl, wc_11.2.1, wc_11.2.2, by decide +kernel, by decide, rfl⟩, bX6_readTest_ok⟩
def lX6_readTests : List xL := [(3, 1, 6, 1, 38), (3, 13, 312, 64, 108), (3, 13, 293, 48, 88), (3, 13, 296, 48, 128), (3, 13, 316, 64, 114), (2, 72, 22, 0, 131), (3, 13, 318, 64, 97)]
theorem kX6_readTests : ∀ q ∈ lX6_readTests, xLq RX6 q := List.forall_mem_cons.mpr ⟨lk_634, List.forall_mem_cons.mpr ⟨lk_658, List.forall_mem_cons.mpr ⟨lk_653, List.forall_mem_cons.mpr ⟨lk_677, List.forall_mem_cons.mpr ⟨lk_661, List.forall_mem_cons.mpr ⟨lk_678, List.forall_mem_cons.mpr ⟨lk_636, fun _ h => absurd h List.not_mem_nil⟩⟩⟩⟩⟩⟩⟩
theorem bX6_readTests_ok : ∀ b ∈ bX6_readTests, xbok RX6 cX6_readTests b := xbF_ok (lk := lX6_readTests) (ls := []) kX6_readTests xno_sw (by decide +kernel)
set_option maxRecDepth 20000 in
theorem vX6_readTests : xMok mX6_readTests := ⟨⟨wc_11.1, xtc6 122 rfl rfl, wc_11.2.1, wc_11.2.2, by decide +kernel, by decide, rfl⟩, bX6_readTests_ok⟩
def lX6_verbOfWord : List xL := [(3, 1, 6, 1, 38), (2, 72, 23, 0, 122), (3, 13, 318, 64, 97), (2, 72, 24, 0, 124), (2, 72, 25, 0, 126)]
theorem kX6_verbOfWord : ∀ q ∈ lX6_verbOfWord, xLq RX6 q := List.forall_mem_cons.mpr ⟨lk_634, List.forall_mem_cons.mpr ⟨lk_679, List.forall_mem_cons.mpr ⟨lk_636, List.forall_mem_cons.mpr ⟨lk_680, List.forall_mem_cons.mpr ⟨lk_681, fun _ h => absurd h List.not_mem_nil⟩⟩⟩⟩⟩
theorem bX6_verbOfWord_ok : ∀ b ∈ bX6_verbOfWord, xbok RX6 cX6_verbOfWord b := xbF_ok (lk := lX6_verbOfWord) (ls := []) kX6_verbOfWord xno_sw (by decide +kernel)
set_option maxRecDepth 20000 in
theorem vX6_verbOfWord : xMok mX6_verbOfWord := ⟨⟨wc_11.1, xtc6 150 rfl rfl, wc_11.2.1, wc_11.2.2, by decide +kernel, by decide, rfl⟩, bX6_verbOfWord_ok⟩
def lX7_fillWorths : List xL := [(3, 1, 7, 0, 22), (3, 1, 1, 5, 33), (3, 1, 1, 6, 39), (3, 13, 301, 56, 50), (3, 1, 7, 1, 9), (3, 13, 304, 58, 54), (3, 13, 309, 56, 58), (3, 62, 0, 0, 61)]
theorem kX7_fillWorths : ∀ q ∈ lX7_fillWorths, xLq RX7 q := List.forall_mem_cons.mpr ⟨lk_682, List.forall_mem_cons.mpr ⟨lk_683, List.forall_mem_cons.mpr ⟨lk_684, List.forall_mem_cons.mpr ⟨lk_685, List.forall_mem_cons.mpr ⟨lk_686, List.forall_mem_cons.mpr ⟨lk_687, List.forall_mem_cons.mpr ⟨lk_688, List.forall_mem_cons.mpr ⟨lk_689, fun _ h => absurd h List.not_mem_nil⟩⟩⟩⟩⟩⟩⟩⟩
theorem bX7_fillWorths_ok : ∀ b ∈ bX7_fillWorths, xbok RX7 cX7_fillWorths b := xbF_ok (lk := lX7_fillWorths) (ls := []) kX7_fillWorths xno_sw (by decide +kernel)
theorem wc_12 : plainName RX7 = true ∧ Cond.initialized RX7 ∈ lw_gt ∧ (RX7 ≠ "java/lang/invoke/MethodHandle" ∧ RX7 ≠ "java/lang/invoke/VarHandle") := ⟨by decide +kernel, xtc1 11 rfl rfl, by decide +kernel, by decide +kernel⟩
set_option maxRecDepth 20000 in
theorem vX7_fillWorths : xMok mX7_fillWorths := ⟨⟨wc_12.1, xtc5 180 rfl rfl, wc_12.2.1, wc_12.2.2, by decide +kernel, by decide, rfl⟩, bX7_fillWorths_ok⟩
def lX7_forget : List xL := [(3, 59, 7, 3, 26), (3, 59, 7, 4, 30)]
theorem kX7_forget : ∀ q ∈ lX7_forget, xLq RX7 q := List.forall_mem_cons.mpr ⟨lk_690, List.forall_mem_cons.mpr ⟨lk_691, fun _ h => absurd h List.not_mem_nil⟩⟩
theorem bX7_forget_ok : ∀ b ∈ bX7_forget, xbok RX7 cX7_forget b := xbF_ok (lk := lX7_forget) (ls := []) kX7_forget xno_sw (by decide +kernel)
set_option maxRecDepth 20000 in
theorem vX7_forget : xMok mX7_forget := ⟨⟨wc_12.1, xtc4 32 rfl rfl, wc_12.2.1, wc_12.2.2, by decide +kernel, by decide, rfl⟩, bX7_forget_ok⟩
def lX7_hasFlaw : List xL := [(3, 1, 7, 0, 22), (3, 1, 1, 4, 82), (3, 1, 5, 3, 72), (3, 13, 285, 40, 79)]
theorem kX7_hasFlaw : ∀ q ∈ lX7_hasFlaw, xLq RX7 q := List.forall_mem_cons.mpr ⟨lk_682, List.forall_mem_cons.mpr ⟨lk_692, List.forall_mem_cons.mpr ⟨lk_693, List.forall_mem_cons.mpr ⟨lk_694, fun _ h => absurd h List.not_mem_nil⟩⟩⟩⟩
theorem bX7_hasFlaw_ok : ∀ b ∈ bX7_hasFlaw, xbok RX7 cX7_hasFlaw b := xbF_ok (lk := lX7_hasFlaw) (ls := []) kX7_hasFlaw xno_sw (by decide +kernel)
set_option maxRecDepth 20000 in
theorem vX7_hasFlaw : xMok mX7_hasFlaw := ⟨⟨wc_12.1, xtc5 184 rfl rfl, wc_12.2.1, wc_12.2.2, by decide +kernel, by decide, rfl⟩, bX7_hasFlaw_ok⟩
def lX7_init : List xL := [(3, 25, 0, 0, 1), (3, 61, 7, 1, 9), (3, 24, 5, 0, 13), (3, 13, 288, 44, 15), (3, 61, 7, 2, 18), (3, 61, 7, 0, 22)]
theorem kX7_init : ∀ q ∈ lX7_init, xLq RX7 q := List.forall_mem_cons.mpr ⟨lk_695, List.forall_mem_cons.mpr ⟨lk_696, List.forall_mem_cons.mpr ⟨lk_697, List.forall_mem_cons.mpr ⟨lk_698, List.forall_mem_cons.mpr ⟨lk_699, List.forall_mem_cons.mpr ⟨lk_700, fun _ h => absurd h List.not_mem_nil⟩⟩⟩⟩⟩⟩
theorem bX7_init_ok : ∀ b ∈ bX7_init, xbok RX7 cX7_init b := xbF_ok (lk := lX7_init) (ls := []) kX7_init xno_sw (by decide +kernel)
set_option maxRecDepth 20000 in
theorem vX7_init : xMok mX7_init := ⟨⟨wc_12.1, xtc2 187 rfl rfl, wc_12.2.1, wc_12.2.2, by decide +kernel, by decide, rfl⟩, bX7_init_ok⟩
def lX7_isAsLarge : List xL := [(3, 1, 7, 0, 22), (3, 1, 1, 3, 69), (3, 13, 285, 40, 79)]
theorem kX7_isAsLarge : ∀ q ∈ lX7_isAsLarge, xLq RX7 q := List.forall_mem_cons.mpr ⟨lk_682, List.forall_mem_cons.mpr ⟨lk_701, List.forall_mem_cons.mpr ⟨lk_694, fun _ h => absurd h List.not_mem_nil⟩⟩⟩
theorem bX7_isAsLarge_ok : ∀ b ∈ bX7_isAsLarge, xbok RX7 cX7_isAsLarge b := xbF_ok (lk := lX7_isAsLarge) (ls := []) kX7_isAsLarge xno_sw (by decide +kernel)
set_option maxRecDepth 20000 in
theorem vX7_isAsLarge : xMok mX7_isAsLarge := ⟨⟨wc_12.1, xtc5 174 rfl rfl, wc_12.2.1, wc_12.2.2, by decide +kernel, by decide, rfl⟩, bX7_isAsLarge_ok⟩
def lX7_pieceOf : List xL := [(3, 37, 0, 0, 66)]
theorem kX7_pieceOf : ∀ q ∈ lX7_pieceOf, xLq RX7 q := List.forall_mem_cons.mpr ⟨lk_702, fun _ h => absurd h List.not_mem_nil⟩
theorem bX7_pieceOf_ok : ∀ b ∈ bX7_pieceOf, xbok RX7 cX7_pieceOf b := xbF_ok (lk := lX7_pieceOf) (ls := []) kX7_pieceOf xno_sw (by decide +kernel)
set_option maxRecDepth 20000 in
theorem vX7_pieceOf : xMok mX7_pieceOf := ⟨⟨wc_12.1, xtc5 187 rfl rfl, wc_12.2.1, wc_12.2.2, by decide +kernel, by decide, rfl⟩, bX7_pieceOf_ok⟩
def lX7_planPanel : List xL := [(3, 1, 7, 0, 22), (3, 1, 1, 3, 69), (3, 1, 5, 3, 72), (3, 13, 303, 56, 75), (3, 13, 285, 40, 79), (3, 1, 7, 2, 18), (3, 13, 286, 40, 102), (3, 13, 290, 40, 106)]
theorem kX7_planPanel : ∀ q ∈ lX7_planPanel, xLq RX7 q := List.forall_mem_cons.mpr ⟨lk_682, List.forall_mem_cons.mpr ⟨lk_701, List.forall_mem_cons.mpr ⟨lk_693, List.forall_mem_cons.mpr ⟨lk_703, List.forall_mem_cons.mpr ⟨lk_694, List.forall_mem_cons.mpr ⟨lk_704, List.forall_mem_cons.mpr ⟨lk_705, List.forall_mem_cons.mpr ⟨lk_706, fun _ h => absurd h List.not_mem_nil⟩⟩⟩⟩⟩⟩⟩⟩
theorem bX7_planPanel_ok : ∀ b ∈ bX7_planPanel, xbok RX7 cX7_planPanel b := xbF_ok (lk := lX7_planPanel) (ls := []) kX7_planPanel xno_sw (by decide +kernel)
set_option maxRecDepth 20000 in
theorem vX7_planPanel : xMok mX7_planPanel := ⟨⟨wc_12.1, xtc5 215 rfl rfl, wc_12.2.1, wc_12.2.2, by decide +kernel, by decide, rfl⟩, bX7_planPanel_ok⟩
def lX7_planPiece : List xL := [(3, 13, 310, 56, 95), (3, 13, 311, 56, 42), (3, 13, 301, 56, 50), (3, 13, 305, 56, 98), (3, 13, 306, 58, 91)]
theorem kX7_planPiece : ∀ q ∈ lX7_planPiece, xLq RX7 q := List.forall_mem_cons.mpr ⟨lk_707, List.forall_mem_cons.mpr ⟨lk_708, List.forall_mem_cons.mpr ⟨lk_685, List.forall_mem_cons.mpr ⟨lk_709, List.forall_mem_cons.mpr ⟨lk_710, fun _ h => absurd h List.not_mem_nil⟩⟩⟩⟩⟩
theorem bX7_planPiece_ok : ∀ b ∈ bX7_planPiece, xbok RX7 cX7_planPiece b := xbF_ok (lk := lX7_planPiece) (ls := []) kX7_planPiece xno_sw (by decide +kernel)
set_option maxRecDepth 20000 in
theorem vX7_planPiece : xMok mX7_planPiece := ⟨⟨wc_12.1, xtc5 210 rfl rfl, wc_12.2.1, wc_12.2.2, by decide +kernel, by decide, rfl⟩, bX7_planPiece_ok⟩
def lX7_refreshPlan : List xL := [(3, 1, 7, 4, 30), (3, 13, 308, 56, 85), (3, 1, 7, 2, 18), (3, 13, 283, 40, 88), (3, 1, 7, 0, 22), (3, 1, 1, 5, 33), (3, 1, 1, 6, 39), (3, 13, 306, 58, 91), (3, 59, 7, 4, 30)]
theorem kX7_refreshPlan : ∀ q ∈ lX7_refreshPlan, xLq RX7 q := List.forall_mem_cons.mpr ⟨lk_711, List.forall_mem_cons.mpr ⟨lk_712, List.forall_mem_cons.mpr ⟨lk_704, List.forall_mem_cons.mpr ⟨lk_713, List.forall_mem_cons.mpr ⟨lk_682, List.forall_mem_cons.mpr ⟨lk_683, List.forall_mem_cons.mpr ⟨lk_684, List.forall_mem_cons.mpr ⟨lk_710, List.forall_mem_cons.mpr ⟨lk_691, fun _ h => absurd h List.not_mem_nil⟩⟩⟩⟩⟩⟩⟩⟩⟩
theorem bX7_refreshPlan_ok : ∀ b ∈ bX7_refreshPlan, xbok RX7 cX7_refreshPlan b := xbF_ok (lk := lX7_refreshPlan) (ls := []) kX7_refreshPlan xno_sw (by decide +kernel)
set_option maxRecDepth 20000 in
theorem vX7_refreshPlan : xMok mX7_refreshPlan := ⟨⟨wc_12.1, xtc5 205 rfl rfl, wc_12.2.1, wc_12.2.2, by decide +kernel, by decide, rfl⟩, bX7_refreshPlan_ok⟩
def lX7_refreshWorth : List xL := [(3, 1, 7, 3, 26), (3, 1, 7, 0, 22), (3, 1, 1, 5, 33), (3, 1, 1, 6, 39), (3, 13, 311, 56, 42), (3, 13, 299, 56, 46), (3, 59, 7, 3, 26)]
theorem kX7_refreshWorth : ∀ q ∈ lX7_refreshWorth, xLq RX7 q := List.forall_mem_cons.mpr ⟨lk_714, List.forall_mem_cons.mpr ⟨lk_682, List.forall_mem_cons.mpr ⟨lk_683, List.forall_mem_cons.mpr ⟨lk_684, List.forall_mem_cons.mpr ⟨lk_708, List.forall_mem_cons.mpr ⟨lk_715, List.forall_mem_cons.mpr ⟨lk_690, fun _ h => absurd h List.not_mem_nil⟩⟩⟩⟩⟩⟩⟩
theorem bX7_refreshWorth_ok : ∀ b ∈ bX7_refreshWorth, xbok RX7 cX7_refreshWorth b := xbF_ok (lk := lX7_refreshWorth) (ls := []) kX7_refreshWorth xno_sw (by decide +kernel)
set_option maxRecDepth 20000 in
theorem vX7_refreshWorth : xMok mX7_refreshWorth := ⟨⟨wc_12.1, xtc5 166 rfl rfl, wc_12.2.1, wc_12.2.2, by decide +kernel, by decide, rfl⟩, bX7_refreshWorth_ok⟩
def lX7_worthCut : List xL := [(3, 37, 0, 0, 66), (3, 1, 7, 1, 9), (3, 62, 0, 0, 61)]
theorem kX7_worthCut : ∀ q ∈ lX7_worthCut, xLq RX7 q := List.forall_mem_cons.mpr ⟨lk_702, List.forall_mem_cons.mpr ⟨lk_686, List.forall_mem_cons.mpr ⟨lk_689, fun _ h => absurd h List.not_mem_nil⟩⟩⟩
theorem bX7_worthCut_ok : ∀ b ∈ bX7_worthCut, xbok RX7 cX7_worthCut b := xbF_ok (lk := lX7_worthCut) (ls := []) kX7_worthCut xno_sw (by decide +kernel)
set_option maxRecDepth 20000 in
theorem vX7_worthCut : xMok mX7_worthCut := ⟨⟨wc_12.1, xtc5 193 rfl rfl, wc_12.2.1, wc_12.2.2, by decide +kernel, by decide, rfl⟩, bX7_worthCut_ok⟩
def lX7_worthOf : List xL := [(3, 1, 7, 1, 9), (3, 13, 304, 58, 54)]
theorem kX7_worthOf : ∀ q ∈ lX7_worthOf, xLq RX7 q := List.forall_mem_cons.mpr ⟨lk_686, List.forall_mem_cons.mpr ⟨lk_687, fun _ h => absurd h List.not_mem_nil⟩⟩
theorem bX7_worthOf_ok : ∀ b ∈ bX7_worthOf, xbok RX7 cX7_worthOf b := xbF_ok (lk := lX7_worthOf) (ls := []) kX7_worthOf xno_sw (by decide +kernel)
set_option maxRecDepth 20000 in
theorem vX7_worthOf : xMok mX7_worthOf := ⟨⟨wc_12.1, xtc5 197 rfl rfl, wc_12.2.1, wc_12.2.2, by decide +kernel, by decide, rfl⟩, bX7_worthOf_ok⟩
def lX7_worthOfSize : List xL := [(3, 1, 7, 0, 22), (3, 1, 1, 3, 69), (3, 1, 5, 3, 72), (3, 13, 303, 56, 75), (3, 13, 285, 40, 79), (3, 62, 0, 0, 61)]
theorem kX7_worthOfSize : ∀ q ∈ lX7_worthOfSize, xLq RX7 q := List.forall_mem_cons.mpr ⟨lk_682, List.forall_mem_cons.mpr ⟨lk_701, List.forall_mem_cons.mpr ⟨lk_693, List.forall_mem_cons.mpr ⟨lk_703, List.forall_mem_cons.mpr ⟨lk_694, List.forall_mem_cons.mpr ⟨lk_689, fun _ h => absurd h List.not_mem_nil⟩⟩⟩⟩⟩⟩
theorem bX7_worthOfSize_ok : ∀ b ∈ bX7_worthOfSize, xbok RX7 cX7_worthOfSize b := xbF_ok (lk := lX7_worthOfSize) (ls := []) kX7_worthOfSize xno_sw (by decide +kernel)
set_option maxRecDepth 20000 in
theorem vX7_worthOfSize : xMok mX7_worthOfSize := ⟨⟨wc_12.1, xtc5 170 rfl rfl, wc_12.2.1, wc_12.2.2, by decide +kernel, by decide, rfl⟩, bX7_worthOfSize_ok⟩
def lX8_advance : List xL := [(3, 1, 8, 4, 23), (3, 1, 8, 1, 19), (3, 1, 8, 0, 7), (3, 14, 8, 4, 23), (3, 14, 8, 3, 29), (3, 14, 8, 2, 32), (3, 13, 315, 66, 35), (3, 13, 314, 66, 39), (3, 13, 320, 64, 42), (3, 13, 317, 66, 45)]
theorem kX8_advance : ∀ q ∈ lX8_advance, xLq RX8 q := List.forall_mem_cons.mpr ⟨lk_716, List.forall_mem_cons.mpr ⟨lk_717, List.forall_mem_cons.mpr ⟨lk_718, List.forall_mem_cons.mpr ⟨lk_719, List.forall_mem_cons.mpr ⟨lk_720, List.forall_mem_cons.mpr ⟨lk_721, List.forall_mem_cons.mpr ⟨lk_722, List.forall_mem_cons.mpr ⟨lk_723, List.forall_mem_cons.mpr ⟨lk_724, List.forall_mem_cons.mpr ⟨lk_725, fun _ h => absurd h List.not_mem_nil⟩⟩⟩⟩⟩⟩⟩⟩⟩⟩
theorem bX8_advance_ok : ∀ b ∈ bX8_advance, xbok RX8 cX8_advance b := xbF_ok (lk := lX8_advance) (ls := []) kX8_advance xno_sw (by decide +kernel)
theorem wc_13 : plainName RX8 = true ∧ Cond.initialized RX8 ∈ lw_gt ∧ (RX8 ≠ "java/lang/invoke/MethodHandle" ∧ RX8 ≠ "java/lang/invoke/VarHandle") := ⟨by decide +kernel, xtc1 6 rfl rfl, by decide +kernel, by decide +kernel⟩
set_option maxRecDepth 20000 in
theorem vX8_advance : xMok mX8_advance := ⟨⟨wc_13.1, xtc3 87 rfl rfl, wc_13.2.1, wc_13.2.2, by decide +kernel, by decide, rfl⟩, bX8_advance_ok⟩
def lX8_init : List xL := [(3, 25, 0, 0, 1), (3, 61, 8, 0, 7)]
theorem kX8_init : ∀ q ∈ lX8_init, xLq RX8 q := List.forall_mem_cons.mpr ⟨lk_726, List.forall_mem_cons.mpr ⟨lk_727, fun _ h => absurd h List.not_mem_nil⟩⟩
theorem bX8_init_ok : ∀ b ∈ bX8_init, xbok RX8 cX8_init b := xbF_ok (lk := lX8_init) (ls := []) kX8_init xno_sw (by decide +kernel)
set_option maxRecDepth 20000 in
theorem vX8_init : xMok mX8_init := ⟨⟨wc_13.1, xtc1 213 rfl rfl, wc_13.2.1, wc_13.2.2, by decide +kernel, by decide, rfl⟩, bX8_init_ok⟩
def lX8_isDigit : List xL := []
theorem kX8_isDigit : ∀ q ∈ lX8_isDigit, xLq RX8 q := fun _ h => absurd h List.not_mem_nil
theorem bX8_isDigit_ok : ∀ b ∈ bX8_isDigit, xbok RX8 cX8_isDigit b := xbF_ok (lk := lX8_isDigit) (ls := []) kX8_isDigit xno_sw (by decide +kernel)
set_option maxRecDepth 20000 in
theorem vX8_isDigit : xMok mX8_isDigit := ⟨⟨wc_13.1, xtc3 93 rfl rfl, wc_13.2.1, wc_13.2.2, by decide +kernel, by decide, rfl⟩, bX8_isDigit_ok⟩
def lX8_isLetter : List xL := []
theorem kX8_isLetter : ∀ q ∈ lX8_isLetter, xLq RX8 q := fun _ h => absurd h List.not_mem_nil
theorem bX8_isLetter_ok : ∀ b ∈ bX8_isLetter, xbok RX8 cX8_isLetter b := xbF_ok (lk := lX8_isLetter) (ls := []) kX8_isLetter xno_sw (by decide +kernel)
set_option maxRecDepth 20000 in
theorem vX8_isLetter : xMok mX8_isLetter := ⟨⟨wc_13.1, xtc3 90 rfl rfl, wc_13.2.1, wc_13.2.2, by decide +kernel, by decide, rfl⟩, bX8_isLetter_ok⟩
def lX8_isSign : List xL := [(3, 1, 8, 2, 32), (3, 1, 8, 0, 7), (3, 1, 8, 3, 29)]
theorem kX8_isSign : ∀ q ∈ lX8_isSign, xLq RX8 q := List.forall_mem_cons.mpr ⟨lk_728, List.forall_mem_cons.mpr ⟨lk_718, List.forall_mem_cons.mpr ⟨lk_729, fun _ h => absurd h List.not_mem_nil⟩⟩⟩
theorem bX8_isSign_ok : ∀ b ∈ bX8_isSign, xbok RX8 cX8_isSign b := xbF_ok (lk := lX8_isSign) (ls := []) kX8_isSign xno_sw (by decide +kernel)
set_option maxRecDepth 20000 in
theorem vX8_isSign : xMok mX8_isSign := ⟨⟨wc_13.1, xtc3 180 rfl rfl, wc_13.2.1, wc_13.2.2, by decide +kernel, by decide, rfl⟩, bX8_isSign_ok⟩
def lX8_isSignByte : List xL := []
theorem kX8_isSignByte : ∀ q ∈ lX8_isSignByte, xLq RX8 q := fun _ h => absurd h List.not_mem_nil
theorem bX8_isSignByte_ok : ∀ b ∈ bX8_isSignByte, xbok RX8 cX8_isSignByte b := xbF_ok (lk := lX8_isSignByte) (ls := []) kX8_isSignByte xno_sw (by decide +kernel)
set_option maxRecDepth 20000 in
theorem vX8_isSignByte : xMok mX8_isSignByte := ⟨⟨wc_13.1, xtc3 100 rfl rfl, wc_13.2.1, wc_13.2.2, by decide +kernel, by decide, rfl⟩, bX8_isSignByte_ok⟩
def lX8_isWord : List xL := [(3, 1, 8, 2, 32), (3, 1, 8, 4, 23), (3, 1, 8, 3, 29), (3, 73, 0, 0, 51), (3, 1, 8, 0, 7), (3, 74, 0, 0, 56)]
theorem kX8_isWord : ∀ q ∈ lX8_isWord, xLq RX8 q := List.forall_mem_cons.mpr ⟨lk_728, List.forall_mem_cons.mpr ⟨lk_716, List.forall_mem_cons.mpr ⟨lk_729, List.forall_mem_cons.mpr ⟨lk_730, List.forall_mem_cons.mpr ⟨lk_718, List.forall_mem_cons.mpr ⟨lk_731, fun _ h => absurd h List.not_mem_nil⟩⟩⟩⟩⟩⟩
theorem bX8_isWord_ok : ∀ b ∈ bX8_isWord, xbok RX8 cX8_isWord b := xbF_ok (lk := lX8_isWord) (ls := []) kX8_isWord xno_sw (by decide +kernel)
set_option maxRecDepth 20000 in
theorem vX8_isWord : xMok mX8_isWord := ⟨⟨wc_13.1, xtc3 113 rfl rfl, wc_13.2.1, wc_13.2.2, by decide +kernel, by decide, rfl⟩, bX8_isWord_ok⟩
def lX8_start : List xL := [(3, 1, 8, 0, 7), (3, 63, 0, 0, 13), (3, 14, 8, 1, 19), (3, 14, 8, 4, 23), (3, 13, 312, 64, 26)]
theorem kX8_start : ∀ q ∈ lX8_start, xLq RX8 q := List.forall_mem_cons.mpr ⟨lk_718, List.forall_mem_cons.mpr ⟨lk_732, List.forall_mem_cons.mpr ⟨lk_733, List.forall_mem_cons.mpr ⟨lk_719, List.forall_mem_cons.mpr ⟨lk_734, fun _ h => absurd h List.not_mem_nil⟩⟩⟩⟩⟩
