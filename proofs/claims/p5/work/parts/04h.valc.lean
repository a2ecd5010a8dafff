theorem bX12_hasFlaw_ok : ∀ b ∈ bX12_hasFlaw, xbok RX12 cX12_hasFlaw b := xbF_ok (lk := lX12_hasFlaw) (ls := []) kX12_hasFlaw xno_sw (by decide +kernel)
set_option maxRecDepth 20000 in
theorem vX12_hasFlaw : xMok mX12_hasFlaw := ⟨⟨wc_5.1, xtc8 211 rfl rfl, wc_5.2.1, wc_5.2.2, by decide +kernel, by decide, rfl⟩, bX12_hasFlaw_ok⟩
def lX12_holds : List xL := [(3, 1, 12, 0, 7), (3, 13, 117, 96, 447)]
theorem kX12_holds : ∀ q ∈ lX12_holds, xLq RX12 q := List.forall_mem_cons.mpr ⟨lk_290, List.forall_mem_cons.mpr ⟨lk_353, fun _ h => absurd h List.not_mem_nil⟩⟩
theorem bX12_holds_ok : ∀ b ∈ bX12_holds, xbok RX12 cX12_holds b := xbF_ok (lk := lX12_holds) (ls := []) kX12_holds xno_sw (by decide +kernel)
set_option maxRecDepth 20000 in
theorem vX12_holds : xMok mX12_holds := ⟨⟨wc_5.1, xtc9 139 rfl rfl, wc_5.2.1, wc_5.2.2, by decide +kernel, by decide, rfl⟩, bX12_holds_ok⟩
def lX12_image : List xL := [(3, 13, 161, 98, 105), (3, 1, 12, 1, 13), (3, 1, 12, 0, 7)]
theorem kX12_image : ∀ q ∈ lX12_image, xLq RX12 q := List.forall_mem_cons.mpr ⟨lk_256, List.forall_mem_cons.mpr ⟨lk_289, List.forall_mem_cons.mpr ⟨lk_290, fun _ h => absurd h List.not_mem_nil⟩⟩⟩
theorem bX12_image_ok : ∀ b ∈ bX12_image, xbok RX12 cX12_image b := xbF_ok (lk := lX12_image) (ls := []) kX12_image xno_sw (by decide +kernel)
set_option maxRecDepth 20000 in
theorem vX12_image : xMok mX12_image := ⟨⟨wc_5.1, xtc9 163 rfl rfl, wc_5.2.1, wc_5.2.2, by decide +kernel, by decide, rfl⟩, bX12_image_ok⟩
def lX12_inCut : List xL := [(3, 13, 161, 98, 105), (3, 13, 132, 96, 317), (3, 13, 162, 96, 320)]
theorem kX12_inCut : ∀ q ∈ lX12_inCut, xLq RX12 q := List.forall_mem_cons.mpr ⟨lk_256, List.forall_mem_cons.mpr ⟨lk_327, List.forall_mem_cons.mpr ⟨lk_328, fun _ h => absurd h List.not_mem_nil⟩⟩⟩
theorem bX12_inCut_ok : ∀ b ∈ bX12_inCut, xbok RX12 cX12_inCut b := xbF_ok (lk := lX12_inCut) (ls := []) kX12_inCut xno_sw (by decide +kernel)
set_option maxRecDepth 20000 in
theorem vX12_inCut : xMok mX12_inCut := ⟨⟨wc_5.1, xtc8 140 rfl rfl, wc_5.2.1, wc_5.2.2, by decide +kernel, by decide, rfl⟩, bX12_inCut_ok⟩
def lX12_inOrder : List xL := [(3, 1, 12, 15, 26)]
theorem kX12_inOrder : ∀ q ∈ lX12_inOrder, xLq RX12 q := List.forall_mem_cons.mpr ⟨lk_354, fun _ h => absurd h List.not_mem_nil⟩
theorem bX12_inOrder_ok : ∀ b ∈ bX12_inOrder, xbok RX12 cX12_inOrder b := xbF_ok (lk := lX12_inOrder) (ls := []) kX12_inOrder xno_sw (by decide +kernel)
set_option maxRecDepth 20000 in
theorem vX12_inOrder : xMok mX12_inOrder := ⟨⟨wc_5.1, xtc7 224 rfl rfl, wc_5.2.1, wc_5.2.2, by decide +kernel, by decide, rfl⟩, bX12_inOrder_ok⟩
def lX12_init : List xL := [(3, 25, 0, 0, 1), (3, 61, 12, 0, 7), (3, 61, 12, 1, 13), (3, 61, 12, 11, 17), (3, 61, 12, 12, 20), (3, 61, 12, 13, 23), (3, 61, 12, 15, 26), (3, 61, 12, 16, 29), (3, 61, 12, 17, 32), (3, 61, 12, 18, 35), (3, 61, 12, 19, 38), (3, 61, 12, 20, 42), (3, 61, 12, 21, 45), (3, 61, 12, 25, 48), (3, 61, 12, 26, 51), (3, 61, 12, 27, 54), (3, 61, 12, 28, 57), (3, 61, 12, 29, 60), (3, 61, 12, 30, 63), (3, 61, 12, 31, 66), (3, 61, 12, 32, 69), (3, 61, 12, 34, 72), (3, 61, 12, 35, 75), (3, 61, 12, 36, 78), (3, 61, 12, 37, 81), (3, 61, 12, 38, 84), (3, 61, 12, 39, 87), (3, 61, 12, 40, 90), (3, 61, 12, 43, 93), (3, 61, 12, 44, 96), (3, 61, 12, 45, 99), (3, 61, 12, 46, 102), (3, 1, 12, 0, 7)]
theorem kX12_init : ∀ q ∈ lX12_init, xLq RX12 q := List.forall_mem_cons.mpr ⟨lk_355, List.forall_mem_cons.mpr ⟨lk_356, List.forall_mem_cons.mpr ⟨lk_357, List.forall_mem_cons.mpr ⟨lk_358, List.forall_mem_cons.mpr ⟨lk_359, List.forall_mem_cons.mpr ⟨lk_360, List.forall_mem_cons.mpr ⟨lk_361, List.forall_mem_cons.mpr ⟨lk_362, List.forall_mem_cons.mpr ⟨lk_363, List.forall_mem_cons.mpr ⟨lk_364, List.forall_mem_cons.mpr ⟨lk_365, List.forall_mem_cons.mpr ⟨lk_366, List.forall_mem_cons.mpr ⟨lk_367, List.forall_mem_cons.mpr ⟨lk_368, List.forall_mem_cons.mpr ⟨lk_369, List.forall_mem_cons.mpr ⟨lk_370, List.forall_mem_cons.mpr ⟨lk_371, List.forall_mem_cons.mpr ⟨lk_372, List.forall_mem_cons.mpr ⟨lk_373, List.forall_mem_cons.mpr ⟨lk_374, List.forall_mem_cons.mpr ⟨lk_375, List.forall_mem_cons.mpr ⟨lk_376, List.forall_mem_cons.mpr ⟨lk_377, List.forall_mem_cons.mpr ⟨lk_378, List.forall_mem_cons.mpr ⟨lk_379, List.forall_mem_cons.mpr ⟨lk_380, List.forall_mem_cons.mpr ⟨lk_381, List.forall_mem_cons.mpr ⟨lk_382, List.forall_mem_cons.mpr ⟨lk_383, List.forall_mem_cons.mpr ⟨lk_384, List.forall_mem_cons.mpr ⟨lk_385, List.forall_mem_cons.mpr ⟨lk_386, List.forall_mem_cons.mpr ⟨lk_290, fun _ h => absurd h List.not_mem_nil⟩⟩⟩⟩⟩⟩⟩⟩⟩⟩⟩⟩⟩⟩⟩⟩⟩⟩⟩⟩⟩⟩⟩⟩⟩⟩⟩⟩⟩⟩⟩⟩⟩
theorem bX12_init_ok : ∀ b ∈ bX12_init, xbok RX12 cX12_init b := xbF_ok (lk := lX12_init) (ls := []) kX12_init xno_sw (by decide +kernel)
set_option maxRecDepth 20000 in
theorem vX12_init : xMok mX12_init := ⟨⟨wc_5.1, xtc6 211 rfl rfl, wc_5.2.1, wc_5.2.2, by decide +kernel, by decide, rfl⟩, bX12_init_ok⟩
def lX12_isCracked : List xL := [(3, 1, 12, 0, 7), (3, 1, 12, 24, 276)]
theorem kX12_isCracked : ∀ q ∈ lX12_isCracked, xLq RX12 q := List.forall_mem_cons.mpr ⟨lk_290, List.forall_mem_cons.mpr ⟨lk_387, fun _ h => absurd h List.not_mem_nil⟩⟩
theorem bX12_isCracked_ok : ∀ b ∈ bX12_isCracked, xbok RX12 cX12_isCracked b := xbF_ok (lk := lX12_isCracked) (ls := []) kX12_isCracked xno_sw (by decide +kernel)
set_option maxRecDepth 20000 in
theorem vX12_isCracked : xMok mX12_isCracked := ⟨⟨wc_5.1, xtc8 76 rfl rfl, wc_5.2.1, wc_5.2.2, by decide +kernel, by decide, rfl⟩, bX12_isCracked_ok⟩
def lX12_isDark : List xL := [(3, 13, 187, 96, 329), (3, 1, 12, 35, 75)]
theorem kX12_isDark : ∀ q ∈ lX12_isDark, xLq RX12 q := List.forall_mem_cons.mpr ⟨lk_388, List.forall_mem_cons.mpr ⟨lk_335, fun _ h => absurd h List.not_mem_nil⟩⟩
theorem bX12_isDark_ok : ∀ b ∈ bX12_isDark, xbok RX12 cX12_isDark b := xbF_ok (lk := lX12_isDark) (ls := []) kX12_isDark xno_sw (by decide +kernel)
set_option maxRecDepth 20000 in
theorem vX12_isDark : xMok mX12_isDark := ⟨⟨wc_5.1, xtc8 192 rfl rfl, wc_5.2.1, wc_5.2.2, by decide +kernel, by decide, rfl⟩, bX12_isDark_ok⟩
def lX12_isDigit : List xL := []
theorem kX12_isDigit : ∀ q ∈ lX12_isDigit, xLq RX12 q := fun _ h => absurd h List.not_mem_nil
theorem bX12_isDigit_ok : ∀ b ∈ bX12_isDigit, xbok RX12 cX12_isDigit b := xbF_ok (lk := lX12_isDigit) (ls := []) kX12_isDigit xno_sw (by decide +kernel)
set_option maxRecDepth 20000 in
theorem vX12_isDigit : xMok mX12_isDigit := ⟨⟨wc_5.1, xtc7 166 rfl rfl, wc_5.2.1, wc_5.2.2, by decide +kernel, by decide, rfl⟩, bX12_isDigit_ok⟩
def lX12_isFedBy : List xL := [(3, 14, 12, 24, 276), (3, 13, 189, 96, 302), (3, 13, 113, 96, 305), (3, 13, 147, 96, 308), (3, 1, 12, 0, 7)]
theorem kX12_isFedBy : ∀ q ∈ lX12_isFedBy, xLq RX12 q := List.forall_mem_cons.mpr ⟨lk_389, List.forall_mem_cons.mpr ⟨lk_329, List.forall_mem_cons.mpr ⟨lk_330, List.forall_mem_cons.mpr ⟨lk_331, List.forall_mem_cons.mpr ⟨lk_290, fun _ h => absurd h List.not_mem_nil⟩⟩⟩⟩⟩
theorem bX12_isFedBy_ok : ∀ b ∈ bX12_isFedBy, xbok RX12 cX12_isFedBy b := xbF_ok (lk := lX12_isFedBy) (ls := []) kX12_isFedBy xno_sw (by decide +kernel)
set_option maxRecDepth 20000 in
theorem vX12_isFedBy : xMok mX12_isFedBy := ⟨⟨wc_5.1, xtc9 18 rfl rfl, wc_5.2.1, wc_5.2.2, by decide +kernel, by decide, rfl⟩, bX12_isFedBy_ok⟩
def lX12_isIn : List xL := []
theorem kX12_isIn : ∀ q ∈ lX12_isIn, xLq RX12 q := fun _ h => absurd h List.not_mem_nil
theorem bX12_isIn_ok : ∀ b ∈ bX12_isIn, xbok RX12 cX12_isIn b := xbF_ok (lk := lX12_isIn) (ls := []) kX12_isIn xno_sw (by decide +kernel)
set_option maxRecDepth 20000 in
theorem vX12_isIn : xMok mX12_isIn := ⟨⟨wc_5.1, xtc7 177 rfl rfl, wc_5.2.1, wc_5.2.2, by decide +kernel, by decide, rfl⟩, bX12_isIn_ok⟩
def lX12_isInCut : List xL := [(3, 13, 173, 96, 279), (3, 1, 12, 29, 60), (3, 13, 163, 96, 314), (3, 1, 12, 30, 63), (3, 13, 168, 96, 241), (3, 1, 12, 0, 7)]
theorem kX12_isInCut : ∀ q ∈ lX12_isInCut, xLq RX12 q := List.forall_mem_cons.mpr ⟨lk_325, List.forall_mem_cons.mpr ⟨lk_390, List.forall_mem_cons.mpr ⟨lk_391, List.forall_mem_cons.mpr ⟨lk_392, List.forall_mem_cons.mpr ⟨lk_302, List.forall_mem_cons.mpr ⟨lk_290, fun _ h => absurd h List.not_mem_nil⟩⟩⟩⟩⟩⟩
theorem swX12_isInCut_0 : xLs RX12 (1, 27, 33, 146, 0, 12) := ⟨_, rfl, 145, 0, 2, #[27, 74, 121], [(0, 28), (1, 75), (2, 122)], rfl, rfl, by decide, by decide, by decide, by decide, rfl, by decide +kernel⟩
def sX12_isInCut : List xI := [(1, 27, 33, 146, 0, 12)]
theorem zX12_isInCut : ∀ e ∈ sX12_isInCut, xLs RX12 e := List.forall_mem_cons.mpr ⟨swX12_isInCut_0, fun _ h => absurd h List.not_mem_nil⟩
theorem bX12_isInCut_ok : ∀ b ∈ bX12_isInCut, xbok RX12 cX12_isInCut b := xbF_ok (lk := lX12_isInCut) (ls := sX12_isInCut) kX12_isInCut zX12_isInCut (by decide +kernel)
set_option maxRecDepth 20000 in
theorem vX12_isInCut : xMok mX12_isInCut := ⟨⟨wc_5.1, xtc8 132 rfl rfl, wc_5.2.1, wc_5.2.2, by decide +kernel, by decide, rfl⟩, bX12_isInCut_ok⟩
def lX12_isJoined : List xL := [(3, 1, 12, 32, 69)]
theorem kX12_isJoined : ∀ q ∈ lX12_isJoined, xLq RX12 q := List.forall_mem_cons.mpr ⟨lk_350, fun _ h => absurd h List.not_mem_nil⟩
theorem bX12_isJoined_ok : ∀ b ∈ bX12_isJoined, xbok RX12 cX12_isJoined b := xbF_ok (lk := lX12_isJoined) (ls := []) kX12_isJoined xno_sw (by decide +kernel)
set_option maxRecDepth 20000 in
theorem vX12_isJoined : xMok mX12_isJoined := ⟨⟨wc_5.1, xtc8 136 rfl rfl, wc_5.2.1, wc_5.2.2, by decide +kernel, by decide, rfl⟩, bX12_isJoined_ok⟩
def lX12_isLaw : List xL := [(3, 1, 12, 44, 96), (3, 13, 114, 96, 400)]
theorem kX12_isLaw : ∀ q ∈ lX12_isLaw, xLq RX12 q := List.forall_mem_cons.mpr ⟨lk_393, List.forall_mem_cons.mpr ⟨lk_394, fun _ h => absurd h List.not_mem_nil⟩⟩
theorem bX12_isLaw_ok : ∀ b ∈ bX12_isLaw, xbok RX12 cX12_isLaw b := xbF_ok (lk := lX12_isLaw) (ls := []) kX12_isLaw xno_sw (by decide +kernel)
set_option maxRecDepth 20000 in
theorem vX12_isLaw : xMok mX12_isLaw := ⟨⟨wc_5.1, xtc9 79 rfl rfl, wc_5.2.1, wc_5.2.2, by decide +kernel, by decide, rfl⟩, bX12_isLaw_ok⟩
def lX12_isLed : List xL := [(3, 13, 173, 96, 279), (3, 1, 12, 0, 7), (3, 13, 157, 96, 283)]
theorem kX12_isLed : ∀ q ∈ lX12_isLed, xLq RX12 q := List.forall_mem_cons.mpr ⟨lk_325, List.forall_mem_cons.mpr ⟨lk_290, List.forall_mem_cons.mpr ⟨lk_326, fun _ h => absurd h List.not_mem_nil⟩⟩⟩
theorem bX12_isLed_ok : ∀ b ∈ bX12_isLed, xbok RX12 cX12_isLed b := xbF_ok (lk := lX12_isLed) (ls := []) kX12_isLed xno_sw (by decide +kernel)
set_option maxRecDepth 20000 in
theorem vX12_isLed : xMok mX12_isLed := ⟨⟨wc_5.1, xtc8 84 rfl rfl, wc_5.2.1, wc_5.2.2, by decide +kernel, by decide, rfl⟩, bX12_isLed_ok⟩
def lX12_isLetter : List xL := []
theorem kX12_isLetter : ∀ q ∈ lX12_isLetter, xLq RX12 q := fun _ h => absurd h List.not_mem_nil
theorem bX12_isLetter_ok : ∀ b ∈ bX12_isLetter, xbok RX12 cX12_isLetter b := xbF_ok (lk := lX12_isLetter) (ls := []) kX12_isLetter xno_sw (by decide +kernel)
set_option maxRecDepth 20000 in
theorem vX12_isLetter : xMok mX12_isLetter := ⟨⟨wc_5.1, xtc7 141 rfl rfl, wc_5.2.1, wc_5.2.2, by decide +kernel, by decide, rfl⟩, bX12_isLetter_ok⟩
def lX12_isLifeTold : List xL := [(3, 1, 12, 12, 20)]
theorem kX12_isLifeTold : ∀ q ∈ lX12_isLifeTold, xLq RX12 q := List.forall_mem_cons.mpr ⟨lk_343, fun _ h => absurd h List.not_mem_nil⟩
theorem bX12_isLifeTold_ok : ∀ b ∈ bX12_isLifeTold, xbok RX12 cX12_isLifeTold b := xbF_ok (lk := lX12_isLifeTold) (ls := []) kX12_isLifeTold xno_sw (by decide +kernel)
set_option maxRecDepth 20000 in
theorem vX12_isLifeTold : xMok mX12_isLifeTold := ⟨⟨wc_5.1, xtc7 204 rfl rfl, wc_5.2.1, wc_5.2.2, by decide +kernel, by decide, rfl⟩, bX12_isLifeTold_ok⟩
def lX12_isOf : List xL := [(3, 1, 12, 0, 7), (3, 13, 161, 98, 105)]
theorem kX12_isOf : ∀ q ∈ lX12_isOf, xLq RX12 q := List.forall_mem_cons.mpr ⟨lk_290, List.forall_mem_cons.mpr ⟨lk_256, fun _ h => absurd h List.not_mem_nil⟩⟩
theorem bX12_isOf_ok : ∀ b ∈ bX12_isOf, xbok RX12 cX12_isOf b := xbF_ok (lk := lX12_isOf) (ls := []) kX12_isOf xno_sw (by decide +kernel)
set_option maxRecDepth 20000 in
theorem vX12_isOf : xMok mX12_isOf := ⟨⟨wc_5.1, xtc7 216 rfl rfl, wc_5.2.1, wc_5.2.2, by decide +kernel, by decide, rfl⟩, bX12_isOf_ok⟩
def lX12_isPoint : List xL := [(3, 1, 12, 0, 7), (3, 13, 161, 98, 105)]
theorem kX12_isPoint : ∀ q ∈ lX12_isPoint, xLq RX12 q := List.forall_mem_cons.mpr ⟨lk_290, List.forall_mem_cons.mpr ⟨lk_256, fun _ h => absurd h List.not_mem_nil⟩⟩
theorem bX12_isPoint_ok : ∀ b ∈ bX12_isPoint, xbok RX12 cX12_isPoint b := xbF_ok (lk := lX12_isPoint) (ls := []) kX12_isPoint xno_sw (by decide +kernel)
set_option maxRecDepth 20000 in
theorem vX12_isPoint : xMok mX12_isPoint := ⟨⟨wc_5.1, xtc8 152 rfl rfl, wc_5.2.1, wc_5.2.2, by decide +kernel, by decide, rfl⟩, bX12_isPoint_ok⟩
def lX12_isQuarrel : List xL := [(3, 1, 12, 44, 96)]
theorem kX12_isQuarrel : ∀ q ∈ lX12_isQuarrel, xLq RX12 q := List.forall_mem_cons.mpr ⟨lk_393, fun _ h => absurd h List.not_mem_nil⟩
theorem bX12_isQuarrel_ok : ∀ b ∈ bX12_isQuarrel, xbok RX12 cX12_isQuarrel b := xbF_ok (lk := lX12_isQuarrel) (ls := []) kX12_isQuarrel xno_sw (by decide +kernel)
set_option maxRecDepth 20000 in
theorem vX12_isQuarrel : xMok mX12_isQuarrel := ⟨⟨wc_5.1, xtc9 99 rfl rfl, wc_5.2.1, wc_5.2.2, by decide +kernel, by decide, rfl⟩, bX12_isQuarrel_ok⟩
def lX12_isRound : List xL := [(3, 13, 161, 98, 105)]
theorem kX12_isRound : ∀ q ∈ lX12_isRound, xLq RX12 q := List.forall_mem_cons.mpr ⟨lk_256, fun _ h => absurd h List.not_mem_nil⟩
theorem bX12_isRound_ok : ∀ b ∈ bX12_isRound, xbok RX12 cX12_isRound b := xbF_ok (lk := lX12_isRound) (ls := []) kX12_isRound xno_sw (by decide +kernel)
set_option maxRecDepth 20000 in
theorem vX12_isRound : xMok mX12_isRound := ⟨⟨wc_5.1, xtc8 9 rfl rfl, wc_5.2.1, wc_5.2.2, by decide +kernel, by decide, rfl⟩, bX12_isRound_ok⟩
def lX12_isSignByte : List xL := [(3, 1, 12, 2, 137)]
theorem kX12_isSignByte : ∀ q ∈ lX12_isSignByte, xLq RX12 q := List.forall_mem_cons.mpr ⟨lk_280, fun _ h => absurd h List.not_mem_nil⟩
theorem bX12_isSignByte_ok : ∀ b ∈ bX12_isSignByte, xbok RX12 cX12_isSignByte b := xbF_ok (lk := lX12_isSignByte) (ls := []) kX12_isSignByte xno_sw (by decide +kernel)
set_option maxRecDepth 20000 in
theorem vX12_isSignByte : xMok mX12_isSignByte := ⟨⟨wc_5.1, xtc7 170 rfl rfl, wc_5.2.1, wc_5.2.2, by decide +kernel, by decide, rfl⟩, bX12_isSignByte_ok⟩
def lX12_isThere : List xL := [(3, 1, 12, 0, 7), (3, 13, 161, 98, 105)]
theorem kX12_isThere : ∀ q ∈ lX12_isThere, xLq RX12 q := List.forall_mem_cons.mpr ⟨lk_290, List.forall_mem_cons.mpr ⟨lk_256, fun _ h => absurd h List.not_mem_nil⟩⟩
theorem bX12_isThere_ok : ∀ b ∈ bX12_isThere, xbok RX12 cX12_isThere b := xbF_ok (lk := lX12_isThere) (ls := []) kX12_isThere xno_sw (by decide +kernel)
set_option maxRecDepth 20000 in
theorem vX12_isThere : xMok mX12_isThere := ⟨⟨wc_5.1, xtc8 72 rfl rfl, wc_5.2.1, wc_5.2.2, by decide +kernel, by decide, rfl⟩, bX12_isThere_ok⟩
def lX12_keeps : List xL := [(3, 1, 12, 44, 96), (3, 1, 12, 0, 7), (3, 13, 179, 98, 397)]
theorem kX12_keeps : ∀ q ∈ lX12_keeps, xLq RX12 q := List.forall_mem_cons.mpr ⟨lk_393, List.forall_mem_cons.mpr ⟨lk_290, List.forall_mem_cons.mpr ⟨lk_395, fun _ h => absurd h List.not_mem_nil⟩⟩⟩
theorem bX12_keeps_ok : ∀ b ∈ bX12_keeps, xbok RX12 cX12_keeps b := xbF_ok (lk := lX12_keeps) (ls := []) kX12_keeps xno_sw (by decide +kernel)
set_option maxRecDepth 20000 in
theorem vX12_keeps : xMok mX12_keeps := ⟨⟨wc_5.1, xtc9 72 rfl rfl, wc_5.2.1, wc_5.2.2, by decide +kernel, by decide, rfl⟩, bX12_keeps_ok⟩
def lX12_kept : List xL := [(3, 13, 190, 96, 409)]
theorem kX12_kept : ∀ q ∈ lX12_kept, xLq RX12 q := List.forall_mem_cons.mpr ⟨lk_300, fun _ h => absurd h List.not_mem_nil⟩
theorem bX12_kept_ok : ∀ b ∈ bX12_kept, xbok RX12 cX12_kept b := xbF_ok (lk := lX12_kept) (ls := []) kX12_kept xno_sw (by decide +kernel)
set_option maxRecDepth 20000 in
theorem vX12_kept : xMok mX12_kept := ⟨⟨wc_5.1, xtc9 64 rfl rfl, wc_5.2.1, wc_5.2.2, by decide +kernel, by decide, rfl⟩, bX12_kept_ok⟩
def lX12_lasts : List xL := [(3, 13, 161, 98, 105), (3, 1, 12, 0, 7), (3, 13, 177, 96, 393)]
theorem kX12_lasts : ∀ q ∈ lX12_lasts, xLq RX12 q := List.forall_mem_cons.mpr ⟨lk_256, List.forall_mem_cons.mpr ⟨lk_290, List.forall_mem_cons.mpr ⟨lk_396, fun _ h => absurd h List.not_mem_nil⟩⟩⟩
theorem bX12_lasts_ok : ∀ b ∈ bX12_lasts, xbok RX12 cX12_lasts b := xbF_ok (lk := lX12_lasts) (ls := []) kX12_lasts xno_sw (by decide +kernel)
set_option maxRecDepth 20000 in
theorem vX12_lasts : xMok mX12_lasts := ⟨⟨wc_5.1, xtc9 47 rfl rfl, wc_5.2.1, wc_5.2.2, by decide +kernel, by decide, rfl⟩, bX12_lasts_ok⟩
def lX12_lastsOf : List xL := [(3, 13, 112, 96, 326), (3, 1, 12, 43, 93), (3, 13, 169, 96, 323), (3, 1, 12, 34, 72), (3, 1, 12, 0, 7)]
theorem kX12_lastsOf : ∀ q ∈ lX12_lastsOf, xLq RX12 q := List.forall_mem_cons.mpr ⟨lk_340, List.forall_mem_cons.mpr ⟨lk_397, List.forall_mem_cons.mpr ⟨lk_333, List.forall_mem_cons.mpr ⟨lk_291, List.forall_mem_cons.mpr ⟨lk_290, fun _ h => absurd h List.not_mem_nil⟩⟩⟩⟩⟩
theorem bX12_lastsOf_ok : ∀ b ∈ bX12_lastsOf, xbok RX12 cX12_lastsOf b := xbF_ok (lk := lX12_lastsOf) (ls := []) kX12_lastsOf xno_sw (by decide +kernel)
set_option maxRecDepth 20000 in
theorem vX12_lastsOf : xMok mX12_lastsOf := ⟨⟨wc_5.1, xtc9 51 rfl rfl, wc_5.2.1, wc_5.2.2, by decide +kernel, by decide, rfl⟩, bX12_lastsOf_ok⟩
def lX12_law : List xL := [(3, 13, 174, 96, 403), (3, 13, 164, 96, 406)]
theorem kX12_law : ∀ q ∈ lX12_law, xLq RX12 q := List.forall_mem_cons.mpr ⟨lk_398, List.forall_mem_cons.mpr ⟨lk_399, fun _ h => absurd h List.not_mem_nil⟩⟩
theorem bX12_law_ok : ∀ b ∈ bX12_law, xbok RX12 cX12_law b := xbF_ok (lk := lX12_law) (ls := []) kX12_law xno_sw (by decide +kernel)
set_option maxRecDepth 20000 in
theorem vX12_law : xMok mX12_law := ⟨⟨wc_5.1, xtc9 87 rfl rfl, wc_5.2.1, wc_5.2.2, by decide +kernel, by decide, rfl⟩, bX12_law_ok⟩
def lX12_lawAt : List xL := []
theorem kX12_lawAt : ∀ q ∈ lX12_lawAt, xLq RX12 q := fun _ h => absurd h List.not_mem_nil
theorem bX12_lawAt_ok : ∀ b ∈ bX12_lawAt, xbok RX12 cX12_lawAt b := xbF_ok (lk := lX12_lawAt) (ls := []) kX12_lawAt xno_sw (by decide +kernel)
set_option maxRecDepth 20000 in
theorem vX12_lawAt : xMok mX12_lawAt := ⟨⟨wc_5.1, xtc9 75 rfl rfl, wc_5.2.1, wc_5.2.2, by decide +kernel, by decide, rfl⟩, bX12_lawAt_ok⟩
def lX12_layer : List xL := [(3, 13, 168, 96, 241), (3, 13, 161, 98, 105), (3, 13, 116, 96, 244), (3, 1, 12, 0, 7), (3, 1, 12, 17, 32), (3, 1, 12, 18, 35)]
theorem kX12_layer : ∀ q ∈ lX12_layer, xLq RX12 q := List.forall_mem_cons.mpr ⟨lk_302, List.forall_mem_cons.mpr ⟨lk_256, List.forall_mem_cons.mpr ⟨lk_304, List.forall_mem_cons.mpr ⟨lk_290, List.forall_mem_cons.mpr ⟨lk_314, List.forall_mem_cons.mpr ⟨lk_313, fun _ h => absurd h List.not_mem_nil⟩⟩⟩⟩⟩⟩
theorem bX12_layer_ok : ∀ b ∈ bX12_layer, xbok RX12 cX12_layer b := xbF_ok (lk := lX12_layer) (ls := []) kX12_layer xno_sw (by decide +kernel)
set_option maxRecDepth 20000 in
theorem vX12_layer : xMok mX12_layer := ⟨⟨wc_5.1, xtc7 212 rfl rfl, wc_5.2.1, wc_5.2.2, by decide +kernel, by decide, rfl⟩, bX12_layer_ok⟩
def lX12_layerOf : List xL := [(3, 1, 12, 0, 7), (3, 1, 12, 15, 26)]
theorem kX12_layerOf : ∀ q ∈ lX12_layerOf, xLq RX12 q := List.forall_mem_cons.mpr ⟨lk_290, List.forall_mem_cons.mpr ⟨lk_354, fun _ h => absurd h List.not_mem_nil⟩⟩
theorem bX12_layerOf_ok : ∀ b ∈ bX12_layerOf, xbok RX12 cX12_layerOf b := xbF_ok (lk := lX12_layerOf) (ls := []) kX12_layerOf xno_sw (by decide +kernel)
set_option maxRecDepth 20000 in
theorem vX12_layerOf : xMok mX12_layerOf := ⟨⟨wc_5.1, xtc7 232 rfl rfl, wc_5.2.1, wc_5.2.2, by decide +kernel, by decide, rfl⟩, bX12_layerOf_ok⟩
def lX12_lays : List xL := [(3, 1, 12, 39, 87), (3, 1, 12, 42, 361), (3, 13, 118, 98, 344), (3, 14, 12, 42, 361)]
theorem kX12_lays : ∀ q ∈ lX12_lays, xLq RX12 q := List.forall_mem_cons.mpr ⟨lk_400, List.forall_mem_cons.mpr ⟨lk_401, List.forall_mem_cons.mpr ⟨lk_402, List.forall_mem_cons.mpr ⟨lk_403, fun _ h => absurd h List.not_mem_nil⟩⟩⟩⟩
theorem bX12_lays_ok : ∀ b ∈ bX12_lays, xbok RX12 cX12_lays b := xbF_ok (lk := lX12_lays) (ls := []) kX12_lays xno_sw (by decide +kernel)
set_option maxRecDepth 20000 in
theorem vX12_lays : xMok mX12_lays := ⟨⟨wc_5.1, xtc8 231 rfl rfl, wc_5.2.1, wc_5.2.2, by decide +kernel, by decide, rfl⟩, bX12_lays_ok⟩
def lX12_leads : List xL := [(3, 13, 165, 96, 287)]
theorem kX12_leads : ∀ q ∈ lX12_leads, xLq RX12 q := List.forall_mem_cons.mpr ⟨lk_404, fun _ h => absurd h List.not_mem_nil⟩
theorem bX12_leads_ok : ∀ b ∈ bX12_leads, xbok RX12 cX12_leads b := xbF_ok (lk := lX12_leads) (ls := []) kX12_leads xno_sw (by decide +kernel)
set_option maxRecDepth 20000 in
theorem vX12_leads : xMok mX12_leads := ⟨⟨wc_5.1, xtc8 80 rfl rfl, wc_5.2.1, wc_5.2.2, by decide +kernel, by decide, rfl⟩, bX12_leads_ok⟩
def lX12_least : List xL := [(3, 1, 12, 0, 7), (3, 13, 116, 96, 244), (3, 13, 185, 96, 253)]
theorem kX12_least : ∀ q ∈ lX12_least, xLq RX12 q := List.forall_mem_cons.mpr ⟨lk_290, List.forall_mem_cons.mpr ⟨lk_304, List.forall_mem_cons.mpr ⟨lk_405, fun _ h => absurd h List.not_mem_nil⟩⟩⟩
theorem bX12_least_ok : ∀ b ∈ bX12_least, xbok RX12 cX12_least b := xbF_ok (lk := lX12_least) (ls := []) kX12_least xno_sw (by decide +kernel)
set_option maxRecDepth 20000 in
theorem vX12_least : xMok mX12_least := ⟨⟨wc_5.1, xtc8 19 rfl rfl, wc_5.2.1, wc_5.2.2, by decide +kernel, by decide, rfl⟩, bX12_least_ok⟩
def lX12_leastNow : List xL := [(3, 1, 12, 0, 7), (3, 13, 181, 96, 222), (3, 1, 12, 20, 42), (3, 52, 1000, 0, 231), (3, 1, 12, 21, 45), (3, 13, 221, 98, 227), (3, 52, 9999, 0, 233)]
theorem kX12_leastNow : ∀ q ∈ lX12_leastNow, xLq RX12 q := List.forall_mem_cons.mpr ⟨lk_290, List.forall_mem_cons.mpr ⟨lk_308, List.forall_mem_cons.mpr ⟨lk_309, List.forall_mem_cons.mpr ⟨lk_305, List.forall_mem_cons.mpr ⟨lk_306, List.forall_mem_cons.mpr ⟨lk_307, List.forall_mem_cons.mpr ⟨lk_406, fun _ h => absurd h List.not_mem_nil⟩⟩⟩⟩⟩⟩⟩
theorem bX12_leastNow_ok : ∀ b ∈ bX12_leastNow, xbok RX12 cX12_leastNow b := xbF_ok (lk := lX12_leastNow) (ls := []) kX12_leastNow xno_sw (by decide +kernel)
set_option maxRecDepth 20000 in
theorem vX12_leastNow : xMok mX12_leastNow := ⟨⟨wc_5.1, xtc8 23 rfl rfl, wc_5.2.1, wc_5.2.2, by decide +kernel, by decide, rfl⟩, bX12_leastNow_ok⟩
def lX12_left : List xL := [(3, 13, 169, 96, 323), (3, 13, 112, 96, 326), (3, 13, 187, 96, 329)]
theorem kX12_left : ∀ q ∈ lX12_left, xLq RX12 q := List.forall_mem_cons.mpr ⟨lk_333, List.forall_mem_cons.mpr ⟨lk_340, List.forall_mem_cons.mpr ⟨lk_388, fun _ h => absurd h List.not_mem_nil⟩⟩⟩
theorem bX12_left_ok : ∀ b ∈ bX12_left, xbok RX12 cX12_left b := xbF_ok (lk := lX12_left) (ls := []) kX12_left xno_sw (by decide +kernel)
set_option maxRecDepth 20000 in
theorem vX12_left : xMok mX12_left := ⟨⟨wc_5.1, xtc8 148 rfl rfl, wc_5.2.1, wc_5.2.2, by decide +kernel, by decide, rfl⟩, bX12_left_ok⟩
def lX12_leftOf : List xL := [(3, 1, 12, 34, 72)]
theorem kX12_leftOf : ∀ q ∈ lX12_leftOf, xLq RX12 q := List.forall_mem_cons.mpr ⟨lk_291, fun _ h => absurd h List.not_mem_nil⟩
theorem bX12_leftOf_ok : ∀ b ∈ bX12_leftOf, xbok RX12 cX12_leftOf b := xbF_ok (lk := lX12_leftOf) (ls := []) kX12_leftOf xno_sw (by decide +kernel)
set_option maxRecDepth 20000 in
theorem vX12_leftOf : xMok mX12_leftOf := ⟨⟨wc_5.1, xtc8 160 rfl rfl, wc_5.2.1, wc_5.2.2, by decide +kernel, by decide, rfl⟩, bX12_leftOf_ok⟩
def lX12_lifeOf : List xL := [(3, 1, 12, 0, 7), (3, 52, 1000, 0, 231), (3, 1, 12, 21, 45), (3, 13, 221, 98, 227), (3, 1, 12, 20, 42)]
theorem kX12_lifeOf : ∀ q ∈ lX12_lifeOf, xLq RX12 q := List.forall_mem_cons.mpr ⟨lk_290, List.forall_mem_cons.mpr ⟨lk_305, List.forall_mem_cons.mpr ⟨lk_306, List.forall_mem_cons.mpr ⟨lk_307, List.forall_mem_cons.mpr ⟨lk_309, fun _ h => absurd h List.not_mem_nil⟩⟩⟩⟩⟩
theorem bX12_lifeOf_ok : ∀ b ∈ bX12_lifeOf, xbok RX12 cX12_lifeOf b := xbF_ok (lk := lX12_lifeOf) (ls := []) kX12_lifeOf xno_sw (by decide +kernel)
set_option maxRecDepth 20000 in
theorem vX12_lifeOf : xMok mX12_lifeOf := ⟨⟨wc_5.1, xtc8 52 rfl rfl, wc_5.2.1, wc_5.2.2, by decide +kernel, by decide, rfl⟩, bX12_lifeOf_ok⟩
def lX12_looks : List xL := [(3, 1, 12, 29, 60), (3, 13, 165, 96, 287), (3, 1, 12, 30, 63)]
theorem kX12_looks : ∀ q ∈ lX12_looks, xLq RX12 q := List.forall_mem_cons.mpr ⟨lk_390, List.forall_mem_cons.mpr ⟨lk_404, List.forall_mem_cons.mpr ⟨lk_392, fun _ h => absurd h List.not_mem_nil⟩⟩⟩
theorem bX12_looks_ok : ∀ b ∈ bX12_looks, xbok RX12 cX12_looks b := xbF_ok (lk := lX12_looks) (ls := []) kX12_looks xno_sw (by decide +kernel)
set_option maxRecDepth 20000 in
theorem vX12_looks : xMok mX12_looks := ⟨⟨wc_5.1, xtc8 92 rfl rfl, wc_5.2.1, wc_5.2.2, by decide +kernel, by decide, rfl⟩, bX12_looks_ok⟩
def lX12_manyKept : List xL := [(3, 13, 174, 96, 403), (3, 13, 164, 96, 406)]
theorem kX12_manyKept : ∀ q ∈ lX12_manyKept, xLq RX12 q := List.forall_mem_cons.mpr ⟨lk_398, List.forall_mem_cons.mpr ⟨lk_399, fun _ h => absurd h List.not_mem_nil⟩⟩
theorem bX12_manyKept_ok : ∀ b ∈ bX12_manyKept, xbok RX12 cX12_manyKept b := xbF_ok (lk := lX12_manyKept) (ls := []) kX12_manyKept xno_sw (by decide +kernel)
set_option maxRecDepth 20000 in
theorem vX12_manyKept : xMok mX12_manyKept := ⟨⟨wc_5.1, xtc9 68 rfl rfl, wc_5.2.1, wc_5.2.2, by decide +kernel, by decide, rfl⟩, bX12_manyKept_ok⟩
def lX12_meets : List xL := [(3, 1, 12, 32, 69), (3, 1, 12, 31, 66), (3, 1, 12, 33, 290), (3, 14, 12, 33, 290)]
theorem kX12_meets : ∀ q ∈ lX12_meets, xLq RX12 q := List.forall_mem_cons.mpr ⟨lk_350, List.forall_mem_cons.mpr ⟨lk_407, List.forall_mem_cons.mpr ⟨lk_408, List.forall_mem_cons.mpr ⟨lk_409, fun _ h => absurd h List.not_mem_nil⟩⟩⟩⟩
theorem bX12_meets_ok : ∀ b ∈ bX12_meets, xbok RX12 cX12_meets b := xbF_ok (lk := lX12_meets) (ls := []) kX12_meets xno_sw (by decide +kernel)
set_option maxRecDepth 20000 in
theorem vX12_meets : xMok mX12_meets := ⟨⟨wc_5.1, xtc8 108 rfl rfl, wc_5.2.1, wc_5.2.2, by decide +kernel, by decide, rfl⟩, bX12_meets_ok⟩
def lX12_mend : List xL := [(3, 13, 130, 96, 376), (3, 13, 161, 98, 105), (3, 1, 12, 0, 7), (3, 13, 200, 98, 379), (3, 13, 160, 96, 382)]
theorem kX12_mend : ∀ q ∈ lX12_mend, xLq RX12 q := List.forall_mem_cons.mpr ⟨lk_295, List.forall_mem_cons.mpr ⟨lk_256, List.forall_mem_cons.mpr ⟨lk_290, List.forall_mem_cons.mpr ⟨lk_410, List.forall_mem_cons.mpr ⟨lk_411, fun _ h => absurd h List.not_mem_nil⟩⟩⟩⟩⟩
theorem bX12_mend_ok : ∀ b ∈ bX12_mend, xbok RX12 cX12_mend b := xbF_ok (lk := lX12_mend) (ls := []) kX12_mend xno_sw (by decide +kernel)
set_option maxRecDepth 20000 in
theorem vX12_mend : xMok mX12_mend := ⟨⟨wc_5.1, xtc9 7 rfl rfl, wc_5.2.1, wc_5.2.2, by decide +kernel, by decide, rfl⟩, bX12_mend_ok⟩
def lX12_most : List xL := [(3, 13, 189, 96, 302), (3, 13, 113, 96, 305), (3, 13, 147, 96, 308)]
theorem kX12_most : ∀ q ∈ lX12_most, xLq RX12 q := List.forall_mem_cons.mpr ⟨lk_329, List.forall_mem_cons.mpr ⟨lk_330, List.forall_mem_cons.mpr ⟨lk_331, fun _ h => absurd h List.not_mem_nil⟩⟩⟩
theorem bX12_most_ok : ∀ b ∈ bX12_most, xbok RX12 cX12_most b := xbF_ok (lk := lX12_most) (ls := []) kX12_most xno_sw (by decide +kernel)
set_option maxRecDepth 20000 in
theorem vX12_most : xMok mX12_most := ⟨⟨wc_5.1, xtc8 88 rfl rfl, wc_5.2.1, wc_5.2.2, by decide +kernel, by decide, rfl⟩, bX12_most_ok⟩
def lX12_mostOf : List xL := []
theorem kX12_mostOf : ∀ q ∈ lX12_mostOf, xLq RX12 q := fun _ h => absurd h List.not_mem_nil
theorem bX12_mostOf_ok : ∀ b ∈ bX12_mostOf, xbok RX12 cX12_mostOf b := xbF_ok (lk := lX12_mostOf) (ls := []) kX12_mostOf xno_sw (by decide +kernel)
set_option maxRecDepth 20000 in
theorem vX12_mostOf : xMok mX12_mostOf := ⟨⟨wc_5.1, xtc7 184 rfl rfl, wc_5.2.1, wc_5.2.2, by decide +kernel, by decide, rfl⟩, bX12_mostOf_ok⟩
def lX12_must : List xL := [(3, 1, 12, 10, 180), (3, 1, 12, 7, 151), (3, 1, 12, 3, 174), (3, 13, 110, 96, 190), (3, 13, 140, 96, 183)]
theorem kX12_must : ∀ q ∈ lX12_must, xLq RX12 q := List.forall_mem_cons.mpr ⟨lk_250, List.forall_mem_cons.mpr ⟨lk_251, List.forall_mem_cons.mpr ⟨lk_271, List.forall_mem_cons.mpr ⟨lk_254, List.forall_mem_cons.mpr ⟨lk_253, fun _ h => absurd h List.not_mem_nil⟩⟩⟩⟩⟩
theorem bX12_must_ok : ∀ b ∈ bX12_must, xbok RX12 cX12_must b := xbF_ok (lk := lX12_must) (ls := []) kX12_must xno_sw (by decide +kernel)
set_option maxRecDepth 20000 in
theorem vX12_must : xMok mX12_must := ⟨⟨wc_5.1, xtc9 131 rfl rfl, wc_5.2.1, wc_5.2.2, by decide +kernel, by decide, rfl⟩, bX12_must_ok⟩
def lX12_neutral : List xL := [(3, 13, 168, 96, 241), (3, 13, 116, 96, 244), (3, 52, 1000, 0, 231), (3, 1, 12, 19, 38), (3, 1, 12, 20, 42)]
theorem kX12_neutral : ∀ q ∈ lX12_neutral, xLq RX12 q := List.forall_mem_cons.mpr ⟨lk_302, List.forall_mem_cons.mpr ⟨lk_304, List.forall_mem_cons.mpr ⟨lk_305, List.forall_mem_cons.mpr ⟨lk_315, List.forall_mem_cons.mpr ⟨lk_309, fun _ h => absurd h List.not_mem_nil⟩⟩⟩⟩⟩
theorem bX12_neutral_ok : ∀ b ∈ bX12_neutral, xbok RX12 cX12_neutral b := xbF_ok (lk := lX12_neutral) (ls := []) kX12_neutral xno_sw (by decide +kernel)
set_option maxRecDepth 20000 in
theorem vX12_neutral : xMok mX12_neutral := ⟨⟨wc_5.1, xtc8 0 rfl rfl, wc_5.2.1, wc_5.2.2, by decide +kernel, by decide, rfl⟩, bX12_neutral_ok⟩
def lX12_next : List xL := [(3, 13, 161, 98, 105), (3, 13, 174, 96, 403), (3, 13, 164, 96, 406), (3, 13, 179, 98, 397)]
theorem kX12_next : ∀ q ∈ lX12_next, xLq RX12 q := List.forall_mem_cons.mpr ⟨lk_256, List.forall_mem_cons.mpr ⟨lk_398, List.forall_mem_cons.mpr ⟨lk_399, List.forall_mem_cons.mpr ⟨lk_395, fun _ h => absurd h List.not_mem_nil⟩⟩⟩⟩
theorem bX12_next_ok : ∀ b ∈ bX12_next, xbok RX12 cX12_next b := xbF_ok (lk := lX12_next) (ls := []) kX12_next xno_sw (by decide +kernel)
set_option maxRecDepth 20000 in
theorem vX12_next : xMok mX12_next := ⟨⟨wc_5.1, xtc9 103 rfl rfl, wc_5.2.1, wc_5.2.2, by decide +kernel, by decide, rfl⟩, bX12_next_ok⟩
def lX12_numberNow : List xL := [(3, 1, 12, 8, 171), (3, 1, 12, 10, 180), (3, 1, 12, 7, 151), (3, 13, 110, 96, 190), (3, 13, 140, 96, 183)]
theorem kX12_numberNow : ∀ q ∈ lX12_numberNow, xLq RX12 q := List.forall_mem_cons.mpr ⟨lk_286, List.forall_mem_cons.mpr ⟨lk_250, List.forall_mem_cons.mpr ⟨lk_251, List.forall_mem_cons.mpr ⟨lk_254, List.forall_mem_cons.mpr ⟨lk_253, fun _ h => absurd h List.not_mem_nil⟩⟩⟩⟩⟩
theorem bX12_numberNow_ok : ∀ b ∈ bX12_numberNow, xbok RX12 cX12_numberNow b := xbF_ok (lk := lX12_numberNow) (ls := []) kX12_numberNow xno_sw (by decide +kernel)
set_option maxRecDepth 20000 in
theorem vX12_numberNow : xMok mX12_numberNow := ⟨⟨wc_5.1, xtc9 123 rfl rfl, wc_5.2.1, wc_5.2.2, by decide +kernel, by decide, rfl⟩, bX12_numberNow_ok⟩
def lX12_numbered : List xL := [(3, 1, 12, 10, 180), (3, 1, 12, 7, 151), (3, 13, 140, 96, 183), (3, 1, 12, 8, 171), (3, 13, 161, 98, 105), (3, 1, 12, 6, 148), (3, 13, 115, 96, 186), (3, 13, 110, 96, 190)]
theorem kX12_numbered : ∀ q ∈ lX12_numbered, xLq RX12 q := List.forall_mem_cons.mpr ⟨lk_250, List.forall_mem_cons.mpr ⟨lk_251, List.forall_mem_cons.mpr ⟨lk_253, List.forall_mem_cons.mpr ⟨lk_286, List.forall_mem_cons.mpr ⟨lk_256, List.forall_mem_cons.mpr ⟨lk_255, List.forall_mem_cons.mpr ⟨lk_259, List.forall_mem_cons.mpr ⟨lk_254, fun _ h => absurd h List.not_mem_nil⟩⟩⟩⟩⟩⟩⟩⟩
theorem bX12_numbered_ok : ∀ b ∈ bX12_numbered, xbok RX12 cX12_numbered b := xbF_ok (lk := lX12_numbered) (ls := []) kX12_numbered xno_sw (by decide +kernel)
set_option maxRecDepth 20000 in
theorem vX12_numbered : xMok mX12_numbered := ⟨⟨wc_5.1, xtc7 196 rfl rfl, wc_5.2.1, wc_5.2.2, by decide +kernel, by decide, rfl⟩, bX12_numbered_ok⟩
def lX12_ones : List xL := []
theorem kX12_ones : ∀ q ∈ lX12_ones, xLq RX12 q := fun _ h => absurd h List.not_mem_nil
theorem bX12_ones_ok : ∀ b ∈ bX12_ones, xbok RX12 cX12_ones b := xbF_ok (lk := lX12_ones) (ls := []) kX12_ones xno_sw (by decide +kernel)
set_option maxRecDepth 20000 in
theorem vX12_ones : xMok mX12_ones := ⟨⟨wc_5.1, xtc9 14 rfl rfl, wc_5.2.1, wc_5.2.2, by decide +kernel, by decide, rfl⟩, bX12_ones_ok⟩
def lX12_order : List xL := [(3, 1, 12, 0, 7), (3, 13, 161, 98, 105), (3, 13, 155, 96, 235), (3, 13, 122, 96, 238), (3, 13, 185, 96, 253), (3, 1, 12, 16, 29), (3, 1, 12, 15, 26), (3, 13, 213, 96, 260)]
theorem kX12_order : ∀ q ∈ lX12_order, xLq RX12 q := List.forall_mem_cons.mpr ⟨lk_290, List.forall_mem_cons.mpr ⟨lk_256, List.forall_mem_cons.mpr ⟨lk_292, List.forall_mem_cons.mpr ⟨lk_293, List.forall_mem_cons.mpr ⟨lk_405, List.forall_mem_cons.mpr ⟨lk_412, List.forall_mem_cons.mpr ⟨lk_354, List.forall_mem_cons.mpr ⟨lk_413, fun _ h => absurd h List.not_mem_nil⟩⟩⟩⟩⟩⟩⟩⟩
theorem bX12_order_ok : ∀ b ∈ bX12_order, xbok RX12 cX12_order b := xbF_ok (lk := lX12_order) (ls := []) kX12_order xno_sw (by decide +kernel)
set_option maxRecDepth 20000 in
theorem vX12_order : xMok mX12_order := ⟨⟨wc_5.1, xtc8 32 rfl rfl, wc_5.2.1, wc_5.2.2, by decide +kernel, by decide, rfl⟩, bX12_order_ok⟩
def lX12_panel : List xL := [(3, 13, 161, 98, 105), (3, 13, 207, 96, 373), (3, 1, 12, 41, 364), (3, 1, 12, 40, 90)]
theorem kX12_panel : ∀ q ∈ lX12_panel, xLq RX12 q := List.forall_mem_cons.mpr ⟨lk_256, List.forall_mem_cons.mpr ⟨lk_414, List.forall_mem_cons.mpr ⟨lk_415, List.forall_mem_cons.mpr ⟨lk_416, fun _ h => absurd h List.not_mem_nil⟩⟩⟩⟩
theorem bX12_panel_ok : ∀ b ∈ bX12_panel, xbok RX12 cX12_panel b := xbF_ok (lk := lX12_panel) (ls := []) kX12_panel xno_sw (by decide +kernel)
set_option maxRecDepth 20000 in
theorem vX12_panel : xMok mX12_panel := ⟨⟨wc_5.1, xtc8 239 rfl rfl, wc_5.2.1, wc_5.2.2, by decide +kernel, by decide, rfl⟩, bX12_panel_ok⟩
def lX12_panelOf : List xL := [(3, 1, 12, 0, 7), (3, 1, 12, 38, 84), (3, 13, 118, 98, 344)]
theorem kX12_panelOf : ∀ q ∈ lX12_panelOf, xLq RX12 q := List.forall_mem_cons.mpr ⟨lk_290, List.forall_mem_cons.mpr ⟨lk_417, List.forall_mem_cons.mpr ⟨lk_402, fun _ h => absurd h List.not_mem_nil⟩⟩⟩
theorem bX12_panelOf_ok : ∀ b ∈ bX12_panelOf, xbok RX12 cX12_panelOf b := xbF_ok (lk := lX12_panelOf) (ls := []) kX12_panelOf xno_sw (by decide +kernel)
set_option maxRecDepth 20000 in
theorem vX12_panelOf : xMok mX12_panelOf := ⟨⟨wc_5.1, xtc8 219 rfl rfl, wc_5.2.1, wc_5.2.2, by decide +kernel, by decide, rfl⟩, bX12_panelOf_ok⟩
def lX12_panels : List xL := [(3, 13, 207, 96, 373), (3, 1, 12, 41, 364)]
theorem kX12_panels : ∀ q ∈ lX12_panels, xLq RX12 q := List.forall_mem_cons.mpr ⟨lk_414, List.forall_mem_cons.mpr ⟨lk_415, fun _ h => absurd h List.not_mem_nil⟩⟩
theorem bX12_panels_ok : ∀ b ∈ bX12_panels, xbok RX12 cX12_panels b := xbF_ok (lk := lX12_panels) (ls := []) kX12_panels xno_sw (by decide +kernel)
set_option maxRecDepth 20000 in
theorem vX12_panels : xMok mX12_panels := ⟨⟨wc_5.1, xtc8 223 rfl rfl, wc_5.2.1, wc_5.2.2, by decide +kernel, by decide, rfl⟩, bX12_panels_ok⟩
def lX12_picture : List xL := [(3, 1, 12, 0, 7), (3, 13, 161, 98, 105)]
theorem kX12_picture : ∀ q ∈ lX12_picture, xLq RX12 q := List.forall_mem_cons.mpr ⟨lk_290, List.forall_mem_cons.mpr ⟨lk_256, fun _ h => absurd h List.not_mem_nil⟩⟩
theorem bX12_picture_ok : ∀ b ∈ bX12_picture, xbok RX12 cX12_picture b := xbF_ok (lk := lX12_picture) (ls := []) kX12_picture xno_sw (by decide +kernel)
set_option maxRecDepth 20000 in
theorem vX12_picture : xMok mX12_picture := ⟨⟨wc_5.1, xtc8 144 rfl rfl, wc_5.2.1, wc_5.2.2, by decide +kernel, by decide, rfl⟩, bX12_picture_ok⟩
def lX12_pieceOf : List xL := [(3, 13, 203, 96, 348), (3, 1, 12, 0, 7), (3, 1, 12, 37, 81), (3, 13, 118, 98, 344)]
theorem kX12_pieceOf : ∀ q ∈ lX12_pieceOf, xLq RX12 q := List.forall_mem_cons.mpr ⟨lk_418, List.forall_mem_cons.mpr ⟨lk_290, List.forall_mem_cons.mpr ⟨lk_419, List.forall_mem_cons.mpr ⟨lk_402, fun _ h => absurd h List.not_mem_nil⟩⟩⟩⟩
theorem bX12_pieceOf_ok : ∀ b ∈ bX12_pieceOf, xbok RX12 cX12_pieceOf b := xbF_ok (lk := lX12_pieceOf) (ls := []) kX12_pieceOf xno_sw (by decide +kernel)
set_option maxRecDepth 20000 in
theorem vX12_pieceOf : xMok mX12_pieceOf := ⟨⟨wc_5.1, xtc8 215 rfl rfl, wc_5.2.1, wc_5.2.2, by decide +kernel, by decide, rfl⟩, bX12_pieceOf_ok⟩
def lX12_plans : List xL := [(3, 13, 234, 96, 358), (3, 14, 12, 41, 364), (3, 14, 12, 42, 361), (3, 1, 12, 0, 7), (3, 13, 182, 96, 367), (3, 1, 12, 42, 361), (3, 1, 12, 39, 87), (3, 13, 208, 96, 370)]
theorem kX12_plans : ∀ q ∈ lX12_plans, xLq RX12 q := List.forall_mem_cons.mpr ⟨lk_420, List.forall_mem_cons.mpr ⟨lk_421, List.forall_mem_cons.mpr ⟨lk_403, List.forall_mem_cons.mpr ⟨lk_290, List.forall_mem_cons.mpr ⟨lk_422, List.forall_mem_cons.mpr ⟨lk_401, List.forall_mem_cons.mpr ⟨lk_400, List.forall_mem_cons.mpr ⟨lk_423, fun _ h => absurd h List.not_mem_nil⟩⟩⟩⟩⟩⟩⟩⟩
theorem bX12_plans_ok : ∀ b ∈ bX12_plans, xbok RX12 cX12_plans b := xbF_ok (lk := lX12_plans) (ls := []) kX12_plans xno_sw (by decide +kernel)
set_option maxRecDepth 20000 in
theorem vX12_plans : xMok mX12_plans := ⟨⟨wc_5.1, xtc8 227 rfl rfl, wc_5.2.1, wc_5.2.2, by decide +kernel, by decide, rfl⟩, bX12_plans_ok⟩
def lX12_plansOne : List xL := [(3, 1, 12, 37, 81), (3, 13, 203, 96, 348), (3, 1, 12, 0, 7), (3, 1, 12, 40, 90), (3, 1, 12, 41, 364), (3, 14, 12, 41, 364), (3, 13, 118, 98, 344), (3, 13, 182, 96, 367)]
theorem kX12_plansOne : ∀ q ∈ lX12_plansOne, xLq RX12 q := List.forall_mem_cons.mpr ⟨lk_419, List.forall_mem_cons.mpr ⟨lk_418, List.forall_mem_cons.mpr ⟨lk_290, List.forall_mem_cons.mpr ⟨lk_416, List.forall_mem_cons.mpr ⟨lk_415, List.forall_mem_cons.mpr ⟨lk_421, List.forall_mem_cons.mpr ⟨lk_402, List.forall_mem_cons.mpr ⟨lk_422, fun _ h => absurd h List.not_mem_nil⟩⟩⟩⟩⟩⟩⟩⟩
theorem bX12_plansOne_ok : ∀ b ∈ bX12_plansOne, xbok RX12 cX12_plansOne b := xbF_ok (lk := lX12_plansOne) (ls := []) kX12_plansOne xno_sw (by decide +kernel)
set_option maxRecDepth 20000 in
theorem vX12_plansOne : xMok mX12_plansOne := ⟨⟨wc_5.1, xtc8 235 rfl rfl, wc_5.2.1, wc_5.2.2, by decide +kernel, by decide, rfl⟩, bX12_plansOne_ok⟩
def lX12_price : List xL := [(3, 1, 12, 0, 7), (3, 13, 152, 96, 450)]
theorem kX12_price : ∀ q ∈ lX12_price, xLq RX12 q := List.forall_mem_cons.mpr ⟨lk_290, List.forall_mem_cons.mpr ⟨lk_301, fun _ h => absurd h List.not_mem_nil⟩⟩
theorem bX12_price_ok : ∀ b ∈ bX12_price, xbok RX12 cX12_price b := xbF_ok (lk := lX12_price) (ls := []) kX12_price xno_sw (by decide +kernel)
set_option maxRecDepth 20000 in
theorem vX12_price : xMok mX12_price := ⟨⟨wc_5.1, xtc9 155 rfl rfl, wc_5.2.1, wc_5.2.2, by decide +kernel, by decide, rfl⟩, bX12_price_ok⟩
def lX12_promise : List xL := [(3, 13, 161, 98, 105), (3, 13, 218, 96, 390)]
theorem kX12_promise : ∀ q ∈ lX12_promise, xLq RX12 q := List.forall_mem_cons.mpr ⟨lk_256, List.forall_mem_cons.mpr ⟨lk_424, fun _ h => absurd h List.not_mem_nil⟩⟩
theorem bX12_promise_ok : ∀ b ∈ bX12_promise, xbok RX12 cX12_promise b := xbF_ok (lk := lX12_promise) (ls := []) kX12_promise xno_sw (by decide +kernel)
set_option maxRecDepth 20000 in
theorem vX12_promise : xMok mX12_promise := ⟨⟨wc_5.1, xtc9 43 rfl rfl, wc_5.2.1, wc_5.2.2, by decide +kernel, by decide, rfl⟩, bX12_promise_ok⟩
def lX12_puts : List xL := [(3, 13, 194, 98, 193), (3, 1, 12, 12, 20)]
theorem kX12_puts : ∀ q ∈ lX12_puts, xLq RX12 q := List.forall_mem_cons.mpr ⟨lk_258, List.forall_mem_cons.mpr ⟨lk_343, fun _ h => absurd h List.not_mem_nil⟩⟩
theorem bX12_puts_ok : ∀ b ∈ bX12_puts, xbok RX12 cX12_puts b := xbF_ok (lk := lX12_puts) (ls := []) kX12_puts xno_sw (by decide +kernel)
set_option maxRecDepth 20000 in
theorem vX12_puts : xMok mX12_puts := ⟨⟨wc_5.1, xtc7 200 rfl rfl, wc_5.2.1, wc_5.2.2, by decide +kernel, by decide, rfl⟩, bX12_puts_ok⟩
def lX12_quarrel : List xL := [(3, 13, 190, 96, 409), (3, 13, 114, 96, 400), (3, 13, 200, 98, 379), (3, 13, 170, 96, 412)]
theorem kX12_quarrel : ∀ q ∈ lX12_quarrel, xLq RX12 q := List.forall_mem_cons.mpr ⟨lk_300, List.forall_mem_cons.mpr ⟨lk_394, List.forall_mem_cons.mpr ⟨lk_410, List.forall_mem_cons.mpr ⟨lk_425, fun _ h => absurd h List.not_mem_nil⟩⟩⟩⟩
theorem bX12_quarrel_ok : ∀ b ∈ bX12_quarrel, xbok RX12 cX12_quarrel b := xbF_ok (lk := lX12_quarrel) (ls := []) kX12_quarrel xno_sw (by decide +kernel)
set_option maxRecDepth 20000 in
theorem vX12_quarrel : xMok mX12_quarrel := ⟨⟨wc_5.1, xtc9 95 rfl rfl, wc_5.2.1, wc_5.2.2, by decide +kernel, by decide, rfl⟩, bX12_quarrel_ok⟩
def lX12_reorders : List xL := [(3, 1, 12, 15, 26), (3, 13, 226, 96, 257)]
theorem kX12_reorders : ∀ q ∈ lX12_reorders, xLq RX12 q := List.forall_mem_cons.mpr ⟨lk_354, List.forall_mem_cons.mpr ⟨lk_426, fun _ h => absurd h List.not_mem_nil⟩⟩
theorem bX12_reorders_ok : ∀ b ∈ bX12_reorders, xbok RX12 cX12_reorders b := xbF_ok (lk := lX12_reorders) (ls := []) kX12_reorders xno_sw (by decide +kernel)
set_option maxRecDepth 20000 in
theorem vX12_reorders : xMok mX12_reorders := ⟨⟨wc_5.1, xtc8 36 rfl rfl, wc_5.2.1, wc_5.2.2, by decide +kernel, by decide, rfl⟩, bX12_reorders_ok⟩
def lX12_rulePuts : List xL := [(3, 1, 12, 14, 212), (3, 1, 12, 45, 99)]
theorem kX12_rulePuts : ∀ q ∈ lX12_rulePuts, xLq RX12 q := List.forall_mem_cons.mpr ⟨lk_263, List.forall_mem_cons.mpr ⟨lk_427, fun _ h => absurd h List.not_mem_nil⟩⟩
theorem bX12_rulePuts_ok : ∀ b ∈ bX12_rulePuts, xbok RX12 cX12_rulePuts b := xbF_ok (lk := lX12_rulePuts) (ls := []) kX12_rulePuts xno_sw (by decide +kernel)
set_option maxRecDepth 20000 in
theorem vX12_rulePuts : xMok mX12_rulePuts := ⟨⟨wc_5.1, xtc9 127 rfl rfl, wc_5.2.1, wc_5.2.2, by decide +kernel, by decide, rfl⟩, bX12_rulePuts_ok⟩
def lX12_ruleWordOf : List xL := [(3, 13, 229, 98, 117), (3, 13, 220, 98, 131), (3, 13, 146, 98, 125), (3, 13, 148, 98, 121), (3, 52, 294, 0, 135)]
theorem kX12_ruleWordOf : ∀ q ∈ lX12_ruleWordOf, xLq RX12 q := List.forall_mem_cons.mpr ⟨lk_352, List.forall_mem_cons.mpr ⟨lk_428, List.forall_mem_cons.mpr ⟨lk_429, List.forall_mem_cons.mpr ⟨lk_345, List.forall_mem_cons.mpr ⟨lk_430, fun _ h => absurd h List.not_mem_nil⟩⟩⟩⟩⟩
theorem bX12_ruleWordOf_ok : ∀ b ∈ bX12_ruleWordOf, xbok RX12 cX12_ruleWordOf b := xbF_ok (lk := lX12_ruleWordOf) (ls := []) kX12_ruleWordOf xno_sw (by decide +kernel)
set_option maxRecDepth 20000 in
theorem vX12_ruleWordOf : xMok mX12_ruleWordOf := ⟨⟨wc_5.1, xtc7 146 rfl rfl, wc_5.2.1, wc_5.2.2, by decide +kernel, by decide, rfl⟩, bX12_ruleWordOf_ok⟩
def lX12_rules : List xL := [(3, 13, 121, 96, 215), (3, 13, 110, 96, 190), (3, 1, 12, 10, 180), (3, 1, 12, 7, 151), (3, 13, 108, 96, 430), (3, 1, 12, 0, 7), (3, 1, 12, 45, 99), (3, 1, 12, 14, 212)]
theorem kX12_rules : ∀ q ∈ lX12_rules, xLq RX12 q := List.forall_mem_cons.mpr ⟨lk_342, List.forall_mem_cons.mpr ⟨lk_254, List.forall_mem_cons.mpr ⟨lk_250, List.forall_mem_cons.mpr ⟨lk_251, List.forall_mem_cons.mpr ⟨lk_431, List.forall_mem_cons.mpr ⟨lk_290, List.forall_mem_cons.mpr ⟨lk_427, List.forall_mem_cons.mpr ⟨lk_263, fun _ h => absurd h List.not_mem_nil⟩⟩⟩⟩⟩⟩⟩⟩
theorem bX12_rules_ok : ∀ b ∈ bX12_rules, xbok RX12 cX12_rules b := xbF_ok (lk := lX12_rules) (ls := []) kX12_rules xno_sw (by decide +kernel)
set_option maxRecDepth 20000 in
theorem vX12_rules : xMok mX12_rules := ⟨⟨wc_5.1, xtc9 107 rfl rfl, wc_5.2.1, wc_5.2.2, by decide +kernel, by decide, rfl⟩, bX12_rules_ok⟩
def lX12_share : List xL := [(3, 13, 161, 98, 105), (3, 13, 218, 96, 390)]
theorem kX12_share : ∀ q ∈ lX12_share, xLq RX12 q := List.forall_mem_cons.mpr ⟨lk_256, List.forall_mem_cons.mpr ⟨lk_424, fun _ h => absurd h List.not_mem_nil⟩⟩
theorem bX12_share_ok : ∀ b ∈ bX12_share, xbok RX12 cX12_share b := xbF_ok (lk := lX12_share) (ls := []) kX12_share xno_sw (by decide +kernel)
set_option maxRecDepth 20000 in
theorem vX12_share : xMok mX12_share := ⟨⟨wc_5.1, xtc9 35 rfl rfl, wc_5.2.1, wc_5.2.2, by decide +kernel, by decide, rfl⟩, bX12_share_ok⟩
def lX12_shareOf : List xL := [(3, 13, 116, 96, 244), (3, 1, 12, 0, 7), (3, 13, 123, 96, 387)]
theorem kX12_shareOf : ∀ q ∈ lX12_shareOf, xLq RX12 q := List.forall_mem_cons.mpr ⟨lk_304, List.forall_mem_cons.mpr ⟨lk_290, List.forall_mem_cons.mpr ⟨lk_323, fun _ h => absurd h List.not_mem_nil⟩⟩⟩
theorem bX12_shareOf_ok : ∀ b ∈ bX12_shareOf, xbok RX12 cX12_shareOf b := xbF_ok (lk := lX12_shareOf) (ls := []) kX12_shareOf xno_sw (by decide +kernel)
set_option maxRecDepth 20000 in
theorem vX12_shareOf : xMok mX12_shareOf := ⟨⟨wc_5.1, xtc9 39 rfl rfl, wc_5.2.1, wc_5.2.2, by decide +kernel, by decide, rfl⟩, bX12_shareOf_ok⟩
def lX12_shift : List xL := [(3, 1, 12, 0, 7), (3, 13, 177, 96, 393)]
theorem kX12_shift : ∀ q ∈ lX12_shift, xLq RX12 q := List.forall_mem_cons.mpr ⟨lk_290, List.forall_mem_cons.mpr ⟨lk_396, fun _ h => absurd h List.not_mem_nil⟩⟩
theorem bX12_shift_ok : ∀ b ∈ bX12_shift, xbok RX12 cX12_shift b := xbF_ok (lk := lX12_shift) (ls := []) kX12_shift xno_sw (by decide +kernel)
set_option maxRecDepth 20000 in
theorem vX12_shift : xMok mX12_shift := ⟨⟨wc_5.1, xtc9 55 rfl rfl, wc_5.2.1, wc_5.2.2, by decide +kernel, by decide, rfl⟩, bX12_shift_ok⟩
def lX12_six : List xL := [(3, 52, 32768, 0, 129)]
theorem kX12_six : ∀ q ∈ lX12_six, xLq RX12 q := List.forall_mem_cons.mpr ⟨lk_432, fun _ h => absurd h List.not_mem_nil⟩
theorem bX12_six_ok : ∀ b ∈ bX12_six, xbok RX12 cX12_six b := xbF_ok (lk := lX12_six) (ls := []) kX12_six xno_sw (by decide +kernel)
set_option maxRecDepth 20000 in
theorem vX12_six : xMok mX12_six := ⟨⟨wc_5.1, xtc7 152 rfl rfl, wc_5.2.1, wc_5.2.2, by decide +kernel, by decide, rfl⟩, bX12_six_ok⟩
def lX12_size0 : List xL := []
theorem kX12_size0 : ∀ q ∈ lX12_size0, xLq RX12 q := fun _ h => absurd h List.not_mem_nil
theorem bX12_size0_ok : ∀ b ∈ bX12_size0, xbok RX12 cX12_size0 b := xbF_ok (lk := lX12_size0) (ls := []) kX12_size0 xno_sw (by decide +kernel)
set_option maxRecDepth 20000 in
theorem vX12_size0 : xMok mX12_size0 := ⟨⟨wc_5.1, xtc7 236 rfl rfl, wc_5.2.1, wc_5.2.2, by decide +kernel, by decide, rfl⟩, bX12_size0_ok⟩
def lX12_slides : List xL := [(3, 1, 12, 0, 7)]
theorem kX12_slides : ∀ q ∈ lX12_slides, xLq RX12 q := List.forall_mem_cons.mpr ⟨lk_290, fun _ h => absurd h List.not_mem_nil⟩
theorem bX12_slides_ok : ∀ b ∈ bX12_slides, xbok RX12 cX12_slides b := xbF_ok (lk := lX12_slides) (ls := []) kX12_slides xno_sw (by decide +kernel)
set_option maxRecDepth 20000 in
theorem vX12_slides : xMok mX12_slides := ⟨⟨wc_5.1, xtc9 147 rfl rfl, wc_5.2.1, wc_5.2.2, by decide +kernel, by decide, rfl⟩, bX12_slides_ok⟩
def lX12_span : List xL := [(3, 13, 161, 98, 105), (3, 13, 174, 96, 403), (3, 13, 164, 96, 406), (3, 13, 179, 98, 397)]
theorem kX12_span : ∀ q ∈ lX12_span, xLq RX12 q := List.forall_mem_cons.mpr ⟨lk_256, List.forall_mem_cons.mpr ⟨lk_398, List.forall_mem_cons.mpr ⟨lk_399, List.forall_mem_cons.mpr ⟨lk_395, fun _ h => absurd h List.not_mem_nil⟩⟩⟩⟩
theorem bX12_span_ok : ∀ b ∈ bX12_span, xbok RX12 cX12_span b := xbF_ok (lk := lX12_span) (ls := []) kX12_span xno_sw (by decide +kernel)
set_option maxRecDepth 20000 in
theorem vX12_span : xMok mX12_span := ⟨⟨wc_5.1, xtc9 91 rfl rfl, wc_5.2.1, wc_5.2.2, by decide +kernel, by decide, rfl⟩, bX12_span_ok⟩
def lX12_spreads : List xL := [(3, 14, 12, 33, 290), (3, 1, 12, 32, 69), (3, 1, 12, 0, 7), (3, 1, 12, 27, 54), (3, 13, 191, 96, 293), (3, 1, 12, 33, 290), (3, 1, 12, 31, 66), (3, 1, 12, 29, 60), (3, 1, 12, 25, 48), (3, 1, 12, 30, 63), (3, 1, 12, 26, 51)]
theorem kX12_spreads : ∀ q ∈ lX12_spreads, xLq RX12 q := List.forall_mem_cons.mpr ⟨lk_409, List.forall_mem_cons.mpr ⟨lk_350, List.forall_mem_cons.mpr ⟨lk_290, List.forall_mem_cons.mpr ⟨lk_348, List.forall_mem_cons.mpr ⟨lk_433, List.forall_mem_cons.mpr ⟨lk_408, List.forall_mem_cons.mpr ⟨lk_407, List.forall_mem_cons.mpr ⟨lk_390, List.forall_mem_cons.mpr ⟨lk_346, List.forall_mem_cons.mpr ⟨lk_392, List.forall_mem_cons.mpr ⟨lk_347, fun _ h => absurd h List.not_mem_nil⟩⟩⟩⟩⟩⟩⟩⟩⟩⟩⟩
theorem bX12_spreads_ok : ∀ b ∈ bX12_spreads, xbok RX12 cX12_spreads b := xbF_ok (lk := lX12_spreads) (ls := []) kX12_spreads xno_sw (by decide +kernel)
set_option maxRecDepth 20000 in
theorem vX12_spreads : xMok mX12_spreads := ⟨⟨wc_5.1, xtc8 104 rfl rfl, wc_5.2.1, wc_5.2.2, by decide +kernel, by decide, rfl⟩, bX12_spreads_ok⟩
def lX12_stretch : List xL := [(3, 13, 168, 96, 241), (3, 13, 171, 96, 247), (2, 35, 2294967296, 0, 250), (3, 13, 116, 96, 244), (3, 52, 1000000, 0, 251), (3, 1, 12, 21, 45), (3, 1, 12, 20, 42)]
theorem kX12_stretch : ∀ q ∈ lX12_stretch, xLq RX12 q := List.forall_mem_cons.mpr ⟨lk_302, List.forall_mem_cons.mpr ⟨lk_303, List.forall_mem_cons.mpr ⟨lk_434, List.forall_mem_cons.mpr ⟨lk_304, List.forall_mem_cons.mpr ⟨lk_435, List.forall_mem_cons.mpr ⟨lk_306, List.forall_mem_cons.mpr ⟨lk_309, fun _ h => absurd h List.not_mem_nil⟩⟩⟩⟩⟩⟩⟩
theorem bX12_stretch_ok : ∀ b ∈ bX12_stretch, xbok RX12 cX12_stretch b := xbF_ok (lk := lX12_stretch) (ls := []) kX12_stretch xno_sw (by decide +kernel)
set_option maxRecDepth 20000 in
theorem vX12_stretch : xMok mX12_stretch := ⟨⟨wc_5.1, xtc8 5 rfl rfl, wc_5.2.1, wc_5.2.2, by decide +kernel, by decide, rfl⟩, bX12_stretch_ok⟩
def lX12_swap : List xL := [(3, 1, 12, 15, 26)]
theorem kX12_swap : ∀ q ∈ lX12_swap, xLq RX12 q := List.forall_mem_cons.mpr ⟨lk_354, fun _ h => absurd h List.not_mem_nil⟩
theorem bX12_swap_ok : ∀ b ∈ bX12_swap, xbok RX12 cX12_swap b := xbF_ok (lk := lX12_swap) (ls := []) kX12_swap xno_sw (by decide +kernel)
set_option maxRecDepth 20000 in
theorem vX12_swap : xMok mX12_swap := ⟨⟨wc_5.1, xtc8 40 rfl rfl, wc_5.2.1, wc_5.2.2, by decide +kernel, by decide, rfl⟩, bX12_swap_ok⟩
def lX12_takes : List xL := [(3, 1, 12, 10, 180), (3, 1, 12, 7, 151), (3, 1, 12, 9, 165), (3, 13, 110, 96, 190)]
theorem kX12_takes : ∀ q ∈ lX12_takes, xLq RX12 q := List.forall_mem_cons.mpr ⟨lk_250, List.forall_mem_cons.mpr ⟨lk_251, List.forall_mem_cons.mpr ⟨lk_252, List.forall_mem_cons.mpr ⟨lk_254, fun _ h => absurd h List.not_mem_nil⟩⟩⟩⟩
theorem bX12_takes_ok : ∀ b ∈ bX12_takes, xbok RX12 cX12_takes b := xbF_ok (lk := lX12_takes) (ls := []) kX12_takes xno_sw (by decide +kernel)
set_option maxRecDepth 20000 in
theorem vX12_takes : xMok mX12_takes := ⟨⟨wc_5.1, xtc9 115 rfl rfl, wc_5.2.1, wc_5.2.2, by decide +kernel, by decide, rfl⟩, bX12_takes_ok⟩
def lX12_test : List xL := [(3, 1, 12, 0, 7), (3, 13, 161, 98, 105), (3, 36, 999999, 0, 396)]
theorem kX12_test : ∀ q ∈ lX12_test, xLq RX12 q := List.forall_mem_cons.mpr ⟨lk_290, List.forall_mem_cons.mpr ⟨lk_256, List.forall_mem_cons.mpr ⟨lk_436, fun _ h => absurd h List.not_mem_nil⟩⟩⟩
theorem bX12_test_ok : ∀ b ∈ bX12_test, xbok RX12 cX12_test b := xbF_ok (lk := lX12_test) (ls := []) kX12_test xno_sw (by decide +kernel)
set_option maxRecDepth 20000 in
theorem vX12_test : xMok mX12_test := ⟨⟨wc_5.1, xtc9 59 rfl rfl, wc_5.2.1, wc_5.2.2, by decide +kernel, by decide, rfl⟩, bX12_test_ok⟩
def lX12_three : List xL := [(3, 52, 32, 0, 113), (3, 52, 96, 0, 115)]
theorem kX12_three : ∀ q ∈ lX12_three, xLq RX12 q := List.forall_mem_cons.mpr ⟨lk_278, List.forall_mem_cons.mpr ⟨lk_279, fun _ h => absurd h List.not_mem_nil⟩⟩
theorem bX12_three_ok : ∀ b ∈ bX12_three, xbok RX12 cX12_three b := xbF_ok (lk := lX12_three) (ls := []) kX12_three xno_sw (by decide +kernel)
set_option maxRecDepth 20000 in
theorem vX12_three : xMok mX12_three := ⟨⟨wc_5.1, xtc7 149 rfl rfl, wc_5.2.1, wc_5.2.2, by decide +kernel, by decide, rfl⟩, bX12_three_ok⟩
def lX12_tired : List xL := [(3, 13, 168, 96, 241), (3, 1, 12, 0, 7), (3, 13, 161, 98, 105), (3, 13, 116, 96, 244), (3, 13, 231, 96, 273), (3, 52, 1000, 0, 231), (3, 1, 12, 22, 267), (3, 1, 12, 23, 263)]
theorem kX12_tired : ∀ q ∈ lX12_tired, xLq RX12 q := List.forall_mem_cons.mpr ⟨lk_302, List.forall_mem_cons.mpr ⟨lk_290, List.forall_mem_cons.mpr ⟨lk_256, List.forall_mem_cons.mpr ⟨lk_304, List.forall_mem_cons.mpr ⟨lk_317, List.forall_mem_cons.mpr ⟨lk_305, List.forall_mem_cons.mpr ⟨lk_319, List.forall_mem_cons.mpr ⟨lk_320, fun _ h => absurd h List.not_mem_nil⟩⟩⟩⟩⟩⟩⟩⟩
theorem bX12_tired_ok : ∀ b ∈ bX12_tired, xbok RX12 cX12_tired b := xbF_ok (lk := lX12_tired) (ls := []) kX12_tired xno_sw (by decide +kernel)
set_option maxRecDepth 20000 in
theorem vX12_tired : xMok mX12_tired := ⟨⟨wc_5.1, xtc8 44 rfl rfl, wc_5.2.1, wc_5.2.2, by decide +kernel, by decide, rfl⟩, bX12_tired_ok⟩
def lX12_tires : List xL := [(3, 71, 12, 23, 263), (3, 71, 12, 22, 267), (3, 1, 12, 0, 7), (3, 1, 12, 23, 263), (3, 13, 188, 96, 270), (3, 1, 12, 22, 267)]
theorem kX12_tires : ∀ q ∈ lX12_tires, xLq RX12 q := List.forall_mem_cons.mpr ⟨lk_437, List.forall_mem_cons.mpr ⟨lk_322, List.forall_mem_cons.mpr ⟨lk_290, List.forall_mem_cons.mpr ⟨lk_320, List.forall_mem_cons.mpr ⟨lk_318, List.forall_mem_cons.mpr ⟨lk_319, fun _ h => absurd h List.not_mem_nil⟩⟩⟩⟩⟩⟩
theorem bX12_tires_ok : ∀ b ∈ bX12_tires, xbok RX12 cX12_tires b := xbF_ok (lk := lX12_tires) (ls := []) kX12_tires xno_sw (by decide +kernel)
set_option maxRecDepth 20000 in
theorem vX12_tires : xMok mX12_tires := ⟨⟨wc_5.1, xtc8 48 rfl rfl, wc_5.2.1, wc_5.2.2, by decide +kernel, by decide, rfl⟩, bX12_tires_ok⟩
def lX12_unlike : List xL := [(3, 13, 112, 96, 326), (3, 13, 169, 96, 323), (3, 13, 187, 96, 329)]
theorem kX12_unlike : ∀ q ∈ lX12_unlike, xLq RX12 q := List.forall_mem_cons.mpr ⟨lk_340, List.forall_mem_cons.mpr ⟨lk_333, List.forall_mem_cons.mpr ⟨lk_388, fun _ h => absurd h List.not_mem_nil⟩⟩⟩
theorem bX12_unlike_ok : ∀ b ∈ bX12_unlike, xbok RX12 cX12_unlike b := xbF_ok (lk := lX12_unlike) (ls := []) kX12_unlike xno_sw (by decide +kernel)
set_option maxRecDepth 20000 in
theorem vX12_unlike : xMok mX12_unlike := ⟨⟨wc_5.1, xtc8 164 rfl rfl, wc_5.2.1, wc_5.2.2, by decide +kernel, by decide, rfl⟩, bX12_unlike_ok⟩
def lX12_value : List xL := [(3, 1, 12, 0, 7), (3, 13, 161, 98, 105), (3, 13, 234, 96, 358), (3, 1, 12, 37, 81), (3, 13, 118, 98, 344)]
theorem kX12_value : ∀ q ∈ lX12_value, xLq RX12 q := List.forall_mem_cons.mpr ⟨lk_290, List.forall_mem_cons.mpr ⟨lk_256, List.forall_mem_cons.mpr ⟨lk_420, List.forall_mem_cons.mpr ⟨lk_419, List.forall_mem_cons.mpr ⟨lk_402, fun _ h => absurd h List.not_mem_nil⟩⟩⟩⟩⟩
theorem bX12_value_ok : ∀ b ∈ bX12_value, xbok RX12 cX12_value b := xbF_ok (lk := lX12_value) (ls := []) kX12_value xno_sw (by decide +kernel)
set_option maxRecDepth 20000 in
theorem vX12_value : xMok mX12_value := ⟨⟨wc_5.1, xtc8 200 rfl rfl, wc_5.2.1, wc_5.2.2, by decide +kernel, by decide, rfl⟩, bX12_value_ok⟩
def lX12_values : List xL := [(3, 1, 12, 0, 7), (3, 1, 12, 38, 84), (3, 13, 118, 98, 344), (3, 13, 151, 96, 351), (3, 1, 12, 37, 81), (3, 13, 206, 96, 355)]
theorem kX12_values : ∀ q ∈ lX12_values, xLq RX12 q := List.forall_mem_cons.mpr ⟨lk_290, List.forall_mem_cons.mpr ⟨lk_417, List.forall_mem_cons.mpr ⟨lk_402, List.forall_mem_cons.mpr ⟨lk_438, List.forall_mem_cons.mpr ⟨lk_419, List.forall_mem_cons.mpr ⟨lk_439, fun _ h => absurd h List.not_mem_nil⟩⟩⟩⟩⟩⟩
theorem bX12_values_ok : ∀ b ∈ bX12_values, xbok RX12 cX12_values b := xbF_ok (lk := lX12_values) (ls := []) kX12_values xno_sw (by decide +kernel)
set_option maxRecDepth 20000 in
theorem vX12_values : xMok mX12_values := ⟨⟨wc_5.1, xtc8 204 rfl rfl, wc_5.2.1, wc_5.2.2, by decide +kernel, by decide, rfl⟩, bX12_values_ok⟩
def lX12_view : List xL := [(3, 1, 12, 0, 7), (3, 13, 161, 98, 105)]
theorem kX12_view : ∀ q ∈ lX12_view, xLq RX12 q := List.forall_mem_cons.mpr ⟨lk_290, List.forall_mem_cons.mpr ⟨lk_256, fun _ h => absurd h List.not_mem_nil⟩⟩
theorem bX12_view_ok : ∀ b ∈ bX12_view, xbok RX12 cX12_view b := xbF_ok (lk := lX12_view) (ls := []) kX12_view xno_sw (by decide +kernel)
set_option maxRecDepth 20000 in
theorem vX12_view : xMok mX12_view := ⟨⟨wc_5.1, xtc8 64 rfl rfl, wc_5.2.1, wc_5.2.2, by decide +kernel, by decide, rfl⟩, bX12_view_ok⟩
def lX12_wet : List xL := [(3, 13, 161, 98, 105), (3, 1, 12, 0, 7)]
theorem kX12_wet : ∀ q ∈ lX12_wet, xLq RX12 q := List.forall_mem_cons.mpr ⟨lk_256, List.forall_mem_cons.mpr ⟨lk_290, fun _ h => absurd h List.not_mem_nil⟩⟩
theorem bX12_wet_ok : ∀ b ∈ bX12_wet, xbok RX12 cX12_wet b := xbF_ok (lk := lX12_wet) (ls := []) kX12_wet xno_sw (by decide +kernel)
set_option maxRecDepth 20000 in
theorem vX12_wet : xMok mX12_wet := ⟨⟨wc_5.1, xtc8 168 rfl rfl, wc_5.2.1, wc_5.2.2, by decide +kernel, by decide, rfl⟩, bX12_wet_ok⟩
def lX12_wetAt : List xL := [(3, 13, 169, 96, 323), (3, 1, 12, 35, 75)]
theorem kX12_wetAt : ∀ q ∈ lX12_wetAt, xLq RX12 q := List.forall_mem_cons.mpr ⟨lk_333, List.forall_mem_cons.mpr ⟨lk_335, fun _ h => absurd h List.not_mem_nil⟩⟩
theorem bX12_wetAt_ok : ∀ b ∈ bX12_wetAt, xbok RX12 cX12_wetAt b := xbF_ok (lk := lX12_wetAt) (ls := []) kX12_wetAt xno_sw (by decide +kernel)
set_option maxRecDepth 20000 in
theorem vX12_wetAt : xMok mX12_wetAt := ⟨⟨wc_5.1, xtc8 180 rfl rfl, wc_5.2.1, wc_5.2.2, by decide +kernel, by decide, rfl⟩, bX12_wetAt_ok⟩
def lX12_wordOf : List xL := [(3, 13, 146, 98, 125), (3, 13, 148, 98, 121), (3, 13, 229, 98, 117)]
theorem kX12_wordOf : ∀ q ∈ lX12_wordOf, xLq RX12 q := List.forall_mem_cons.mpr ⟨lk_429, List.forall_mem_cons.mpr ⟨lk_345, List.forall_mem_cons.mpr ⟨lk_352, fun _ h => absurd h List.not_mem_nil⟩⟩⟩
theorem bX12_wordOf_ok : ∀ b ∈ bX12_wordOf, xbok RX12 cX12_wordOf b := xbF_ok (lk := lX12_wordOf) (ls := []) kX12_wordOf xno_sw (by decide +kernel)
set_option maxRecDepth 20000 in
theorem vX12_wordOf : xMok mX12_wordOf := ⟨⟨wc_5.1, xtc7 163 rfl rfl, wc_5.2.1, wc_5.2.2, by decide +kernel, by decide, rfl⟩, bX12_wordOf_ok⟩
def lX12_worst : List xL := [(3, 1, 12, 0, 7), (3, 13, 171, 96, 247), (3, 13, 116, 96, 244), (3, 1, 12, 21, 45), (3, 13, 221, 98, 227), (3, 1, 12, 20, 42), (3, 13, 181, 96, 222)]
theorem kX12_worst : ∀ q ∈ lX12_worst, xLq RX12 q := List.forall_mem_cons.mpr ⟨lk_290, List.forall_mem_cons.mpr ⟨lk_303, List.forall_mem_cons.mpr ⟨lk_304, List.forall_mem_cons.mpr ⟨lk_306, List.forall_mem_cons.mpr ⟨lk_307, List.forall_mem_cons.mpr ⟨lk_309, List.forall_mem_cons.mpr ⟨lk_308, fun _ h => absurd h List.not_mem_nil⟩⟩⟩⟩⟩⟩⟩
theorem bX12_worst_ok : ∀ b ∈ bX12_worst, xbok RX12 cX12_worst b := xbF_ok (lk := lX12_worst) (ls := []) kX12_worst xno_sw (by decide +kernel)
set_option maxRecDepth 20000 in
theorem vX12_worst : xMok mX12_worst := ⟨⟨wc_5.1, xtc8 28 rfl rfl, wc_5.2.1, wc_5.2.2, by decide +kernel, by decide, rfl⟩, bX12_worst_ok⟩
def lX1_clear : List xL := [(3, 1, 1, 0, 14), (3, 13, 283, 40, 50), (3, 1, 1, 1, 18), (3, 1, 1, 2, 21), (3, 1, 1, 3, 24), (3, 1, 1, 4, 27), (3, 14, 1, 5, 30), (3, 14, 1, 6, 34), (3, 14, 1, 7, 37), (3, 14, 1, 8, 40), (3, 14, 1, 9, 53)]
theorem kX1_clear : ∀ q ∈ lX1_clear, xLq RX1 q := List.forall_mem_cons.mpr ⟨lk_440, List.forall_mem_cons.mpr ⟨lk_441, List.forall_mem_cons.mpr ⟨lk_442, List.forall_mem_cons.mpr ⟨lk_443, List.forall_mem_cons.mpr ⟨lk_444, List.forall_mem_cons.mpr ⟨lk_445, List.forall_mem_cons.mpr ⟨lk_446, List.forall_mem_cons.mpr ⟨lk_447, List.forall_mem_cons.mpr ⟨lk_448, List.forall_mem_cons.mpr ⟨lk_449, List.forall_mem_cons.mpr ⟨lk_450, fun _ h => absurd h List.not_mem_nil⟩⟩⟩⟩⟩⟩⟩⟩⟩⟩⟩
theorem bX1_clear_ok : ∀ b ∈ bX1_clear, xbok RX1 cX1_clear b := xbF_ok (lk := lX1_clear) (ls := []) kX1_clear xno_sw (by decide +kernel)
theorem wc_6 : plainName RX1 = true ∧ Cond.initialized RX1 ∈ lw_gt ∧ (RX1 ≠ "java/lang/invoke/MethodHandle" ∧ RX1 ≠ "java/lang/invoke/VarHandle") := ⟨by decide +kernel, xtc1 3 rfl rfl, by decide +kernel, by decide +kernel⟩
set_option maxRecDepth 20000 in
theorem vX1_clear : xMok mX1_clear := ⟨⟨wc_6.1, xtc3 72 rfl rfl, wc_6.2.1, wc_6.2.2, by decide +kernel, by decide, rfl⟩, bX1_clear_ok⟩
def lX1_copy : List xL := [(3, 1, 1, 0, 14), (3, 13, 284, 40, 56), (3, 1, 1, 1, 18), (3, 1, 1, 2, 21), (3, 1, 1, 3, 24), (3, 1, 1, 4, 27), (3, 1, 1, 5, 30), (3, 14, 1, 5, 30), (3, 1, 1, 6, 34), (3, 14, 1, 6, 34), (3, 1, 1, 7, 37), (3, 14, 1, 7, 37), (3, 1, 1, 8, 40), (3, 14, 1, 8, 40), (3, 1, 1, 9, 53), (3, 14, 1, 9, 53)]
theorem kX1_copy : ∀ q ∈ lX1_copy, xLq RX1 q := List.forall_mem_cons.mpr ⟨lk_440, List.forall_mem_cons.mpr ⟨lk_451, List.forall_mem_cons.mpr ⟨lk_442, List.forall_mem_cons.mpr ⟨lk_443, List.forall_mem_cons.mpr ⟨lk_444, List.forall_mem_cons.mpr ⟨lk_445, List.forall_mem_cons.mpr ⟨lk_452, List.forall_mem_cons.mpr ⟨lk_446, List.forall_mem_cons.mpr ⟨lk_453, List.forall_mem_cons.mpr ⟨lk_447, List.forall_mem_cons.mpr ⟨lk_454, List.forall_mem_cons.mpr ⟨lk_448, List.forall_mem_cons.mpr ⟨lk_455, List.forall_mem_cons.mpr ⟨lk_449, List.forall_mem_cons.mpr ⟨lk_456, List.forall_mem_cons.mpr ⟨lk_450, fun _ h => absurd h List.not_mem_nil⟩⟩⟩⟩⟩⟩⟩⟩⟩⟩⟩⟩⟩⟩⟩⟩
theorem bX1_copy_ok : ∀ b ∈ bX1_copy, xbok RX1 cX1_copy b := xbF_ok (lk := lX1_copy) (ls := []) kX1_copy xno_sw (by decide +kernel)
set_option maxRecDepth 20000 in
theorem vX1_copy : xMok mX1_copy := ⟨⟨wc_6.1, xtc4 0 rfl rfl, wc_6.2.1, wc_6.2.2, by decide +kernel, by decide, rfl⟩, bX1_copy_ok⟩
def lX1_init : List xL := [(3, 25, 0, 0, 1), (3, 24, 5, 0, 7), (3, 13, 288, 44, 11), (3, 61, 1, 0, 14), (3, 61, 1, 1, 18), (3, 61, 1, 2, 21), (3, 61, 1, 3, 24), (3, 61, 1, 4, 27), (3, 14, 1, 5, 30), (3, 14, 1, 6, 34), (3, 14, 1, 7, 37), (3, 14, 1, 8, 40)]
theorem kX1_init : ∀ q ∈ lX1_init, xLq RX1 q := List.forall_mem_cons.mpr ⟨lk_457, List.forall_mem_cons.mpr ⟨lk_458, List.forall_mem_cons.mpr ⟨lk_459, List.forall_mem_cons.mpr ⟨lk_460, List.forall_mem_cons.mpr ⟨lk_461, List.forall_mem_cons.mpr ⟨lk_462, List.forall_mem_cons.mpr ⟨lk_463, List.forall_mem_cons.mpr ⟨lk_464, List.forall_mem_cons.mpr ⟨lk_446, List.forall_mem_cons.mpr ⟨lk_447, List.forall_mem_cons.mpr ⟨lk_448, List.forall_mem_cons.mpr ⟨lk_449, fun _ h => absurd h List.not_mem_nil⟩⟩⟩⟩⟩⟩⟩⟩⟩⟩⟩⟩
