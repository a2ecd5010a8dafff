def lX12_panelOf : List xL := [(3, 1, 12, 0, 7), (3, 1, 12, 38, 84), (3, 13, 90, 98, 344)]
theorem kX12_panelOf : ∀ q ∈ lX12_panelOf, xLq RX12 q := List.forall_mem_cons.mpr ⟨lk_209, List.forall_mem_cons.mpr ⟨lk_314, List.forall_mem_cons.mpr ⟨lk_302, fun _ h => absurd h List.not_mem_nil⟩⟩⟩
theorem bX12_panelOf_ok : ∀ b ∈ bX12_panelOf, xbok RX12 cX12_panelOf b := xbB_ok (lk := lX12_panelOf) (ls := []) kX12_panelOf xno_sw (by decide +kernel)
theorem vX12_panelOf : xMok mX12_panelOf := ⟨⟨by decide +kernel, xtb 2024 (by decide +kernel) rfl, xtb 138 (by decide +kernel) rfl, ⟨by decide +kernel, by decide +kernel⟩, by decide +kernel, by decide, rfl⟩, bX12_panelOf_ok⟩
def lX12_panels : List xL := [(3, 13, 160, 96, 373), (3, 1, 12, 41, 364)]
theorem kX12_panels : ∀ q ∈ lX12_panels, xLq RX12 q := List.forall_mem_cons.mpr ⟨lk_311, List.forall_mem_cons.mpr ⟨lk_312, fun _ h => absurd h List.not_mem_nil⟩⟩
theorem bX12_panels_ok : ∀ b ∈ bX12_panels, xbok RX12 cX12_panels b := xbB_ok (lk := lX12_panels) (ls := []) kX12_panels xno_sw (by decide +kernel)
theorem vX12_panels : xMok mX12_panels := ⟨⟨by decide +kernel, xtb 2028 (by decide +kernel) rfl, xtb 138 (by decide +kernel) rfl, ⟨by decide +kernel, by decide +kernel⟩, by decide +kernel, by decide, rfl⟩, bX12_panels_ok⟩
def lX12_picture : List xL := [(3, 1, 12, 0, 7), (3, 13, 126, 98, 105)]
theorem kX12_picture : ∀ q ∈ lX12_picture, xLq RX12 q := List.forall_mem_cons.mpr ⟨lk_209, List.forall_mem_cons.mpr ⟨lk_207, fun _ h => absurd h List.not_mem_nil⟩⟩
theorem bX12_picture_ok : ∀ b ∈ bX12_picture, xbok RX12 cX12_picture b := xbB_ok (lk := lX12_picture) (ls := []) kX12_picture xno_sw (by decide +kernel)
theorem vX12_picture : xMok mX12_picture := ⟨⟨by decide +kernel, xtb 1949 (by decide +kernel) rfl, xtb 138 (by decide +kernel) rfl, ⟨by decide +kernel, by decide +kernel⟩, by decide +kernel, by decide, rfl⟩, bX12_picture_ok⟩
def lX12_pieceOf : List xL := [(3, 13, 156, 96, 348), (3, 1, 12, 0, 7), (3, 1, 12, 37, 81), (3, 13, 90, 98, 344)]
theorem kX12_pieceOf : ∀ q ∈ lX12_pieceOf, xLq RX12 q := List.forall_mem_cons.mpr ⟨lk_315, List.forall_mem_cons.mpr ⟨lk_209, List.forall_mem_cons.mpr ⟨lk_316, List.forall_mem_cons.mpr ⟨lk_302, fun _ h => absurd h List.not_mem_nil⟩⟩⟩⟩
theorem bX12_pieceOf_ok : ∀ b ∈ bX12_pieceOf, xbok RX12 cX12_pieceOf b := xbB_ok (lk := lX12_pieceOf) (ls := []) kX12_pieceOf xno_sw (by decide +kernel)
theorem vX12_pieceOf : xMok mX12_pieceOf := ⟨⟨by decide +kernel, xtb 2020 (by decide +kernel) rfl, xtb 138 (by decide +kernel) rfl, ⟨by decide +kernel, by decide +kernel⟩, by decide +kernel, by decide, rfl⟩, bX12_pieceOf_ok⟩
def lX12_plans : List xL := [(3, 13, 176, 96, 358), (3, 14, 12, 41, 364), (3, 14, 12, 42, 361), (3, 1, 12, 0, 7), (3, 13, 141, 96, 367), (3, 1, 12, 42, 361), (3, 1, 12, 39, 87), (3, 13, 161, 96, 370)]
theorem kX12_plans : ∀ q ∈ lX12_plans, xLq RX12 q := List.forall_mem_cons.mpr ⟨lk_317, List.forall_mem_cons.mpr ⟨lk_318, List.forall_mem_cons.mpr ⟨lk_303, List.forall_mem_cons.mpr ⟨lk_209, List.forall_mem_cons.mpr ⟨lk_319, List.forall_mem_cons.mpr ⟨lk_301, List.forall_mem_cons.mpr ⟨lk_300, List.forall_mem_cons.mpr ⟨lk_320, fun _ h => absurd h List.not_mem_nil⟩⟩⟩⟩⟩⟩⟩⟩
theorem bX12_plans_ok : ∀ b ∈ bX12_plans, xbok RX12 cX12_plans b := xbB_ok (lk := lX12_plans) (ls := []) kX12_plans xno_sw (by decide +kernel)
theorem vX12_plans : xMok mX12_plans := ⟨⟨by decide +kernel, xtb 2032 (by decide +kernel) rfl, xtb 138 (by decide +kernel) rfl, ⟨by decide +kernel, by decide +kernel⟩, by decide +kernel, by decide, rfl⟩, bX12_plans_ok⟩
def lX12_plansOne : List xL := [(3, 1, 12, 37, 81), (3, 13, 156, 96, 348), (3, 1, 12, 0, 7), (3, 1, 12, 40, 90), (3, 1, 12, 41, 364), (3, 14, 12, 41, 364), (3, 13, 90, 98, 344), (3, 13, 141, 96, 367)]
theorem kX12_plansOne : ∀ q ∈ lX12_plansOne, xLq RX12 q := List.forall_mem_cons.mpr ⟨lk_316, List.forall_mem_cons.mpr ⟨lk_315, List.forall_mem_cons.mpr ⟨lk_209, List.forall_mem_cons.mpr ⟨lk_313, List.forall_mem_cons.mpr ⟨lk_312, List.forall_mem_cons.mpr ⟨lk_318, List.forall_mem_cons.mpr ⟨lk_302, List.forall_mem_cons.mpr ⟨lk_319, fun _ h => absurd h List.not_mem_nil⟩⟩⟩⟩⟩⟩⟩⟩
theorem bX12_plansOne_ok : ∀ b ∈ bX12_plansOne, xbok RX12 cX12_plansOne b := xbB_ok (lk := lX12_plansOne) (ls := []) kX12_plansOne xno_sw (by decide +kernel)
theorem vX12_plansOne : xMok mX12_plansOne := ⟨⟨by decide +kernel, xtb 2040 (by decide +kernel) rfl, xtb 138 (by decide +kernel) rfl, ⟨by decide +kernel, by decide +kernel⟩, by decide +kernel, by decide, rfl⟩, bX12_plansOne_ok⟩
def lX12_price : List xL := [(3, 1, 12, 0, 7)]
theorem kX12_price : ∀ q ∈ lX12_price, xLq RX12 q := List.forall_mem_cons.mpr ⟨lk_209, fun _ h => absurd h List.not_mem_nil⟩
theorem bX12_price_ok : ∀ b ∈ bX12_price, xbok RX12 cX12_price b := xbB_ok (lk := lX12_price) (ls := []) kX12_price xno_sw (by decide +kernel)
theorem vX12_price : xMok mX12_price := ⟨⟨by decide +kernel, xtb 2200 (by decide +kernel) rfl, xtb 138 (by decide +kernel) rfl, ⟨by decide +kernel, by decide +kernel⟩, by decide +kernel, by decide, rfl⟩, bX12_price_ok⟩
def lX12_promise : List xL := [(3, 13, 126, 98, 105), (3, 13, 167, 96, 390)]
theorem kX12_promise : ∀ q ∈ lX12_promise, xLq RX12 q := List.forall_mem_cons.mpr ⟨lk_207, List.forall_mem_cons.mpr ⟨lk_321, fun _ h => absurd h List.not_mem_nil⟩⟩
theorem bX12_promise_ok : ∀ b ∈ bX12_promise, xbok RX12 cX12_promise b := xbB_ok (lk := lX12_promise) (ls := []) kX12_promise xno_sw (by decide +kernel)
theorem vX12_promise : xMok mX12_promise := ⟨⟨by decide +kernel, xtb 2088 (by decide +kernel) rfl, xtb 138 (by decide +kernel) rfl, ⟨by decide +kernel, by decide +kernel⟩, by decide +kernel, by decide, rfl⟩, bX12_promise_ok⟩
def lX12_quarrel : List xL := [(3, 13, 147, 96, 409), (3, 13, 88, 96, 400), (3, 13, 153, 98, 379)]
theorem kX12_quarrel : ∀ q ∈ lX12_quarrel, xLq RX12 q := List.forall_mem_cons.mpr ⟨lk_297, List.forall_mem_cons.mpr ⟨lk_295, List.forall_mem_cons.mpr ⟨lk_308, fun _ h => absurd h List.not_mem_nil⟩⟩⟩
theorem bX12_quarrel_ok : ∀ b ∈ bX12_quarrel, xbok RX12 cX12_quarrel b := xbB_ok (lk := lX12_quarrel) (ls := []) kX12_quarrel xno_sw (by decide +kernel)
theorem vX12_quarrel : xMok mX12_quarrel := ⟨⟨by decide +kernel, xtb 2140 (by decide +kernel) rfl, xtb 138 (by decide +kernel) rfl, ⟨by decide +kernel, by decide +kernel⟩, by decide +kernel, by decide, rfl⟩, bX12_quarrel_ok⟩
def lX12_rules : List xL := [(3, 13, 93, 96, 215), (3, 13, 84, 96, 190), (3, 1, 12, 10, 180), (3, 1, 12, 7, 151), (3, 1, 12, 0, 7), (3, 1, 12, 45, 99), (3, 1, 12, 14, 212)]
theorem kX12_rules : ∀ q ∈ lX12_rules, xLq RX12 q := List.forall_mem_cons.mpr ⟨lk_242, List.forall_mem_cons.mpr ⟨lk_245, List.forall_mem_cons.mpr ⟨lk_246, List.forall_mem_cons.mpr ⟨lk_247, List.forall_mem_cons.mpr ⟨lk_209, List.forall_mem_cons.mpr ⟨lk_322, List.forall_mem_cons.mpr ⟨lk_249, fun _ h => absurd h List.not_mem_nil⟩⟩⟩⟩⟩⟩⟩
theorem bX12_rules_ok : ∀ b ∈ bX12_rules, xbok RX12 cX12_rules b := xbB_ok (lk := lX12_rules) (ls := []) kX12_rules xno_sw (by decide +kernel)
theorem vX12_rules : xMok mX12_rules := ⟨⟨by decide +kernel, xtb 2152 (by decide +kernel) rfl, xtb 138 (by decide +kernel) rfl, ⟨by decide +kernel, by decide +kernel⟩, by decide +kernel, by decide, rfl⟩, bX12_rules_ok⟩
def lX12_share : List xL := [(3, 13, 126, 98, 105), (3, 13, 167, 96, 390)]
theorem kX12_share : ∀ q ∈ lX12_share, xLq RX12 q := List.forall_mem_cons.mpr ⟨lk_207, List.forall_mem_cons.mpr ⟨lk_321, fun _ h => absurd h List.not_mem_nil⟩⟩
theorem bX12_share_ok : ∀ b ∈ bX12_share, xbok RX12 cX12_share b := xbB_ok (lk := lX12_share) (ls := []) kX12_share xno_sw (by decide +kernel)
theorem vX12_share : xMok mX12_share := ⟨⟨by decide +kernel, xtb 2080 (by decide +kernel) rfl, xtb 138 (by decide +kernel) rfl, ⟨by decide +kernel, by decide +kernel⟩, by decide +kernel, by decide, rfl⟩, bX12_share_ok⟩
def lX12_shareOf : List xL := [(3, 13, 89, 96, 244), (3, 1, 12, 0, 7)]
theorem kX12_shareOf : ∀ q ∈ lX12_shareOf, xLq RX12 q := List.forall_mem_cons.mpr ⟨lk_215, List.forall_mem_cons.mpr ⟨lk_209, fun _ h => absurd h List.not_mem_nil⟩⟩
theorem bX12_shareOf_ok : ∀ b ∈ bX12_shareOf, xbok RX12 cX12_shareOf b := xbB_ok (lk := lX12_shareOf) (ls := []) kX12_shareOf xno_sw (by decide +kernel)
theorem vX12_shareOf : xMok mX12_shareOf := ⟨⟨by decide +kernel, xtb 2084 (by decide +kernel) rfl, xtb 138 (by decide +kernel) rfl, ⟨by decide +kernel, by decide +kernel⟩, by decide +kernel, by decide, rfl⟩, bX12_shareOf_ok⟩
def lX12_shift : List xL := [(3, 1, 12, 0, 7)]
theorem kX12_shift : ∀ q ∈ lX12_shift, xLq RX12 q := List.forall_mem_cons.mpr ⟨lk_209, fun _ h => absurd h List.not_mem_nil⟩
theorem bX12_shift_ok : ∀ b ∈ bX12_shift, xbok RX12 cX12_shift b := xbB_ok (lk := lX12_shift) (ls := []) kX12_shift xno_sw (by decide +kernel)
theorem vX12_shift : xMok mX12_shift := ⟨⟨by decide +kernel, xtb 2100 (by decide +kernel) rfl, xtb 138 (by decide +kernel) rfl, ⟨by decide +kernel, by decide +kernel⟩, by decide +kernel, by decide, rfl⟩, bX12_shift_ok⟩
def lX12_span : List xL := [(3, 13, 126, 98, 105), (3, 13, 135, 96, 403), (3, 13, 129, 96, 406), (3, 13, 139, 98, 397)]
theorem kX12_span : ∀ q ∈ lX12_span, xLq RX12 q := List.forall_mem_cons.mpr ⟨lk_207, List.forall_mem_cons.mpr ⟨lk_298, List.forall_mem_cons.mpr ⟨lk_299, List.forall_mem_cons.mpr ⟨lk_296, fun _ h => absurd h List.not_mem_nil⟩⟩⟩⟩
theorem bX12_span_ok : ∀ b ∈ bX12_span, xbok RX12 cX12_span b := xbB_ok (lk := lX12_span) (ls := []) kX12_span xno_sw (by decide +kernel)
theorem vX12_span : xMok mX12_span := ⟨⟨by decide +kernel, xtb 2136 (by decide +kernel) rfl, xtb 138 (by decide +kernel) rfl, ⟨by decide +kernel, by decide +kernel⟩, by decide +kernel, by decide, rfl⟩, bX12_span_ok⟩
def lX12_spreads : List xL := [(3, 14, 12, 33, 290), (3, 1, 12, 32, 69), (3, 1, 12, 0, 7), (3, 1, 12, 27, 54), (3, 13, 148, 96, 293), (3, 1, 12, 33, 290), (3, 1, 12, 31, 66), (3, 1, 12, 29, 60), (3, 1, 12, 25, 48), (3, 1, 12, 30, 63), (3, 1, 12, 26, 51)]
theorem kX12_spreads : ∀ q ∈ lX12_spreads, xLq RX12 q := List.forall_mem_cons.mpr ⟨lk_307, List.forall_mem_cons.mpr ⟨lk_254, List.forall_mem_cons.mpr ⟨lk_209, List.forall_mem_cons.mpr ⟨lk_252, List.forall_mem_cons.mpr ⟨lk_323, List.forall_mem_cons.mpr ⟨lk_306, List.forall_mem_cons.mpr ⟨lk_305, List.forall_mem_cons.mpr ⟨lk_291, List.forall_mem_cons.mpr ⟨lk_250, List.forall_mem_cons.mpr ⟨lk_293, List.forall_mem_cons.mpr ⟨lk_251, fun _ h => absurd h List.not_mem_nil⟩⟩⟩⟩⟩⟩⟩⟩⟩⟩⟩
theorem bX12_spreads_ok : ∀ b ∈ bX12_spreads, xbok RX12 cX12_spreads b := xbB_ok (lk := lX12_spreads) (ls := []) kX12_spreads xno_sw (by decide +kernel)
theorem vX12_spreads : xMok mX12_spreads := ⟨⟨by decide +kernel, xtb 1909 (by decide +kernel) rfl, xtb 138 (by decide +kernel) rfl, ⟨by decide +kernel, by decide +kernel⟩, by decide +kernel, by decide, rfl⟩, bX12_spreads_ok⟩
def lX12_stretch : List xL := [(3, 13, 131, 96, 241), (3, 13, 133, 96, 247), (2, 35, 2294967296, 0, 250), (3, 13, 89, 96, 244), (3, 52, 1000000, 0, 251), (3, 1, 12, 21, 45)]
theorem kX12_stretch : ∀ q ∈ lX12_stretch, xLq RX12 q := List.forall_mem_cons.mpr ⟨lk_213, List.forall_mem_cons.mpr ⟨lk_214, List.forall_mem_cons.mpr ⟨lk_324, List.forall_mem_cons.mpr ⟨lk_215, List.forall_mem_cons.mpr ⟨lk_325, List.forall_mem_cons.mpr ⟨lk_217, fun _ h => absurd h List.not_mem_nil⟩⟩⟩⟩⟩⟩
theorem bX12_stretch_ok : ∀ b ∈ bX12_stretch, xbok RX12 cX12_stretch b := xbB_ok (lk := lX12_stretch) (ls := []) kX12_stretch xno_sw (by decide +kernel)
theorem vX12_stretch : xMok mX12_stretch := ⟨⟨by decide +kernel, xtb 1810 (by decide +kernel) rfl, xtb 138 (by decide +kernel) rfl, ⟨by decide +kernel, by decide +kernel⟩, by decide +kernel, by decide, rfl⟩, bX12_stretch_ok⟩
def lX12_test : List xL := [(3, 1, 12, 0, 7), (3, 13, 126, 98, 105), (3, 36, 999999, 0, 396)]
theorem kX12_test : ∀ q ∈ lX12_test, xLq RX12 q := List.forall_mem_cons.mpr ⟨lk_209, List.forall_mem_cons.mpr ⟨lk_207, List.forall_mem_cons.mpr ⟨lk_326, fun _ h => absurd h List.not_mem_nil⟩⟩⟩
theorem bX12_test_ok : ∀ b ∈ bX12_test, xbok RX12 cX12_test b := xbB_ok (lk := lX12_test) (ls := []) kX12_test xno_sw (by decide +kernel)
theorem vX12_test : xMok mX12_test := ⟨⟨by decide +kernel, xtb 2104 (by decide +kernel) rfl, xtb 138 (by decide +kernel) rfl, ⟨by decide +kernel, by decide +kernel⟩, by decide +kernel, by decide, rfl⟩, bX12_test_ok⟩
def lX12_tired : List xL := [(3, 13, 131, 96, 241), (3, 1, 12, 0, 7), (3, 13, 126, 98, 105), (3, 13, 89, 96, 244)]
theorem kX12_tired : ∀ q ∈ lX12_tired, xLq RX12 q := List.forall_mem_cons.mpr ⟨lk_213, List.forall_mem_cons.mpr ⟨lk_209, List.forall_mem_cons.mpr ⟨lk_207, List.forall_mem_cons.mpr ⟨lk_215, fun _ h => absurd h List.not_mem_nil⟩⟩⟩⟩
theorem bX12_tired_ok : ∀ b ∈ bX12_tired, xbok RX12 cX12_tired b := xbB_ok (lk := lX12_tired) (ls := []) kX12_tired xno_sw (by decide +kernel)
theorem vX12_tired : xMok mX12_tired := ⟨⟨by decide +kernel, xtb 1849 (by decide +kernel) rfl, xtb 138 (by decide +kernel) rfl, ⟨by decide +kernel, by decide +kernel⟩, by decide +kernel, by decide, rfl⟩, bX12_tired_ok⟩
def lX12_unlike : List xL := [(3, 13, 86, 96, 326), (3, 13, 132, 96, 323), (3, 13, 145, 96, 329)]
theorem kX12_unlike : ∀ q ∈ lX12_unlike, xLq RX12 q := List.forall_mem_cons.mpr ⟨lk_240, List.forall_mem_cons.mpr ⟨lk_234, List.forall_mem_cons.mpr ⟨lk_289, fun _ h => absurd h List.not_mem_nil⟩⟩⟩
theorem bX12_unlike_ok : ∀ b ∈ bX12_unlike, xbok RX12 cX12_unlike b := xbB_ok (lk := lX12_unlike) (ls := []) kX12_unlike xno_sw (by decide +kernel)
theorem vX12_unlike : xMok mX12_unlike := ⟨⟨by decide +kernel, xtb 1969 (by decide +kernel) rfl, xtb 138 (by decide +kernel) rfl, ⟨by decide +kernel, by decide +kernel⟩, by decide +kernel, by decide, rfl⟩, bX12_unlike_ok⟩
def lX12_value : List xL := [(3, 1, 12, 0, 7), (3, 13, 126, 98, 105), (3, 13, 176, 96, 358), (3, 1, 12, 37, 81), (3, 13, 90, 98, 344)]
theorem kX12_value : ∀ q ∈ lX12_value, xLq RX12 q := List.forall_mem_cons.mpr ⟨lk_209, List.forall_mem_cons.mpr ⟨lk_207, List.forall_mem_cons.mpr ⟨lk_317, List.forall_mem_cons.mpr ⟨lk_316, List.forall_mem_cons.mpr ⟨lk_302, fun _ h => absurd h List.not_mem_nil⟩⟩⟩⟩⟩
theorem bX12_value_ok : ∀ b ∈ bX12_value, xbok RX12 cX12_value b := xbB_ok (lk := lX12_value) (ls := []) kX12_value xno_sw (by decide +kernel)
theorem vX12_value : xMok mX12_value := ⟨⟨by decide +kernel, xtb 2005 (by decide +kernel) rfl, xtb 138 (by decide +kernel) rfl, ⟨by decide +kernel, by decide +kernel⟩, by decide +kernel, by decide, rfl⟩, bX12_value_ok⟩
def lX12_values : List xL := [(3, 1, 12, 0, 7), (3, 1, 12, 38, 84), (3, 13, 90, 98, 344), (3, 13, 119, 96, 351), (3, 1, 12, 37, 81), (3, 13, 159, 96, 355)]
theorem kX12_values : ∀ q ∈ lX12_values, xLq RX12 q := List.forall_mem_cons.mpr ⟨lk_209, List.forall_mem_cons.mpr ⟨lk_314, List.forall_mem_cons.mpr ⟨lk_302, List.forall_mem_cons.mpr ⟨lk_327, List.forall_mem_cons.mpr ⟨lk_316, List.forall_mem_cons.mpr ⟨lk_328, fun _ h => absurd h List.not_mem_nil⟩⟩⟩⟩⟩⟩
theorem bX12_values_ok : ∀ b ∈ bX12_values, xbok RX12 cX12_values b := xbB_ok (lk := lX12_values) (ls := []) kX12_values xno_sw (by decide +kernel)
theorem vX12_values : xMok mX12_values := ⟨⟨by decide +kernel, xtb 2009 (by decide +kernel) rfl, xtb 138 (by decide +kernel) rfl, ⟨by decide +kernel, by decide +kernel⟩, by decide +kernel, by decide, rfl⟩, bX12_values_ok⟩
def lX12_view : List xL := [(3, 1, 12, 0, 7), (3, 13, 126, 98, 105)]
theorem kX12_view : ∀ q ∈ lX12_view, xLq RX12 q := List.forall_mem_cons.mpr ⟨lk_209, List.forall_mem_cons.mpr ⟨lk_207, fun _ h => absurd h List.not_mem_nil⟩⟩
theorem bX12_view_ok : ∀ b ∈ bX12_view, xbok RX12 cX12_view b := xbB_ok (lk := lX12_view) (ls := []) kX12_view xno_sw (by decide +kernel)
theorem vX12_view : xMok mX12_view := ⟨⟨by decide +kernel, xtb 1869 (by decide +kernel) rfl, xtb 138 (by decide +kernel) rfl, ⟨by decide +kernel, by decide +kernel⟩, by decide +kernel, by decide, rfl⟩, bX12_view_ok⟩
def lX12_wet : List xL := [(3, 13, 126, 98, 105), (3, 1, 12, 0, 7)]
theorem kX12_wet : ∀ q ∈ lX12_wet, xLq RX12 q := List.forall_mem_cons.mpr ⟨lk_207, List.forall_mem_cons.mpr ⟨lk_209, fun _ h => absurd h List.not_mem_nil⟩⟩
theorem bX12_wet_ok : ∀ b ∈ bX12_wet, xbok RX12 cX12_wet b := xbB_ok (lk := lX12_wet) (ls := []) kX12_wet xno_sw (by decide +kernel)
theorem vX12_wet : xMok mX12_wet := ⟨⟨by decide +kernel, xtb 1973 (by decide +kernel) rfl, xtb 138 (by decide +kernel) rfl, ⟨by decide +kernel, by decide +kernel⟩, by decide +kernel, by decide, rfl⟩, bX12_wet_ok⟩
def lX12_worst : List xL := [(3, 1, 12, 0, 7), (3, 13, 133, 96, 247), (3, 13, 89, 96, 244), (3, 1, 12, 21, 45)]
theorem kX12_worst : ∀ q ∈ lX12_worst, xLq RX12 q := List.forall_mem_cons.mpr ⟨lk_209, List.forall_mem_cons.mpr ⟨lk_214, List.forall_mem_cons.mpr ⟨lk_215, List.forall_mem_cons.mpr ⟨lk_217, fun _ h => absurd h List.not_mem_nil⟩⟩⟩⟩
theorem bX12_worst_ok : ∀ b ∈ bX12_worst, xbok RX12 cX12_worst b := xbB_ok (lk := lX12_worst) (ls := []) kX12_worst xno_sw (by decide +kernel)
theorem vX12_worst : xMok mX12_worst := ⟨⟨by decide +kernel, xtb 1833 (by decide +kernel) rfl, xtb 138 (by decide +kernel) rfl, ⟨by decide +kernel, by decide +kernel⟩, by decide +kernel, by decide, rfl⟩, bX12_worst_ok⟩
def lX1_clear : List xL := [(3, 1, 1, 0, 14), (3, 13, 204, 40, 50), (3, 1, 1, 1, 18), (3, 1, 1, 2, 21), (3, 1, 1, 3, 24), (3, 1, 1, 4, 27), (3, 14, 1, 5, 30), (3, 14, 1, 6, 34), (3, 14, 1, 7, 37), (3, 14, 1, 8, 40), (3, 14, 1, 9, 53)]
theorem kX1_clear : ∀ q ∈ lX1_clear, xLq RX1 q := List.forall_mem_cons.mpr ⟨lk_329, List.forall_mem_cons.mpr ⟨lk_330, List.forall_mem_cons.mpr ⟨lk_331, List.forall_mem_cons.mpr ⟨lk_332, List.forall_mem_cons.mpr ⟨lk_333, List.forall_mem_cons.mpr ⟨lk_334, List.forall_mem_cons.mpr ⟨lk_335, List.forall_mem_cons.mpr ⟨lk_336, List.forall_mem_cons.mpr ⟨lk_337, List.forall_mem_cons.mpr ⟨lk_338, List.forall_mem_cons.mpr ⟨lk_339, fun _ h => absurd h List.not_mem_nil⟩⟩⟩⟩⟩⟩⟩⟩⟩⟩⟩
theorem bX1_clear_ok : ∀ b ∈ bX1_clear, xbok RX1 cX1_clear b := xbB_ok (lk := lX1_clear) (ls := []) kX1_clear xno_sw (by decide +kernel)
theorem vX1_clear : xMok mX1_clear := ⟨⟨by decide +kernel, xtb 677 (by decide +kernel) rfl, xtb 128 (by decide +kernel) rfl, ⟨by decide +kernel, by decide +kernel⟩, by decide +kernel, by decide, rfl⟩, bX1_clear_ok⟩
def lX1_copy : List xL := [(3, 1, 1, 0, 14), (3, 13, 205, 40, 56), (3, 1, 1, 1, 18), (3, 1, 1, 2, 21), (3, 1, 1, 3, 24), (3, 1, 1, 4, 27), (3, 1, 1, 5, 30), (3, 14, 1, 5, 30), (3, 1, 1, 6, 34), (3, 14, 1, 6, 34), (3, 1, 1, 7, 37), (3, 14, 1, 7, 37), (3, 1, 1, 8, 40), (3, 14, 1, 8, 40), (3, 1, 1, 9, 53), (3, 14, 1, 9, 53)]
theorem kX1_copy : ∀ q ∈ lX1_copy, xLq RX1 q := List.forall_mem_cons.mpr ⟨lk_329, List.forall_mem_cons.mpr ⟨lk_340, List.forall_mem_cons.mpr ⟨lk_331, List.forall_mem_cons.mpr ⟨lk_332, List.forall_mem_cons.mpr ⟨lk_333, List.forall_mem_cons.mpr ⟨lk_334, List.forall_mem_cons.mpr ⟨lk_341, List.forall_mem_cons.mpr ⟨lk_335, List.forall_mem_cons.mpr ⟨lk_342, List.forall_mem_cons.mpr ⟨lk_336, List.forall_mem_cons.mpr ⟨lk_343, List.forall_mem_cons.mpr ⟨lk_337, List.forall_mem_cons.mpr ⟨lk_344, List.forall_mem_cons.mpr ⟨lk_338, List.forall_mem_cons.mpr ⟨lk_345, List.forall_mem_cons.mpr ⟨lk_339, fun _ h => absurd h List.not_mem_nil⟩⟩⟩⟩⟩⟩⟩⟩⟩⟩⟩⟩⟩⟩⟩⟩
theorem bX1_copy_ok : ∀ b ∈ bX1_copy, xbok RX1 cX1_copy b := xbB_ok (lk := lX1_copy) (ls := []) kX1_copy xno_sw (by decide +kernel)
theorem vX1_copy : xMok mX1_copy := ⟨⟨by decide +kernel, xtb 845 (by decide +kernel) rfl, xtb 128 (by decide +kernel) rfl, ⟨by decide +kernel, by decide +kernel⟩, by decide +kernel, by decide, rfl⟩, bX1_copy_ok⟩
def lX1_init : List xL := [(3, 25, 0, 0, 1), (3, 24, 5, 0, 7), (3, 13, 209, 44, 11), (3, 61, 1, 0, 14), (3, 61, 1, 1, 18), (3, 61, 1, 2, 21), (3, 61, 1, 3, 24), (3, 61, 1, 4, 27), (3, 14, 1, 5, 30), (3, 14, 1, 6, 34), (3, 14, 1, 7, 37), (3, 14, 1, 8, 40)]
theorem kX1_init : ∀ q ∈ lX1_init, xLq RX1 q := List.forall_mem_cons.mpr ⟨lk_346, List.forall_mem_cons.mpr ⟨lk_347, List.forall_mem_cons.mpr ⟨lk_348, List.forall_mem_cons.mpr ⟨lk_349, List.forall_mem_cons.mpr ⟨lk_350, List.forall_mem_cons.mpr ⟨lk_351, List.forall_mem_cons.mpr ⟨lk_352, List.forall_mem_cons.mpr ⟨lk_353, List.forall_mem_cons.mpr ⟨lk_335, List.forall_mem_cons.mpr ⟨lk_336, List.forall_mem_cons.mpr ⟨lk_337, List.forall_mem_cons.mpr ⟨lk_338, fun _ h => absurd h List.not_mem_nil⟩⟩⟩⟩⟩⟩⟩⟩⟩⟩⟩⟩
theorem bX1_init_ok : ∀ b ∈ bX1_init, xbok RX1 cX1_init b := xbB_ok (lk := lX1_init) (ls := []) kX1_init xno_sw (by decide +kernel)
theorem vX1_init : xMok mX1_init := ⟨⟨by decide +kernel, xtb 165 (by decide +kernel) rfl, xtb 128 (by decide +kernel) rfl, ⟨by decide +kernel, by decide +kernel⟩, by decide +kernel, by decide, rfl⟩, bX1_init_ok⟩
def lX1_rowsOf : List xL := [(3, 1, 1, 0, 14), (3, 1, 1, 1, 18), (3, 1, 1, 2, 21), (3, 1, 1, 3, 24), (3, 1, 1, 4, 27)]
theorem kX1_rowsOf : ∀ q ∈ lX1_rowsOf, xLq RX1 q := List.forall_mem_cons.mpr ⟨lk_329, List.forall_mem_cons.mpr ⟨lk_331, List.forall_mem_cons.mpr ⟨lk_332, List.forall_mem_cons.mpr ⟨lk_333, List.forall_mem_cons.mpr ⟨lk_334, fun _ h => absurd h List.not_mem_nil⟩⟩⟩⟩⟩
theorem swX1_rowsOf_0 : xLs RX1 (1, 35, 33, 61, 0, 10) := ⟨_, rfl, 60, 0, 4, #[35, 40, 45, 50, 55], [(0, 36), (1, 41), (2, 46), (3, 51), (4, 56)], rfl, rfl, by decide, by decide, by decide, by decide, rfl, by decide +kernel⟩
def sX1_rowsOf : List xI := [(1, 35, 33, 61, 0, 10)]
theorem zX1_rowsOf : ∀ e ∈ sX1_rowsOf, xLs RX1 e := List.forall_mem_cons.mpr ⟨swX1_rowsOf_0, fun _ h => absurd h List.not_mem_nil⟩
theorem bX1_rowsOf_ok : ∀ b ∈ bX1_rowsOf, xbok RX1 cX1_rowsOf b := xbB_ok (lk := lX1_rowsOf) (ls := sX1_rowsOf) kX1_rowsOf zX1_rowsOf (by decide +kernel)
theorem vX1_rowsOf : xMok mX1_rowsOf := ⟨⟨by decide +kernel, xtb 797 (by decide +kernel) rfl, xtb 128 (by decide +kernel) rfl, ⟨by decide +kernel, by decide +kernel⟩, by decide +kernel, by decide, ⟨_, rfl, Or.inl ⟨_, rfl⟩⟩⟩, bX1_rowsOf_ok⟩
def lX1_slidesAnywhere : List xL := [(3, 1, 1, 0, 14), (3, 1, 5, 3, 43), (3, 13, 206, 40, 46)]
theorem kX1_slidesAnywhere : ∀ q ∈ lX1_slidesAnywhere, xLq RX1 q := List.forall_mem_cons.mpr ⟨lk_329, List.forall_mem_cons.mpr ⟨lk_354, List.forall_mem_cons.mpr ⟨lk_355, fun _ h => absurd h List.not_mem_nil⟩⟩⟩
theorem bX1_slidesAnywhere_ok : ∀ b ∈ bX1_slidesAnywhere, xbok RX1 cX1_slidesAnywhere b := xbB_ok (lk := lX1_slidesAnywhere) (ls := []) kX1_slidesAnywhere xno_sw (by decide +kernel)
theorem vX1_slidesAnywhere : xMok mX1_slidesAnywhere := ⟨⟨by decide +kernel, xtb 1492 (by decide +kernel) rfl, xtb 128 (by decide +kernel) rfl, ⟨by decide +kernel, by decide +kernel⟩, by decide +kernel, by decide, rfl⟩, bX1_slidesAnywhere_ok⟩
def lX2_findFlawBeside : List xL := [(3, 1, 2, 9, 57), (3, 1, 2, 2, 12), (3, 1, 1, 4, 211), (3, 1, 5, 3, 185), (3, 1, 2, 5, 25), (3, 13, 206, 40, 188), (3, 1, 1, 5, 192), (3, 1, 1, 6, 195), (3, 14, 2, 9, 57), (3, 14, 2, 10, 88)]
theorem kX2_findFlawBeside : ∀ q ∈ lX2_findFlawBeside, xLq RX2 q := List.forall_mem_cons.mpr ⟨lk_356, List.forall_mem_cons.mpr ⟨lk_357, List.forall_mem_cons.mpr ⟨lk_358, List.forall_mem_cons.mpr ⟨lk_359, List.forall_mem_cons.mpr ⟨lk_360, List.forall_mem_cons.mpr ⟨lk_361, List.forall_mem_cons.mpr ⟨lk_362, List.forall_mem_cons.mpr ⟨lk_363, List.forall_mem_cons.mpr ⟨lk_364, List.forall_mem_cons.mpr ⟨lk_365, fun _ h => absurd h List.not_mem_nil⟩⟩⟩⟩⟩⟩⟩⟩⟩⟩
theorem bX2_findFlawBeside_ok : ∀ b ∈ bX2_findFlawBeside, xbok RX2 cX2_findFlawBeside b := xbB_ok (lk := lX2_findFlawBeside) (ls := []) kX2_findFlawBeside xno_sw (by decide +kernel)
theorem vX2_findFlawBeside : xMok mX2_findFlawBeside := ⟨⟨by decide +kernel, xtb 841 (by decide +kernel) rfl, xtb 130 (by decide +kernel) rfl, ⟨by decide +kernel, by decide +kernel⟩, by decide +kernel, by decide, rfl⟩, bX2_findFlawBeside_ok⟩
def lX2_init : List xL := [(3, 25, 0, 0, 3), (3, 24, 1, 0, 9), (3, 13, 182, 13, 11), (3, 61, 2, 2, 12), (3, 61, 2, 3, 18), (3, 61, 2, 4, 22), (3, 61, 2, 5, 25), (3, 61, 2, 0, 28), (3, 24, 8, 0, 32), (3, 1, 9, 0, 34), (3, 13, 225, 68, 40), (3, 61, 2, 1, 43)]
theorem kX2_init : ∀ q ∈ lX2_init, xLq RX2 q := List.forall_mem_cons.mpr ⟨lk_366, List.forall_mem_cons.mpr ⟨lk_367, List.forall_mem_cons.mpr ⟨lk_368, List.forall_mem_cons.mpr ⟨lk_369, List.forall_mem_cons.mpr ⟨lk_370, List.forall_mem_cons.mpr ⟨lk_371, List.forall_mem_cons.mpr ⟨lk_372, List.forall_mem_cons.mpr ⟨lk_373, List.forall_mem_cons.mpr ⟨lk_374, List.forall_mem_cons.mpr ⟨lk_375, List.forall_mem_cons.mpr ⟨lk_376, List.forall_mem_cons.mpr ⟨lk_377, fun _ h => absurd h List.not_mem_nil⟩⟩⟩⟩⟩⟩⟩⟩⟩⟩⟩⟩
theorem bX2_init_ok : ∀ b ∈ bX2_init, xbok RX2 cX2_init b := xbB_ok (lk := lX2_init) (ls := []) kX2_init xno_sw (by decide +kernel)
theorem vX2_init : xMok mX2_init := ⟨⟨by decide +kernel, xtb 330 (by decide +kernel) rfl, xtb 130 (by decide +kernel) rfl, ⟨by decide +kernel, by decide +kernel⟩, by decide +kernel, by decide, rfl⟩, bX2_init_ok⟩
def lX2_readFilm : List xL := [(3, 1, 2, 2, 12), (3, 13, 180, 8, 47), (3, 59, 2, 7, 50), (3, 59, 2, 8, 54), (3, 14, 2, 9, 57), (3, 1, 2, 1, 43), (3, 1, 2, 0, 28), (3, 1, 9, 1, 61), (3, 13, 226, 64, 64), (3, 1, 1, 9, 68), (3, 1, 8, 2, 71), (3, 14, 1, 9, 68), (3, 13, 185, 16, 85), (3, 1, 2, 9, 57), (3, 1, 2, 10, 88), (3, 13, 231, 72, 81), (3, 1, 9, 4, 91), (3, 13, 181, 8, 94), (3, 1, 9, 5, 98), (3, 13, 204, 40, 102), (3, 1, 9, 8, 105)]
theorem kX2_readFilm : ∀ q ∈ lX2_readFilm, xLq RX2 q := List.forall_mem_cons.mpr ⟨lk_357, List.forall_mem_cons.mpr ⟨lk_378, List.forall_mem_cons.mpr ⟨lk_379, List.forall_mem_cons.mpr ⟨lk_380, List.forall_mem_cons.mpr ⟨lk_364, List.forall_mem_cons.mpr ⟨lk_381, List.forall_mem_cons.mpr ⟨lk_382, List.forall_mem_cons.mpr ⟨lk_383, List.forall_mem_cons.mpr ⟨lk_384, List.forall_mem_cons.mpr ⟨lk_385, List.forall_mem_cons.mpr ⟨lk_386, List.forall_mem_cons.mpr ⟨lk_387, List.forall_mem_cons.mpr ⟨lk_388, List.forall_mem_cons.mpr ⟨lk_356, List.forall_mem_cons.mpr ⟨lk_389, List.forall_mem_cons.mpr ⟨lk_390, List.forall_mem_cons.mpr ⟨lk_391, List.forall_mem_cons.mpr ⟨lk_392, List.forall_mem_cons.mpr ⟨lk_393, List.forall_mem_cons.mpr ⟨lk_394, List.forall_mem_cons.mpr ⟨lk_395, fun _ h => absurd h List.not_mem_nil⟩⟩⟩⟩⟩⟩⟩⟩⟩⟩⟩⟩⟩⟩⟩⟩⟩⟩⟩⟩⟩
theorem bX2_readFilm_ok : ∀ b ∈ bX2_readFilm, xbok RX2 cX2_readFilm b := xbB_ok (lk := lX2_readFilm) (ls := []) kX2_readFilm xno_sw (by decide +kernel)
theorem vX2_readFilm : xMok mX2_readFilm := ⟨⟨by decide +kernel, xtb 673 (by decide +kernel) rfl, xtb 130 (by decide +kernel) rfl, ⟨by decide +kernel, by decide +kernel⟩, by decide +kernel, by decide, rfl⟩, bX2_readFilm_ok⟩
def lX3_forgetAges : List xL := [(3, 59, 3, 4, 25)]
theorem kX3_forgetAges : ∀ q ∈ lX3_forgetAges, xLq RX3 q := List.forall_mem_cons.mpr ⟨lk_396, fun _ h => absurd h List.not_mem_nil⟩
theorem bX3_forgetAges_ok : ∀ b ∈ bX3_forgetAges, xbok RX3 cX3_forgetAges b := xbB_ok (lk := lX3_forgetAges) (ls := []) kX3_forgetAges xno_sw (by decide +kernel)
theorem vX3_forgetAges : xMok mX3_forgetAges := ⟨⟨by decide +kernel, xtb 869 (by decide +kernel) rfl, xtb 135 (by decide +kernel) rfl, ⟨by decide +kernel, by decide +kernel⟩, by decide +kernel, by decide, rfl⟩, bX3_forgetAges_ok⟩
def lX3_forgetDamp : List xL := [(3, 59, 3, 5, 29)]
theorem kX3_forgetDamp : ∀ q ∈ lX3_forgetDamp, xLq RX3 q := List.forall_mem_cons.mpr ⟨lk_397, fun _ h => absurd h List.not_mem_nil⟩
theorem bX3_forgetDamp_ok : ∀ b ∈ bX3_forgetDamp, xbok RX3 cX3_forgetDamp b := xbB_ok (lk := lX3_forgetDamp) (ls := []) kX3_forgetDamp xno_sw (by decide +kernel)
theorem vX3_forgetDamp : xMok mX3_forgetDamp := ⟨⟨by decide +kernel, xtb 873 (by decide +kernel) rfl, xtb 135 (by decide +kernel) rfl, ⟨by decide +kernel, by decide +kernel⟩, by decide +kernel, by decide, rfl⟩, bX3_forgetDamp_ok⟩
def lX3_init : List xL := [(3, 25, 0, 0, 1), (3, 61, 3, 1, 9), (3, 61, 3, 2, 15), (3, 61, 3, 3, 18), (3, 61, 3, 0, 21)]
theorem kX3_init : ∀ q ∈ lX3_init, xLq RX3 q := List.forall_mem_cons.mpr ⟨lk_398, List.forall_mem_cons.mpr ⟨lk_399, List.forall_mem_cons.mpr ⟨lk_400, List.forall_mem_cons.mpr ⟨lk_401, List.forall_mem_cons.mpr ⟨lk_402, fun _ h => absurd h List.not_mem_nil⟩⟩⟩⟩⟩
theorem bX3_init_ok : ∀ b ∈ bX3_init, xbok RX3 cX3_init b := xbB_ok (lk := lX3_init) (ls := []) kX3_init xno_sw (by decide +kernel)
theorem vX3_init : xMok mX3_init := ⟨⟨by decide +kernel, xtb 526 (by decide +kernel) rfl, xtb 135 (by decide +kernel) rfl, ⟨by decide +kernel, by decide +kernel⟩, by decide +kernel, by decide, rfl⟩, bX3_init_ok⟩
def lX3_isDamp : List xL := [(3, 1, 3, 2, 15)]
theorem kX3_isDamp : ∀ q ∈ lX3_isDamp, xLq RX3 q := List.forall_mem_cons.mpr ⟨lk_403, fun _ h => absurd h List.not_mem_nil⟩
theorem bX3_isDamp_ok : ∀ b ∈ bX3_isDamp, xbok RX3 cX3_isDamp b := xbB_ok (lk := lX3_isDamp) (ls := []) kX3_isDamp xno_sw (by decide +kernel)
theorem vX3_isDamp : xMok mX3_isDamp := ⟨⟨by decide +kernel, xtb 1215 (by decide +kernel) rfl, xtb 135 (by decide +kernel) rfl, ⟨by decide +kernel, by decide +kernel⟩, by decide +kernel, by decide, rfl⟩, bX3_isDamp_ok⟩
def lX3_leftOf : List xL := [(3, 1, 3, 1, 9), (3, 62, 0, 0, 63)]
theorem kX3_leftOf : ∀ q ∈ lX3_leftOf, xLq RX3 q := List.forall_mem_cons.mpr ⟨lk_404, List.forall_mem_cons.mpr ⟨lk_405, fun _ h => absurd h List.not_mem_nil⟩⟩
theorem bX3_leftOf_ok : ∀ b ∈ bX3_leftOf, xbok RX3 cX3_leftOf b := xbB_ok (lk := lX3_leftOf) (ls := []) kX3_leftOf xno_sw (by decide +kernel)
theorem vX3_leftOf : xMok mX3_leftOf := ⟨⟨by decide +kernel, xtb 1169 (by decide +kernel) rfl, xtb 135 (by decide +kernel) rfl, ⟨by decide +kernel, by decide +kernel⟩, by decide +kernel, by decide, rfl⟩, bX3_leftOf_ok⟩
def lX3_leftSpread : List xL := [(3, 1, 3, 0, 21), (3, 1, 9, 4, 66), (3, 1, 1, 7, 70), (3, 1, 1, 8, 73), (3, 13, 192, 24, 76), (3, 63, 0, 0, 58), (3, 62, 0, 0, 63)]
theorem kX3_leftSpread : ∀ q ∈ lX3_leftSpread, xLq RX3 q := List.forall_mem_cons.mpr ⟨lk_406, List.forall_mem_cons.mpr ⟨lk_407, List.forall_mem_cons.mpr ⟨lk_408, List.forall_mem_cons.mpr ⟨lk_409, List.forall_mem_cons.mpr ⟨lk_410, List.forall_mem_cons.mpr ⟨lk_411, List.forall_mem_cons.mpr ⟨lk_405, fun _ h => absurd h List.not_mem_nil⟩⟩⟩⟩⟩⟩⟩
theorem bX3_leftSpread_ok : ∀ b ∈ bX3_leftSpread, xbok RX3 cX3_leftSpread b := xbB_ok (lk := lX3_leftSpread) (ls := []) kX3_leftSpread xno_sw (by decide +kernel)
theorem vX3_leftSpread : xMok mX3_leftSpread := ⟨⟨by decide +kernel, xtb 1177 (by decide +kernel) rfl, xtb 135 (by decide +kernel) rfl, ⟨by decide +kernel, by decide +kernel⟩, by decide +kernel, by decide, rfl⟩, bX3_leftSpread_ok⟩
def lX3_refreshAges : List xL := [(3, 1, 3, 4, 25), (3, 1, 3, 1, 9), (3, 13, 1, 2, 32), (3, 1, 3, 0, 21), (3, 1, 9, 8, 38), (3, 1, 5, 3, 44), (3, 59, 3, 4, 25)]
theorem kX3_refreshAges : ∀ q ∈ lX3_refreshAges, xLq RX3 q := List.forall_mem_cons.mpr ⟨lk_412, List.forall_mem_cons.mpr ⟨lk_404, List.forall_mem_cons.mpr ⟨lk_413, List.forall_mem_cons.mpr ⟨lk_406, List.forall_mem_cons.mpr ⟨lk_414, List.forall_mem_cons.mpr ⟨lk_415, List.forall_mem_cons.mpr ⟨lk_396, fun _ h => absurd h List.not_mem_nil⟩⟩⟩⟩⟩⟩⟩
theorem bX3_refreshAges_ok : ∀ b ∈ bX3_refreshAges, xbok RX3 cX3_refreshAges b := xbB_ok (lk := lX3_refreshAges) (ls := []) kX3_refreshAges xno_sw (by decide +kernel)
theorem vX3_refreshAges : xMok mX3_refreshAges := ⟨⟨by decide +kernel, xtb 1155 (by decide +kernel) rfl, xtb 135 (by decide +kernel) rfl, ⟨by decide +kernel, by decide +kernel⟩, by decide +kernel, by decide, rfl⟩, bX3_refreshAges_ok⟩
def lX3_refreshDamp : List xL := [(3, 1, 3, 5, 29), (3, 1, 3, 2, 15), (3, 13, 1, 2, 32), (3, 1, 3, 0, 21), (3, 1, 9, 9, 80), (3, 59, 3, 5, 29)]
theorem kX3_refreshDamp : ∀ q ∈ lX3_refreshDamp, xLq RX3 q := List.forall_mem_cons.mpr ⟨lk_416, List.forall_mem_cons.mpr ⟨lk_403, List.forall_mem_cons.mpr ⟨lk_413, List.forall_mem_cons.mpr ⟨lk_406, List.forall_mem_cons.mpr ⟨lk_417, List.forall_mem_cons.mpr ⟨lk_397, fun _ h => absurd h List.not_mem_nil⟩⟩⟩⟩⟩⟩
theorem bX3_refreshDamp_ok : ∀ b ∈ bX3_refreshDamp, xbok RX3 cX3_refreshDamp b := xbB_ok (lk := lX3_refreshDamp) (ls := []) kX3_refreshDamp xno_sw (by decide +kernel)
theorem vX3_refreshDamp : xMok mX3_refreshDamp := ⟨⟨by decide +kernel, xtb 1190 (by decide +kernel) rfl, xtb 135 (by decide +kernel) rfl, ⟨by decide +kernel, by decide +kernel⟩, by decide +kernel, by decide, rfl⟩, bX3_refreshDamp_ok⟩
def lX4_forget : List xL := [(3, 59, 4, 9, 25), (3, 59, 4, 10, 29), (3, 59, 4, 11, 32)]
theorem kX4_forget : ∀ q ∈ lX4_forget, xLq RX4 q := List.forall_mem_cons.mpr ⟨lk_418, List.forall_mem_cons.mpr ⟨lk_419, List.forall_mem_cons.mpr ⟨lk_420, fun _ h => absurd h List.not_mem_nil⟩⟩⟩
theorem bX4_forget_ok : ∀ b ∈ bX4_forget, xbok RX4 cX4_forget b := xbB_ok (lk := lX4_forget) (ls := []) kX4_forget xno_sw (by decide +kernel)
theorem vX4_forget : xMok mX4_forget := ⟨⟨by decide +kernel, xtb 1349 (by decide +kernel) rfl, xtb 137 (by decide +kernel) rfl, ⟨by decide +kernel, by decide +kernel⟩, by decide +kernel, by decide, rfl⟩, bX4_forget_ok⟩
def lX4_init : List xL := [(3, 25, 0, 0, 3), (3, 61, 4, 1, 11), (3, 61, 4, 2, 15), (3, 61, 4, 3, 18), (3, 61, 4, 0, 21)]
theorem kX4_init : ∀ q ∈ lX4_init, xLq RX4 q := List.forall_mem_cons.mpr ⟨lk_421, List.forall_mem_cons.mpr ⟨lk_422, List.forall_mem_cons.mpr ⟨lk_423, List.forall_mem_cons.mpr ⟨lk_424, List.forall_mem_cons.mpr ⟨lk_425, fun _ h => absurd h List.not_mem_nil⟩⟩⟩⟩⟩
theorem bX4_init_ok : ∀ b ∈ bX4_init, xbok RX4 cX4_init b := xbB_ok (lk := lX4_init) (ls := []) kX4_init xno_sw (by decide +kernel)
theorem vX4_init : xMok mX4_init := ⟨⟨by decide +kernel, xtb 577 (by decide +kernel) rfl, xtb 137 (by decide +kernel) rfl, ⟨by decide +kernel, by decide +kernel⟩, by decide +kernel, by decide, rfl⟩, bX4_init_ok⟩
def lX4_keptAt : List xL := [(3, 1, 4, 1, 11)]
theorem kX4_keptAt : ∀ q ∈ lX4_keptAt, xLq RX4 q := List.forall_mem_cons.mpr ⟨lk_426, fun _ h => absurd h List.not_mem_nil⟩
theorem bX4_keptAt_ok : ∀ b ∈ bX4_keptAt, xbok RX4 cX4_keptAt b := xbB_ok (lk := lX4_keptAt) (ls := []) kX4_keptAt xno_sw (by decide +kernel)
theorem vX4_keptAt : xMok mX4_keptAt := ⟨⟨by decide +kernel, xtb 1376 (by decide +kernel) rfl, xtb 137 (by decide +kernel) rfl, ⟨by decide +kernel, by decide +kernel⟩, by decide +kernel, by decide, rfl⟩, bX4_keptAt_ok⟩
def lX4_refresh : List xL := [(3, 1, 4, 9, 25), (3, 14, 4, 4, 35), (3, 1, 4, 1, 11), (3, 13, 202, 32, 39), (3, 1, 4, 4, 35), (3, 59, 4, 9, 25)]
theorem kX4_refresh : ∀ q ∈ lX4_refresh, xLq RX4 q := List.forall_mem_cons.mpr ⟨lk_427, List.forall_mem_cons.mpr ⟨lk_428, List.forall_mem_cons.mpr ⟨lk_426, List.forall_mem_cons.mpr ⟨lk_429, List.forall_mem_cons.mpr ⟨lk_430, List.forall_mem_cons.mpr ⟨lk_418, fun _ h => absurd h List.not_mem_nil⟩⟩⟩⟩⟩⟩
theorem bX4_refresh_ok : ∀ b ∈ bX4_refresh, xbok RX4 cX4_refresh b := xbB_ok (lk := lX4_refresh) (ls := []) kX4_refresh xno_sw (by decide +kernel)
theorem vX4_refresh : xMok mX4_refresh := ⟨⟨by decide +kernel, xtb 1357 (by decide +kernel) rfl, xtb 137 (by decide +kernel) rfl, ⟨by decide +kernel, by decide +kernel⟩, by decide +kernel, by decide, rfl⟩, bX4_refresh_ok⟩
def lX4_spanEnd : List xL := [(3, 1, 4, 1, 11), (3, 13, 203, 34, 54), (3, 62, 0, 0, 68)]
theorem kX4_spanEnd : ∀ q ∈ lX4_spanEnd, xLq RX4 q := List.forall_mem_cons.mpr ⟨lk_426, List.forall_mem_cons.mpr ⟨lk_431, List.forall_mem_cons.mpr ⟨lk_432, fun _ h => absurd h List.not_mem_nil⟩⟩⟩
theorem bX4_spanEnd_ok : ∀ b ∈ bX4_spanEnd, xbok RX4 cX4_spanEnd b := xbB_ok (lk := lX4_spanEnd) (ls := []) kX4_spanEnd xno_sw (by decide +kernel)
theorem vX4_spanEnd : xMok mX4_spanEnd := ⟨⟨by decide +kernel, xtb 1384 (by decide +kernel) rfl, xtb 137 (by decide +kernel) rfl, ⟨by decide +kernel, by decide +kernel⟩, by decide +kernel, by decide, rfl⟩, bX4_spanEnd_ok⟩
def lX4_spanStart : List xL := [(2, 35, 2147483647, 0, 62), (3, 1, 4, 1, 11), (3, 13, 203, 34, 54), (3, 63, 0, 0, 63)]
theorem kX4_spanStart : ∀ q ∈ lX4_spanStart, xLq RX4 q := List.forall_mem_cons.mpr ⟨lk_433, List.forall_mem_cons.mpr ⟨lk_426, List.forall_mem_cons.mpr ⟨lk_431, List.forall_mem_cons.mpr ⟨lk_434, fun _ h => absurd h List.not_mem_nil⟩⟩⟩⟩
theorem bX4_spanStart_ok : ∀ b ∈ bX4_spanStart, xbok RX4 cX4_spanStart b := xbB_ok (lk := lX4_spanStart) (ls := []) kX4_spanStart xno_sw (by decide +kernel)
theorem vX4_spanStart : xMok mX4_spanStart := ⟨⟨by decide +kernel, xtb 1389 (by decide +kernel) rfl, xtb 137 (by decide +kernel) rfl, ⟨by decide +kernel, by decide +kernel⟩, by decide +kernel, by decide, rfl⟩, bX4_spanStart_ok⟩
def lX4_testsAgainst : List xL := [(3, 1, 4, 0, 21), (3, 1, 5, 3, 43), (3, 13, 206, 40, 50), (3, 13, 203, 34, 54)]
theorem kX4_testsAgainst : ∀ q ∈ lX4_testsAgainst, xLq RX4 q := List.forall_mem_cons.mpr ⟨lk_435, List.forall_mem_cons.mpr ⟨lk_436, List.forall_mem_cons.mpr ⟨lk_437, List.forall_mem_cons.mpr ⟨lk_431, fun _ h => absurd h List.not_mem_nil⟩⟩⟩⟩
theorem bX4_testsAgainst_ok : ∀ b ∈ bX4_testsAgainst, xbok RX4 cX4_testsAgainst b := xbB_ok (lk := lX4_testsAgainst) (ls := []) kX4_testsAgainst xno_sw (by decide +kernel)
theorem vX4_testsAgainst : xMok mX4_testsAgainst := ⟨⟨by decide +kernel, xtb 1361 (by decide +kernel) rfl, xtb 137 (by decide +kernel) rfl, ⟨by decide +kernel, by decide +kernel⟩, by decide +kernel, by decide, rfl⟩, bX4_testsAgainst_ok⟩
def lX4_unitAt : List xL := []
theorem kX4_unitAt : ∀ q ∈ lX4_unitAt, xLq RX4 q := fun _ h => absurd h List.not_mem_nil
theorem bX4_unitAt_ok : ∀ b ∈ bX4_unitAt, xbok RX4 cX4_unitAt b := xbB_ok (lk := lX4_unitAt) (ls := []) kX4_unitAt xno_sw (by decide +kernel)
theorem vX4_unitAt : xMok mX4_unitAt := ⟨⟨by decide +kernel, xtb 1365 (by decide +kernel) rfl, xtb 137 (by decide +kernel) rfl, ⟨by decide +kernel, by decide +kernel⟩, by decide +kernel, by decide, rfl⟩, bX4_unitAt_ok⟩
def lX5_clear : List xL := [(3, 14, 5, 3, 22)]
theorem kX5_clear : ∀ q ∈ lX5_clear, xLq RX5 q := List.forall_mem_cons.mpr ⟨lk_438, fun _ h => absurd h List.not_mem_nil⟩
theorem bX5_clear_ok : ∀ b ∈ bX5_clear, xbok RX5 cX5_clear b := xbB_ok (lk := lX5_clear) (ls := []) kX5_clear xno_sw (by decide +kernel)
theorem vX5_clear : xMok mX5_clear := ⟨⟨by decide +kernel, xtb 681 (by decide +kernel) rfl, xtb 129 (by decide +kernel) rfl, ⟨by decide +kernel, by decide +kernel⟩, by decide +kernel, by decide, rfl⟩, bX5_clear_ok⟩
def lX5_copy : List xL := [(3, 1, 5, 0, 9), (3, 1, 5, 1, 15), (3, 1, 5, 3, 22), (3, 14, 5, 3, 22), (3, 1, 5, 2, 18), (3, 58, 0, 0, 33)]
theorem kX5_copy : ∀ q ∈ lX5_copy, xLq RX5 q := List.forall_mem_cons.mpr ⟨lk_439, List.forall_mem_cons.mpr ⟨lk_440, List.forall_mem_cons.mpr ⟨lk_441, List.forall_mem_cons.mpr ⟨lk_438, List.forall_mem_cons.mpr ⟨lk_442, List.forall_mem_cons.mpr ⟨lk_443, fun _ h => absurd h List.not_mem_nil⟩⟩⟩⟩⟩⟩
theorem bX5_copy_ok : ∀ b ∈ bX5_copy, xbok RX5 cX5_copy b := xbB_ok (lk := lX5_copy) (ls := []) kX5_copy xno_sw (by decide +kernel)
theorem vX5_copy : xMok mX5_copy := ⟨⟨by decide +kernel, xtb 849 (by decide +kernel) rfl, xtb 129 (by decide +kernel) rfl, ⟨by decide +kernel, by decide +kernel⟩, by decide +kernel, by decide, rfl⟩, bX5_copy_ok⟩
def lX5_get : List xL := [(3, 1, 5, 3, 22), (3, 1, 5, 1, 15), (3, 1, 5, 2, 18)]
theorem kX5_get : ∀ q ∈ lX5_get, xLq RX5 q := List.forall_mem_cons.mpr ⟨lk_441, List.forall_mem_cons.mpr ⟨lk_440, List.forall_mem_cons.mpr ⟨lk_442, fun _ h => absurd h List.not_mem_nil⟩⟩⟩
theorem bX5_get_ok : ∀ b ∈ bX5_get, xbok RX5 cX5_get b := xbB_ok (lk := lX5_get) (ls := []) kX5_get xno_sw (by decide +kernel)
theorem vX5_get : xMok mX5_get := ⟨⟨by decide +kernel, xtb 809 (by decide +kernel) rfl, xtb 129 (by decide +kernel) rfl, ⟨by decide +kernel, by decide +kernel⟩, by decide +kernel, by decide, rfl⟩, bX5_get_ok⟩
def lX5_grow : List xL := [(3, 13, 210, 40, 29), (3, 1, 5, 3, 22), (3, 14, 5, 3, 22)]
theorem kX5_grow : ∀ q ∈ lX5_grow, xLq RX5 q := List.forall_mem_cons.mpr ⟨lk_444, List.forall_mem_cons.mpr ⟨lk_441, List.forall_mem_cons.mpr ⟨lk_438, fun _ h => absurd h List.not_mem_nil⟩⟩⟩
theorem bX5_grow_ok : ∀ b ∈ bX5_grow, xbok RX5 cX5_grow b := xbB_ok (lk := lX5_grow) (ls := []) kX5_grow xno_sw (by decide +kernel)
theorem vX5_grow : xMok mX5_grow := ⟨⟨by decide +kernel, xtb 824 (by decide +kernel) rfl, xtb 129 (by decide +kernel) rfl, ⟨by decide +kernel, by decide +kernel⟩, by decide +kernel, by decide, rfl⟩, bX5_grow_ok⟩
def lX5_has : List xL := [(3, 1, 5, 3, 22)]
theorem kX5_has : ∀ q ∈ lX5_has, xLq RX5 q := List.forall_mem_cons.mpr ⟨lk_441, fun _ h => absurd h List.not_mem_nil⟩
theorem bX5_has_ok : ∀ b ∈ bX5_has, xbok RX5 cX5_has b := xbB_ok (lk := lX5_has) (ls := []) kX5_has xno_sw (by decide +kernel)
theorem vX5_has : xMok mX5_has := ⟨⟨by decide +kernel, xtb 833 (by decide +kernel) rfl, xtb 129 (by decide +kernel) rfl, ⟨by decide +kernel, by decide +kernel⟩, by decide +kernel, by decide, rfl⟩, bX5_has_ok⟩
def lX5_init : List xL := [(3, 25, 0, 0, 3), (3, 22, 5, 0, 9), (3, 22, 5, 1, 15), (3, 61, 5, 2, 18)]
theorem kX5_init : ∀ q ∈ lX5_init, xLq RX5 q := List.forall_mem_cons.mpr ⟨lk_445, List.forall_mem_cons.mpr ⟨lk_446, List.forall_mem_cons.mpr ⟨lk_447, List.forall_mem_cons.mpr ⟨lk_448, fun _ h => absurd h List.not_mem_nil⟩⟩⟩⟩
theorem bX5_init_ok : ∀ b ∈ bX5_init, xbok RX5 cX5_init b := xbB_ok (lk := lX5_init) (ls := []) kX5_init xno_sw (by decide +kernel)
theorem vX5_init : xMok mX5_init := ⟨⟨by decide +kernel, xtb 171 (by decide +kernel) rfl, xtb 129 (by decide +kernel) rfl, ⟨by decide +kernel, by decide +kernel⟩, by decide +kernel, by decide, rfl⟩, bX5_init_ok⟩
def lX5_isFull : List xL := [(3, 1, 5, 3, 22), (3, 1, 5, 0, 9)]
theorem kX5_isFull : ∀ q ∈ lX5_isFull, xLq RX5 q := List.forall_mem_cons.mpr ⟨lk_441, List.forall_mem_cons.mpr ⟨lk_439, fun _ h => absurd h List.not_mem_nil⟩⟩
theorem bX5_isFull_ok : ∀ b ∈ bX5_isFull, xbok RX5 cX5_isFull b := xbB_ok (lk := lX5_isFull) (ls := []) kX5_isFull xno_sw (by decide +kernel)
theorem vX5_isFull : xMok mX5_isFull := ⟨⟨by decide +kernel, xtb 801 (by decide +kernel) rfl, xtb 129 (by decide +kernel) rfl, ⟨by decide +kernel, by decide +kernel⟩, by decide +kernel, by decide, rfl⟩, bX5_isFull_ok⟩
def lX5_put : List xL := [(3, 13, 208, 40, 25), (3, 1, 5, 1, 15), (3, 1, 5, 2, 18)]
theorem kX5_put : ∀ q ∈ lX5_put, xLq RX5 q := List.forall_mem_cons.mpr ⟨lk_449, List.forall_mem_cons.mpr ⟨lk_440, List.forall_mem_cons.mpr ⟨lk_442, fun _ h => absurd h List.not_mem_nil⟩⟩⟩
theorem bX5_put_ok : ∀ b ∈ bX5_put, xbok RX5 cX5_put b := xbB_ok (lk := lX5_put) (ls := []) kX5_put xno_sw (by decide +kernel)
theorem vX5_put : xMok mX5_put := ⟨⟨by decide +kernel, xtb 829 (by decide +kernel) rfl, xtb 129 (by decide +kernel) rfl, ⟨by decide +kernel, by decide +kernel⟩, by decide +kernel, by decide, rfl⟩, bX5_put_ok⟩
def lX6_init : List xL := [(3, 25, 0, 0, 3), (3, 24, 5, 0, 9), (3, 13, 209, 44, 13), (3, 61, 6, 2, 16), (3, 61, 6, 3, 20), (3, 61, 6, 0, 23), (3, 24, 8, 0, 27), (3, 1, 9, 0, 29), (3, 13, 225, 68, 35), (3, 61, 6, 1, 38)]
theorem kX6_init : ∀ q ∈ lX6_init, xLq RX6 q := List.forall_mem_cons.mpr ⟨lk_450, List.forall_mem_cons.mpr ⟨lk_451, List.forall_mem_cons.mpr ⟨lk_452, List.forall_mem_cons.mpr ⟨lk_453, List.forall_mem_cons.mpr ⟨lk_454, List.forall_mem_cons.mpr ⟨lk_455, List.forall_mem_cons.mpr ⟨lk_456, List.forall_mem_cons.mpr ⟨lk_457, List.forall_mem_cons.mpr ⟨lk_458, List.forall_mem_cons.mpr ⟨lk_459, fun _ h => absurd h List.not_mem_nil⟩⟩⟩⟩⟩⟩⟩⟩⟩⟩
theorem bX6_init_ok : ∀ b ∈ bX6_init, xbok RX6 cX6_init b := xbB_ok (lk := lX6_init) (ls := []) kX6_init xno_sw (by decide +kernel)
theorem vX6_init : xMok mX6_init := ⟨⟨by decide +kernel, xtb 403 (by decide +kernel) rfl, xtb 132 (by decide +kernel) rfl, ⟨by decide +kernel, by decide +kernel⟩, by decide +kernel, by decide, rfl⟩, bX6_init_ok⟩
def lX6_readRules : List xL := [(3, 1, 6, 2, 16), (3, 13, 204, 40, 42), (3, 1, 6, 3, 20), (3, 14, 6, 4, 45), (3, 1, 6, 1, 38), (3, 1, 6, 0, 23), (3, 1, 9, 1, 49), (3, 13, 226, 64, 52), (3, 1, 8, 2, 56), (3, 1, 6, 4, 45), (3, 1, 6, 5, 69), (3, 13, 231, 72, 66), (3, 1, 9, 12, 72), (3, 13, 205, 40, 75), (3, 1, 9, 13, 79), (3, 1, 5, 3, 82)]
theorem kX6_readRules : ∀ q ∈ lX6_readRules, xLq RX6 q := List.forall_mem_cons.mpr ⟨lk_460, List.forall_mem_cons.mpr ⟨lk_461, List.forall_mem_cons.mpr ⟨lk_462, List.forall_mem_cons.mpr ⟨lk_463, List.forall_mem_cons.mpr ⟨lk_464, List.forall_mem_cons.mpr ⟨lk_465, List.forall_mem_cons.mpr ⟨lk_466, List.forall_mem_cons.mpr ⟨lk_467, List.forall_mem_cons.mpr ⟨lk_468, List.forall_mem_cons.mpr ⟨lk_469, List.forall_mem_cons.mpr ⟨lk_470, List.forall_mem_cons.mpr ⟨lk_471, List.forall_mem_cons.mpr ⟨lk_472, List.forall_mem_cons.mpr ⟨lk_473, List.forall_mem_cons.mpr ⟨lk_474, List.forall_mem_cons.mpr ⟨lk_475, fun _ h => absurd h List.not_mem_nil⟩⟩⟩⟩⟩⟩⟩⟩⟩⟩⟩⟩⟩⟩⟩⟩
theorem bX6_readRules_ok : ∀ b ∈ bX6_readRules, xbok RX6 cX6_readRules b := xbB_ok (lk := lX6_readRules) (ls := []) kX6_readRules xno_sw (by decide +kernel)
theorem vX6_readRules : xMok mX6_readRules := ⟨⟨by decide +kernel, xtb 1429 (by decide +kernel) rfl, xtb 132 (by decide +kernel) rfl, ⟨by decide +kernel, by decide +kernel⟩, by decide +kernel, by decide, rfl⟩, bX6_readRules_ok⟩
def lX7_fillWorths : List xL := [(3, 1, 7, 0, 22), (3, 1, 1, 5, 33), (3, 1, 1, 6, 39), (3, 1, 7, 1, 9), (3, 13, 217, 58, 54), (3, 13, 221, 56, 58), (3, 62, 0, 0, 61)]
theorem kX7_fillWorths : ∀ q ∈ lX7_fillWorths, xLq RX7 q := List.forall_mem_cons.mpr ⟨lk_476, List.forall_mem_cons.mpr ⟨lk_477, List.forall_mem_cons.mpr ⟨lk_478, List.forall_mem_cons.mpr ⟨lk_479, List.forall_mem_cons.mpr ⟨lk_480, List.forall_mem_cons.mpr ⟨lk_481, List.forall_mem_cons.mpr ⟨lk_482, fun _ h => absurd h List.not_mem_nil⟩⟩⟩⟩⟩⟩⟩
theorem bX7_fillWorths_ok : ∀ b ∈ bX7_fillWorths, xbok RX7 cX7_fillWorths b := xbB_ok (lk := lX7_fillWorths) (ls := []) kX7_fillWorths xno_sw (by decide +kernel)
theorem vX7_fillWorths : xMok mX7_fillWorths := ⟨⟨by decide +kernel, xtb 1265 (by decide +kernel) rfl, xtb 136 (by decide +kernel) rfl, ⟨by decide +kernel, by decide +kernel⟩, by decide +kernel, by decide, rfl⟩, bX7_fillWorths_ok⟩
def lX7_forget : List xL := [(3, 59, 7, 3, 26), (3, 59, 7, 4, 30)]
theorem kX7_forget : ∀ q ∈ lX7_forget, xLq RX7 q := List.forall_mem_cons.mpr ⟨lk_483, List.forall_mem_cons.mpr ⟨lk_484, fun _ h => absurd h List.not_mem_nil⟩⟩
theorem bX7_forget_ok : ∀ b ∈ bX7_forget, xbok RX7 cX7_forget b := xbB_ok (lk := lX7_forget) (ls := []) kX7_forget xno_sw (by decide +kernel)
theorem vX7_forget : xMok mX7_forget := ⟨⟨by decide +kernel, xtb 877 (by decide +kernel) rfl, xtb 136 (by decide +kernel) rfl, ⟨by decide +kernel, by decide +kernel⟩, by decide +kernel, by decide, rfl⟩, bX7_forget_ok⟩
def lX7_init : List xL := [(3, 25, 0, 0, 1), (3, 61, 7, 1, 9), (3, 24, 5, 0, 13), (3, 13, 209, 44, 15), (3, 61, 7, 2, 18), (3, 61, 7, 0, 22)]
theorem kX7_init : ∀ q ∈ lX7_init, xLq RX7 q := List.forall_mem_cons.mpr ⟨lk_485, List.forall_mem_cons.mpr ⟨lk_486, List.forall_mem_cons.mpr ⟨lk_487, List.forall_mem_cons.mpr ⟨lk_488, List.forall_mem_cons.mpr ⟨lk_489, List.forall_mem_cons.mpr ⟨lk_490, fun _ h => absurd h List.not_mem_nil⟩⟩⟩⟩⟩⟩
theorem bX7_init_ok : ∀ b ∈ bX7_init, xbok RX7 cX7_init b := xbB_ok (lk := lX7_init) (ls := []) kX7_init xno_sw (by decide +kernel)
theorem vX7_init : xMok mX7_init := ⟨⟨by decide +kernel, xtb 552 (by decide +kernel) rfl, xtb 136 (by decide +kernel) rfl, ⟨by decide +kernel, by decide +kernel⟩, by decide +kernel, by decide, rfl⟩, bX7_init_ok⟩
def lX7_pieceOf : List xL := [(3, 37, 0, 0, 66)]
theorem kX7_pieceOf : ∀ q ∈ lX7_pieceOf, xLq RX7 q := List.forall_mem_cons.mpr ⟨lk_491, fun _ h => absurd h List.not_mem_nil⟩
theorem bX7_pieceOf_ok : ∀ b ∈ bX7_pieceOf, xbok RX7 cX7_pieceOf b := xbB_ok (lk := lX7_pieceOf) (ls := []) kX7_pieceOf xno_sw (by decide +kernel)
theorem vX7_pieceOf : xMok mX7_pieceOf := ⟨⟨by decide +kernel, xtb 1272 (by decide +kernel) rfl, xtb 136 (by decide +kernel) rfl, ⟨by decide +kernel, by decide +kernel⟩, by decide +kernel, by decide, rfl⟩, bX7_pieceOf_ok⟩
def lX7_planPiece : List xL := [(3, 13, 222, 56, 95), (3, 13, 223, 56, 42), (3, 13, 218, 58, 91)]
theorem kX7_planPiece : ∀ q ∈ lX7_planPiece, xLq RX7 q := List.forall_mem_cons.mpr ⟨lk_492, List.forall_mem_cons.mpr ⟨lk_493, List.forall_mem_cons.mpr ⟨lk_494, fun _ h => absurd h List.not_mem_nil⟩⟩⟩
theorem bX7_planPiece_ok : ∀ b ∈ bX7_planPiece, xbok RX7 cX7_planPiece b := xbB_ok (lk := lX7_planPiece) (ls := []) kX7_planPiece xno_sw (by decide +kernel)
theorem vX7_planPiece : xMok mX7_planPiece := ⟨⟨by decide +kernel, xtb 1295 (by decide +kernel) rfl, xtb 136 (by decide +kernel) rfl, ⟨by decide +kernel, by decide +kernel⟩, by decide +kernel, by decide, rfl⟩, bX7_planPiece_ok⟩
def lX7_refreshPlan : List xL := [(3, 1, 7, 4, 30), (3, 13, 220, 56, 85), (3, 1, 7, 2, 18), (3, 13, 204, 40, 88), (3, 1, 7, 0, 22), (3, 1, 1, 5, 33), (3, 1, 1, 6, 39), (3, 13, 218, 58, 91), (3, 59, 7, 4, 30)]
theorem kX7_refreshPlan : ∀ q ∈ lX7_refreshPlan, xLq RX7 q := List.forall_mem_cons.mpr ⟨lk_495, List.forall_mem_cons.mpr ⟨lk_496, List.forall_mem_cons.mpr ⟨lk_497, List.forall_mem_cons.mpr ⟨lk_498, List.forall_mem_cons.mpr ⟨lk_476, List.forall_mem_cons.mpr ⟨lk_477, List.forall_mem_cons.mpr ⟨lk_478, List.forall_mem_cons.mpr ⟨lk_494, List.forall_mem_cons.mpr ⟨lk_484, fun _ h => absurd h List.not_mem_nil⟩⟩⟩⟩⟩⟩⟩⟩⟩
theorem bX7_refreshPlan_ok : ∀ b ∈ bX7_refreshPlan, xbok RX7 cX7_refreshPlan b := xbB_ok (lk := lX7_refreshPlan) (ls := []) kX7_refreshPlan xno_sw (by decide +kernel)
theorem vX7_refreshPlan : xMok mX7_refreshPlan := ⟨⟨by decide +kernel, xtb 1290 (by decide +kernel) rfl, xtb 136 (by decide +kernel) rfl, ⟨by decide +kernel, by decide +kernel⟩, by decide +kernel, by decide, rfl⟩, bX7_refreshPlan_ok⟩
def lX7_refreshWorth : List xL := [(3, 1, 7, 3, 26), (3, 1, 7, 0, 22), (3, 1, 1, 5, 33), (3, 1, 1, 6, 39), (3, 13, 223, 56, 42), (3, 13, 214, 56, 46), (3, 59, 7, 3, 26)]
theorem kX7_refreshWorth : ∀ q ∈ lX7_refreshWorth, xLq RX7 q := List.forall_mem_cons.mpr ⟨lk_499, List.forall_mem_cons.mpr ⟨lk_476, List.forall_mem_cons.mpr ⟨lk_477, List.forall_mem_cons.mpr ⟨lk_478, List.forall_mem_cons.mpr ⟨lk_493, List.forall_mem_cons.mpr ⟨lk_500, List.forall_mem_cons.mpr ⟨lk_483, fun _ h => absurd h List.not_mem_nil⟩⟩⟩⟩⟩⟩⟩
theorem bX7_refreshWorth_ok : ∀ b ∈ bX7_refreshWorth, xbok RX7 cX7_refreshWorth b := xbB_ok (lk := lX7_refreshWorth) (ls := []) kX7_refreshWorth xno_sw (by decide +kernel)
theorem vX7_refreshWorth : xMok mX7_refreshWorth := ⟨⟨by decide +kernel, xtb 1251 (by decide +kernel) rfl, xtb 136 (by decide +kernel) rfl, ⟨by decide +kernel, by decide +kernel⟩, by decide +kernel, by decide, rfl⟩, bX7_refreshWorth_ok⟩
def lX7_worthCut : List xL := [(3, 37, 0, 0, 66), (3, 1, 7, 1, 9), (3, 62, 0, 0, 61)]
theorem kX7_worthCut : ∀ q ∈ lX7_worthCut, xLq RX7 q := List.forall_mem_cons.mpr ⟨lk_491, List.forall_mem_cons.mpr ⟨lk_479, List.forall_mem_cons.mpr ⟨lk_482, fun _ h => absurd h List.not_mem_nil⟩⟩⟩
theorem bX7_worthCut_ok : ∀ b ∈ bX7_worthCut, xbok RX7 cX7_worthCut b := xbB_ok (lk := lX7_worthCut) (ls := []) kX7_worthCut xno_sw (by decide +kernel)
theorem vX7_worthCut : xMok mX7_worthCut := ⟨⟨by decide +kernel, xtb 1278 (by decide +kernel) rfl, xtb 136 (by decide +kernel) rfl, ⟨by decide +kernel, by decide +kernel⟩, by decide +kernel, by decide, rfl⟩, bX7_worthCut_ok⟩
def lX7_worthOf : List xL := [(3, 1, 7, 1, 9), (3, 13, 217, 58, 54)]
theorem kX7_worthOf : ∀ q ∈ lX7_worthOf, xLq RX7 q := List.forall_mem_cons.mpr ⟨lk_479, List.forall_mem_cons.mpr ⟨lk_480, fun _ h => absurd h List.not_mem_nil⟩⟩
theorem bX7_worthOf_ok : ∀ b ∈ bX7_worthOf, xbok RX7 cX7_worthOf b := xbB_ok (lk := lX7_worthOf) (ls := []) kX7_worthOf xno_sw (by decide +kernel)
theorem vX7_worthOf : xMok mX7_worthOf := ⟨⟨by decide +kernel, xtb 1282 (by decide +kernel) rfl, xtb 136 (by decide +kernel) rfl, ⟨by decide +kernel, by decide +kernel⟩, by decide +kernel, by decide, rfl⟩, bX7_worthOf_ok⟩
def lX7_worthOfSize : List xL := [(3, 1, 7, 0, 22), (3, 1, 1, 3, 69), (3, 1, 5, 3, 72)]
theorem kX7_worthOfSize : ∀ q ∈ lX7_worthOfSize, xLq RX7 q := List.forall_mem_cons.mpr ⟨lk_476, List.forall_mem_cons.mpr ⟨lk_501, List.forall_mem_cons.mpr ⟨lk_502, fun _ h => absurd h List.not_mem_nil⟩⟩⟩
theorem bX7_worthOfSize_ok : ∀ b ∈ bX7_worthOfSize, xbok RX7 cX7_worthOfSize b := xbB_ok (lk := lX7_worthOfSize) (ls := []) kX7_worthOfSize xno_sw (by decide +kernel)
theorem vX7_worthOfSize : xMok mX7_worthOfSize := ⟨⟨by decide +kernel, xtb 1255 (by decide +kernel) rfl, xtb 136 (by decide +kernel) rfl, ⟨by decide +kernel, by decide +kernel⟩, by decide +kernel, by decide, rfl⟩, bX7_worthOfSize_ok⟩
def lX8_advance : List xL := [(3, 1, 8, 4, 23), (3, 1, 8, 1, 19), (3, 1, 8, 0, 7), (3, 14, 8, 4, 23), (3, 14, 8, 3, 29), (3, 14, 8, 2, 32)]
theorem kX8_advance : ∀ q ∈ lX8_advance, xLq RX8 q := List.forall_mem_cons.mpr ⟨lk_503, List.forall_mem_cons.mpr ⟨lk_504, List.forall_mem_cons.mpr ⟨lk_505, List.forall_mem_cons.mpr ⟨lk_506, List.forall_mem_cons.mpr ⟨lk_507, List.forall_mem_cons.mpr ⟨lk_508, fun _ h => absurd h List.not_mem_nil⟩⟩⟩⟩⟩⟩
theorem bX8_advance_ok : ∀ b ∈ bX8_advance, xbok RX8 cX8_advance b := xbB_ok (lk := lX8_advance) (ls := []) kX8_advance xno_sw (by decide +kernel)
theorem vX8_advance : xMok mX8_advance := ⟨⟨by decide +kernel, xtb 692 (by decide +kernel) rfl, xtb 131 (by decide +kernel) rfl, ⟨by decide +kernel, by decide +kernel⟩, by decide +kernel, by decide, rfl⟩, bX8_advance_ok⟩
def lX8_init : List xL := [(3, 25, 0, 0, 1), (3, 61, 8, 0, 7)]
theorem kX8_init : ∀ q ∈ lX8_init, xLq RX8 q := List.forall_mem_cons.mpr ⟨lk_509, List.forall_mem_cons.mpr ⟨lk_510, fun _ h => absurd h List.not_mem_nil⟩⟩
theorem bX8_init_ok : ∀ b ∈ bX8_init, xbok RX8 cX8_init b := xbB_ok (lk := lX8_init) (ls := []) kX8_init xno_sw (by decide +kernel)
theorem vX8_init : xMok mX8_init := ⟨⟨by decide +kernel, xtb 338 (by decide +kernel) rfl, xtb 131 (by decide +kernel) rfl, ⟨by decide +kernel, by decide +kernel⟩, by decide +kernel, by decide, rfl⟩, bX8_init_ok⟩
def lX8_start : List xL := [(3, 1, 8, 0, 7), (3, 63, 0, 0, 13), (3, 14, 8, 1, 19), (3, 14, 8, 4, 23), (3, 13, 224, 64, 26)]
theorem kX8_start : ∀ q ∈ lX8_start, xLq RX8 q := List.forall_mem_cons.mpr ⟨lk_505, List.forall_mem_cons.mpr ⟨lk_511, List.forall_mem_cons.mpr ⟨lk_512, List.forall_mem_cons.mpr ⟨lk_506, List.forall_mem_cons.mpr ⟨lk_513, fun _ h => absurd h List.not_mem_nil⟩⟩⟩⟩⟩
theorem bX8_start_ok : ∀ b ∈ bX8_start, xbok RX8 cX8_start b := xbB_ok (lk := lX8_start) (ls := []) kX8_start xno_sw (by decide +kernel)
theorem vX8_start : xMok mX8_start := ⟨⟨by decide +kernel, xtb 685 (by decide +kernel) rfl, xtb 131 (by decide +kernel) rfl, ⟨by decide +kernel, by decide +kernel⟩, by decide +kernel, by decide, rfl⟩, bX8_start_ok⟩
def lX9_append : List xL := [(3, 1, 9, 1, 57), (3, 1, 9, 0, 11), (3, 14, 9, 1, 57)]
theorem kX9_append : ∀ q ∈ lX9_append, xLq RX9 q := List.forall_mem_cons.mpr ⟨lk_514, List.forall_mem_cons.mpr ⟨lk_515, List.forall_mem_cons.mpr ⟨lk_516, fun _ h => absurd h List.not_mem_nil⟩⟩⟩
theorem bX9_append_ok : ∀ b ∈ bX9_append, xbok RX9 cX9_append b := xbB_ok (lk := lX9_append) (ls := []) kX9_append xno_sw (by decide +kernel)
theorem vX9_append : xMok mX9_append := ⟨⟨by decide +kernel, xtb 661 (by decide +kernel) rfl, xtb 127 (by decide +kernel) rfl, ⟨by decide +kernel, by decide +kernel⟩, by decide +kernel, by decide, rfl⟩, bX9_append_ok⟩
def lX9_copy : List xL := [(3, 1, 9, 0, 11), (3, 58, 0, 0, 70), (3, 1, 9, 1, 57), (3, 14, 9, 1, 57), (3, 1, 9, 2, 60), (3, 14, 9, 2, 60), (3, 1, 9, 3, 15), (3, 14, 9, 3, 15), (3, 1, 9, 4, 22), (3, 13, 181, 8, 76), (3, 1, 9, 5, 31), (3, 13, 205, 40, 80), (3, 1, 9, 6, 83), (3, 14, 9, 6, 83), (3, 1, 9, 7, 35), (3, 14, 9, 7, 35), (3, 1, 9, 8, 38), (3, 1, 9, 9, 86), (3, 14, 9, 9, 86), (3, 1, 9, 10, 41), (3, 1, 9, 11, 46), (3, 1, 9, 12, 51), (3, 1, 9, 13, 54)]
theorem kX9_copy : ∀ q ∈ lX9_copy, xLq RX9 q := List.forall_mem_cons.mpr ⟨lk_515, List.forall_mem_cons.mpr ⟨lk_517, List.forall_mem_cons.mpr ⟨lk_514, List.forall_mem_cons.mpr ⟨lk_516, List.forall_mem_cons.mpr ⟨lk_518, List.forall_mem_cons.mpr ⟨lk_519, List.forall_mem_cons.mpr ⟨lk_520, List.forall_mem_cons.mpr ⟨lk_521, List.forall_mem_cons.mpr ⟨lk_522, List.forall_mem_cons.mpr ⟨lk_523, List.forall_mem_cons.mpr ⟨lk_524, List.forall_mem_cons.mpr ⟨lk_525, List.forall_mem_cons.mpr ⟨lk_526, List.forall_mem_cons.mpr ⟨lk_527, List.forall_mem_cons.mpr ⟨lk_528, List.forall_mem_cons.mpr ⟨lk_529, List.forall_mem_cons.mpr ⟨lk_530, List.forall_mem_cons.mpr ⟨lk_531, List.forall_mem_cons.mpr ⟨lk_532, List.forall_mem_cons.mpr ⟨lk_533, List.forall_mem_cons.mpr ⟨lk_534, List.forall_mem_cons.mpr ⟨lk_535, List.forall_mem_cons.mpr ⟨lk_536, fun _ h => absurd h List.not_mem_nil⟩⟩⟩⟩⟩⟩⟩⟩⟩⟩⟩⟩⟩⟩⟩⟩⟩⟩⟩⟩⟩⟩⟩
theorem bX9_copy_ok : ∀ b ∈ bX9_copy, xbok RX9 cX9_copy b := xbB_ok (lk := lX9_copy) (ls := []) kX9_copy xno_sw (by decide +kernel)
theorem vX9_copy : xMok mX9_copy := ⟨⟨by decide +kernel, xtb 1524 (by decide +kernel) rfl, xtb 127 (by decide +kernel) rfl, ⟨by decide +kernel, by decide +kernel⟩, by decide +kernel, by decide, rfl⟩, bX9_copy_ok⟩
def lX9_cracksInView : List xL := [(3, 1, 9, 7, 35), (3, 1, 9, 5, 31), (3, 1, 5, 3, 63), (3, 13, 206, 40, 66)]
theorem kX9_cracksInView : ∀ q ∈ lX9_cracksInView, xLq RX9 q := List.forall_mem_cons.mpr ⟨lk_528, List.forall_mem_cons.mpr ⟨lk_524, List.forall_mem_cons.mpr ⟨lk_537, List.forall_mem_cons.mpr ⟨lk_538, fun _ h => absurd h List.not_mem_nil⟩⟩⟩⟩
theorem bX9_cracksInView_ok : ∀ b ∈ bX9_cracksInView, xbok RX9 cX9_cracksInView b := xbB_ok (lk := lX9_cracksInView) (ls := []) kX9_cracksInView xno_sw (by decide +kernel)
theorem vX9_cracksInView : xMok mX9_cracksInView := ⟨⟨by decide +kernel, xtb 1059 (by decide +kernel) rfl, xtb 127 (by decide +kernel) rfl, ⟨by decide +kernel, by decide +kernel⟩, by decide +kernel, by decide, rfl⟩, bX9_cracksInView_ok⟩
def lX9_init : List xL := [(3, 25, 0, 0, 3), (3, 61, 9, 0, 11), (3, 14, 9, 3, 15), (3, 24, 1, 0, 19), (3, 13, 182, 13, 21), (3, 61, 9, 4, 22), (3, 24, 5, 0, 26), (3, 13, 209, 44, 28), (3, 61, 9, 5, 31), (3, 14, 9, 7, 35), (3, 61, 9, 8, 38), (3, 61, 9, 10, 41), (3, 61, 9, 11, 46), (3, 61, 9, 12, 51), (3, 61, 9, 13, 54)]
theorem kX9_init : ∀ q ∈ lX9_init, xLq RX9 q := List.forall_mem_cons.mpr ⟨lk_539, List.forall_mem_cons.mpr ⟨lk_540, List.forall_mem_cons.mpr ⟨lk_521, List.forall_mem_cons.mpr ⟨lk_541, List.forall_mem_cons.mpr ⟨lk_542, List.forall_mem_cons.mpr ⟨lk_543, List.forall_mem_cons.mpr ⟨lk_544, List.forall_mem_cons.mpr ⟨lk_545, List.forall_mem_cons.mpr ⟨lk_546, List.forall_mem_cons.mpr ⟨lk_529, List.forall_mem_cons.mpr ⟨lk_547, List.forall_mem_cons.mpr ⟨lk_548, List.forall_mem_cons.mpr ⟨lk_549, List.forall_mem_cons.mpr ⟨lk_550, List.forall_mem_cons.mpr ⟨lk_551, fun _ h => absurd h List.not_mem_nil⟩⟩⟩⟩⟩⟩⟩⟩⟩⟩⟩⟩⟩⟩⟩
theorem bX9_init_ok : ∀ b ∈ bX9_init, xbok RX9 cX9_init b := xbB_ok (lk := lX9_init) (ls := []) kX9_init xno_sw (by decide +kernel)
theorem vX9_init : xMok mX9_init := ⟨⟨by decide +kernel, xtb 159 (by decide +kernel) rfl, xtb 127 (by decide +kernel) rfl, ⟨by decide +kernel, by decide +kernel⟩, by decide +kernel, by decide, rfl⟩, bX9_init_ok⟩
def lX9_take : List xL := [(3, 14, 9, 1, 57), (3, 14, 9, 2, 60), (3, 14, 9, 3, 15)]
theorem kX9_take : ∀ q ∈ lX9_take, xLq RX9 q := List.forall_mem_cons.mpr ⟨lk_516, List.forall_mem_cons.mpr ⟨lk_519, List.forall_mem_cons.mpr ⟨lk_521, fun _ h => absurd h List.not_mem_nil⟩⟩⟩
theorem bX9_take_ok : ∀ b ∈ bX9_take, xbok RX9 cX9_take b := xbB_ok (lk := lX9_take) (ls := []) kX9_take xno_sw (by decide +kernel)
theorem vX9_take : xMok mX9_take := ⟨⟨by decide +kernel, xtb 837 (by decide +kernel) rfl, xtb 127 (by decide +kernel) rfl, ⟨by decide +kernel, by decide +kernel⟩, by decide +kernel, by decide, rfl⟩, bX9_take_ok⟩
