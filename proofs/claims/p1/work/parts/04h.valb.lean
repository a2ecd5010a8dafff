theorem bX11_promise_ok : ∀ b ∈ bX11_promise, xbok RX11 cX11_promise b := xbB_ok (lk := lX11_promise) (ls := []) kX11_promise xno_sw (by decide +kernel)
theorem vX11_promise : xMok mX11_promise := ⟨⟨by decide +kernel, xtb 1340 (by decide +kernel) rfl, xtb 126 (by decide +kernel) rfl, ⟨by decide +kernel, by decide +kernel⟩, by decide +kernel, by decide, rfl⟩, bX11_promise_ok⟩
def lX11_quarrel : List xL := [(3, 1, 11, 8, 79), (3, 13, 199, 32, 327), (3, 1, 4, 4, 328)]
theorem kX11_quarrel : ∀ q ∈ lX11_quarrel, xLq RX11 q := List.forall_mem_cons.mpr ⟨lk_71, List.forall_mem_cons.mpr ⟨lk_166, List.forall_mem_cons.mpr ⟨lk_167, fun _ h => absurd h List.not_mem_nil⟩⟩⟩
theorem bX11_quarrel_ok : ∀ b ∈ bX11_quarrel, xbok RX11 cX11_quarrel b := xbB_ok (lk := lX11_quarrel) (ls := []) kX11_quarrel xno_sw (by decide +kernel)
theorem vX11_quarrel : xMok mX11_quarrel := ⟨⟨by decide +kernel, xtb 1395 (by decide +kernel) rfl, xtb 126 (by decide +kernel) rfl, ⟨by decide +kernel, by decide +kernel⟩, by decide +kernel, by decide, rfl⟩, bX11_quarrel_ok⟩
def lX11_refreshLamps : List xL := [(3, 1, 11, 5, 52), (3, 13, 16, 80, 219), (3, 1, 11, 6, 59), (3, 13, 194, 24, 264), (3, 13, 195, 24, 279)]
theorem kX11_refreshLamps : ∀ q ∈ lX11_refreshLamps, xLq RX11 q := List.forall_mem_cons.mpr ⟨lk_107, List.forall_mem_cons.mpr ⟨lk_110, List.forall_mem_cons.mpr ⟨lk_114, List.forall_mem_cons.mpr ⟨lk_168, List.forall_mem_cons.mpr ⟨lk_115, fun _ h => absurd h List.not_mem_nil⟩⟩⟩⟩⟩
theorem bX11_refreshLamps_ok : ∀ b ∈ bX11_refreshLamps, xbok RX11 cX11_refreshLamps b := xbB_ok (lk := lX11_refreshLamps) (ls := []) kX11_refreshLamps xno_sw (by decide +kernel)
theorem vX11_refreshLamps : xMok mX11_refreshLamps := ⟨⟨by decide +kernel, xtb 1207 (by decide +kernel) rfl, xtb 126 (by decide +kernel) rfl, ⟨by decide +kernel, by decide +kernel⟩, by decide +kernel, by decide, rfl⟩, bX11_refreshLamps_ok⟩
def lX11_rules : List xL := [(3, 1, 11, 3, 32), (3, 13, 213, 48, 358)]
theorem kX11_rules : ∀ q ∈ lX11_rules, xLq RX11 q := List.forall_mem_cons.mpr ⟨lk_188, List.forall_mem_cons.mpr ⟨lk_189, fun _ h => absurd h List.not_mem_nil⟩⟩
theorem bX11_rules_ok : ∀ b ∈ bX11_rules, xbok RX11 cX11_rules b := xbB_ok (lk := lX11_rules) (ls := []) kX11_rules xno_sw (by decide +kernel)
theorem vX11_rules : xMok mX11_rules := ⟨⟨by decide +kernel, xtb 1425 (by decide +kernel) rfl, xtb 126 (by decide +kernel) rfl, ⟨by decide +kernel, by decide +kernel⟩, by decide +kernel, by decide, rfl⟩, bX11_rules_ok⟩
def lX11_share : List xL := [(3, 13, 49, 90, 238), (3, 1, 11, 4, 45), (3, 13, 5, 0, 123), (3, 13, 21, 88, 322)]
theorem kX11_share : ∀ q ∈ lX11_share, xLq RX11 q := List.forall_mem_cons.mpr ⟨lk_66, List.forall_mem_cons.mpr ⟨lk_83, List.forall_mem_cons.mpr ⟨lk_84, List.forall_mem_cons.mpr ⟨lk_187, fun _ h => absurd h List.not_mem_nil⟩⟩⟩⟩
theorem bX11_share_ok : ∀ b ∈ bX11_share, xbok RX11 cX11_share b := xbB_ok (lk := lX11_share) (ls := []) kX11_share xno_sw (by decide +kernel)
theorem vX11_share : xMok mX11_share := ⟨⟨by decide +kernel, xtb 1330 (by decide +kernel) rfl, xtb 126 (by decide +kernel) rfl, ⟨by decide +kernel, by decide +kernel⟩, by decide +kernel, by decide, rfl⟩, bX11_share_ok⟩
def lX11_shift : List xL := [(3, 1, 11, 0, 10), (3, 1, 9, 8, 252), (3, 1, 5, 3, 151), (3, 1, 11, 6, 59), (3, 13, 194, 24, 264)]
theorem kX11_shift : ∀ q ∈ lX11_shift, xLq RX11 q := List.forall_mem_cons.mpr ⟨lk_68, List.forall_mem_cons.mpr ⟨lk_90, List.forall_mem_cons.mpr ⟨lk_76, List.forall_mem_cons.mpr ⟨lk_114, List.forall_mem_cons.mpr ⟨lk_168, fun _ h => absurd h List.not_mem_nil⟩⟩⟩⟩⟩
theorem bX11_shift_ok : ∀ b ∈ bX11_shift, xbok RX11 cX11_shift b := xbB_ok (lk := lX11_shift) (ls := []) kX11_shift xno_sw (by decide +kernel)
theorem vX11_shift : xMok mX11_shift := ⟨⟨by decide +kernel, xtb 1243 (by decide +kernel) rfl, xtb 126 (by decide +kernel) rfl, ⟨by decide +kernel, by decide +kernel⟩, by decide +kernel, by decide, rfl⟩, bX11_shift_ok⟩
def lX11_span : List xL := [(3, 1, 11, 8, 79), (3, 13, 199, 32, 327), (3, 13, 49, 90, 238), (3, 1, 4, 4, 328), (3, 13, 200, 32, 334), (3, 13, 201, 32, 337)]
theorem kX11_span : ∀ q ∈ lX11_span, xLq RX11 q := List.forall_mem_cons.mpr ⟨lk_71, List.forall_mem_cons.mpr ⟨lk_166, List.forall_mem_cons.mpr ⟨lk_66, List.forall_mem_cons.mpr ⟨lk_167, List.forall_mem_cons.mpr ⟨lk_190, List.forall_mem_cons.mpr ⟨lk_191, fun _ h => absurd h List.not_mem_nil⟩⟩⟩⟩⟩⟩
theorem bX11_span_ok : ∀ b ∈ bX11_span, xbok RX11 cX11_span b := xbB_ok (lk := lX11_span) (ls := []) kX11_span xno_sw (by decide +kernel)
theorem vX11_span : xMok mX11_span := ⟨⟨by decide +kernel, xtb 1380 (by decide +kernel) rfl, xtb 126 (by decide +kernel) rfl, ⟨by decide +kernel, by decide +kernel⟩, by decide +kernel, by decide, rfl⟩, bX11_span_ok⟩
def lX11_stretch : List xL := [(3, 1, 11, 0, 10), (3, 1, 9, 4, 38), (3, 1, 1, 0, 112), (3, 13, 208, 40, 117), (3, 13, 50, 90, 140), (2, 35, 2294967296, 0, 143), (3, 1, 11, 4, 45), (3, 13, 5, 0, 123)]
theorem kX11_stretch : ∀ q ∈ lX11_stretch, xLq RX11 q := List.forall_mem_cons.mpr ⟨lk_68, List.forall_mem_cons.mpr ⟨lk_79, List.forall_mem_cons.mpr ⟨lk_80, List.forall_mem_cons.mpr ⟨lk_81, List.forall_mem_cons.mpr ⟨lk_82, List.forall_mem_cons.mpr ⟨lk_192, List.forall_mem_cons.mpr ⟨lk_83, List.forall_mem_cons.mpr ⟨lk_84, fun _ h => absurd h List.not_mem_nil⟩⟩⟩⟩⟩⟩⟩⟩
theorem bX11_stretch_ok : ∀ b ∈ bX11_stretch, xbok RX11 cX11_stretch b := xbB_ok (lk := lX11_stretch) (ls := []) kX11_stretch xno_sw (by decide +kernel)
theorem vX11_stretch : xMok mX11_stretch := ⟨⟨by decide +kernel, xtb 916 (by decide +kernel) rfl, xtb 126 (by decide +kernel) rfl, ⟨by decide +kernel, by decide +kernel⟩, by decide +kernel, by decide, rfl⟩, bX11_stretch_ok⟩
def lX11_test : List xL := [(3, 1, 11, 0, 10), (3, 1, 9, 11, 72), (3, 13, 49, 90, 238), (3, 36, 999999, 0, 325), (3, 13, 210, 40, 198), (3, 13, 207, 40, 209), (3, 13, 211, 40, 212), (3, 1, 11, 8, 79), (3, 13, 196, 32, 326)]
theorem kX11_test : ∀ q ∈ lX11_test, xLq RX11 q := List.forall_mem_cons.mpr ⟨lk_68, List.forall_mem_cons.mpr ⟨lk_94, List.forall_mem_cons.mpr ⟨lk_66, List.forall_mem_cons.mpr ⟨lk_193, List.forall_mem_cons.mpr ⟨lk_104, List.forall_mem_cons.mpr ⟨lk_106, List.forall_mem_cons.mpr ⟨lk_89, List.forall_mem_cons.mpr ⟨lk_71, List.forall_mem_cons.mpr ⟨lk_72, fun _ h => absurd h List.not_mem_nil⟩⟩⟩⟩⟩⟩⟩⟩⟩
theorem bX11_test_ok : ∀ b ∈ bX11_test, xbok RX11 cX11_test b := xbB_ok (lk := lX11_test) (ls := []) kX11_test xno_sw (by decide +kernel)
theorem vX11_test : xMok mX11_test := ⟨⟨by decide +kernel, xtb 1344 (by decide +kernel) rfl, xtb 126 (by decide +kernel) rfl, ⟨by decide +kernel, by decide +kernel⟩, by decide +kernel, by decide, rfl⟩, bX11_test_ok⟩
def lX11_tired : List xL := [(3, 1, 11, 0, 10), (3, 1, 9, 4, 38), (3, 1, 1, 2, 169), (3, 1, 1, 0, 112), (3, 13, 208, 40, 117), (3, 1, 5, 3, 151), (3, 1, 11, 4, 45), (3, 13, 5, 0, 123), (3, 13, 206, 40, 132)]
theorem kX11_tired : ∀ q ∈ lX11_tired, xLq RX11 q := List.forall_mem_cons.mpr ⟨lk_68, List.forall_mem_cons.mpr ⟨lk_79, List.forall_mem_cons.mpr ⟨lk_109, List.forall_mem_cons.mpr ⟨lk_80, List.forall_mem_cons.mpr ⟨lk_81, List.forall_mem_cons.mpr ⟨lk_76, List.forall_mem_cons.mpr ⟨lk_83, List.forall_mem_cons.mpr ⟨lk_84, List.forall_mem_cons.mpr ⟨lk_78, fun _ h => absurd h List.not_mem_nil⟩⟩⟩⟩⟩⟩⟩⟩⟩
theorem bX11_tired_ok : ∀ b ∈ bX11_tired, xbok RX11 cX11_tired b := xbB_ok (lk := lX11_tired) (ls := []) kX11_tired xno_sw (by decide +kernel)
theorem vX11_tired : xMok mX11_tired := ⟨⟨by decide +kernel, xtb 988 (by decide +kernel) rfl, xtb 126 (by decide +kernel) rfl, ⟨by decide +kernel, by decide +kernel⟩, by decide +kernel, by decide, rfl⟩, bX11_tired_ok⟩
def lX11_unlike : List xL := [(3, 1, 11, 6, 59), (3, 13, 194, 24, 264), (3, 13, 193, 24, 270)]
theorem kX11_unlike : ∀ q ∈ lX11_unlike, xLq RX11 q := List.forall_mem_cons.mpr ⟨lk_114, List.forall_mem_cons.mpr ⟨lk_168, List.forall_mem_cons.mpr ⟨lk_194, fun _ h => absurd h List.not_mem_nil⟩⟩⟩
theorem bX11_unlike_ok : ∀ b ∈ bX11_unlike, xbok RX11 cX11_unlike b := xbB_ok (lk := lX11_unlike) (ls := []) kX11_unlike xno_sw (by decide +kernel)
theorem vX11_unlike : xMok mX11_unlike := ⟨⟨by decide +kernel, xtb 1173 (by decide +kernel) rfl, xtb 126 (by decide +kernel) rfl, ⟨by decide +kernel, by decide +kernel⟩, by decide +kernel, by decide, rfl⟩, bX11_unlike_ok⟩
def lX11_value : List xL := [(3, 1, 11, 0, 10), (3, 1, 9, 4, 38), (3, 1, 1, 5, 297), (3, 1, 1, 6, 300), (3, 1, 11, 7, 66), (3, 13, 220, 56, 303), (3, 13, 222, 56, 306)]
theorem kX11_value : ∀ q ∈ lX11_value, xLq RX11 q := List.forall_mem_cons.mpr ⟨lk_68, List.forall_mem_cons.mpr ⟨lk_79, List.forall_mem_cons.mpr ⟨lk_100, List.forall_mem_cons.mpr ⟨lk_101, List.forall_mem_cons.mpr ⟨lk_131, List.forall_mem_cons.mpr ⟨lk_172, List.forall_mem_cons.mpr ⟨lk_175, fun _ h => absurd h List.not_mem_nil⟩⟩⟩⟩⟩⟩⟩
theorem bX11_value_ok : ∀ b ∈ bX11_value, xbok RX11 cX11_value b := xbB_ok (lk := lX11_value) (ls := []) kX11_value xno_sw (by decide +kernel)
theorem vX11_value : xMok mX11_value := ⟨⟨by decide +kernel, xtb 1247 (by decide +kernel) rfl, xtb 126 (by decide +kernel) rfl, ⟨by decide +kernel, by decide +kernel⟩, by decide +kernel, by decide, rfl⟩, bX11_value_ok⟩
def lX11_view : List xL := [(3, 1, 11, 0, 10), (3, 1, 9, 6, 186), (3, 14, 9, 7, 189), (3, 1, 11, 5, 52), (3, 13, 11, 80, 192)]
theorem kX11_view : ∀ q ∈ lX11_view, xLq RX11 q := List.forall_mem_cons.mpr ⟨lk_68, List.forall_mem_cons.mpr ⟨lk_91, List.forall_mem_cons.mpr ⟨lk_195, List.forall_mem_cons.mpr ⟨lk_107, List.forall_mem_cons.mpr ⟨lk_108, fun _ h => absurd h List.not_mem_nil⟩⟩⟩⟩⟩
theorem bX11_view_ok : ∀ b ∈ bX11_view, xbok RX11 cX11_view b := xbB_ok (lk := lX11_view) (ls := []) kX11_view xno_sw (by decide +kernel)
theorem vX11_view : xMok mX11_view := ⟨⟨by decide +kernel, xtb 1031 (by decide +kernel) rfl, xtb 126 (by decide +kernel) rfl, ⟨by decide +kernel, by decide +kernel⟩, by decide +kernel, by decide, rfl⟩, bX11_view_ok⟩
def lX11_wet : List xL := [(3, 13, 49, 90, 238), (3, 1, 11, 0, 10), (3, 14, 9, 9, 273), (3, 1, 11, 6, 59), (3, 13, 189, 24, 276)]
theorem kX11_wet : ∀ q ∈ lX11_wet, xLq RX11 q := List.forall_mem_cons.mpr ⟨lk_66, List.forall_mem_cons.mpr ⟨lk_68, List.forall_mem_cons.mpr ⟨lk_196, List.forall_mem_cons.mpr ⟨lk_114, List.forall_mem_cons.mpr ⟨lk_130, fun _ h => absurd h List.not_mem_nil⟩⟩⟩⟩⟩
theorem bX11_wet_ok : ∀ b ∈ bX11_wet, xbok RX11 cX11_wet b := xbB_ok (lk := lX11_wet) (ls := []) kX11_wet xno_sw (by decide +kernel)
theorem vX11_wet : xMok mX11_wet := ⟨⟨by decide +kernel, xtb 1182 (by decide +kernel) rfl, xtb 126 (by decide +kernel) rfl, ⟨by decide +kernel, by decide +kernel⟩, by decide +kernel, by decide, rfl⟩, bX11_wet_ok⟩
def lX11_worst : List xL := [(3, 1, 11, 0, 10), (3, 1, 9, 4, 38), (3, 1, 1, 0, 112), (3, 1, 5, 3, 151), (3, 13, 50, 90, 140), (3, 1, 11, 4, 45), (3, 13, 5, 0, 123)]
theorem kX11_worst : ∀ q ∈ lX11_worst, xLq RX11 q := List.forall_mem_cons.mpr ⟨lk_68, List.forall_mem_cons.mpr ⟨lk_79, List.forall_mem_cons.mpr ⟨lk_80, List.forall_mem_cons.mpr ⟨lk_76, List.forall_mem_cons.mpr ⟨lk_82, List.forall_mem_cons.mpr ⟨lk_83, List.forall_mem_cons.mpr ⟨lk_84, fun _ h => absurd h List.not_mem_nil⟩⟩⟩⟩⟩⟩⟩
theorem bX11_worst_ok : ∀ b ∈ bX11_worst, xbok RX11 cX11_worst b := xbB_ok (lk := lX11_worst) (ls := []) kX11_worst xno_sw (by decide +kernel)
theorem vX11_worst : xMok mX11_worst := ⟨⟨by decide +kernel, xtb 957 (by decide +kernel) rfl, xtb 126 (by decide +kernel) rfl, ⟨by decide +kernel, by decide +kernel⟩, by decide +kernel, by decide, rfl⟩, bX11_worst_ok⟩
def lX12_advance : List xL := [(3, 1, 12, 5, 141), (3, 13, 96, 96, 144), (3, 14, 12, 5, 141), (3, 14, 12, 6, 148), (3, 14, 12, 7, 151), (3, 1, 12, 6, 148), (3, 1, 12, 2, 137), (3, 14, 12, 9, 165), (3, 1, 12, 9, 165), (3, 14, 12, 3, 174)]
theorem kX12_advance : ∀ q ∈ lX12_advance, xLq RX12 q := List.forall_mem_cons.mpr ⟨lk_197, List.forall_mem_cons.mpr ⟨lk_198, List.forall_mem_cons.mpr ⟨lk_199, List.forall_mem_cons.mpr ⟨lk_200, List.forall_mem_cons.mpr ⟨lk_201, List.forall_mem_cons.mpr ⟨lk_202, List.forall_mem_cons.mpr ⟨lk_203, List.forall_mem_cons.mpr ⟨lk_204, List.forall_mem_cons.mpr ⟨lk_205, List.forall_mem_cons.mpr ⟨lk_206, fun _ h => absurd h List.not_mem_nil⟩⟩⟩⟩⟩⟩⟩⟩⟩⟩
theorem bX12_advance_ok : ∀ b ∈ bX12_advance, xbok RX12 cX12_advance b := xbB_ok (lk := lX12_advance) (ls := []) kX12_advance xno_sw (by decide +kernel)
theorem vX12_advance : xMok mX12_advance := ⟨⟨by decide +kernel, xtb 1699 (by decide +kernel) rfl, xtb 138 (by decide +kernel) rfl, ⟨by decide +kernel, by decide +kernel⟩, by decide +kernel, by decide, rfl⟩, bX12_advance_ok⟩
def lX12_again : List xL := [(3, 13, 126, 98, 105), (3, 1, 12, 1, 13), (3, 1, 12, 0, 7)]
theorem kX12_again : ∀ q ∈ lX12_again, xLq RX12 q := List.forall_mem_cons.mpr ⟨lk_207, List.forall_mem_cons.mpr ⟨lk_208, List.forall_mem_cons.mpr ⟨lk_209, fun _ h => absurd h List.not_mem_nil⟩⟩⟩
theorem bX12_again_ok : ∀ b ∈ bX12_again, xbok RX12 cX12_again b := xbB_ok (lk := lX12_again) (ls := []) kX12_again xno_sw (by decide +kernel)
theorem vX12_again : xMok mX12_again := ⟨⟨by decide +kernel, xtb 2212 (by decide +kernel) rfl, xtb 138 (by decide +kernel) rfl, ⟨by decide +kernel, by decide +kernel⟩, by decide +kernel, by decide, rfl⟩, bX12_again_ok⟩
def lX12_ages : List xL := [(3, 1, 12, 34, 72), (3, 1, 12, 0, 7)]
theorem kX12_ages : ∀ q ∈ lX12_ages, xLq RX12 q := List.forall_mem_cons.mpr ⟨lk_210, List.forall_mem_cons.mpr ⟨lk_209, fun _ h => absurd h List.not_mem_nil⟩⟩
theorem bX12_ages_ok : ∀ b ∈ bX12_ages, xbok RX12 cX12_ages b := xbB_ok (lk := lX12_ages) (ls := []) kX12_ages xno_sw (by decide +kernel)
theorem vX12_ages : xMok mX12_ages := ⟨⟨by decide +kernel, xtb 1961 (by decide +kernel) rfl, xtb 138 (by decide +kernel) rfl, ⟨by decide +kernel, by decide +kernel⟩, by decide +kernel, by decide, rfl⟩, bX12_ages_ok⟩
def lX12_allRows : List xL := [(3, 1, 12, 0, 7)]
theorem kX12_allRows : ∀ q ∈ lX12_allRows, xLq RX12 q := List.forall_mem_cons.mpr ⟨lk_209, fun _ h => absurd h List.not_mem_nil⟩
theorem bX12_allRows_ok : ∀ b ∈ bX12_allRows, xbok RX12 cX12_allRows b := xbB_ok (lk := lX12_allRows) (ls := []) kX12_allRows xno_sw (by decide +kernel)
theorem vX12_allRows : xMok mX12_allRows := ⟨⟨by decide +kernel, xtb 1901 (by decide +kernel) rfl, xtb 138 (by decide +kernel) rfl, ⟨by decide +kernel, by decide +kernel⟩, by decide +kernel, by decide, rfl⟩, bX12_allRows_ok⟩
def lX12_allTests : List xL := [(3, 1, 12, 0, 7)]
theorem kX12_allTests : ∀ q ∈ lX12_allTests, xLq RX12 q := List.forall_mem_cons.mpr ⟨lk_209, fun _ h => absurd h List.not_mem_nil⟩
theorem bX12_allTests_ok : ∀ b ∈ bX12_allTests, xbok RX12 cX12_allTests b := xbB_ok (lk := lX12_allTests) (ls := []) kX12_allTests xno_sw (by decide +kernel)
theorem vX12_allTests : xMok mX12_allTests := ⟨⟨by decide +kernel, xtb 2128 (by decide +kernel) rfl, xtb 138 (by decide +kernel) rfl, ⟨by decide +kernel, by decide +kernel⟩, by decide +kernel, by decide, rfl⟩, bX12_allTests_ok⟩
def lX12_asTold : List xL := [(3, 13, 122, 96, 235), (3, 13, 94, 96, 238)]
theorem kX12_asTold : ∀ q ∈ lX12_asTold, xLq RX12 q := List.forall_mem_cons.mpr ⟨lk_211, List.forall_mem_cons.mpr ⟨lk_212, fun _ h => absurd h List.not_mem_nil⟩⟩
theorem bX12_asTold_ok : ∀ b ∈ bX12_asTold, xbok RX12 cX12_asTold b := xbB_ok (lk := lX12_asTold) (ls := []) kX12_asTold xno_sw (by decide +kernel)
theorem vX12_asTold : xMok mX12_asTold := ⟨⟨by decide +kernel, xtb 1785 (by decide +kernel) rfl, xtb 138 (by decide +kernel) rfl, ⟨by decide +kernel, by decide +kernel⟩, by decide +kernel, by decide, rfl⟩, bX12_asTold_ok⟩
def lX12_at : List xL := []
theorem kX12_at : ∀ q ∈ lX12_at, xLq RX12 q := fun _ h => absurd h List.not_mem_nil
theorem bX12_at_ok : ∀ b ∈ bX12_at, xbok RX12 cX12_at b := xbB_ok (lk := lX12_at) (ls := []) kX12_at xno_sw (by decide +kernel)
theorem vX12_at : xMok mX12_at := ⟨⟨by decide +kernel, xtb 2012 (by decide +kernel) rfl, xtb 138 (by decide +kernel) rfl, ⟨by decide +kernel, by decide +kernel⟩, by decide +kernel, by decide, rfl⟩, bX12_at_ok⟩
def lX12_barred : List xL := [(3, 1, 12, 0, 7)]
theorem kX12_barred : ∀ q ∈ lX12_barred, xLq RX12 q := List.forall_mem_cons.mpr ⟨lk_209, fun _ h => absurd h List.not_mem_nil⟩
theorem bX12_barred_ok : ∀ b ∈ bX12_barred, xbok RX12 cX12_barred b := xbB_ok (lk := lX12_barred) (ls := []) kX12_barred xno_sw (by decide +kernel)
theorem vX12_barred : xMok mX12_barred := ⟨⟨by decide +kernel, xtb 2180 (by decide +kernel) rfl, xtb 138 (by decide +kernel) rfl, ⟨by decide +kernel, by decide +kernel⟩, by decide +kernel, by decide, rfl⟩, bX12_barred_ok⟩
def lX12_bears : List xL := [(3, 13, 131, 96, 241), (3, 13, 133, 96, 247), (3, 13, 89, 96, 244), (3, 52, 1000, 0, 231), (3, 1, 12, 21, 45)]
theorem kX12_bears : ∀ q ∈ lX12_bears, xLq RX12 q := List.forall_mem_cons.mpr ⟨lk_213, List.forall_mem_cons.mpr ⟨lk_214, List.forall_mem_cons.mpr ⟨lk_215, List.forall_mem_cons.mpr ⟨lk_216, List.forall_mem_cons.mpr ⟨lk_217, fun _ h => absurd h List.not_mem_nil⟩⟩⟩⟩⟩
theorem bX12_bears_ok : ∀ b ∈ bX12_bears, xbok RX12 cX12_bears b := xbB_ok (lk := lX12_bears) (ls := []) kX12_bears xno_sw (by decide +kernel)
theorem vX12_bears : xMok mX12_bears := ⟨⟨by decide +kernel, xtb 1820 (by decide +kernel) rfl, xtb 138 (by decide +kernel) rfl, ⟨by decide +kernel, by decide +kernel⟩, by decide +kernel, by decide, rfl⟩, bX12_bears_ok⟩
def lX12_begins : List xL := [(3, 59, 12, 2, 137), (3, 1, 12, 0, 7), (3, 14, 12, 4, 109), (3, 14, 12, 5, 141), (3, 59, 12, 10, 180), (3, 14, 12, 14, 212)]
theorem kX12_begins : ∀ q ∈ lX12_begins, xLq RX12 q := List.forall_mem_cons.mpr ⟨lk_218, List.forall_mem_cons.mpr ⟨lk_209, List.forall_mem_cons.mpr ⟨lk_219, List.forall_mem_cons.mpr ⟨lk_199, List.forall_mem_cons.mpr ⟨lk_220, List.forall_mem_cons.mpr ⟨lk_221, fun _ h => absurd h List.not_mem_nil⟩⟩⟩⟩⟩⟩
theorem bX12_begins_ok : ∀ b ∈ bX12_begins, xbok RX12 cX12_begins b := xbB_ok (lk := lX12_begins) (ls := []) kX12_begins xno_sw (by decide +kernel)
theorem vX12_begins : xMok mX12_begins := ⟨⟨by decide +kernel, xtb 1695 (by decide +kernel) rfl, xtb 138 (by decide +kernel) rfl, ⟨by decide +kernel, by decide +kernel⟩, by decide +kernel, by decide, rfl⟩, bX12_begins_ok⟩
def lX12_blocks : List xL := [(3, 1, 12, 0, 7), (3, 1, 12, 18, 35), (3, 1, 12, 17, 32), (3, 1, 12, 19, 38)]
theorem kX12_blocks : ∀ q ∈ lX12_blocks, xLq RX12 q := List.forall_mem_cons.mpr ⟨lk_209, List.forall_mem_cons.mpr ⟨lk_222, List.forall_mem_cons.mpr ⟨lk_223, List.forall_mem_cons.mpr ⟨lk_224, fun _ h => absurd h List.not_mem_nil⟩⟩⟩⟩
theorem bX12_blocks_ok : ∀ b ∈ bX12_blocks, xbok RX12 cX12_blocks b := xbB_ok (lk := lX12_blocks) (ls := []) kX12_blocks xno_sw (by decide +kernel)
theorem vX12_blocks : xMok mX12_blocks := ⟨⟨by decide +kernel, xtb 1793 (by decide +kernel) rfl, xtb 138 (by decide +kernel) rfl, ⟨by decide +kernel, by decide +kernel⟩, by decide +kernel, by decide, rfl⟩, bX12_blocks_ok⟩
def lX12_broken : List xL := [(3, 13, 131, 96, 241), (3, 13, 126, 98, 105), (3, 13, 89, 96, 244)]
theorem kX12_broken : ∀ q ∈ lX12_broken, xLq RX12 q := List.forall_mem_cons.mpr ⟨lk_213, List.forall_mem_cons.mpr ⟨lk_207, List.forall_mem_cons.mpr ⟨lk_215, fun _ h => absurd h List.not_mem_nil⟩⟩⟩
theorem bX12_broken_ok : ∀ b ∈ bX12_broken, xbok RX12 cX12_broken b := xbB_ok (lk := lX12_broken) (ls := []) kX12_broken xno_sw (by decide +kernel)
theorem vX12_broken : xMok mX12_broken := ⟨⟨by decide +kernel, xtb 2071 (by decide +kernel) rfl, xtb 138 (by decide +kernel) rfl, ⟨by decide +kernel, by decide +kernel⟩, by decide +kernel, by decide, rfl⟩, bX12_broken_ok⟩
def lX12_byteAt : List xL := [(3, 1, 12, 4, 109), (3, 1, 12, 0, 7)]
theorem kX12_byteAt : ∀ q ∈ lX12_byteAt, xLq RX12 q := List.forall_mem_cons.mpr ⟨lk_225, List.forall_mem_cons.mpr ⟨lk_209, fun _ h => absurd h List.not_mem_nil⟩⟩
theorem bX12_byteAt_ok : ∀ b ∈ bX12_byteAt, xbok RX12 cX12_byteAt b := xbB_ok (lk := lX12_byteAt) (ls := []) kX12_byteAt xno_sw (by decide +kernel)
theorem vX12_byteAt : xMok mX12_byteAt := ⟨⟨by decide +kernel, xtb 1703 (by decide +kernel) rfl, xtb 138 (by decide +kernel) rfl, ⟨by decide +kernel, by decide +kernel⟩, by decide +kernel, by decide, rfl⟩, bX12_byteAt_ok⟩
def lX12_cost : List xL := [(3, 13, 131, 96, 241), (3, 13, 126, 98, 105), (3, 1, 12, 0, 7)]
theorem kX12_cost : ∀ q ∈ lX12_cost, xLq RX12 q := List.forall_mem_cons.mpr ⟨lk_213, List.forall_mem_cons.mpr ⟨lk_207, List.forall_mem_cons.mpr ⟨lk_209, fun _ h => absurd h List.not_mem_nil⟩⟩⟩
theorem bX12_cost_ok : ∀ b ∈ bX12_cost, xbok RX12 cX12_cost b := xbB_ok (lk := lX12_cost) (ls := []) kX12_cost xno_sw (by decide +kernel)
theorem vX12_cost : xMok mX12_cost := ⟨⟨by decide +kernel, xtb 2048 (by decide +kernel) rfl, xtb 138 (by decide +kernel) rfl, ⟨by decide +kernel, by decide +kernel⟩, by decide +kernel, by decide, rfl⟩, bX12_cost_ok⟩
def lX12_count : List xL := [(3, 1, 12, 0, 7), (3, 13, 101, 96, 376), (3, 13, 126, 98, 105)]
theorem kX12_count : ∀ q ∈ lX12_count, xLq RX12 q := List.forall_mem_cons.mpr ⟨lk_209, List.forall_mem_cons.mpr ⟨lk_226, List.forall_mem_cons.mpr ⟨lk_207, fun _ h => absurd h List.not_mem_nil⟩⟩⟩
theorem swX12_count_0 : xLs RX12 (1, 31, 33, 64, 0, 8) := ⟨_, rfl, 63, 15, 18, #[31, 40, 49, 58], [(15, 32), (16, 41), (17, 50), (18, 59)], rfl, rfl, by decide, by decide, by decide, by decide, rfl, by decide +kernel⟩
def sX12_count : List xI := [(1, 31, 33, 64, 0, 8)]
theorem zX12_count : ∀ e ∈ sX12_count, xLs RX12 e := List.forall_mem_cons.mpr ⟨swX12_count_0, fun _ h => absurd h List.not_mem_nil⟩
theorem bX12_count_ok : ∀ b ∈ bX12_count, xbok RX12 cX12_count b := xbB_ok (lk := lX12_count) (ls := sX12_count) kX12_count zX12_count (by decide +kernel)
theorem vX12_count : xMok mX12_count := ⟨⟨by decide +kernel, xtb 2204 (by decide +kernel) rfl, xtb 138 (by decide +kernel) rfl, ⟨by decide +kernel, by decide +kernel⟩, by decide +kernel, by decide, rfl⟩, bX12_count_ok⟩
def lX12_crack : List xL := [(3, 1, 12, 0, 7), (3, 13, 134, 96, 279)]
theorem kX12_crack : ∀ q ∈ lX12_crack, xLq RX12 q := List.forall_mem_cons.mpr ⟨lk_209, List.forall_mem_cons.mpr ⟨lk_227, fun _ h => absurd h List.not_mem_nil⟩⟩
theorem bX12_crack_ok : ∀ b ∈ bX12_crack, xbok RX12 cX12_crack b := xbB_ok (lk := lX12_crack) (ls := []) kX12_crack xno_sw (by decide +kernel)
theorem vX12_crack : xMok mX12_crack := ⟨⟨by decide +kernel, xtb 1873 (by decide +kernel) rfl, xtb 138 (by decide +kernel) rfl, ⟨by decide +kernel, by decide +kernel⟩, by decide +kernel, by decide, rfl⟩, bX12_crack_ok⟩
def lX12_cracks : List xL := [(3, 13, 131, 96, 241), (3, 13, 89, 96, 244), (3, 1, 12, 0, 7)]
theorem kX12_cracks : ∀ q ∈ lX12_cracks, xLq RX12 q := List.forall_mem_cons.mpr ⟨lk_213, List.forall_mem_cons.mpr ⟨lk_215, List.forall_mem_cons.mpr ⟨lk_209, fun _ h => absurd h List.not_mem_nil⟩⟩⟩
theorem bX12_cracks_ok : ∀ b ∈ bX12_cracks, xbok RX12 cX12_cracks b := xbB_ok (lk := lX12_cracks) (ls := []) kX12_cracks xno_sw (by decide +kernel)
theorem vX12_cracks : xMok mX12_cracks := ⟨⟨by decide +kernel, xtb 1861 (by decide +kernel) rfl, xtb 138 (by decide +kernel) rfl, ⟨by decide +kernel, by decide +kernel⟩, by decide +kernel, by decide, rfl⟩, bX12_cracks_ok⟩
def lX12_cracksSeen : List xL := [(3, 1, 12, 0, 7)]
theorem kX12_cracksSeen : ∀ q ∈ lX12_cracksSeen, xLq RX12 q := List.forall_mem_cons.mpr ⟨lk_209, fun _ h => absurd h List.not_mem_nil⟩
theorem bX12_cracksSeen_ok : ∀ b ∈ bX12_cracksSeen, xbok RX12 cX12_cracksSeen b := xbB_ok (lk := lX12_cracksSeen) (ls := []) kX12_cracksSeen xno_sw (by decide +kernel)
theorem vX12_cracksSeen : xMok mX12_cracksSeen := ⟨⟨by decide +kernel, xtb 2056 (by decide +kernel) rfl, xtb 138 (by decide +kernel) rfl, ⟨by decide +kernel, by decide +kernel⟩, by decide +kernel, by decide, rfl⟩, bX12_cracksSeen_ok⟩
def lX12_cut : List xL := [(3, 13, 126, 98, 105), (3, 13, 103, 96, 317), (3, 13, 127, 96, 320)]
theorem kX12_cut : ∀ q ∈ lX12_cut, xLq RX12 q := List.forall_mem_cons.mpr ⟨lk_207, List.forall_mem_cons.mpr ⟨lk_228, List.forall_mem_cons.mpr ⟨lk_229, fun _ h => absurd h List.not_mem_nil⟩⟩⟩
theorem bX12_cut_ok : ∀ b ∈ bX12_cut, xbok RX12 cX12_cut b := xbB_ok (lk := lX12_cut) (ls := []) kX12_cut xno_sw (by decide +kernel)
theorem vX12_cut : xMok mX12_cut := ⟨⟨by decide +kernel, xtb 1929 (by decide +kernel) rfl, xtb 138 (by decide +kernel) rfl, ⟨by decide +kernel, by decide +kernel⟩, by decide +kernel, by decide, rfl⟩, bX12_cut_ok⟩
def lX12_cuts : List xL := [(3, 13, 146, 96, 302), (3, 13, 87, 96, 305), (3, 13, 116, 96, 308), (3, 13, 170, 96, 296)]
theorem kX12_cuts : ∀ q ∈ lX12_cuts, xLq RX12 q := List.forall_mem_cons.mpr ⟨lk_230, List.forall_mem_cons.mpr ⟨lk_231, List.forall_mem_cons.mpr ⟨lk_232, List.forall_mem_cons.mpr ⟨lk_233, fun _ h => absurd h List.not_mem_nil⟩⟩⟩⟩
theorem bX12_cuts_ok : ∀ b ∈ bX12_cuts, xbok RX12 cX12_cuts b := xbB_ok (lk := lX12_cuts) (ls := []) kX12_cuts xno_sw (by decide +kernel)
theorem vX12_cuts : xMok mX12_cuts := ⟨⟨by decide +kernel, xtb 1933 (by decide +kernel) rfl, xtb 138 (by decide +kernel) rfl, ⟨by decide +kernel, by decide +kernel⟩, by decide +kernel, by decide, rfl⟩, bX12_cuts_ok⟩
def lX12_damp : List xL := [(3, 13, 132, 96, 323), (3, 13, 105, 96, 335), (3, 1, 12, 35, 75)]
theorem kX12_damp : ∀ q ∈ lX12_damp, xLq RX12 q := List.forall_mem_cons.mpr ⟨lk_234, List.forall_mem_cons.mpr ⟨lk_235, List.forall_mem_cons.mpr ⟨lk_236, fun _ h => absurd h List.not_mem_nil⟩⟩⟩
theorem bX12_damp_ok : ∀ b ∈ bX12_damp, xbok RX12 cX12_damp b := xbB_ok (lk := lX12_damp) (ls := []) kX12_damp xno_sw (by decide +kernel)
theorem vX12_damp : xMok mX12_damp := ⟨⟨by decide +kernel, xtb 1977 (by decide +kernel) rfl, xtb 138 (by decide +kernel) rfl, ⟨by decide +kernel, by decide +kernel⟩, by decide +kernel, by decide, rfl⟩, bX12_damp_ok⟩
def lX12_damps : List xL := [(3, 1, 12, 35, 75), (3, 1, 12, 0, 7), (3, 1, 12, 36, 78), (3, 13, 132, 96, 323)]
theorem kX12_damps : ∀ q ∈ lX12_damps, xLq RX12 q := List.forall_mem_cons.mpr ⟨lk_236, List.forall_mem_cons.mpr ⟨lk_209, List.forall_mem_cons.mpr ⟨lk_237, List.forall_mem_cons.mpr ⟨lk_234, fun _ h => absurd h List.not_mem_nil⟩⟩⟩⟩
theorem bX12_damps_ok : ∀ b ∈ bX12_damps, xbok RX12 cX12_damps b := xbB_ok (lk := lX12_damps) (ls := []) kX12_damps xno_sw (by decide +kernel)
theorem vX12_damps : xMok mX12_damps := ⟨⟨by decide +kernel, xtb 1981 (by decide +kernel) rfl, xtb 138 (by decide +kernel) rfl, ⟨by decide +kernel, by decide +kernel⟩, by decide +kernel, by decide, rfl⟩, bX12_damps_ok⟩
def lX12_dark : List xL := [(3, 13, 132, 96, 323), (3, 13, 107, 96, 338), (3, 13, 124, 96, 341)]
theorem kX12_dark : ∀ q ∈ lX12_dark, xLq RX12 q := List.forall_mem_cons.mpr ⟨lk_234, List.forall_mem_cons.mpr ⟨lk_238, List.forall_mem_cons.mpr ⟨lk_239, fun _ h => absurd h List.not_mem_nil⟩⟩⟩
theorem bX12_dark_ok : ∀ b ∈ bX12_dark, xbok RX12 cX12_dark b := xbB_ok (lk := lX12_dark) (ls := []) kX12_dark xno_sw (by decide +kernel)
theorem vX12_dark : xMok mX12_dark := ⟨⟨by decide +kernel, xtb 1989 (by decide +kernel) rfl, xtb 138 (by decide +kernel) rfl, ⟨by decide +kernel, by decide +kernel⟩, by decide +kernel, by decide, rfl⟩, bX12_dark_ok⟩
def lX12_darkens : List xL := [(3, 13, 86, 96, 326), (3, 13, 105, 96, 335), (3, 13, 113, 96, 311)]
theorem kX12_darkens : ∀ q ∈ lX12_darkens, xLq RX12 q := List.forall_mem_cons.mpr ⟨lk_240, List.forall_mem_cons.mpr ⟨lk_235, List.forall_mem_cons.mpr ⟨lk_241, fun _ h => absurd h List.not_mem_nil⟩⟩⟩
theorem bX12_darkens_ok : ∀ b ∈ bX12_darkens, xbok RX12 cX12_darkens b := xbB_ok (lk := lX12_darkens) (ls := []) kX12_darkens xno_sw (by decide +kernel)
theorem vX12_darkens : xMok mX12_darkens := ⟨⟨by decide +kernel, xtb 1993 (by decide +kernel) rfl, xtb 138 (by decide +kernel) rfl, ⟨by decide +kernel, by decide +kernel⟩, by decide +kernel, by decide, rfl⟩, bX12_darkens_ok⟩
def lX12_darks : List xL := [(3, 13, 107, 96, 338), (3, 13, 132, 96, 323), (3, 13, 124, 96, 341)]
theorem kX12_darks : ∀ q ∈ lX12_darks, xLq RX12 q := List.forall_mem_cons.mpr ⟨lk_238, List.forall_mem_cons.mpr ⟨lk_234, List.forall_mem_cons.mpr ⟨lk_239, fun _ h => absurd h List.not_mem_nil⟩⟩⟩
theorem bX12_darks_ok : ∀ b ∈ bX12_darks, xbok RX12 cX12_darks b := xbB_ok (lk := lX12_darks) (ls := []) kX12_darks xno_sw (by decide +kernel)
theorem vX12_darks : xMok mX12_darks := ⟨⟨by decide +kernel, xtb 2001 (by decide +kernel) rfl, xtb 138 (by decide +kernel) rfl, ⟨by decide +kernel, by decide +kernel⟩, by decide +kernel, by decide, rfl⟩, bX12_darks_ok⟩
def lX12_day : List xL := [(3, 1, 12, 0, 7), (3, 13, 126, 98, 105)]
theorem kX12_day : ∀ q ∈ lX12_day, xLq RX12 q := List.forall_mem_cons.mpr ⟨lk_209, List.forall_mem_cons.mpr ⟨lk_207, fun _ h => absurd h List.not_mem_nil⟩⟩
theorem bX12_day_ok : ∀ b ∈ bX12_day, xbok RX12 cX12_day b := xbB_ok (lk := lX12_day) (ls := []) kX12_day xno_sw (by decide +kernel)
theorem vX12_day : xMok mX12_day := ⟨⟨by decide +kernel, xtb 1865 (by decide +kernel) rfl, xtb 138 (by decide +kernel) rfl, ⟨by decide +kernel, by decide +kernel⟩, by decide +kernel, by decide, rfl⟩, bX12_day_ok⟩
def lX12_end : List xL := [(3, 1, 12, 0, 7)]
theorem kX12_end : ∀ q ∈ lX12_end, xLq RX12 q := List.forall_mem_cons.mpr ⟨lk_209, fun _ h => absurd h List.not_mem_nil⟩
theorem bX12_end_ok : ∀ b ∈ bX12_end, xbok RX12 cX12_end b := xbB_ok (lk := lX12_end) (ls := []) kX12_end xno_sw (by decide +kernel)
theorem vX12_end : xMok mX12_end := ⟨⟨by decide +kernel, xtb 1687 (by decide +kernel) rfl, xtb 138 (by decide +kernel) rfl, ⟨by decide +kernel, by decide +kernel⟩, by decide +kernel, by decide, rfl⟩, bX12_end_ok⟩
def lX12_fault : List xL := [(3, 1, 12, 0, 7)]
theorem kX12_fault : ∀ q ∈ lX12_fault, xLq RX12 q := List.forall_mem_cons.mpr ⟨lk_209, fun _ h => absurd h List.not_mem_nil⟩
theorem bX12_fault_ok : ∀ b ∈ bX12_fault, xbok RX12 cX12_fault b := xbB_ok (lk := lX12_fault) (ls := []) kX12_fault xno_sw (by decide +kernel)
theorem vX12_fault : xMok mX12_fault := ⟨⟨by decide +kernel, xtb 1773 (by decide +kernel) rfl, xtb 138 (by decide +kernel) rfl, ⟨by decide +kernel, by decide +kernel⟩, by decide +kernel, by decide, rfl⟩, bX12_fault_ok⟩
def lX12_fed : List xL := [(3, 13, 131, 96, 241), (3, 13, 113, 96, 311)]
theorem kX12_fed : ∀ q ∈ lX12_fed, xLq RX12 q := List.forall_mem_cons.mpr ⟨lk_213, List.forall_mem_cons.mpr ⟨lk_241, fun _ h => absurd h List.not_mem_nil⟩⟩
theorem bX12_fed_ok : ∀ b ∈ bX12_fed, xbok RX12 cX12_fed b := xbB_ok (lk := lX12_fed) (ls := []) kX12_fed xno_sw (by decide +kernel)
theorem vX12_fed : xMok mX12_fed := ⟨⟨by decide +kernel, xtb 1921 (by decide +kernel) rfl, xtb 138 (by decide +kernel) rfl, ⟨by decide +kernel, by decide +kernel⟩, by decide +kernel, by decide, rfl⟩, bX12_fed_ok⟩
def lX12_fedRows : List xL := [(3, 13, 146, 96, 302), (3, 1, 12, 0, 7), (3, 13, 116, 96, 308)]
theorem kX12_fedRows : ∀ q ∈ lX12_fedRows, xLq RX12 q := List.forall_mem_cons.mpr ⟨lk_230, List.forall_mem_cons.mpr ⟨lk_209, List.forall_mem_cons.mpr ⟨lk_232, fun _ h => absurd h List.not_mem_nil⟩⟩⟩
theorem bX12_fedRows_ok : ∀ b ∈ bX12_fedRows, xbok RX12 cX12_fedRows b := xbB_ok (lk := lX12_fedRows) (ls := []) kX12_fedRows xno_sw (by decide +kernel)
theorem vX12_fedRows : xMok mX12_fedRows := ⟨⟨by decide +kernel, xtb 1925 (by decide +kernel) rfl, xtb 138 (by decide +kernel) rfl, ⟨by decide +kernel, by decide +kernel⟩, by decide +kernel, by decide, rfl⟩, bX12_fedRows_ok⟩
def lX12_feed : List xL := [(3, 1, 12, 0, 7)]
theorem kX12_feed : ∀ q ∈ lX12_feed, xLq RX12 q := List.forall_mem_cons.mpr ⟨lk_209, fun _ h => absurd h List.not_mem_nil⟩
theorem bX12_feed_ok : ∀ b ∈ bX12_feed, xbok RX12 cX12_feed b := xbB_ok (lk := lX12_feed) (ls := []) kX12_feed xno_sw (by decide +kernel)
theorem vX12_feed : xMok mX12_feed := ⟨⟨by decide +kernel, xtb 1683 (by decide +kernel) rfl, xtb 138 (by decide +kernel) rfl, ⟨by decide +kernel, by decide +kernel⟩, by decide +kernel, by decide, rfl⟩, bX12_feed_ok⟩
def lX12_film : List xL := [(3, 13, 93, 96, 215), (3, 1, 12, 11, 17), (3, 1, 12, 12, 20), (3, 13, 84, 96, 190), (3, 1, 12, 10, 180), (3, 1, 12, 7, 151), (3, 1, 12, 0, 7), (3, 1, 12, 13, 23), (3, 1, 12, 14, 212)]
theorem kX12_film : ∀ q ∈ lX12_film, xLq RX12 q := List.forall_mem_cons.mpr ⟨lk_242, List.forall_mem_cons.mpr ⟨lk_243, List.forall_mem_cons.mpr ⟨lk_244, List.forall_mem_cons.mpr ⟨lk_245, List.forall_mem_cons.mpr ⟨lk_246, List.forall_mem_cons.mpr ⟨lk_247, List.forall_mem_cons.mpr ⟨lk_209, List.forall_mem_cons.mpr ⟨lk_248, List.forall_mem_cons.mpr ⟨lk_249, fun _ h => absurd h List.not_mem_nil⟩⟩⟩⟩⟩⟩⟩⟩⟩
theorem bX12_film_ok : ∀ b ∈ bX12_film, xbok RX12 cX12_film b := xbB_ok (lk := lX12_film) (ls := []) kX12_film xno_sw (by decide +kernel)
theorem vX12_film : xMok mX12_film := ⟨⟨by decide +kernel, xtb 1691 (by decide +kernel) rfl, xtb 138 (by decide +kernel) rfl, ⟨by decide +kernel, by decide +kernel⟩, by decide +kernel, by decide, rfl⟩, bX12_film_ok⟩
def lX12_flows : List xL := [(3, 1, 12, 25, 48), (3, 1, 12, 26, 51), (3, 1, 12, 27, 54), (3, 1, 12, 28, 57), (3, 13, 170, 96, 296), (3, 1, 12, 0, 7), (3, 1, 12, 32, 69), (3, 13, 117, 96, 299)]
theorem kX12_flows : ∀ q ∈ lX12_flows, xLq RX12 q := List.forall_mem_cons.mpr ⟨lk_250, List.forall_mem_cons.mpr ⟨lk_251, List.forall_mem_cons.mpr ⟨lk_252, List.forall_mem_cons.mpr ⟨lk_253, List.forall_mem_cons.mpr ⟨lk_233, List.forall_mem_cons.mpr ⟨lk_209, List.forall_mem_cons.mpr ⟨lk_254, List.forall_mem_cons.mpr ⟨lk_255, fun _ h => absurd h List.not_mem_nil⟩⟩⟩⟩⟩⟩⟩⟩
theorem bX12_flows_ok : ∀ b ∈ bX12_flows, xbok RX12 cX12_flows b := xbB_ok (lk := lX12_flows) (ls := []) kX12_flows xno_sw (by decide +kernel)
theorem vX12_flows : xMok mX12_flows := ⟨⟨by decide +kernel, xtb 1905 (by decide +kernel) rfl, xtb 138 (by decide +kernel) rfl, ⟨by decide +kernel, by decide +kernel⟩, by decide +kernel, by decide, rfl⟩, bX12_flows_ok⟩
def lX12_goesBack : List xL := [(3, 1, 12, 32, 69), (3, 1, 12, 25, 48), (3, 1, 12, 26, 51), (3, 1, 12, 27, 54)]
theorem kX12_goesBack : ∀ q ∈ lX12_goesBack, xLq RX12 q := List.forall_mem_cons.mpr ⟨lk_254, List.forall_mem_cons.mpr ⟨lk_250, List.forall_mem_cons.mpr ⟨lk_251, List.forall_mem_cons.mpr ⟨lk_252, fun _ h => absurd h List.not_mem_nil⟩⟩⟩⟩
theorem bX12_goesBack_ok : ∀ b ∈ bX12_goesBack, xbok RX12 cX12_goesBack b := xbB_ok (lk := lX12_goesBack) (ls := []) kX12_goesBack xno_sw (by decide +kernel)
theorem vX12_goesBack : xMok mX12_goesBack := ⟨⟨by decide +kernel, xtb 1917 (by decide +kernel) rfl, xtb 138 (by decide +kernel) rfl, ⟨by decide +kernel, by decide +kernel⟩, by decide +kernel, by decide, rfl⟩, bX12_goesBack_ok⟩
def lX12_hand : List xL := [(3, 1, 12, 0, 7), (3, 13, 126, 98, 105), (3, 13, 133, 96, 247)]
theorem kX12_hand : ∀ q ∈ lX12_hand, xLq RX12 q := List.forall_mem_cons.mpr ⟨lk_209, List.forall_mem_cons.mpr ⟨lk_207, List.forall_mem_cons.mpr ⟨lk_214, fun _ h => absurd h List.not_mem_nil⟩⟩⟩
theorem bX12_hand_ok : ∀ b ∈ bX12_hand, xbok RX12 cX12_hand b := xbB_ok (lk := lX12_hand) (ls := []) kX12_hand xno_sw (by decide +kernel)
theorem vX12_hand : xMok mX12_hand := ⟨⟨by decide +kernel, xtb 2067 (by decide +kernel) rfl, xtb 138 (by decide +kernel) rfl, ⟨by decide +kernel, by decide +kernel⟩, by decide +kernel, by decide, rfl⟩, bX12_hand_ok⟩
def lX12_hasFlaw : List xL := [(3, 1, 12, 0, 7), (3, 13, 126, 98, 105)]
theorem kX12_hasFlaw : ∀ q ∈ lX12_hasFlaw, xLq RX12 q := List.forall_mem_cons.mpr ⟨lk_209, List.forall_mem_cons.mpr ⟨lk_207, fun _ h => absurd h List.not_mem_nil⟩⟩
theorem bX12_hasFlaw_ok : ∀ b ∈ bX12_hasFlaw, xbok RX12 cX12_hasFlaw b := xbB_ok (lk := lX12_hasFlaw) (ls := []) kX12_hasFlaw xno_sw (by decide +kernel)
theorem vX12_hasFlaw : xMok mX12_hasFlaw := ⟨⟨by decide +kernel, xtb 2016 (by decide +kernel) rfl, xtb 138 (by decide +kernel) rfl, ⟨by decide +kernel, by decide +kernel⟩, by decide +kernel, by decide, rfl⟩, bX12_hasFlaw_ok⟩
def lX12_image : List xL := [(3, 13, 126, 98, 105), (3, 1, 12, 1, 13), (3, 1, 12, 0, 7)]
theorem kX12_image : ∀ q ∈ lX12_image, xLq RX12 q := List.forall_mem_cons.mpr ⟨lk_207, List.forall_mem_cons.mpr ⟨lk_208, List.forall_mem_cons.mpr ⟨lk_209, fun _ h => absurd h List.not_mem_nil⟩⟩⟩
theorem bX12_image_ok : ∀ b ∈ bX12_image, xbok RX12 cX12_image b := xbB_ok (lk := lX12_image) (ls := []) kX12_image xno_sw (by decide +kernel)
theorem vX12_image : xMok mX12_image := ⟨⟨by decide +kernel, xtb 2208 (by decide +kernel) rfl, xtb 138 (by decide +kernel) rfl, ⟨by decide +kernel, by decide +kernel⟩, by decide +kernel, by decide, rfl⟩, bX12_image_ok⟩
def lX12_inCut : List xL := [(3, 13, 126, 98, 105), (3, 13, 103, 96, 317), (3, 13, 127, 96, 320)]
theorem kX12_inCut : ∀ q ∈ lX12_inCut, xLq RX12 q := List.forall_mem_cons.mpr ⟨lk_207, List.forall_mem_cons.mpr ⟨lk_228, List.forall_mem_cons.mpr ⟨lk_229, fun _ h => absurd h List.not_mem_nil⟩⟩⟩
theorem bX12_inCut_ok : ∀ b ∈ bX12_inCut, xbok RX12 cX12_inCut b := xbB_ok (lk := lX12_inCut) (ls := []) kX12_inCut xno_sw (by decide +kernel)
theorem vX12_inCut : xMok mX12_inCut := ⟨⟨by decide +kernel, xtb 1945 (by decide +kernel) rfl, xtb 138 (by decide +kernel) rfl, ⟨by decide +kernel, by decide +kernel⟩, by decide +kernel, by decide, rfl⟩, bX12_inCut_ok⟩
def lX12_inOrder : List xL := [(3, 1, 12, 15, 26)]
theorem kX12_inOrder : ∀ q ∈ lX12_inOrder, xLq RX12 q := List.forall_mem_cons.mpr ⟨lk_256, fun _ h => absurd h List.not_mem_nil⟩
theorem bX12_inOrder_ok : ∀ b ∈ bX12_inOrder, xbok RX12 cX12_inOrder b := xbB_ok (lk := lX12_inOrder) (ls := []) kX12_inOrder xno_sw (by decide +kernel)
theorem vX12_inOrder : xMok mX12_inOrder := ⟨⟨by decide +kernel, xtb 1789 (by decide +kernel) rfl, xtb 138 (by decide +kernel) rfl, ⟨by decide +kernel, by decide +kernel⟩, by decide +kernel, by decide, rfl⟩, bX12_inOrder_ok⟩
def lX12_init : List xL := [(3, 25, 0, 0, 1), (3, 61, 12, 0, 7), (3, 61, 12, 1, 13), (3, 61, 12, 11, 17), (3, 61, 12, 12, 20), (3, 61, 12, 13, 23), (3, 61, 12, 15, 26), (3, 61, 12, 16, 29), (3, 61, 12, 17, 32), (3, 61, 12, 18, 35), (3, 61, 12, 19, 38), (3, 61, 12, 20, 42), (3, 61, 12, 21, 45), (3, 61, 12, 25, 48), (3, 61, 12, 26, 51), (3, 61, 12, 27, 54), (3, 61, 12, 28, 57), (3, 61, 12, 29, 60), (3, 61, 12, 30, 63), (3, 61, 12, 31, 66), (3, 61, 12, 32, 69), (3, 61, 12, 34, 72), (3, 61, 12, 35, 75), (3, 61, 12, 36, 78), (3, 61, 12, 37, 81), (3, 61, 12, 38, 84), (3, 61, 12, 39, 87), (3, 61, 12, 40, 90), (3, 61, 12, 43, 93), (3, 61, 12, 44, 96), (3, 61, 12, 45, 99), (3, 61, 12, 46, 102), (3, 1, 12, 0, 7)]
theorem kX12_init : ∀ q ∈ lX12_init, xLq RX12 q := List.forall_mem_cons.mpr ⟨lk_257, List.forall_mem_cons.mpr ⟨lk_258, List.forall_mem_cons.mpr ⟨lk_259, List.forall_mem_cons.mpr ⟨lk_260, List.forall_mem_cons.mpr ⟨lk_261, List.forall_mem_cons.mpr ⟨lk_262, List.forall_mem_cons.mpr ⟨lk_263, List.forall_mem_cons.mpr ⟨lk_264, List.forall_mem_cons.mpr ⟨lk_265, List.forall_mem_cons.mpr ⟨lk_266, List.forall_mem_cons.mpr ⟨lk_267, List.forall_mem_cons.mpr ⟨lk_268, List.forall_mem_cons.mpr ⟨lk_269, List.forall_mem_cons.mpr ⟨lk_270, List.forall_mem_cons.mpr ⟨lk_271, List.forall_mem_cons.mpr ⟨lk_272, List.forall_mem_cons.mpr ⟨lk_273, List.forall_mem_cons.mpr ⟨lk_274, List.forall_mem_cons.mpr ⟨lk_275, List.forall_mem_cons.mpr ⟨lk_276, List.forall_mem_cons.mpr ⟨lk_277, List.forall_mem_cons.mpr ⟨lk_278, List.forall_mem_cons.mpr ⟨lk_279, List.forall_mem_cons.mpr ⟨lk_280, List.forall_mem_cons.mpr ⟨lk_281, List.forall_mem_cons.mpr ⟨lk_282, List.forall_mem_cons.mpr ⟨lk_283, List.forall_mem_cons.mpr ⟨lk_284, List.forall_mem_cons.mpr ⟨lk_285, List.forall_mem_cons.mpr ⟨lk_286, List.forall_mem_cons.mpr ⟨lk_287, List.forall_mem_cons.mpr ⟨lk_288, List.forall_mem_cons.mpr ⟨lk_209, fun _ h => absurd h List.not_mem_nil⟩⟩⟩⟩⟩⟩⟩⟩⟩⟩⟩⟩⟩⟩⟩⟩⟩⟩⟩⟩⟩⟩⟩⟩⟩⟩⟩⟩⟩⟩⟩⟩⟩
theorem bX12_init_ok : ∀ b ∈ bX12_init, xbok RX12 cX12_init b := xbB_ok (lk := lX12_init) (ls := []) kX12_init xno_sw (by decide +kernel)
theorem vX12_init : xMok mX12_init := ⟨⟨by decide +kernel, xtb 1536 (by decide +kernel) rfl, xtb 138 (by decide +kernel) rfl, ⟨by decide +kernel, by decide +kernel⟩, by decide +kernel, by decide, rfl⟩, bX12_init_ok⟩
def lX12_isDark : List xL := [(3, 13, 145, 96, 329), (3, 1, 12, 35, 75)]
theorem kX12_isDark : ∀ q ∈ lX12_isDark, xLq RX12 q := List.forall_mem_cons.mpr ⟨lk_289, List.forall_mem_cons.mpr ⟨lk_236, fun _ h => absurd h List.not_mem_nil⟩⟩
theorem bX12_isDark_ok : ∀ b ∈ bX12_isDark, xbok RX12 cX12_isDark b := xbB_ok (lk := lX12_isDark) (ls := []) kX12_isDark xno_sw (by decide +kernel)
theorem vX12_isDark : xMok mX12_isDark := ⟨⟨by decide +kernel, xtb 1997 (by decide +kernel) rfl, xtb 138 (by decide +kernel) rfl, ⟨by decide +kernel, by decide +kernel⟩, by decide +kernel, by decide, rfl⟩, bX12_isDark_ok⟩
def lX12_isFedBy : List xL := [(3, 14, 12, 24, 276), (3, 13, 146, 96, 302), (3, 13, 87, 96, 305), (3, 13, 116, 96, 308), (3, 1, 12, 0, 7)]
theorem kX12_isFedBy : ∀ q ∈ lX12_isFedBy, xLq RX12 q := List.forall_mem_cons.mpr ⟨lk_290, List.forall_mem_cons.mpr ⟨lk_230, List.forall_mem_cons.mpr ⟨lk_231, List.forall_mem_cons.mpr ⟨lk_232, List.forall_mem_cons.mpr ⟨lk_209, fun _ h => absurd h List.not_mem_nil⟩⟩⟩⟩⟩
theorem bX12_isFedBy_ok : ∀ b ∈ bX12_isFedBy, xbok RX12 cX12_isFedBy b := xbB_ok (lk := lX12_isFedBy) (ls := []) kX12_isFedBy xno_sw (by decide +kernel)
theorem vX12_isFedBy : xMok mX12_isFedBy := ⟨⟨by decide +kernel, xtb 2063 (by decide +kernel) rfl, xtb 138 (by decide +kernel) rfl, ⟨by decide +kernel, by decide +kernel⟩, by decide +kernel, by decide, rfl⟩, bX12_isFedBy_ok⟩
def lX12_isIn : List xL := []
theorem kX12_isIn : ∀ q ∈ lX12_isIn, xLq RX12 q := fun _ h => absurd h List.not_mem_nil
theorem bX12_isIn_ok : ∀ b ∈ bX12_isIn, xbok RX12 cX12_isIn b := xbB_ok (lk := lX12_isIn) (ls := []) kX12_isIn xno_sw (by decide +kernel)
theorem vX12_isIn : xMok mX12_isIn := ⟨⟨by decide +kernel, xtb 1742 (by decide +kernel) rfl, xtb 138 (by decide +kernel) rfl, ⟨by decide +kernel, by decide +kernel⟩, by decide +kernel, by decide, rfl⟩, bX12_isIn_ok⟩
def lX12_isInCut : List xL := [(3, 13, 134, 96, 279), (3, 1, 12, 29, 60), (3, 13, 128, 96, 314), (3, 1, 12, 30, 63), (3, 13, 131, 96, 241), (3, 1, 12, 0, 7)]
theorem kX12_isInCut : ∀ q ∈ lX12_isInCut, xLq RX12 q := List.forall_mem_cons.mpr ⟨lk_227, List.forall_mem_cons.mpr ⟨lk_291, List.forall_mem_cons.mpr ⟨lk_292, List.forall_mem_cons.mpr ⟨lk_293, List.forall_mem_cons.mpr ⟨lk_213, List.forall_mem_cons.mpr ⟨lk_209, fun _ h => absurd h List.not_mem_nil⟩⟩⟩⟩⟩⟩
theorem swX12_isInCut_0 : xLs RX12 (1, 27, 33, 146, 0, 9) := ⟨_, rfl, 145, 0, 2, #[27, 74, 121], [(0, 28), (1, 75), (2, 122)], rfl, rfl, by decide, by decide, by decide, by decide, rfl, by decide +kernel⟩
def sX12_isInCut : List xI := [(1, 27, 33, 146, 0, 9)]
theorem zX12_isInCut : ∀ e ∈ sX12_isInCut, xLs RX12 e := List.forall_mem_cons.mpr ⟨swX12_isInCut_0, fun _ h => absurd h List.not_mem_nil⟩
theorem bX12_isInCut_ok : ∀ b ∈ bX12_isInCut, xbok RX12 cX12_isInCut b := xbB_ok (lk := lX12_isInCut) (ls := sX12_isInCut) kX12_isInCut zX12_isInCut (by decide +kernel)
theorem vX12_isInCut : xMok mX12_isInCut := ⟨⟨by decide +kernel, xtb 1937 (by decide +kernel) rfl, xtb 138 (by decide +kernel) rfl, ⟨by decide +kernel, by decide +kernel⟩, by decide +kernel, by decide, rfl⟩, bX12_isInCut_ok⟩
def lX12_isJoined : List xL := [(3, 1, 12, 32, 69)]
theorem kX12_isJoined : ∀ q ∈ lX12_isJoined, xLq RX12 q := List.forall_mem_cons.mpr ⟨lk_254, fun _ h => absurd h List.not_mem_nil⟩
theorem bX12_isJoined_ok : ∀ b ∈ bX12_isJoined, xbok RX12 cX12_isJoined b := xbB_ok (lk := lX12_isJoined) (ls := []) kX12_isJoined xno_sw (by decide +kernel)
theorem vX12_isJoined : xMok mX12_isJoined := ⟨⟨by decide +kernel, xtb 1941 (by decide +kernel) rfl, xtb 138 (by decide +kernel) rfl, ⟨by decide +kernel, by decide +kernel⟩, by decide +kernel, by decide, rfl⟩, bX12_isJoined_ok⟩
def lX12_isLaw : List xL := [(3, 1, 12, 44, 96), (3, 13, 88, 96, 400)]
theorem kX12_isLaw : ∀ q ∈ lX12_isLaw, xLq RX12 q := List.forall_mem_cons.mpr ⟨lk_294, List.forall_mem_cons.mpr ⟨lk_295, fun _ h => absurd h List.not_mem_nil⟩⟩
theorem bX12_isLaw_ok : ∀ b ∈ bX12_isLaw, xbok RX12 cX12_isLaw b := xbB_ok (lk := lX12_isLaw) (ls := []) kX12_isLaw xno_sw (by decide +kernel)
theorem vX12_isLaw : xMok mX12_isLaw := ⟨⟨by decide +kernel, xtb 2124 (by decide +kernel) rfl, xtb 138 (by decide +kernel) rfl, ⟨by decide +kernel, by decide +kernel⟩, by decide +kernel, by decide, rfl⟩, bX12_isLaw_ok⟩
def lX12_isLed : List xL := [(3, 13, 134, 96, 279), (3, 1, 12, 0, 7)]
theorem kX12_isLed : ∀ q ∈ lX12_isLed, xLq RX12 q := List.forall_mem_cons.mpr ⟨lk_227, List.forall_mem_cons.mpr ⟨lk_209, fun _ h => absurd h List.not_mem_nil⟩⟩
theorem bX12_isLed_ok : ∀ b ∈ bX12_isLed, xbok RX12 cX12_isLed b := xbB_ok (lk := lX12_isLed) (ls := []) kX12_isLed xno_sw (by decide +kernel)
theorem vX12_isLed : xMok mX12_isLed := ⟨⟨by decide +kernel, xtb 1889 (by decide +kernel) rfl, xtb 138 (by decide +kernel) rfl, ⟨by decide +kernel, by decide +kernel⟩, by decide +kernel, by decide, rfl⟩, bX12_isLed_ok⟩
def lX12_isOf : List xL := [(3, 1, 12, 0, 7), (3, 13, 126, 98, 105)]
theorem kX12_isOf : ∀ q ∈ lX12_isOf, xLq RX12 q := List.forall_mem_cons.mpr ⟨lk_209, List.forall_mem_cons.mpr ⟨lk_207, fun _ h => absurd h List.not_mem_nil⟩⟩
theorem bX12_isOf_ok : ∀ b ∈ bX12_isOf, xbok RX12 cX12_isOf b := xbB_ok (lk := lX12_isOf) (ls := []) kX12_isOf xno_sw (by decide +kernel)
theorem vX12_isOf : xMok mX12_isOf := ⟨⟨by decide +kernel, xtb 1781 (by decide +kernel) rfl, xtb 138 (by decide +kernel) rfl, ⟨by decide +kernel, by decide +kernel⟩, by decide +kernel, by decide, rfl⟩, bX12_isOf_ok⟩
def lX12_isPoint : List xL := [(3, 1, 12, 0, 7), (3, 13, 126, 98, 105)]
theorem kX12_isPoint : ∀ q ∈ lX12_isPoint, xLq RX12 q := List.forall_mem_cons.mpr ⟨lk_209, List.forall_mem_cons.mpr ⟨lk_207, fun _ h => absurd h List.not_mem_nil⟩⟩
theorem bX12_isPoint_ok : ∀ b ∈ bX12_isPoint, xbok RX12 cX12_isPoint b := xbB_ok (lk := lX12_isPoint) (ls := []) kX12_isPoint xno_sw (by decide +kernel)
theorem vX12_isPoint : xMok mX12_isPoint := ⟨⟨by decide +kernel, xtb 1957 (by decide +kernel) rfl, xtb 138 (by decide +kernel) rfl, ⟨by decide +kernel, by decide +kernel⟩, by decide +kernel, by decide, rfl⟩, bX12_isPoint_ok⟩
def lX12_isRound : List xL := [(3, 13, 126, 98, 105)]
theorem kX12_isRound : ∀ q ∈ lX12_isRound, xLq RX12 q := List.forall_mem_cons.mpr ⟨lk_207, fun _ h => absurd h List.not_mem_nil⟩
theorem bX12_isRound_ok : ∀ b ∈ bX12_isRound, xbok RX12 cX12_isRound b := xbB_ok (lk := lX12_isRound) (ls := []) kX12_isRound xno_sw (by decide +kernel)
theorem vX12_isRound : xMok mX12_isRound := ⟨⟨by decide +kernel, xtb 1814 (by decide +kernel) rfl, xtb 138 (by decide +kernel) rfl, ⟨by decide +kernel, by decide +kernel⟩, by decide +kernel, by decide, rfl⟩, bX12_isRound_ok⟩
def lX12_isThere : List xL := [(3, 1, 12, 0, 7), (3, 13, 126, 98, 105)]
theorem kX12_isThere : ∀ q ∈ lX12_isThere, xLq RX12 q := List.forall_mem_cons.mpr ⟨lk_209, List.forall_mem_cons.mpr ⟨lk_207, fun _ h => absurd h List.not_mem_nil⟩⟩
theorem bX12_isThere_ok : ∀ b ∈ bX12_isThere, xbok RX12 cX12_isThere b := xbB_ok (lk := lX12_isThere) (ls := []) kX12_isThere xno_sw (by decide +kernel)
theorem vX12_isThere : xMok mX12_isThere := ⟨⟨by decide +kernel, xtb 1877 (by decide +kernel) rfl, xtb 138 (by decide +kernel) rfl, ⟨by decide +kernel, by decide +kernel⟩, by decide +kernel, by decide, rfl⟩, bX12_isThere_ok⟩
def lX12_keeps : List xL := [(3, 1, 12, 44, 96), (3, 1, 12, 0, 7), (3, 13, 139, 98, 397)]
theorem kX12_keeps : ∀ q ∈ lX12_keeps, xLq RX12 q := List.forall_mem_cons.mpr ⟨lk_294, List.forall_mem_cons.mpr ⟨lk_209, List.forall_mem_cons.mpr ⟨lk_296, fun _ h => absurd h List.not_mem_nil⟩⟩⟩
theorem bX12_keeps_ok : ∀ b ∈ bX12_keeps, xbok RX12 cX12_keeps b := xbB_ok (lk := lX12_keeps) (ls := []) kX12_keeps xno_sw (by decide +kernel)
theorem vX12_keeps : xMok mX12_keeps := ⟨⟨by decide +kernel, xtb 2117 (by decide +kernel) rfl, xtb 138 (by decide +kernel) rfl, ⟨by decide +kernel, by decide +kernel⟩, by decide +kernel, by decide, rfl⟩, bX12_keeps_ok⟩
def lX12_kept : List xL := [(3, 13, 147, 96, 409)]
theorem kX12_kept : ∀ q ∈ lX12_kept, xLq RX12 q := List.forall_mem_cons.mpr ⟨lk_297, fun _ h => absurd h List.not_mem_nil⟩
theorem bX12_kept_ok : ∀ b ∈ bX12_kept, xbok RX12 cX12_kept b := xbB_ok (lk := lX12_kept) (ls := []) kX12_kept xno_sw (by decide +kernel)
theorem vX12_kept : xMok mX12_kept := ⟨⟨by decide +kernel, xtb 2109 (by decide +kernel) rfl, xtb 138 (by decide +kernel) rfl, ⟨by decide +kernel, by decide +kernel⟩, by decide +kernel, by decide, rfl⟩, bX12_kept_ok⟩
def lX12_lasts : List xL := [(3, 13, 126, 98, 105), (3, 1, 12, 0, 7)]
theorem kX12_lasts : ∀ q ∈ lX12_lasts, xLq RX12 q := List.forall_mem_cons.mpr ⟨lk_207, List.forall_mem_cons.mpr ⟨lk_209, fun _ h => absurd h List.not_mem_nil⟩⟩
theorem bX12_lasts_ok : ∀ b ∈ bX12_lasts, xbok RX12 cX12_lasts b := xbB_ok (lk := lX12_lasts) (ls := []) kX12_lasts xno_sw (by decide +kernel)
theorem vX12_lasts : xMok mX12_lasts := ⟨⟨by decide +kernel, xtb 2092 (by decide +kernel) rfl, xtb 138 (by decide +kernel) rfl, ⟨by decide +kernel, by decide +kernel⟩, by decide +kernel, by decide, rfl⟩, bX12_lasts_ok⟩
def lX12_law : List xL := [(3, 13, 135, 96, 403), (3, 13, 129, 96, 406)]
theorem kX12_law : ∀ q ∈ lX12_law, xLq RX12 q := List.forall_mem_cons.mpr ⟨lk_298, List.forall_mem_cons.mpr ⟨lk_299, fun _ h => absurd h List.not_mem_nil⟩⟩
theorem bX12_law_ok : ∀ b ∈ bX12_law, xbok RX12 cX12_law b := xbB_ok (lk := lX12_law) (ls := []) kX12_law xno_sw (by decide +kernel)
theorem vX12_law : xMok mX12_law := ⟨⟨by decide +kernel, xtb 2132 (by decide +kernel) rfl, xtb 138 (by decide +kernel) rfl, ⟨by decide +kernel, by decide +kernel⟩, by decide +kernel, by decide, rfl⟩, bX12_law_ok⟩
def lX12_lawAt : List xL := []
theorem kX12_lawAt : ∀ q ∈ lX12_lawAt, xLq RX12 q := fun _ h => absurd h List.not_mem_nil
theorem bX12_lawAt_ok : ∀ b ∈ bX12_lawAt, xbok RX12 cX12_lawAt b := xbB_ok (lk := lX12_lawAt) (ls := []) kX12_lawAt xno_sw (by decide +kernel)
theorem vX12_lawAt : xMok mX12_lawAt := ⟨⟨by decide +kernel, xtb 2120 (by decide +kernel) rfl, xtb 138 (by decide +kernel) rfl, ⟨by decide +kernel, by decide +kernel⟩, by decide +kernel, by decide, rfl⟩, bX12_lawAt_ok⟩
def lX12_layer : List xL := [(3, 13, 131, 96, 241), (3, 13, 126, 98, 105), (3, 13, 89, 96, 244), (3, 1, 12, 0, 7), (3, 1, 12, 17, 32), (3, 1, 12, 18, 35)]
theorem kX12_layer : ∀ q ∈ lX12_layer, xLq RX12 q := List.forall_mem_cons.mpr ⟨lk_213, List.forall_mem_cons.mpr ⟨lk_207, List.forall_mem_cons.mpr ⟨lk_215, List.forall_mem_cons.mpr ⟨lk_209, List.forall_mem_cons.mpr ⟨lk_223, List.forall_mem_cons.mpr ⟨lk_222, fun _ h => absurd h List.not_mem_nil⟩⟩⟩⟩⟩⟩
theorem bX12_layer_ok : ∀ b ∈ bX12_layer, xbok RX12 cX12_layer b := xbB_ok (lk := lX12_layer) (ls := []) kX12_layer xno_sw (by decide +kernel)
theorem vX12_layer : xMok mX12_layer := ⟨⟨by decide +kernel, xtb 1777 (by decide +kernel) rfl, xtb 138 (by decide +kernel) rfl, ⟨by decide +kernel, by decide +kernel⟩, by decide +kernel, by decide, rfl⟩, bX12_layer_ok⟩
def lX12_lays : List xL := [(3, 1, 12, 39, 87), (3, 1, 12, 42, 361), (3, 13, 90, 98, 344), (3, 14, 12, 42, 361)]
theorem kX12_lays : ∀ q ∈ lX12_lays, xLq RX12 q := List.forall_mem_cons.mpr ⟨lk_300, List.forall_mem_cons.mpr ⟨lk_301, List.forall_mem_cons.mpr ⟨lk_302, List.forall_mem_cons.mpr ⟨lk_303, fun _ h => absurd h List.not_mem_nil⟩⟩⟩⟩
theorem bX12_lays_ok : ∀ b ∈ bX12_lays, xbok RX12 cX12_lays b := xbB_ok (lk := lX12_lays) (ls := []) kX12_lays xno_sw (by decide +kernel)
theorem vX12_lays : xMok mX12_lays := ⟨⟨by decide +kernel, xtb 2036 (by decide +kernel) rfl, xtb 138 (by decide +kernel) rfl, ⟨by decide +kernel, by decide +kernel⟩, by decide +kernel, by decide, rfl⟩, bX12_lays_ok⟩
def lX12_leads : List xL := [(3, 13, 130, 96, 287)]
theorem kX12_leads : ∀ q ∈ lX12_leads, xLq RX12 q := List.forall_mem_cons.mpr ⟨lk_304, fun _ h => absurd h List.not_mem_nil⟩
theorem bX12_leads_ok : ∀ b ∈ bX12_leads, xbok RX12 cX12_leads b := xbB_ok (lk := lX12_leads) (ls := []) kX12_leads xno_sw (by decide +kernel)
theorem vX12_leads : xMok mX12_leads := ⟨⟨by decide +kernel, xtb 1885 (by decide +kernel) rfl, xtb 138 (by decide +kernel) rfl, ⟨by decide +kernel, by decide +kernel⟩, by decide +kernel, by decide, rfl⟩, bX12_leads_ok⟩
def lX12_least : List xL := [(3, 1, 12, 0, 7), (3, 13, 89, 96, 244)]
theorem kX12_least : ∀ q ∈ lX12_least, xLq RX12 q := List.forall_mem_cons.mpr ⟨lk_209, List.forall_mem_cons.mpr ⟨lk_215, fun _ h => absurd h List.not_mem_nil⟩⟩
theorem bX12_least_ok : ∀ b ∈ bX12_least, xbok RX12 cX12_least b := xbB_ok (lk := lX12_least) (ls := []) kX12_least xno_sw (by decide +kernel)
theorem vX12_least : xMok mX12_least := ⟨⟨by decide +kernel, xtb 1824 (by decide +kernel) rfl, xtb 138 (by decide +kernel) rfl, ⟨by decide +kernel, by decide +kernel⟩, by decide +kernel, by decide, rfl⟩, bX12_least_ok⟩
def lX12_left : List xL := [(3, 13, 132, 96, 323), (3, 13, 86, 96, 326), (3, 13, 145, 96, 329)]
theorem kX12_left : ∀ q ∈ lX12_left, xLq RX12 q := List.forall_mem_cons.mpr ⟨lk_234, List.forall_mem_cons.mpr ⟨lk_240, List.forall_mem_cons.mpr ⟨lk_289, fun _ h => absurd h List.not_mem_nil⟩⟩⟩
theorem bX12_left_ok : ∀ b ∈ bX12_left, xbok RX12 cX12_left b := xbB_ok (lk := lX12_left) (ls := []) kX12_left xno_sw (by decide +kernel)
theorem vX12_left : xMok mX12_left := ⟨⟨by decide +kernel, xtb 1953 (by decide +kernel) rfl, xtb 138 (by decide +kernel) rfl, ⟨by decide +kernel, by decide +kernel⟩, by decide +kernel, by decide, rfl⟩, bX12_left_ok⟩
def lX12_leftOf : List xL := [(3, 1, 12, 34, 72)]
theorem kX12_leftOf : ∀ q ∈ lX12_leftOf, xLq RX12 q := List.forall_mem_cons.mpr ⟨lk_210, fun _ h => absurd h List.not_mem_nil⟩
theorem bX12_leftOf_ok : ∀ b ∈ bX12_leftOf, xbok RX12 cX12_leftOf b := xbB_ok (lk := lX12_leftOf) (ls := []) kX12_leftOf xno_sw (by decide +kernel)
theorem vX12_leftOf : xMok mX12_leftOf := ⟨⟨by decide +kernel, xtb 1965 (by decide +kernel) rfl, xtb 138 (by decide +kernel) rfl, ⟨by decide +kernel, by decide +kernel⟩, by decide +kernel, by decide, rfl⟩, bX12_leftOf_ok⟩
def lX12_looks : List xL := [(3, 1, 12, 29, 60), (3, 13, 130, 96, 287), (3, 1, 12, 30, 63)]
theorem kX12_looks : ∀ q ∈ lX12_looks, xLq RX12 q := List.forall_mem_cons.mpr ⟨lk_291, List.forall_mem_cons.mpr ⟨lk_304, List.forall_mem_cons.mpr ⟨lk_293, fun _ h => absurd h List.not_mem_nil⟩⟩⟩
theorem bX12_looks_ok : ∀ b ∈ bX12_looks, xbok RX12 cX12_looks b := xbB_ok (lk := lX12_looks) (ls := []) kX12_looks xno_sw (by decide +kernel)
theorem vX12_looks : xMok mX12_looks := ⟨⟨by decide +kernel, xtb 1897 (by decide +kernel) rfl, xtb 138 (by decide +kernel) rfl, ⟨by decide +kernel, by decide +kernel⟩, by decide +kernel, by decide, rfl⟩, bX12_looks_ok⟩
def lX12_manyKept : List xL := [(3, 13, 135, 96, 403), (3, 13, 129, 96, 406)]
theorem kX12_manyKept : ∀ q ∈ lX12_manyKept, xLq RX12 q := List.forall_mem_cons.mpr ⟨lk_298, List.forall_mem_cons.mpr ⟨lk_299, fun _ h => absurd h List.not_mem_nil⟩⟩
theorem bX12_manyKept_ok : ∀ b ∈ bX12_manyKept, xbok RX12 cX12_manyKept b := xbB_ok (lk := lX12_manyKept) (ls := []) kX12_manyKept xno_sw (by decide +kernel)
theorem vX12_manyKept : xMok mX12_manyKept := ⟨⟨by decide +kernel, xtb 2113 (by decide +kernel) rfl, xtb 138 (by decide +kernel) rfl, ⟨by decide +kernel, by decide +kernel⟩, by decide +kernel, by decide, rfl⟩, bX12_manyKept_ok⟩
def lX12_meets : List xL := [(3, 1, 12, 32, 69), (3, 1, 12, 31, 66), (3, 1, 12, 33, 290), (3, 14, 12, 33, 290)]
theorem kX12_meets : ∀ q ∈ lX12_meets, xLq RX12 q := List.forall_mem_cons.mpr ⟨lk_254, List.forall_mem_cons.mpr ⟨lk_305, List.forall_mem_cons.mpr ⟨lk_306, List.forall_mem_cons.mpr ⟨lk_307, fun _ h => absurd h List.not_mem_nil⟩⟩⟩⟩
theorem bX12_meets_ok : ∀ b ∈ bX12_meets, xbok RX12 cX12_meets b := xbB_ok (lk := lX12_meets) (ls := []) kX12_meets xno_sw (by decide +kernel)
theorem vX12_meets : xMok mX12_meets := ⟨⟨by decide +kernel, xtb 1913 (by decide +kernel) rfl, xtb 138 (by decide +kernel) rfl, ⟨by decide +kernel, by decide +kernel⟩, by decide +kernel, by decide, rfl⟩, bX12_meets_ok⟩
def lX12_mend : List xL := [(3, 13, 101, 96, 376), (3, 13, 126, 98, 105), (3, 1, 12, 0, 7), (3, 13, 153, 98, 379), (3, 13, 125, 96, 382)]
theorem kX12_mend : ∀ q ∈ lX12_mend, xLq RX12 q := List.forall_mem_cons.mpr ⟨lk_226, List.forall_mem_cons.mpr ⟨lk_207, List.forall_mem_cons.mpr ⟨lk_209, List.forall_mem_cons.mpr ⟨lk_308, List.forall_mem_cons.mpr ⟨lk_309, fun _ h => absurd h List.not_mem_nil⟩⟩⟩⟩⟩
theorem bX12_mend_ok : ∀ b ∈ bX12_mend, xbok RX12 cX12_mend b := xbB_ok (lk := lX12_mend) (ls := []) kX12_mend xno_sw (by decide +kernel)
theorem vX12_mend : xMok mX12_mend := ⟨⟨by decide +kernel, xtb 2052 (by decide +kernel) rfl, xtb 138 (by decide +kernel) rfl, ⟨by decide +kernel, by decide +kernel⟩, by decide +kernel, by decide, rfl⟩, bX12_mend_ok⟩
def lX12_most : List xL := [(3, 13, 146, 96, 302), (3, 13, 87, 96, 305), (3, 13, 116, 96, 308)]
theorem kX12_most : ∀ q ∈ lX12_most, xLq RX12 q := List.forall_mem_cons.mpr ⟨lk_230, List.forall_mem_cons.mpr ⟨lk_231, List.forall_mem_cons.mpr ⟨lk_232, fun _ h => absurd h List.not_mem_nil⟩⟩⟩
theorem bX12_most_ok : ∀ b ∈ bX12_most, xbok RX12 cX12_most b := xbB_ok (lk := lX12_most) (ls := []) kX12_most xno_sw (by decide +kernel)
theorem vX12_most : xMok mX12_most := ⟨⟨by decide +kernel, xtb 1893 (by decide +kernel) rfl, xtb 138 (by decide +kernel) rfl, ⟨by decide +kernel, by decide +kernel⟩, by decide +kernel, by decide, rfl⟩, bX12_most_ok⟩
def lX12_neutral : List xL := [(3, 13, 131, 96, 241), (3, 13, 89, 96, 244), (3, 52, 1000, 0, 231), (3, 1, 12, 19, 38)]
theorem kX12_neutral : ∀ q ∈ lX12_neutral, xLq RX12 q := List.forall_mem_cons.mpr ⟨lk_213, List.forall_mem_cons.mpr ⟨lk_215, List.forall_mem_cons.mpr ⟨lk_216, List.forall_mem_cons.mpr ⟨lk_224, fun _ h => absurd h List.not_mem_nil⟩⟩⟩⟩
theorem bX12_neutral_ok : ∀ b ∈ bX12_neutral, xbok RX12 cX12_neutral b := xbB_ok (lk := lX12_neutral) (ls := []) kX12_neutral xno_sw (by decide +kernel)
theorem vX12_neutral : xMok mX12_neutral := ⟨⟨by decide +kernel, xtb 1805 (by decide +kernel) rfl, xtb 138 (by decide +kernel) rfl, ⟨by decide +kernel, by decide +kernel⟩, by decide +kernel, by decide, rfl⟩, bX12_neutral_ok⟩
def lX12_next : List xL := [(3, 13, 126, 98, 105), (3, 13, 135, 96, 403), (3, 13, 129, 96, 406), (3, 13, 139, 98, 397)]
theorem kX12_next : ∀ q ∈ lX12_next, xLq RX12 q := List.forall_mem_cons.mpr ⟨lk_207, List.forall_mem_cons.mpr ⟨lk_298, List.forall_mem_cons.mpr ⟨lk_299, List.forall_mem_cons.mpr ⟨lk_296, fun _ h => absurd h List.not_mem_nil⟩⟩⟩⟩
theorem bX12_next_ok : ∀ b ∈ bX12_next, xbok RX12 cX12_next b := xbB_ok (lk := lX12_next) (ls := []) kX12_next xno_sw (by decide +kernel)
theorem vX12_next : xMok mX12_next := ⟨⟨by decide +kernel, xtb 2148 (by decide +kernel) rfl, xtb 138 (by decide +kernel) rfl, ⟨by decide +kernel, by decide +kernel⟩, by decide +kernel, by decide, rfl⟩, bX12_next_ok⟩
def lX12_ones : List xL := []
theorem kX12_ones : ∀ q ∈ lX12_ones, xLq RX12 q := fun _ h => absurd h List.not_mem_nil
theorem bX12_ones_ok : ∀ b ∈ bX12_ones, xbok RX12 cX12_ones b := xbB_ok (lk := lX12_ones) (ls := []) kX12_ones xno_sw (by decide +kernel)
theorem vX12_ones : xMok mX12_ones := ⟨⟨by decide +kernel, xtb 2059 (by decide +kernel) rfl, xtb 138 (by decide +kernel) rfl, ⟨by decide +kernel, by decide +kernel⟩, by decide +kernel, by decide, rfl⟩, bX12_ones_ok⟩
def lX12_order : List xL := [(3, 1, 12, 0, 7), (3, 13, 126, 98, 105), (3, 13, 122, 96, 235), (3, 13, 94, 96, 238), (3, 1, 12, 16, 29), (3, 1, 12, 15, 26)]
theorem kX12_order : ∀ q ∈ lX12_order, xLq RX12 q := List.forall_mem_cons.mpr ⟨lk_209, List.forall_mem_cons.mpr ⟨lk_207, List.forall_mem_cons.mpr ⟨lk_211, List.forall_mem_cons.mpr ⟨lk_212, List.forall_mem_cons.mpr ⟨lk_310, List.forall_mem_cons.mpr ⟨lk_256, fun _ h => absurd h List.not_mem_nil⟩⟩⟩⟩⟩⟩
theorem bX12_order_ok : ∀ b ∈ bX12_order, xbok RX12 cX12_order b := xbB_ok (lk := lX12_order) (ls := []) kX12_order xno_sw (by decide +kernel)
theorem vX12_order : xMok mX12_order := ⟨⟨by decide +kernel, xtb 1837 (by decide +kernel) rfl, xtb 138 (by decide +kernel) rfl, ⟨by decide +kernel, by decide +kernel⟩, by decide +kernel, by decide, rfl⟩, bX12_order_ok⟩
def lX12_panel : List xL := [(3, 13, 126, 98, 105), (3, 13, 160, 96, 373), (3, 1, 12, 41, 364), (3, 1, 12, 40, 90)]
theorem kX12_panel : ∀ q ∈ lX12_panel, xLq RX12 q := List.forall_mem_cons.mpr ⟨lk_207, List.forall_mem_cons.mpr ⟨lk_311, List.forall_mem_cons.mpr ⟨lk_312, List.forall_mem_cons.mpr ⟨lk_313, fun _ h => absurd h List.not_mem_nil⟩⟩⟩⟩
theorem bX12_panel_ok : ∀ b ∈ bX12_panel, xbok RX12 cX12_panel b := xbB_ok (lk := lX12_panel) (ls := []) kX12_panel xno_sw (by decide +kernel)
theorem vX12_panel : xMok mX12_panel := ⟨⟨by decide +kernel, xtb 2044 (by decide +kernel) rfl, xtb 138 (by decide +kernel) rfl, ⟨by decide +kernel, by decide +kernel⟩, by decide +kernel, by decide, rfl⟩, bX12_panel_ok⟩
