theorem bX11_lasts_ok : ∀ b ∈ bX11_lasts, xbok RX11 cX11_lasts b := xbF_ok (lk := lX11_lasts) (ls := []) kX11_lasts xno_sw (by decide +kernel)
set_option maxRecDepth 20000 in
theorem vX11_lasts : xMok mX11_lasts := ⟨⟨wc_4.1, xtc5 142 rfl rfl, wc_4.2.1, wc_4.2.2, by decide +kernel, by decide, rfl⟩, bX11_lasts_ok⟩
def lX11_law : List xL := [(3, 1, 11, 8, 79), (3, 13, 276, 32, 327), (3, 1, 4, 4, 328), (3, 13, 274, 32, 331)]
theorem kX11_law : ∀ q ∈ lX11_law, xLq RX11 q := List.forall_mem_cons.mpr ⟨lk_102, List.forall_mem_cons.mpr ⟨lk_206, List.forall_mem_cons.mpr ⟨lk_207, List.forall_mem_cons.mpr ⟨lk_210, fun _ h => absurd h List.not_mem_nil⟩⟩⟩⟩
theorem bX11_law_ok : ∀ b ∈ bX11_law, xbok RX11 cX11_law b := xbF_ok (lk := lX11_law) (ls := []) kX11_law xno_sw (by decide +kernel)
set_option maxRecDepth 20000 in
theorem vX11_law : xMok mX11_law := ⟨⟨wc_4.1, xtc6 47 rfl rfl, wc_4.2.1, wc_4.2.2, by decide +kernel, by decide, rfl⟩, bX11_law_ok⟩
def lX11_layer : List xL := [(3, 1, 11, 0, 10), (3, 1, 9, 4, 38), (3, 1, 1, 0, 112), (3, 13, 287, 40, 117), (3, 1, 11, 4, 45), (3, 13, 12, 0, 123), (3, 1, 0, 2, 126), (3, 1, 0, 3, 129), (3, 13, 285, 40, 132)]
theorem kX11_layer : ∀ q ∈ lX11_layer, xLq RX11 q := List.forall_mem_cons.mpr ⟨lk_99, List.forall_mem_cons.mpr ⟨lk_110, List.forall_mem_cons.mpr ⟨lk_111, List.forall_mem_cons.mpr ⟨lk_112, List.forall_mem_cons.mpr ⟨lk_114, List.forall_mem_cons.mpr ⟨lk_115, List.forall_mem_cons.mpr ⟨lk_211, List.forall_mem_cons.mpr ⟨lk_212, List.forall_mem_cons.mpr ⟨lk_109, fun _ h => absurd h List.not_mem_nil⟩⟩⟩⟩⟩⟩⟩⟩⟩
theorem swX11_layer_0 : xLs RX11 (27, 25, 34, 72, 0, 5) := ⟨_, rfl, 45, #[(4, 25), (5, 35)], [(4, 52), (5, 62)], rfl, rfl, by decide +kernel, by decide, by decide +kernel, by decide +kernel, by decide +kernel⟩
def sX11_layer : List xI := [(27, 25, 34, 72, 0, 5)]
theorem zX11_layer : ∀ e ∈ sX11_layer, xLs RX11 e := List.forall_mem_cons.mpr ⟨swX11_layer_0, fun _ h => absurd h List.not_mem_nil⟩
theorem bX11_layer_ok : ∀ b ∈ bX11_layer, xbok RX11 cX11_layer b := xbF_ok (lk := lX11_layer) (ls := sX11_layer) kX11_layer zX11_layer (by decide +kernel)
set_option maxRecDepth 20000 in
theorem vX11_layer : xMok mX11_layer := ⟨⟨wc_4.1, xtc4 40 rfl rfl, wc_4.2.1, wc_4.2.2, by decide +kernel, by decide, rfl⟩, bX11_layer_ok⟩
def lX11_leads : List xL := [(3, 13, 63, 88, 201), (3, 1, 11, 0, 10), (3, 13, 324, 72, 205), (3, 13, 323, 72, 216)]
theorem kX11_leads : ∀ q ∈ lX11_leads, xLq RX11 q := List.forall_mem_cons.mpr ⟨lk_138, List.forall_mem_cons.mpr ⟨lk_99, List.forall_mem_cons.mpr ⟨lk_139, List.forall_mem_cons.mpr ⟨lk_128, fun _ h => absurd h List.not_mem_nil⟩⟩⟩⟩
theorem bX11_leads_ok : ∀ b ∈ bX11_leads, xbok RX11 cX11_leads b := xbF_ok (lk := lX11_leads) (ls := []) kX11_leads xno_sw (by decide +kernel)
set_option maxRecDepth 20000 in
theorem vX11_leads : xMok mX11_leads := ⟨⟨wc_4.1, xtc4 210 rfl rfl, wc_4.2.1, wc_4.2.2, by decide +kernel, by decide, rfl⟩, bX11_leads_ok⟩
def lX11_least : List xL := [(3, 1, 11, 0, 10), (3, 1, 9, 4, 38), (3, 1, 1, 0, 112), (3, 1, 5, 3, 151), (3, 1, 11, 4, 45), (3, 13, 12, 0, 123), (3, 13, 13, 0, 154)]
theorem kX11_least : ∀ q ∈ lX11_least, xLq RX11 q := List.forall_mem_cons.mpr ⟨lk_99, List.forall_mem_cons.mpr ⟨lk_110, List.forall_mem_cons.mpr ⟨lk_111, List.forall_mem_cons.mpr ⟨lk_107, List.forall_mem_cons.mpr ⟨lk_114, List.forall_mem_cons.mpr ⟨lk_115, List.forall_mem_cons.mpr ⟨lk_213, fun _ h => absurd h List.not_mem_nil⟩⟩⟩⟩⟩⟩⟩
theorem bX11_least_ok : ∀ b ∈ bX11_least, xbok RX11 cX11_least b := xbF_ok (lk := lX11_least) (ls := []) kX11_least xno_sw (by decide +kernel)
set_option maxRecDepth 20000 in
theorem vX11_least : xMok mX11_least := ⟨⟨wc_4.1, xtc4 97 rfl rfl, wc_4.2.1, wc_4.2.2, by decide +kernel, by decide, rfl⟩, bX11_least_ok⟩
def lX11_left : List xL := [(3, 13, 64, 88, 261), (3, 1, 11, 6, 59), (3, 13, 265, 24, 264), (3, 13, 263, 24, 267)]
theorem kX11_left : ∀ q ∈ lX11_left, xLq RX11 q := List.forall_mem_cons.mpr ⟨lk_150, List.forall_mem_cons.mpr ⟨lk_151, List.forall_mem_cons.mpr ⟨lk_208, List.forall_mem_cons.mpr ⟨lk_202, fun _ h => absurd h List.not_mem_nil⟩⟩⟩⟩
theorem bX11_left_ok : ∀ b ∈ bX11_left, xbok RX11 cX11_left b := xbF_ok (lk := lX11_left) (ls := []) kX11_left xno_sw (by decide +kernel)
set_option maxRecDepth 20000 in
theorem vX11_left : xMok mX11_left := ⟨⟨wc_4.1, xtc5 66 rfl rfl, wc_4.2.1, wc_4.2.2, by decide +kernel, by decide, rfl⟩, bX11_left_ok⟩
def lX11_measureAll : List xL := [(3, 1, 11, 5, 52), (3, 13, 35, 80, 219), (3, 1, 11, 6, 59), (3, 13, 265, 24, 264), (3, 13, 266, 24, 279), (3, 1, 11, 8, 79), (3, 13, 276, 32, 327), (3, 1, 11, 7, 66), (3, 13, 308, 56, 303), (3, 1, 11, 4, 45), (3, 13, 12, 0, 123), (3, 1, 11, 0, 10), (3, 1, 9, 4, 38), (3, 1, 11, 9, 83), (3, 13, 244, 8, 400), (3, 13, 323, 72, 216), (3, 1, 1, 0, 112), (3, 1, 5, 3, 151), (3, 13, 13, 0, 154), (3, 1, 1, 7, 225), (3, 1, 10, 11, 222), (3, 13, 45, 88, 291), (3, 1, 1, 5, 297), (3, 1, 1, 6, 300), (3, 13, 310, 56, 306), (3, 63, 0, 0, 403), (3, 1, 4, 4, 328), (3, 1, 9, 6, 186)]
theorem kX11_measureAll : ∀ q ∈ lX11_measureAll, xLq RX11 q := List.forall_mem_cons.mpr ⟨lk_141, List.forall_mem_cons.mpr ⟨lk_147, List.forall_mem_cons.mpr ⟨lk_151, List.forall_mem_cons.mpr ⟨lk_208, List.forall_mem_cons.mpr ⟨lk_152, List.forall_mem_cons.mpr ⟨lk_102, List.forall_mem_cons.mpr ⟨lk_206, List.forall_mem_cons.mpr ⟨lk_168, List.forall_mem_cons.mpr ⟨lk_214, List.forall_mem_cons.mpr ⟨lk_114, List.forall_mem_cons.mpr ⟨lk_115, List.forall_mem_cons.mpr ⟨lk_99, List.forall_mem_cons.mpr ⟨lk_110, List.forall_mem_cons.mpr ⟨lk_215, List.forall_mem_cons.mpr ⟨lk_216, List.forall_mem_cons.mpr ⟨lk_128, List.forall_mem_cons.mpr ⟨lk_111, List.forall_mem_cons.mpr ⟨lk_107, List.forall_mem_cons.mpr ⟨lk_213, List.forall_mem_cons.mpr ⟨lk_130, List.forall_mem_cons.mpr ⟨lk_148, List.forall_mem_cons.mpr ⟨lk_155, List.forall_mem_cons.mpr ⟨lk_133, List.forall_mem_cons.mpr ⟨lk_134, List.forall_mem_cons.mpr ⟨lk_217, List.forall_mem_cons.mpr ⟨lk_218, List.forall_mem_cons.mpr ⟨lk_207, List.forall_mem_cons.mpr ⟨lk_124, fun _ h => absurd h List.not_mem_nil⟩⟩⟩⟩⟩⟩⟩⟩⟩⟩⟩⟩⟩⟩⟩⟩⟩⟩⟩⟩⟩⟩⟩⟩⟩⟩⟩⟩
theorem bX11_measureAll_ok : ∀ b ∈ bX11_measureAll, xbok RX11 cX11_measureAll b := xbF_ok (lk := lX11_measureAll) (ls := []) kX11_measureAll xno_sw (by decide +kernel)
set_option maxRecDepth 20000 in
theorem vX11_measureAll : xMok mX11_measureAll := ⟨⟨wc_4.1, xtc6 163 rfl rfl, wc_4.2.1, wc_4.2.2, by decide +kernel, by decide, rfl⟩, bX11_measureAll_ok⟩
def lX11_mend : List xL := [(3, 1, 11, 0, 10), (3, 13, 323, 72, 216), (3, 13, 49, 88, 241), (3, 13, 43, 88, 244), (3, 13, 0, 2, 247)]
theorem kX11_mend : ∀ q ∈ lX11_mend, xLq RX11 q := List.forall_mem_cons.mpr ⟨lk_99, List.forall_mem_cons.mpr ⟨lk_128, List.forall_mem_cons.mpr ⟨lk_219, List.forall_mem_cons.mpr ⟨lk_220, List.forall_mem_cons.mpr ⟨lk_221, fun _ h => absurd h List.not_mem_nil⟩⟩⟩⟩⟩
theorem swX11_mend_0 : xLs RX11 (20, 28, 33, 61, 0, 6) := ⟨_, rfl, 41, 0, 2, #[28, 34, 39], [(0, 48), (1, 54), (2, 59)], rfl, rfl, by decide, by decide, by decide, by decide, rfl, by decide +kernel⟩
def sX11_mend : List xI := [(20, 28, 33, 61, 0, 6)]
theorem zX11_mend : ∀ e ∈ sX11_mend, xLs RX11 e := List.forall_mem_cons.mpr ⟨swX11_mend_0, fun _ h => absurd h List.not_mem_nil⟩
theorem bX11_mend_ok : ∀ b ∈ bX11_mend, xbok RX11 cX11_mend b := xbF_ok (lk := lX11_mend) (ls := sX11_mend) kX11_mend zX11_mend (by decide +kernel)
set_option maxRecDepth 20000 in
theorem vX11_mend : xMok mX11_mend := ⟨⟨wc_4.1, xtc5 44 rfl rfl, wc_4.2.1, wc_4.2.2, by decide +kernel, by decide, rfl⟩, bX11_mend_ok⟩
def lX11_most : List xL := [(3, 1, 11, 5, 52), (3, 13, 35, 80, 219), (3, 1, 10, 11, 222)]
theorem kX11_most : ∀ q ∈ lX11_most, xLq RX11 q := List.forall_mem_cons.mpr ⟨lk_141, List.forall_mem_cons.mpr ⟨lk_147, List.forall_mem_cons.mpr ⟨lk_148, fun _ h => absurd h List.not_mem_nil⟩⟩⟩
theorem bX11_most_ok : ∀ b ∈ bX11_most, xbok RX11 cX11_most b := xbF_ok (lk := lX11_most) (ls := []) kX11_most xno_sw (by decide +kernel)
set_option maxRecDepth 20000 in
theorem vX11_most : xMok mX11_most := ⟨⟨wc_4.1, xtc4 218 rfl rfl, wc_4.2.1, wc_4.2.2, by decide +kernel, by decide, rfl⟩, bX11_most_ok⟩
def lX11_neutral : List xL := [(3, 1, 11, 0, 10), (3, 1, 9, 4, 38), (3, 1, 1, 0, 112), (3, 13, 287, 40, 117), (3, 1, 11, 4, 45), (3, 13, 12, 0, 123), (3, 13, 14, 0, 136)]
theorem kX11_neutral : ∀ q ∈ lX11_neutral, xLq RX11 q := List.forall_mem_cons.mpr ⟨lk_99, List.forall_mem_cons.mpr ⟨lk_110, List.forall_mem_cons.mpr ⟨lk_111, List.forall_mem_cons.mpr ⟨lk_112, List.forall_mem_cons.mpr ⟨lk_114, List.forall_mem_cons.mpr ⟨lk_115, List.forall_mem_cons.mpr ⟨lk_222, fun _ h => absurd h List.not_mem_nil⟩⟩⟩⟩⟩⟩⟩
theorem bX11_neutral_ok : ∀ b ∈ bX11_neutral, xbok RX11 cX11_neutral b := xbF_ok (lk := lX11_neutral) (ls := []) kX11_neutral xno_sw (by decide +kernel)
set_option maxRecDepth 20000 in
theorem vX11_neutral : xMok mX11_neutral := ⟨⟨wc_4.1, xtc4 59 rfl rfl, wc_4.2.1, wc_4.2.2, by decide +kernel, by decide, rfl⟩, bX11_neutral_ok⟩
def lX11_next : List xL := [(3, 1, 11, 8, 79), (3, 13, 276, 32, 327), (3, 13, 277, 32, 346), (3, 1, 4, 6, 349), (3, 1, 4, 7, 352), (3, 1, 4, 8, 355)]
theorem kX11_next : ∀ q ∈ lX11_next, xLq RX11 q := List.forall_mem_cons.mpr ⟨lk_102, List.forall_mem_cons.mpr ⟨lk_206, List.forall_mem_cons.mpr ⟨lk_223, List.forall_mem_cons.mpr ⟨lk_224, List.forall_mem_cons.mpr ⟨lk_225, List.forall_mem_cons.mpr ⟨lk_226, fun _ h => absurd h List.not_mem_nil⟩⟩⟩⟩⟩⟩
theorem swX11_next_0 : xLs RX11 (15, 25, 33, 64, 0, 7) := ⟨_, rfl, 49, 0, 2, #[25, 33, 41], [(0, 40), (1, 48), (2, 56)], rfl, rfl, by decide, by decide, by decide, by decide, rfl, by decide +kernel⟩
def sX11_next : List xI := [(15, 25, 33, 64, 0, 7)]
theorem zX11_next : ∀ e ∈ sX11_next, xLs RX11 e := List.forall_mem_cons.mpr ⟨swX11_next_0, fun _ h => absurd h List.not_mem_nil⟩
theorem bX11_next_ok : ∀ b ∈ bX11_next, xbok RX11 cX11_next b := xbF_ok (lk := lX11_next) (ls := sX11_next) kX11_next zX11_next (by decide +kernel)
set_option maxRecDepth 20000 in
theorem vX11_next : xMok mX11_next := ⟨⟨wc_4.1, xtc6 87 rfl rfl, wc_4.2.1, wc_4.2.2, by decide +kernel, by decide, rfl⟩, bX11_next_ok⟩
def lX11_order : List xL := [(3, 1, 11, 0, 10), (3, 1, 9, 4, 38), (3, 1, 1, 0, 112), (3, 1, 5, 3, 151), (3, 1, 11, 4, 45), (3, 13, 7, 0, 160), (3, 1, 0, 9, 163), (3, 1, 0, 8, 166)]
theorem kX11_order : ∀ q ∈ lX11_order, xLq RX11 q := List.forall_mem_cons.mpr ⟨lk_99, List.forall_mem_cons.mpr ⟨lk_110, List.forall_mem_cons.mpr ⟨lk_111, List.forall_mem_cons.mpr ⟨lk_107, List.forall_mem_cons.mpr ⟨lk_114, List.forall_mem_cons.mpr ⟨lk_227, List.forall_mem_cons.mpr ⟨lk_228, List.forall_mem_cons.mpr ⟨lk_229, fun _ h => absurd h List.not_mem_nil⟩⟩⟩⟩⟩⟩⟩⟩
theorem bX11_order_ok : ∀ b ∈ bX11_order, xbok RX11 cX11_order b := xbF_ok (lk := lX11_order) (ls := []) kX11_order xno_sw (by decide +kernel)
set_option maxRecDepth 20000 in
theorem vX11_order : xMok mX11_order := ⟨⟨wc_4.1, xtc4 120 rfl rfl, wc_4.2.1, wc_4.2.2, by decide +kernel, by decide, rfl⟩, bX11_order_ok⟩
def lX11_panel : List xL := [(3, 1, 11, 7, 66), (3, 13, 307, 56, 310), (3, 1, 7, 2, 313), (3, 13, 285, 40, 132)]
theorem kX11_panel : ∀ q ∈ lX11_panel, xLq RX11 q := List.forall_mem_cons.mpr ⟨lk_168, List.forall_mem_cons.mpr ⟨lk_230, List.forall_mem_cons.mpr ⟨lk_231, List.forall_mem_cons.mpr ⟨lk_109, fun _ h => absurd h List.not_mem_nil⟩⟩⟩⟩
theorem bX11_panel_ok : ∀ b ∈ bX11_panel, xbok RX11 cX11_panel b := xbF_ok (lk := lX11_panel) (ls := []) kX11_panel xno_sw (by decide +kernel)
set_option maxRecDepth 20000 in
theorem vX11_panel : xMok mX11_panel := ⟨⟨wc_4.1, xtc5 221 rfl rfl, wc_4.2.1, wc_4.2.2, by decide +kernel, by decide, rfl⟩, bX11_panel_ok⟩
def lX11_panels : List xL := [(3, 1, 11, 7, 66), (3, 13, 307, 56, 310), (3, 1, 7, 2, 313), (3, 1, 5, 3, 151)]
theorem kX11_panels : ∀ q ∈ lX11_panels, xLq RX11 q := List.forall_mem_cons.mpr ⟨lk_168, List.forall_mem_cons.mpr ⟨lk_230, List.forall_mem_cons.mpr ⟨lk_231, List.forall_mem_cons.mpr ⟨lk_107, fun _ h => absurd h List.not_mem_nil⟩⟩⟩⟩
theorem bX11_panels_ok : ∀ b ∈ bX11_panels, xbok RX11 cX11_panels b := xbF_ok (lk := lX11_panels) (ls := []) kX11_panels xno_sw (by decide +kernel)
set_option maxRecDepth 20000 in
theorem vX11_panels : xMok mX11_panels := ⟨⟨wc_4.1, xtc5 201 rfl rfl, wc_4.2.1, wc_4.2.2, by decide +kernel, by decide, rfl⟩, bX11_panels_ok⟩
def lX11_picture : List xL := [(3, 1, 11, 0, 10), (3, 1, 9, 8, 252), (3, 1, 9, 4, 38), (3, 1, 1, 7, 225), (3, 1, 1, 8, 255), (3, 13, 289, 40, 198), (3, 13, 70, 90, 238), (3, 13, 286, 40, 209), (3, 13, 290, 40, 212), (3, 1, 11, 6, 59), (3, 13, 259, 24, 258), (3, 1, 5, 3, 151)]
theorem kX11_picture : ∀ q ∈ lX11_picture, xLq RX11 q := List.forall_mem_cons.mpr ⟨lk_99, List.forall_mem_cons.mpr ⟨lk_123, List.forall_mem_cons.mpr ⟨lk_110, List.forall_mem_cons.mpr ⟨lk_130, List.forall_mem_cons.mpr ⟨lk_131, List.forall_mem_cons.mpr ⟨lk_137, List.forall_mem_cons.mpr ⟨lk_97, List.forall_mem_cons.mpr ⟨lk_140, List.forall_mem_cons.mpr ⟨lk_122, List.forall_mem_cons.mpr ⟨lk_151, List.forall_mem_cons.mpr ⟨lk_166, List.forall_mem_cons.mpr ⟨lk_107, fun _ h => absurd h List.not_mem_nil⟩⟩⟩⟩⟩⟩⟩⟩⟩⟩⟩⟩
theorem bX11_picture_ok : ∀ b ∈ bX11_picture, xbok RX11 cX11_picture b := xbF_ok (lk := lX11_picture) (ls := []) kX11_picture xno_sw (by decide +kernel)
set_option maxRecDepth 20000 in
theorem vX11_picture : xMok mX11_picture := ⟨⟨wc_4.1, xtc5 62 rfl rfl, wc_4.2.1, wc_4.2.2, by decide +kernel, by decide, rfl⟩, bX11_picture_ok⟩
def lX11_price : List xL := [(3, 13, 80, 88, 361), (3, 13, 72, 88, 364), (3, 1, 11, 0, 10), (3, 1, 9, 12, 367), (3, 1, 5, 3, 151), (3, 1, 11, 10, 87), (3, 13, 285, 40, 132), (3, 62, 0, 0, 370)]
theorem kX11_price : ∀ q ∈ lX11_price, xLq RX11 q := List.forall_mem_cons.mpr ⟨lk_104, List.forall_mem_cons.mpr ⟨lk_105, List.forall_mem_cons.mpr ⟨lk_99, List.forall_mem_cons.mpr ⟨lk_106, List.forall_mem_cons.mpr ⟨lk_107, List.forall_mem_cons.mpr ⟨lk_108, List.forall_mem_cons.mpr ⟨lk_109, List.forall_mem_cons.mpr ⟨lk_232, fun _ h => absurd h List.not_mem_nil⟩⟩⟩⟩⟩⟩⟩⟩
theorem bX11_price_ok : ∀ b ∈ bX11_price, xbok RX11 cX11_price b := xbF_ok (lk := lX11_price) (ls := []) kX11_price xno_sw (by decide +kernel)
set_option maxRecDepth 20000 in
theorem vX11_price : xMok mX11_price := ⟨⟨wc_4.1, xtc6 181 rfl rfl, wc_4.2.1, wc_4.2.2, by decide +kernel, by decide, rfl⟩, bX11_price_ok⟩
def lX11_promise : List xL := [(3, 13, 70, 90, 238), (3, 1, 11, 4, 45), (3, 13, 12, 0, 123), (3, 13, 41, 88, 322)]
theorem kX11_promise : ∀ q ∈ lX11_promise, xLq RX11 q := List.forall_mem_cons.mpr ⟨lk_97, List.forall_mem_cons.mpr ⟨lk_114, List.forall_mem_cons.mpr ⟨lk_115, List.forall_mem_cons.mpr ⟨lk_233, fun _ h => absurd h List.not_mem_nil⟩⟩⟩⟩
theorem bX11_promise_ok : ∀ b ∈ bX11_promise, xbok RX11 cX11_promise b := xbF_ok (lk := lX11_promise) (ls := []) kX11_promise xno_sw (by decide +kernel)
set_option maxRecDepth 20000 in
theorem vX11_promise : xMok mX11_promise := ⟨⟨wc_4.1, xtc6 15 rfl rfl, wc_4.2.1, wc_4.2.2, by decide +kernel, by decide, rfl⟩, bX11_promise_ok⟩
def lX11_quarrel : List xL := [(3, 1, 11, 8, 79), (3, 13, 276, 32, 327), (3, 1, 4, 4, 328), (3, 13, 278, 32, 340), (3, 13, 275, 32, 343)]
theorem kX11_quarrel : ∀ q ∈ lX11_quarrel, xLq RX11 q := List.forall_mem_cons.mpr ⟨lk_102, List.forall_mem_cons.mpr ⟨lk_206, List.forall_mem_cons.mpr ⟨lk_207, List.forall_mem_cons.mpr ⟨lk_234, List.forall_mem_cons.mpr ⟨lk_235, fun _ h => absurd h List.not_mem_nil⟩⟩⟩⟩⟩
theorem bX11_quarrel_ok : ∀ b ∈ bX11_quarrel, xbok RX11 cX11_quarrel b := xbF_ok (lk := lX11_quarrel) (ls := []) kX11_quarrel xno_sw (by decide +kernel)
set_option maxRecDepth 20000 in
theorem vX11_quarrel : xMok mX11_quarrel := ⟨⟨wc_4.1, xtc6 70 rfl rfl, wc_4.2.1, wc_4.2.2, by decide +kernel, by decide, rfl⟩, bX11_quarrel_ok⟩
def lX11_refreshLamps : List xL := [(3, 1, 11, 5, 52), (3, 13, 35, 80, 219), (3, 1, 11, 6, 59), (3, 13, 265, 24, 264), (3, 13, 266, 24, 279)]
theorem kX11_refreshLamps : ∀ q ∈ lX11_refreshLamps, xLq RX11 q := List.forall_mem_cons.mpr ⟨lk_141, List.forall_mem_cons.mpr ⟨lk_147, List.forall_mem_cons.mpr ⟨lk_151, List.forall_mem_cons.mpr ⟨lk_208, List.forall_mem_cons.mpr ⟨lk_152, fun _ h => absurd h List.not_mem_nil⟩⟩⟩⟩⟩
theorem bX11_refreshLamps_ok : ∀ b ∈ bX11_refreshLamps, xbok RX11 cX11_refreshLamps b := xbF_ok (lk := lX11_refreshLamps) (ls := []) kX11_refreshLamps xno_sw (by decide +kernel)
set_option maxRecDepth 20000 in
theorem vX11_refreshLamps : xMok mX11_refreshLamps := ⟨⟨wc_4.1, xtc5 122 rfl rfl, wc_4.2.1, wc_4.2.2, by decide +kernel, by decide, rfl⟩, bX11_refreshLamps_ok⟩
def lX11_rules : List xL := [(3, 1, 11, 3, 32), (3, 13, 295, 48, 358)]
theorem kX11_rules : ∀ q ∈ lX11_rules, xLq RX11 q := List.forall_mem_cons.mpr ⟨lk_236, List.forall_mem_cons.mpr ⟨lk_237, fun _ h => absurd h List.not_mem_nil⟩⟩
theorem bX11_rules_ok : ∀ b ∈ bX11_rules, xbok RX11 cX11_rules b := xbF_ok (lk := lX11_rules) (ls := []) kX11_rules xno_sw (by decide +kernel)
set_option maxRecDepth 20000 in
theorem vX11_rules : xMok mX11_rules := ⟨⟨wc_4.1, xtc6 100 rfl rfl, wc_4.2.1, wc_4.2.2, by decide +kernel, by decide, rfl⟩, bX11_rules_ok⟩
def lX11_share : List xL := [(3, 13, 70, 90, 238), (3, 1, 11, 4, 45), (3, 13, 12, 0, 123), (3, 13, 41, 88, 322)]
theorem kX11_share : ∀ q ∈ lX11_share, xLq RX11 q := List.forall_mem_cons.mpr ⟨lk_97, List.forall_mem_cons.mpr ⟨lk_114, List.forall_mem_cons.mpr ⟨lk_115, List.forall_mem_cons.mpr ⟨lk_233, fun _ h => absurd h List.not_mem_nil⟩⟩⟩⟩
theorem bX11_share_ok : ∀ b ∈ bX11_share, xbok RX11 cX11_share b := xbF_ok (lk := lX11_share) (ls := []) kX11_share xno_sw (by decide +kernel)
set_option maxRecDepth 20000 in
theorem vX11_share : xMok mX11_share := ⟨⟨wc_4.1, xtc6 5 rfl rfl, wc_4.2.1, wc_4.2.2, by decide +kernel, by decide, rfl⟩, bX11_share_ok⟩
def lX11_shift : List xL := [(3, 1, 11, 0, 10), (3, 1, 9, 8, 252), (3, 1, 5, 3, 151), (3, 1, 11, 6, 59), (3, 13, 265, 24, 264), (3, 13, 268, 24, 294)]
theorem kX11_shift : ∀ q ∈ lX11_shift, xLq RX11 q := List.forall_mem_cons.mpr ⟨lk_99, List.forall_mem_cons.mpr ⟨lk_123, List.forall_mem_cons.mpr ⟨lk_107, List.forall_mem_cons.mpr ⟨lk_151, List.forall_mem_cons.mpr ⟨lk_208, List.forall_mem_cons.mpr ⟨lk_209, fun _ h => absurd h List.not_mem_nil⟩⟩⟩⟩⟩⟩
theorem bX11_shift_ok : ∀ b ∈ bX11_shift, xbok RX11 cX11_shift b := xbF_ok (lk := lX11_shift) (ls := []) kX11_shift xno_sw (by decide +kernel)
set_option maxRecDepth 20000 in
theorem vX11_shift : xMok mX11_shift := ⟨⟨wc_4.1, xtc5 158 rfl rfl, wc_4.2.1, wc_4.2.2, by decide +kernel, by decide, rfl⟩, bX11_shift_ok⟩
def lX11_span : List xL := [(3, 1, 11, 8, 79), (3, 13, 276, 32, 327), (3, 13, 70, 90, 238), (3, 1, 4, 4, 328), (3, 13, 279, 32, 334), (3, 13, 280, 32, 337)]
theorem kX11_span : ∀ q ∈ lX11_span, xLq RX11 q := List.forall_mem_cons.mpr ⟨lk_102, List.forall_mem_cons.mpr ⟨lk_206, List.forall_mem_cons.mpr ⟨lk_97, List.forall_mem_cons.mpr ⟨lk_207, List.forall_mem_cons.mpr ⟨lk_238, List.forall_mem_cons.mpr ⟨lk_239, fun _ h => absurd h List.not_mem_nil⟩⟩⟩⟩⟩⟩
theorem bX11_span_ok : ∀ b ∈ bX11_span, xbok RX11 cX11_span b := xbF_ok (lk := lX11_span) (ls := []) kX11_span xno_sw (by decide +kernel)
set_option maxRecDepth 20000 in
theorem vX11_span : xMok mX11_span := ⟨⟨wc_4.1, xtc6 55 rfl rfl, wc_4.2.1, wc_4.2.2, by decide +kernel, by decide, rfl⟩, bX11_span_ok⟩
def lX11_stretch : List xL := [(3, 1, 11, 0, 10), (3, 1, 9, 4, 38), (3, 1, 1, 0, 112), (3, 13, 287, 40, 117), (3, 13, 71, 90, 140), (2, 35, 2294967296, 0, 143), (3, 1, 11, 4, 45), (3, 13, 12, 0, 123), (3, 13, 18, 0, 144)]
theorem kX11_stretch : ∀ q ∈ lX11_stretch, xLq RX11 q := List.forall_mem_cons.mpr ⟨lk_99, List.forall_mem_cons.mpr ⟨lk_110, List.forall_mem_cons.mpr ⟨lk_111, List.forall_mem_cons.mpr ⟨lk_112, List.forall_mem_cons.mpr ⟨lk_113, List.forall_mem_cons.mpr ⟨lk_240, List.forall_mem_cons.mpr ⟨lk_114, List.forall_mem_cons.mpr ⟨lk_115, List.forall_mem_cons.mpr ⟨lk_241, fun _ h => absurd h List.not_mem_nil⟩⟩⟩⟩⟩⟩⟩⟩⟩
theorem bX11_stretch_ok : ∀ b ∈ bX11_stretch, xbok RX11 cX11_stretch b := xbF_ok (lk := lX11_stretch) (ls := []) kX11_stretch xno_sw (by decide +kernel)
set_option maxRecDepth 20000 in
theorem vX11_stretch : xMok mX11_stretch := ⟨⟨wc_4.1, xtc4 71 rfl rfl, wc_4.2.1, wc_4.2.2, by decide +kernel, by decide, rfl⟩, bX11_stretch_ok⟩
def lX11_test : List xL := [(3, 1, 11, 0, 10), (3, 1, 9, 11, 72), (3, 13, 70, 90, 238), (3, 36, 999999, 0, 325), (3, 13, 289, 40, 198), (3, 13, 286, 40, 209), (3, 13, 290, 40, 212), (3, 1, 11, 8, 79), (3, 13, 272, 32, 326)]
theorem kX11_test : ∀ q ∈ lX11_test, xLq RX11 q := List.forall_mem_cons.mpr ⟨lk_99, List.forall_mem_cons.mpr ⟨lk_127, List.forall_mem_cons.mpr ⟨lk_97, List.forall_mem_cons.mpr ⟨lk_242, List.forall_mem_cons.mpr ⟨lk_137, List.forall_mem_cons.mpr ⟨lk_140, List.forall_mem_cons.mpr ⟨lk_122, List.forall_mem_cons.mpr ⟨lk_102, List.forall_mem_cons.mpr ⟨lk_103, fun _ h => absurd h List.not_mem_nil⟩⟩⟩⟩⟩⟩⟩⟩⟩
theorem bX11_test_ok : ∀ b ∈ bX11_test, xbok RX11 cX11_test b := xbF_ok (lk := lX11_test) (ls := []) kX11_test xno_sw (by decide +kernel)
set_option maxRecDepth 20000 in
theorem vX11_test : xMok mX11_test := ⟨⟨wc_4.1, xtc6 19 rfl rfl, wc_4.2.1, wc_4.2.2, by decide +kernel, by decide, rfl⟩, bX11_test_ok⟩
def lX11_testHolds : List xL := [(3, 1, 11, 0, 10), (3, 1, 9, 13, 406), (3, 13, 285, 40, 132), (3, 1, 11, 9, 83)]
theorem kX11_testHolds : ∀ q ∈ lX11_testHolds, xLq RX11 q := List.forall_mem_cons.mpr ⟨lk_99, List.forall_mem_cons.mpr ⟨lk_204, List.forall_mem_cons.mpr ⟨lk_109, List.forall_mem_cons.mpr ⟨lk_215, fun _ h => absurd h List.not_mem_nil⟩⟩⟩⟩
theorem swX11_testHolds_0 : xLs RX11 (53, 27, 34, 120, 0, 8) := ⟨_, rfl, 67, #[(60, 27), (62, 47)], [(60, 80), (62, 100)], rfl, rfl, by decide +kernel, by decide, by decide +kernel, by decide +kernel, by decide +kernel⟩
def sX11_testHolds : List xI := [(53, 27, 34, 120, 0, 8)]
theorem zX11_testHolds : ∀ e ∈ sX11_testHolds, xLs RX11 e := List.forall_mem_cons.mpr ⟨swX11_testHolds_0, fun _ h => absurd h List.not_mem_nil⟩
theorem bX11_testHolds_ok : ∀ b ∈ bX11_testHolds, xbok RX11 cX11_testHolds b := xbF_ok (lk := lX11_testHolds) (ls := sX11_testHolds) kX11_testHolds zX11_testHolds (by decide +kernel)
set_option maxRecDepth 20000 in
theorem vX11_testHolds : xMok mX11_testHolds := ⟨⟨wc_4.1, xtc6 177 rfl rfl, wc_4.2.1, wc_4.2.2, by decide +kernel, by decide, rfl⟩, bX11_testHolds_ok⟩
def lX11_tired : List xL := [(3, 1, 11, 0, 10), (3, 1, 9, 4, 38), (3, 1, 1, 2, 169), (3, 1, 1, 0, 112), (3, 13, 287, 40, 117), (3, 1, 5, 3, 151), (3, 1, 11, 4, 45), (3, 13, 12, 0, 123), (3, 13, 16, 0, 172), (3, 13, 285, 40, 132), (3, 13, 21, 0, 175), (3, 13, 23, 0, 179)]
theorem kX11_tired : ∀ q ∈ lX11_tired, xLq RX11 q := List.forall_mem_cons.mpr ⟨lk_99, List.forall_mem_cons.mpr ⟨lk_110, List.forall_mem_cons.mpr ⟨lk_143, List.forall_mem_cons.mpr ⟨lk_111, List.forall_mem_cons.mpr ⟨lk_112, List.forall_mem_cons.mpr ⟨lk_107, List.forall_mem_cons.mpr ⟨lk_114, List.forall_mem_cons.mpr ⟨lk_115, List.forall_mem_cons.mpr ⟨lk_144, List.forall_mem_cons.mpr ⟨lk_109, List.forall_mem_cons.mpr ⟨lk_145, List.forall_mem_cons.mpr ⟨lk_243, fun _ h => absurd h List.not_mem_nil⟩⟩⟩⟩⟩⟩⟩⟩⟩⟩⟩⟩
theorem bX11_tired_ok : ∀ b ∈ bX11_tired, xbok RX11 cX11_tired b := xbF_ok (lk := lX11_tired) (ls := []) kX11_tired xno_sw (by decide +kernel)
set_option maxRecDepth 20000 in
theorem vX11_tired : xMok mX11_tired := ⟨⟨wc_4.1, xtc4 143 rfl rfl, wc_4.2.1, wc_4.2.2, by decide +kernel, by decide, rfl⟩, bX11_tired_ok⟩
def lX11_unlike : List xL := [(3, 1, 11, 6, 59), (3, 13, 265, 24, 264), (3, 13, 264, 24, 270)]
theorem kX11_unlike : ∀ q ∈ lX11_unlike, xLq RX11 q := List.forall_mem_cons.mpr ⟨lk_151, List.forall_mem_cons.mpr ⟨lk_208, List.forall_mem_cons.mpr ⟨lk_244, fun _ h => absurd h List.not_mem_nil⟩⟩⟩
theorem bX11_unlike_ok : ∀ b ∈ bX11_unlike, xbok RX11 cX11_unlike b := xbF_ok (lk := lX11_unlike) (ls := []) kX11_unlike xno_sw (by decide +kernel)
set_option maxRecDepth 20000 in
theorem vX11_unlike : xMok mX11_unlike := ⟨⟨wc_4.1, xtc5 88 rfl rfl, wc_4.2.1, wc_4.2.2, by decide +kernel, by decide, rfl⟩, bX11_unlike_ok⟩
def lX11_value : List xL := [(3, 1, 11, 0, 10), (3, 1, 9, 4, 38), (3, 1, 1, 5, 297), (3, 1, 1, 6, 300), (3, 1, 11, 7, 66), (3, 13, 308, 56, 303), (3, 13, 310, 56, 306)]
theorem kX11_value : ∀ q ∈ lX11_value, xLq RX11 q := List.forall_mem_cons.mpr ⟨lk_99, List.forall_mem_cons.mpr ⟨lk_110, List.forall_mem_cons.mpr ⟨lk_133, List.forall_mem_cons.mpr ⟨lk_134, List.forall_mem_cons.mpr ⟨lk_168, List.forall_mem_cons.mpr ⟨lk_214, List.forall_mem_cons.mpr ⟨lk_217, fun _ h => absurd h List.not_mem_nil⟩⟩⟩⟩⟩⟩⟩
theorem bX11_value_ok : ∀ b ∈ bX11_value, xbok RX11 cX11_value b := xbF_ok (lk := lX11_value) (ls := []) kX11_value xno_sw (by decide +kernel)
set_option maxRecDepth 20000 in
theorem vX11_value : xMok mX11_value := ⟨⟨wc_4.1, xtc5 162 rfl rfl, wc_4.2.1, wc_4.2.2, by decide +kernel, by decide, rfl⟩, bX11_value_ok⟩
def lX11_view : List xL := [(3, 1, 11, 0, 10), (3, 1, 9, 6, 186), (3, 14, 9, 7, 189), (3, 1, 11, 5, 52), (3, 13, 30, 80, 192)]
theorem kX11_view : ∀ q ∈ lX11_view, xLq RX11 q := List.forall_mem_cons.mpr ⟨lk_99, List.forall_mem_cons.mpr ⟨lk_124, List.forall_mem_cons.mpr ⟨lk_245, List.forall_mem_cons.mpr ⟨lk_141, List.forall_mem_cons.mpr ⟨lk_142, fun _ h => absurd h List.not_mem_nil⟩⟩⟩⟩⟩
theorem bX11_view_ok : ∀ b ∈ bX11_view, xbok RX11 cX11_view b := xbF_ok (lk := lX11_view) (ls := []) kX11_view xno_sw (by decide +kernel)
set_option maxRecDepth 20000 in
theorem vX11_view : xMok mX11_view := ⟨⟨wc_4.1, xtc4 186 rfl rfl, wc_4.2.1, wc_4.2.2, by decide +kernel, by decide, rfl⟩, bX11_view_ok⟩
def lX11_wet : List xL := [(3, 13, 70, 90, 238), (3, 1, 11, 0, 10), (3, 14, 9, 9, 273), (3, 1, 11, 6, 59), (3, 13, 260, 24, 276)]
theorem kX11_wet : ∀ q ∈ lX11_wet, xLq RX11 q := List.forall_mem_cons.mpr ⟨lk_97, List.forall_mem_cons.mpr ⟨lk_99, List.forall_mem_cons.mpr ⟨lk_246, List.forall_mem_cons.mpr ⟨lk_151, List.forall_mem_cons.mpr ⟨lk_167, fun _ h => absurd h List.not_mem_nil⟩⟩⟩⟩⟩
theorem bX11_wet_ok : ∀ b ∈ bX11_wet, xbok RX11 cX11_wet b := xbF_ok (lk := lX11_wet) (ls := []) kX11_wet xno_sw (by decide +kernel)
set_option maxRecDepth 20000 in
theorem vX11_wet : xMok mX11_wet := ⟨⟨wc_4.1, xtc5 97 rfl rfl, wc_4.2.1, wc_4.2.2, by decide +kernel, by decide, rfl⟩, bX11_wet_ok⟩
def lX11_worst : List xL := [(3, 1, 11, 0, 10), (3, 1, 9, 4, 38), (3, 1, 1, 0, 112), (3, 1, 5, 3, 151), (3, 13, 71, 90, 140), (3, 1, 11, 4, 45), (3, 13, 12, 0, 123), (3, 13, 24, 0, 157)]
theorem kX11_worst : ∀ q ∈ lX11_worst, xLq RX11 q := List.forall_mem_cons.mpr ⟨lk_99, List.forall_mem_cons.mpr ⟨lk_110, List.forall_mem_cons.mpr ⟨lk_111, List.forall_mem_cons.mpr ⟨lk_107, List.forall_mem_cons.mpr ⟨lk_113, List.forall_mem_cons.mpr ⟨lk_114, List.forall_mem_cons.mpr ⟨lk_115, List.forall_mem_cons.mpr ⟨lk_247, fun _ h => absurd h List.not_mem_nil⟩⟩⟩⟩⟩⟩⟩⟩
theorem bX11_worst_ok : ∀ b ∈ bX11_worst, xbok RX11 cX11_worst b := xbF_ok (lk := lX11_worst) (ls := []) kX11_worst xno_sw (by decide +kernel)
set_option maxRecDepth 20000 in
theorem vX11_worst : xMok mX11_worst := ⟨⟨wc_4.1, xtc4 112 rfl rfl, wc_4.2.1, wc_4.2.2, by decide +kernel, by decide, rfl⟩, bX11_worst_ok⟩
def lX12_aLayer : List xL := [(3, 13, 199, 96, 196), (3, 13, 211, 96, 200), (3, 1, 12, 10, 180), (3, 1, 12, 7, 151), (3, 1, 12, 9, 165), (3, 13, 140, 96, 183), (3, 13, 110, 96, 190)]
theorem kX12_aLayer : ∀ q ∈ lX12_aLayer, xLq RX12 q := List.forall_mem_cons.mpr ⟨lk_248, List.forall_mem_cons.mpr ⟨lk_249, List.forall_mem_cons.mpr ⟨lk_250, List.forall_mem_cons.mpr ⟨lk_251, List.forall_mem_cons.mpr ⟨lk_252, List.forall_mem_cons.mpr ⟨lk_253, List.forall_mem_cons.mpr ⟨lk_254, fun _ h => absurd h List.not_mem_nil⟩⟩⟩⟩⟩⟩⟩
theorem bX12_aLayer_ok : ∀ b ∈ bX12_aLayer, xbok RX12 cX12_aLayer b := xbF_ok (lk := lX12_aLayer) (ls := []) kX12_aLayer xno_sw (by decide +kernel)
theorem wc_5 : plainName RX12 = true ∧ Cond.initialized RX12 ∈ lw_gt ∧ (RX12 ≠ "java/lang/invoke/MethodHandle" ∧ RX12 ≠ "java/lang/invoke/VarHandle") := ⟨by decide +kernel, xtc1 13 rfl rfl, by decide +kernel, by decide +kernel⟩
set_option maxRecDepth 20000 in
theorem vX12_aLayer : xMok mX12_aLayer := ⟨⟨wc_5.1, xtc7 192 rfl rfl, wc_5.2.1, wc_5.2.2, by decide +kernel, by decide, rfl⟩, bX12_aLayer_ok⟩
def lX12_aLine : List xL := [(3, 1, 12, 9, 165), (3, 1, 12, 6, 148), (3, 1, 12, 10, 180), (3, 1, 12, 7, 151), (3, 13, 161, 98, 105), (3, 13, 140, 96, 183), (3, 1, 12, 11, 17), (3, 13, 194, 98, 193), (3, 13, 115, 96, 186), (3, 13, 110, 96, 190), (3, 13, 106, 96, 204), (3, 13, 199, 96, 196), (3, 13, 167, 96, 208), (3, 13, 211, 96, 200), (3, 1, 12, 13, 23), (3, 1, 12, 14, 212), (3, 14, 12, 14, 212)]
theorem kX12_aLine : ∀ q ∈ lX12_aLine, xLq RX12 q := List.forall_mem_cons.mpr ⟨lk_252, List.forall_mem_cons.mpr ⟨lk_255, List.forall_mem_cons.mpr ⟨lk_250, List.forall_mem_cons.mpr ⟨lk_251, List.forall_mem_cons.mpr ⟨lk_256, List.forall_mem_cons.mpr ⟨lk_253, List.forall_mem_cons.mpr ⟨lk_257, List.forall_mem_cons.mpr ⟨lk_258, List.forall_mem_cons.mpr ⟨lk_259, List.forall_mem_cons.mpr ⟨lk_254, List.forall_mem_cons.mpr ⟨lk_260, List.forall_mem_cons.mpr ⟨lk_248, List.forall_mem_cons.mpr ⟨lk_261, List.forall_mem_cons.mpr ⟨lk_249, List.forall_mem_cons.mpr ⟨lk_262, List.forall_mem_cons.mpr ⟨lk_263, List.forall_mem_cons.mpr ⟨lk_264, fun _ h => absurd h List.not_mem_nil⟩⟩⟩⟩⟩⟩⟩⟩⟩⟩⟩⟩⟩⟩⟩⟩⟩
theorem swX12_aLine_0 : xLs RX12 (69, 39, 33, 362, 0, 9) := ⟨_, rfl, 293, 0, 5, #[39, 47, 111, 152, 204, 257], [(0, 108), (1, 116), (2, 180), (3, 221), (4, 273), (5, 326)], rfl, rfl, by decide, by decide, by decide, by decide, rfl, by decide +kernel⟩
def sX12_aLine : List xI := [(69, 39, 33, 362, 0, 9)]
theorem zX12_aLine : ∀ e ∈ sX12_aLine, xLs RX12 e := List.forall_mem_cons.mpr ⟨swX12_aLine_0, fun _ h => absurd h List.not_mem_nil⟩
theorem bX12_aLine_ok : ∀ b ∈ bX12_aLine, xbok RX12 cX12_aLine b := xbF_ok (lk := lX12_aLine) (ls := sX12_aLine) kX12_aLine zX12_aLine (by decide +kernel)
set_option maxRecDepth 20000 in
theorem vX12_aLine : xMok mX12_aLine := ⟨⟨wc_5.1, xtc7 174 rfl rfl, wc_5.2.1, wc_5.2.2, by decide +kernel, by decide, rfl⟩, bX12_aLine_ok⟩
def lX12_aRule : List xL := [(3, 1, 12, 14, 212), (3, 1, 12, 6, 148), (3, 13, 115, 96, 186), (3, 13, 227, 96, 415), (3, 13, 109, 96, 421), (3, 1, 12, 46, 102), (3, 13, 214, 96, 424), (3, 13, 195, 96, 427), (3, 1, 12, 10, 180), (3, 1, 12, 7, 151), (3, 1, 12, 9, 165), (3, 13, 161, 98, 105), (3, 13, 140, 96, 183), (3, 13, 110, 96, 190), (3, 13, 198, 96, 418), (3, 14, 12, 14, 212)]
theorem kX12_aRule : ∀ q ∈ lX12_aRule, xLq RX12 q := List.forall_mem_cons.mpr ⟨lk_263, List.forall_mem_cons.mpr ⟨lk_255, List.forall_mem_cons.mpr ⟨lk_259, List.forall_mem_cons.mpr ⟨lk_265, List.forall_mem_cons.mpr ⟨lk_266, List.forall_mem_cons.mpr ⟨lk_267, List.forall_mem_cons.mpr ⟨lk_268, List.forall_mem_cons.mpr ⟨lk_269, List.forall_mem_cons.mpr ⟨lk_250, List.forall_mem_cons.mpr ⟨lk_251, List.forall_mem_cons.mpr ⟨lk_252, List.forall_mem_cons.mpr ⟨lk_256, List.forall_mem_cons.mpr ⟨lk_253, List.forall_mem_cons.mpr ⟨lk_254, List.forall_mem_cons.mpr ⟨lk_270, List.forall_mem_cons.mpr ⟨lk_264, fun _ h => absurd h List.not_mem_nil⟩⟩⟩⟩⟩⟩⟩⟩⟩⟩⟩⟩⟩⟩⟩⟩
theorem bX12_aRule_ok : ∀ b ∈ bX12_aRule, xbok RX12 cX12_aRule b := xbF_ok (lk := lX12_aRule) (ls := []) kX12_aRule xno_sw (by decide +kernel)
set_option maxRecDepth 20000 in
theorem vX12_aRule : xMok mX12_aRule := ⟨⟨wc_5.1, xtc9 111 rfl rfl, wc_5.2.1, wc_5.2.2, by decide +kernel, by decide, rfl⟩, bX12_aRule_ok⟩
def lX12_aTest : List xL := [(3, 1, 12, 46, 102), (3, 13, 227, 96, 415), (3, 1, 12, 9, 165), (3, 1, 12, 10, 180), (3, 1, 12, 7, 151), (3, 13, 161, 98, 105), (3, 13, 140, 96, 183), (3, 13, 110, 96, 190), (3, 1, 12, 3, 174), (3, 13, 198, 96, 418)]
theorem kX12_aTest : ∀ q ∈ lX12_aTest, xLq RX12 q := List.forall_mem_cons.mpr ⟨lk_267, List.forall_mem_cons.mpr ⟨lk_265, List.forall_mem_cons.mpr ⟨lk_252, List.forall_mem_cons.mpr ⟨lk_250, List.forall_mem_cons.mpr ⟨lk_251, List.forall_mem_cons.mpr ⟨lk_256, List.forall_mem_cons.mpr ⟨lk_253, List.forall_mem_cons.mpr ⟨lk_254, List.forall_mem_cons.mpr ⟨lk_271, List.forall_mem_cons.mpr ⟨lk_270, fun _ h => absurd h List.not_mem_nil⟩⟩⟩⟩⟩⟩⟩⟩⟩⟩
theorem bX12_aTest_ok : ∀ b ∈ bX12_aTest, xbok RX12 cX12_aTest b := xbF_ok (lk := lX12_aTest) (ls := []) kX12_aTest xno_sw (by decide +kernel)
set_option maxRecDepth 20000 in
theorem vX12_aTest : xMok mX12_aTest := ⟨⟨wc_5.1, xtc9 119 rfl rfl, wc_5.2.1, wc_5.2.2, by decide +kernel, by decide, rfl⟩, bX12_aTest_ok⟩
def lX12_advance : List xL := [(3, 1, 12, 5, 141), (3, 13, 125, 96, 144), (3, 14, 12, 5, 141), (3, 14, 12, 6, 148), (3, 14, 12, 7, 151), (3, 13, 166, 98, 154), (3, 1, 12, 6, 148), (3, 52, 32, 0, 113), (3, 52, 96, 0, 115), (3, 1, 12, 2, 137), (3, 13, 215, 98, 158), (3, 13, 238, 98, 162), (3, 14, 12, 9, 165), (3, 1, 12, 9, 165), (3, 13, 159, 98, 168), (3, 14, 12, 8, 171), (3, 1, 12, 8, 171), (3, 14, 12, 3, 174), (3, 13, 172, 96, 177)]
theorem kX12_advance : ∀ q ∈ lX12_advance, xLq RX12 q := List.forall_mem_cons.mpr ⟨lk_272, List.forall_mem_cons.mpr ⟨lk_273, List.forall_mem_cons.mpr ⟨lk_274, List.forall_mem_cons.mpr ⟨lk_275, List.forall_mem_cons.mpr ⟨lk_276, List.forall_mem_cons.mpr ⟨lk_277, List.forall_mem_cons.mpr ⟨lk_255, List.forall_mem_cons.mpr ⟨lk_278, List.forall_mem_cons.mpr ⟨lk_279, List.forall_mem_cons.mpr ⟨lk_280, List.forall_mem_cons.mpr ⟨lk_281, List.forall_mem_cons.mpr ⟨lk_282, List.forall_mem_cons.mpr ⟨lk_283, List.forall_mem_cons.mpr ⟨lk_252, List.forall_mem_cons.mpr ⟨lk_284, List.forall_mem_cons.mpr ⟨lk_285, List.forall_mem_cons.mpr ⟨lk_286, List.forall_mem_cons.mpr ⟨lk_287, List.forall_mem_cons.mpr ⟨lk_288, fun _ h => absurd h List.not_mem_nil⟩⟩⟩⟩⟩⟩⟩⟩⟩⟩⟩⟩⟩⟩⟩⟩⟩⟩⟩
theorem bX12_advance_ok : ∀ b ∈ bX12_advance, xbok RX12 cX12_advance b := xbF_ok (lk := lX12_advance) (ls := []) kX12_advance xno_sw (by decide +kernel)
set_option maxRecDepth 20000 in
theorem vX12_advance : xMok mX12_advance := ⟨⟨wc_5.1, xtc7 134 rfl rfl, wc_5.2.1, wc_5.2.2, by decide +kernel, by decide, rfl⟩, bX12_advance_ok⟩
def lX12_again : List xL := [(3, 13, 161, 98, 105), (3, 1, 12, 1, 13), (3, 1, 12, 0, 7)]
theorem kX12_again : ∀ q ∈ lX12_again, xLq RX12 q := List.forall_mem_cons.mpr ⟨lk_256, List.forall_mem_cons.mpr ⟨lk_289, List.forall_mem_cons.mpr ⟨lk_290, fun _ h => absurd h List.not_mem_nil⟩⟩⟩
theorem bX12_again_ok : ∀ b ∈ bX12_again, xbok RX12 cX12_again b := xbF_ok (lk := lX12_again) (ls := []) kX12_again xno_sw (by decide +kernel)
set_option maxRecDepth 20000 in
theorem vX12_again : xMok mX12_again := ⟨⟨wc_5.1, xtc9 167 rfl rfl, wc_5.2.1, wc_5.2.2, by decide +kernel, by decide, rfl⟩, bX12_again_ok⟩
def lX12_ages : List xL := [(3, 1, 12, 34, 72), (3, 1, 12, 0, 7)]
theorem kX12_ages : ∀ q ∈ lX12_ages, xLq RX12 q := List.forall_mem_cons.mpr ⟨lk_291, List.forall_mem_cons.mpr ⟨lk_290, fun _ h => absurd h List.not_mem_nil⟩⟩
theorem bX12_ages_ok : ∀ b ∈ bX12_ages, xbok RX12 cX12_ages b := xbF_ok (lk := lX12_ages) (ls := []) kX12_ages xno_sw (by decide +kernel)
set_option maxRecDepth 20000 in
theorem vX12_ages : xMok mX12_ages := ⟨⟨wc_5.1, xtc8 156 rfl rfl, wc_5.2.1, wc_5.2.2, by decide +kernel, by decide, rfl⟩, bX12_ages_ok⟩
def lX12_allRows : List xL := [(3, 1, 12, 0, 7)]
theorem kX12_allRows : ∀ q ∈ lX12_allRows, xLq RX12 q := List.forall_mem_cons.mpr ⟨lk_290, fun _ h => absurd h List.not_mem_nil⟩
theorem bX12_allRows_ok : ∀ b ∈ bX12_allRows, xbok RX12 cX12_allRows b := xbF_ok (lk := lX12_allRows) (ls := []) kX12_allRows xno_sw (by decide +kernel)
set_option maxRecDepth 20000 in
theorem vX12_allRows : xMok mX12_allRows := ⟨⟨wc_5.1, xtc8 96 rfl rfl, wc_5.2.1, wc_5.2.2, by decide +kernel, by decide, rfl⟩, bX12_allRows_ok⟩
def lX12_allTests : List xL := [(3, 1, 12, 0, 7)]
theorem kX12_allTests : ∀ q ∈ lX12_allTests, xLq RX12 q := List.forall_mem_cons.mpr ⟨lk_290, fun _ h => absurd h List.not_mem_nil⟩
theorem bX12_allTests_ok : ∀ b ∈ bX12_allTests, xbok RX12 cX12_allTests b := xbF_ok (lk := lX12_allTests) (ls := []) kX12_allTests xno_sw (by decide +kernel)
set_option maxRecDepth 20000 in
theorem vX12_allTests : xMok mX12_allTests := ⟨⟨wc_5.1, xtc9 83 rfl rfl, wc_5.2.1, wc_5.2.2, by decide +kernel, by decide, rfl⟩, bX12_allTests_ok⟩
def lX12_also : List xL := [(3, 1, 12, 10, 180), (3, 1, 12, 0, 7)]
theorem kX12_also : ∀ q ∈ lX12_also, xLq RX12 q := List.forall_mem_cons.mpr ⟨lk_250, List.forall_mem_cons.mpr ⟨lk_290, fun _ h => absurd h List.not_mem_nil⟩⟩
theorem bX12_also_ok : ∀ b ∈ bX12_also, xbok RX12 cX12_also b := xbF_ok (lk := lX12_also) (ls := []) kX12_also xno_sw (by decide +kernel)
set_option maxRecDepth 20000 in
theorem vX12_also : xMok mX12_also := ⟨⟨wc_5.1, xtc7 188 rfl rfl, wc_5.2.1, wc_5.2.2, by decide +kernel, by decide, rfl⟩, bX12_also_ok⟩
def lX12_asTold : List xL := [(3, 13, 155, 96, 235), (3, 13, 122, 96, 238)]
theorem kX12_asTold : ∀ q ∈ lX12_asTold, xLq RX12 q := List.forall_mem_cons.mpr ⟨lk_292, List.forall_mem_cons.mpr ⟨lk_293, fun _ h => absurd h List.not_mem_nil⟩⟩
theorem bX12_asTold_ok : ∀ b ∈ bX12_asTold, xbok RX12 cX12_asTold b := xbF_ok (lk := lX12_asTold) (ls := []) kX12_asTold xno_sw (by decide +kernel)
set_option maxRecDepth 20000 in
theorem vX12_asTold : xMok mX12_asTold := ⟨⟨wc_5.1, xtc7 220 rfl rfl, wc_5.2.1, wc_5.2.2, by decide +kernel, by decide, rfl⟩, bX12_asTold_ok⟩
def lX12_asked : List xL := [(3, 13, 222, 96, 433), (3, 13, 130, 96, 376), (3, 1, 12, 0, 7), (3, 13, 184, 96, 436), (3, 13, 193, 96, 439), (3, 13, 137, 96, 442), (3, 13, 233, 96, 445), (3, 13, 190, 96, 409)]
theorem kX12_asked : ∀ q ∈ lX12_asked, xLq RX12 q := List.forall_mem_cons.mpr ⟨lk_294, List.forall_mem_cons.mpr ⟨lk_295, List.forall_mem_cons.mpr ⟨lk_290, List.forall_mem_cons.mpr ⟨lk_296, List.forall_mem_cons.mpr ⟨lk_297, List.forall_mem_cons.mpr ⟨lk_298, List.forall_mem_cons.mpr ⟨lk_299, List.forall_mem_cons.mpr ⟨lk_300, fun _ h => absurd h List.not_mem_nil⟩⟩⟩⟩⟩⟩⟩⟩
theorem swX12_asked_0 : xLs RX12 (1, 55, 33, 162, 0, 10) := ⟨_, rfl, 161, 20, 29, #[55, 60, 73, 80, 98, 105, 110, 115, 151, 156], [(20, 56), (21, 61), (22, 74), (23, 81), (24, 99), (25, 106), (26, 111), (27, 116), (28, 152), (29, 157)], rfl, rfl, by decide, by decide, by decide, by decide, rfl, by decide +kernel⟩
def sX12_asked : List xI := [(1, 55, 33, 162, 0, 10)]
theorem zX12_asked : ∀ e ∈ sX12_asked, xLs RX12 e := List.forall_mem_cons.mpr ⟨swX12_asked_0, fun _ h => absurd h List.not_mem_nil⟩
theorem bX12_asked_ok : ∀ b ∈ bX12_asked, xbok RX12 cX12_asked b := xbF_ok (lk := lX12_asked) (ls := sX12_asked) kX12_asked zX12_asked (by decide +kernel)
set_option maxRecDepth 20000 in
theorem vX12_asked : xMok mX12_asked := ⟨⟨wc_5.1, xtc9 143 rfl rfl, wc_5.2.1, wc_5.2.2, by decide +kernel, by decide, rfl⟩, bX12_asked_ok⟩
def lX12_at : List xL := []
theorem kX12_at : ∀ q ∈ lX12_at, xLq RX12 q := fun _ h => absurd h List.not_mem_nil
theorem bX12_at_ok : ∀ b ∈ bX12_at, xbok RX12 cX12_at b := xbF_ok (lk := lX12_at) (ls := []) kX12_at xno_sw (by decide +kernel)
set_option maxRecDepth 20000 in
theorem vX12_at : xMok mX12_at := ⟨⟨wc_5.1, xtc8 207 rfl rfl, wc_5.2.1, wc_5.2.2, by decide +kernel, by decide, rfl⟩, bX12_at_ok⟩
def lX12_barred : List xL := [(3, 1, 12, 0, 7), (3, 13, 152, 96, 450)]
theorem kX12_barred : ∀ q ∈ lX12_barred, xLq RX12 q := List.forall_mem_cons.mpr ⟨lk_290, List.forall_mem_cons.mpr ⟨lk_301, fun _ h => absurd h List.not_mem_nil⟩⟩
theorem bX12_barred_ok : ∀ b ∈ bX12_barred, xbok RX12 cX12_barred b := xbF_ok (lk := lX12_barred) (ls := []) kX12_barred xno_sw (by decide +kernel)
set_option maxRecDepth 20000 in
theorem vX12_barred : xMok mX12_barred := ⟨⟨wc_5.1, xtc9 135 rfl rfl, wc_5.2.1, wc_5.2.2, by decide +kernel, by decide, rfl⟩, bX12_barred_ok⟩
def lX12_bears : List xL := [(3, 13, 168, 96, 241), (3, 13, 171, 96, 247), (3, 13, 116, 96, 244), (3, 52, 1000, 0, 231), (3, 1, 12, 21, 45), (3, 13, 221, 98, 227), (3, 13, 181, 96, 222), (3, 1, 12, 20, 42)]
theorem kX12_bears : ∀ q ∈ lX12_bears, xLq RX12 q := List.forall_mem_cons.mpr ⟨lk_302, List.forall_mem_cons.mpr ⟨lk_303, List.forall_mem_cons.mpr ⟨lk_304, List.forall_mem_cons.mpr ⟨lk_305, List.forall_mem_cons.mpr ⟨lk_306, List.forall_mem_cons.mpr ⟨lk_307, List.forall_mem_cons.mpr ⟨lk_308, List.forall_mem_cons.mpr ⟨lk_309, fun _ h => absurd h List.not_mem_nil⟩⟩⟩⟩⟩⟩⟩⟩
theorem bX12_bears_ok : ∀ b ∈ bX12_bears, xbok RX12 cX12_bears b := xbF_ok (lk := lX12_bears) (ls := []) kX12_bears xno_sw (by decide +kernel)
set_option maxRecDepth 20000 in
theorem vX12_bears : xMok mX12_bears := ⟨⟨wc_5.1, xtc8 15 rfl rfl, wc_5.2.1, wc_5.2.2, by decide +kernel, by decide, rfl⟩, bX12_bears_ok⟩
def lX12_begins : List xL := [(3, 59, 12, 2, 137), (3, 1, 12, 0, 7), (3, 14, 12, 4, 109), (3, 14, 12, 5, 141), (3, 59, 12, 10, 180), (3, 14, 12, 14, 212)]
theorem kX12_begins : ∀ q ∈ lX12_begins, xLq RX12 q := List.forall_mem_cons.mpr ⟨lk_310, List.forall_mem_cons.mpr ⟨lk_290, List.forall_mem_cons.mpr ⟨lk_311, List.forall_mem_cons.mpr ⟨lk_274, List.forall_mem_cons.mpr ⟨lk_312, List.forall_mem_cons.mpr ⟨lk_264, fun _ h => absurd h List.not_mem_nil⟩⟩⟩⟩⟩⟩
theorem bX12_begins_ok : ∀ b ∈ bX12_begins, xbok RX12 cX12_begins b := xbF_ok (lk := lX12_begins) (ls := []) kX12_begins xno_sw (by decide +kernel)
set_option maxRecDepth 20000 in
theorem vX12_begins : xMok mX12_begins := ⟨⟨wc_5.1, xtc7 130 rfl rfl, wc_5.2.1, wc_5.2.2, by decide +kernel, by decide, rfl⟩, bX12_begins_ok⟩
def lX12_blocks : List xL := [(3, 1, 12, 0, 7), (3, 1, 12, 18, 35), (3, 1, 12, 17, 32), (3, 13, 181, 96, 222), (3, 1, 12, 19, 38), (3, 1, 12, 20, 42), (3, 52, 2, 0, 225), (3, 1, 12, 21, 45), (3, 13, 221, 98, 227)]
theorem kX12_blocks : ∀ q ∈ lX12_blocks, xLq RX12 q := List.forall_mem_cons.mpr ⟨lk_290, List.forall_mem_cons.mpr ⟨lk_313, List.forall_mem_cons.mpr ⟨lk_314, List.forall_mem_cons.mpr ⟨lk_308, List.forall_mem_cons.mpr ⟨lk_315, List.forall_mem_cons.mpr ⟨lk_309, List.forall_mem_cons.mpr ⟨lk_316, List.forall_mem_cons.mpr ⟨lk_306, List.forall_mem_cons.mpr ⟨lk_307, fun _ h => absurd h List.not_mem_nil⟩⟩⟩⟩⟩⟩⟩⟩⟩
theorem bX12_blocks_ok : ∀ b ∈ bX12_blocks, xbok RX12 cX12_blocks b := xbF_ok (lk := lX12_blocks) (ls := []) kX12_blocks xno_sw (by decide +kernel)
set_option maxRecDepth 20000 in
theorem vX12_blocks : xMok mX12_blocks := ⟨⟨wc_5.1, xtc7 228 rfl rfl, wc_5.2.1, wc_5.2.2, by decide +kernel, by decide, rfl⟩, bX12_blocks_ok⟩
def lX12_breaks : List xL := [(3, 1, 12, 0, 7), (3, 13, 231, 96, 273), (3, 13, 188, 96, 270), (3, 1, 12, 22, 267), (3, 1, 12, 23, 263), (3, 52, 365, 0, 385), (3, 71, 12, 22, 267)]
theorem kX12_breaks : ∀ q ∈ lX12_breaks, xLq RX12 q := List.forall_mem_cons.mpr ⟨lk_290, List.forall_mem_cons.mpr ⟨lk_317, List.forall_mem_cons.mpr ⟨lk_318, List.forall_mem_cons.mpr ⟨lk_319, List.forall_mem_cons.mpr ⟨lk_320, List.forall_mem_cons.mpr ⟨lk_321, List.forall_mem_cons.mpr ⟨lk_322, fun _ h => absurd h List.not_mem_nil⟩⟩⟩⟩⟩⟩⟩
theorem bX12_breaks_ok : ∀ b ∈ bX12_breaks, xbok RX12 cX12_breaks b := xbF_ok (lk := lX12_breaks) (ls := []) kX12_breaks xno_sw (by decide +kernel)
set_option maxRecDepth 20000 in
theorem vX12_breaks : xMok mX12_breaks := ⟨⟨wc_5.1, xtc9 30 rfl rfl, wc_5.2.1, wc_5.2.2, by decide +kernel, by decide, rfl⟩, bX12_breaks_ok⟩
def lX12_broken : List xL := [(3, 13, 168, 96, 241), (3, 13, 161, 98, 105), (3, 13, 116, 96, 244), (3, 13, 123, 96, 387)]
theorem kX12_broken : ∀ q ∈ lX12_broken, xLq RX12 q := List.forall_mem_cons.mpr ⟨lk_302, List.forall_mem_cons.mpr ⟨lk_256, List.forall_mem_cons.mpr ⟨lk_304, List.forall_mem_cons.mpr ⟨lk_323, fun _ h => absurd h List.not_mem_nil⟩⟩⟩⟩
theorem bX12_broken_ok : ∀ b ∈ bX12_broken, xbok RX12 cX12_broken b := xbF_ok (lk := lX12_broken) (ls := []) kX12_broken xno_sw (by decide +kernel)
set_option maxRecDepth 20000 in
theorem vX12_broken : xMok mX12_broken := ⟨⟨wc_5.1, xtc9 26 rfl rfl, wc_5.2.1, wc_5.2.2, by decide +kernel, by decide, rfl⟩, bX12_broken_ok⟩
def lX12_byteAt : List xL := [(3, 1, 12, 4, 109), (3, 1, 12, 0, 7)]
theorem kX12_byteAt : ∀ q ∈ lX12_byteAt, xLq RX12 q := List.forall_mem_cons.mpr ⟨lk_324, List.forall_mem_cons.mpr ⟨lk_290, fun _ h => absurd h List.not_mem_nil⟩⟩
theorem bX12_byteAt_ok : ∀ b ∈ bX12_byteAt, xbok RX12 cX12_byteAt b := xbF_ok (lk := lX12_byteAt) (ls := []) kX12_byteAt xno_sw (by decide +kernel)
set_option maxRecDepth 20000 in
theorem vX12_byteAt : xMok mX12_byteAt := ⟨⟨wc_5.1, xtc7 138 rfl rfl, wc_5.2.1, wc_5.2.2, by decide +kernel, by decide, rfl⟩, bX12_byteAt_ok⟩
def lX12_cost : List xL := [(3, 13, 168, 96, 241), (3, 13, 161, 98, 105), (3, 1, 12, 0, 7)]
theorem kX12_cost : ∀ q ∈ lX12_cost, xLq RX12 q := List.forall_mem_cons.mpr ⟨lk_302, List.forall_mem_cons.mpr ⟨lk_256, List.forall_mem_cons.mpr ⟨lk_290, fun _ h => absurd h List.not_mem_nil⟩⟩⟩
theorem bX12_cost_ok : ∀ b ∈ bX12_cost, xbok RX12 cX12_cost b := xbF_ok (lk := lX12_cost) (ls := []) kX12_cost xno_sw (by decide +kernel)
set_option maxRecDepth 20000 in
theorem vX12_cost : xMok mX12_cost := ⟨⟨wc_5.1, xtc9 3 rfl rfl, wc_5.2.1, wc_5.2.2, by decide +kernel, by decide, rfl⟩, bX12_cost_ok⟩
def lX12_count : List xL := [(3, 1, 12, 0, 7), (3, 13, 130, 96, 376), (3, 13, 161, 98, 105)]
theorem kX12_count : ∀ q ∈ lX12_count, xLq RX12 q := List.forall_mem_cons.mpr ⟨lk_290, List.forall_mem_cons.mpr ⟨lk_295, List.forall_mem_cons.mpr ⟨lk_256, fun _ h => absurd h List.not_mem_nil⟩⟩⟩
theorem swX12_count_0 : xLs RX12 (1, 31, 33, 64, 0, 11) := ⟨_, rfl, 63, 15, 18, #[31, 40, 49, 58], [(15, 32), (16, 41), (17, 50), (18, 59)], rfl, rfl, by decide, by decide, by decide, by decide, rfl, by decide +kernel⟩
def sX12_count : List xI := [(1, 31, 33, 64, 0, 11)]
theorem zX12_count : ∀ e ∈ sX12_count, xLs RX12 e := List.forall_mem_cons.mpr ⟨swX12_count_0, fun _ h => absurd h List.not_mem_nil⟩
theorem bX12_count_ok : ∀ b ∈ bX12_count, xbok RX12 cX12_count b := xbF_ok (lk := lX12_count) (ls := sX12_count) kX12_count zX12_count (by decide +kernel)
set_option maxRecDepth 20000 in
theorem vX12_count : xMok mX12_count := ⟨⟨wc_5.1, xtc9 159 rfl rfl, wc_5.2.1, wc_5.2.2, by decide +kernel, by decide, rfl⟩, bX12_count_ok⟩
def lX12_crack : List xL := [(3, 1, 12, 0, 7), (3, 13, 173, 96, 279), (3, 13, 157, 96, 283)]
theorem kX12_crack : ∀ q ∈ lX12_crack, xLq RX12 q := List.forall_mem_cons.mpr ⟨lk_290, List.forall_mem_cons.mpr ⟨lk_325, List.forall_mem_cons.mpr ⟨lk_326, fun _ h => absurd h List.not_mem_nil⟩⟩⟩
theorem bX12_crack_ok : ∀ b ∈ bX12_crack, xbok RX12 cX12_crack b := xbF_ok (lk := lX12_crack) (ls := []) kX12_crack xno_sw (by decide +kernel)
set_option maxRecDepth 20000 in
theorem vX12_crack : xMok mX12_crack := ⟨⟨wc_5.1, xtc8 68 rfl rfl, wc_5.2.1, wc_5.2.2, by decide +kernel, by decide, rfl⟩, bX12_crack_ok⟩
def lX12_cracks : List xL := [(3, 13, 168, 96, 241), (3, 13, 116, 96, 244), (3, 1, 12, 0, 7), (3, 13, 231, 96, 273), (3, 1, 12, 22, 267), (3, 1, 12, 23, 263)]
theorem kX12_cracks : ∀ q ∈ lX12_cracks, xLq RX12 q := List.forall_mem_cons.mpr ⟨lk_302, List.forall_mem_cons.mpr ⟨lk_304, List.forall_mem_cons.mpr ⟨lk_290, List.forall_mem_cons.mpr ⟨lk_317, List.forall_mem_cons.mpr ⟨lk_319, List.forall_mem_cons.mpr ⟨lk_320, fun _ h => absurd h List.not_mem_nil⟩⟩⟩⟩⟩⟩
theorem bX12_cracks_ok : ∀ b ∈ bX12_cracks, xbok RX12 cX12_cracks b := xbF_ok (lk := lX12_cracks) (ls := []) kX12_cracks xno_sw (by decide +kernel)
set_option maxRecDepth 20000 in
theorem vX12_cracks : xMok mX12_cracks := ⟨⟨wc_5.1, xtc8 56 rfl rfl, wc_5.2.1, wc_5.2.2, by decide +kernel, by decide, rfl⟩, bX12_cracks_ok⟩
def lX12_cracksSeen : List xL := [(3, 1, 12, 0, 7)]
theorem kX12_cracksSeen : ∀ q ∈ lX12_cracksSeen, xLq RX12 q := List.forall_mem_cons.mpr ⟨lk_290, fun _ h => absurd h List.not_mem_nil⟩
theorem bX12_cracksSeen_ok : ∀ b ∈ bX12_cracksSeen, xbok RX12 cX12_cracksSeen b := xbF_ok (lk := lX12_cracksSeen) (ls := []) kX12_cracksSeen xno_sw (by decide +kernel)
set_option maxRecDepth 20000 in
theorem vX12_cracksSeen : xMok mX12_cracksSeen := ⟨⟨wc_5.1, xtc9 11 rfl rfl, wc_5.2.1, wc_5.2.2, by decide +kernel, by decide, rfl⟩, bX12_cracksSeen_ok⟩
def lX12_cut : List xL := [(3, 13, 161, 98, 105), (3, 13, 132, 96, 317), (3, 13, 162, 96, 320)]
theorem kX12_cut : ∀ q ∈ lX12_cut, xLq RX12 q := List.forall_mem_cons.mpr ⟨lk_256, List.forall_mem_cons.mpr ⟨lk_327, List.forall_mem_cons.mpr ⟨lk_328, fun _ h => absurd h List.not_mem_nil⟩⟩⟩
theorem bX12_cut_ok : ∀ b ∈ bX12_cut, xbok RX12 cX12_cut b := xbF_ok (lk := lX12_cut) (ls := []) kX12_cut xno_sw (by decide +kernel)
set_option maxRecDepth 20000 in
theorem vX12_cut : xMok mX12_cut := ⟨⟨wc_5.1, xtc8 124 rfl rfl, wc_5.2.1, wc_5.2.2, by decide +kernel, by decide, rfl⟩, bX12_cut_ok⟩
def lX12_cuts : List xL := [(3, 13, 189, 96, 302), (3, 13, 113, 96, 305), (3, 13, 147, 96, 308), (3, 13, 224, 96, 296)]
theorem kX12_cuts : ∀ q ∈ lX12_cuts, xLq RX12 q := List.forall_mem_cons.mpr ⟨lk_329, List.forall_mem_cons.mpr ⟨lk_330, List.forall_mem_cons.mpr ⟨lk_331, List.forall_mem_cons.mpr ⟨lk_332, fun _ h => absurd h List.not_mem_nil⟩⟩⟩⟩
theorem bX12_cuts_ok : ∀ b ∈ bX12_cuts, xbok RX12 cX12_cuts b := xbF_ok (lk := lX12_cuts) (ls := []) kX12_cuts xno_sw (by decide +kernel)
set_option maxRecDepth 20000 in
theorem vX12_cuts : xMok mX12_cuts := ⟨⟨wc_5.1, xtc8 128 rfl rfl, wc_5.2.1, wc_5.2.2, by decide +kernel, by decide, rfl⟩, bX12_cuts_ok⟩
def lX12_damp : List xL := [(3, 13, 169, 96, 323), (3, 13, 134, 96, 335), (3, 1, 12, 35, 75)]
theorem kX12_damp : ∀ q ∈ lX12_damp, xLq RX12 q := List.forall_mem_cons.mpr ⟨lk_333, List.forall_mem_cons.mpr ⟨lk_334, List.forall_mem_cons.mpr ⟨lk_335, fun _ h => absurd h List.not_mem_nil⟩⟩⟩
theorem bX12_damp_ok : ∀ b ∈ bX12_damp, xbok RX12 cX12_damp b := xbF_ok (lk := lX12_damp) (ls := []) kX12_damp xno_sw (by decide +kernel)
set_option maxRecDepth 20000 in
theorem vX12_damp : xMok mX12_damp := ⟨⟨wc_5.1, xtc8 172 rfl rfl, wc_5.2.1, wc_5.2.2, by decide +kernel, by decide, rfl⟩, bX12_damp_ok⟩
def lX12_damps : List xL := [(3, 1, 12, 35, 75), (3, 1, 12, 0, 7), (3, 1, 12, 36, 78), (3, 13, 169, 96, 323), (3, 13, 237, 96, 332)]
theorem kX12_damps : ∀ q ∈ lX12_damps, xLq RX12 q := List.forall_mem_cons.mpr ⟨lk_335, List.forall_mem_cons.mpr ⟨lk_290, List.forall_mem_cons.mpr ⟨lk_336, List.forall_mem_cons.mpr ⟨lk_333, List.forall_mem_cons.mpr ⟨lk_337, fun _ h => absurd h List.not_mem_nil⟩⟩⟩⟩⟩
theorem bX12_damps_ok : ∀ b ∈ bX12_damps, xbok RX12 cX12_damps b := xbF_ok (lk := lX12_damps) (ls := []) kX12_damps xno_sw (by decide +kernel)
set_option maxRecDepth 20000 in
theorem vX12_damps : xMok mX12_damps := ⟨⟨wc_5.1, xtc8 176 rfl rfl, wc_5.2.1, wc_5.2.2, by decide +kernel, by decide, rfl⟩, bX12_damps_ok⟩
def lX12_dark : List xL := [(3, 13, 169, 96, 323), (3, 13, 136, 96, 338), (3, 13, 158, 96, 341)]
theorem kX12_dark : ∀ q ∈ lX12_dark, xLq RX12 q := List.forall_mem_cons.mpr ⟨lk_333, List.forall_mem_cons.mpr ⟨lk_338, List.forall_mem_cons.mpr ⟨lk_339, fun _ h => absurd h List.not_mem_nil⟩⟩⟩
theorem bX12_dark_ok : ∀ b ∈ bX12_dark, xbok RX12 cX12_dark b := xbF_ok (lk := lX12_dark) (ls := []) kX12_dark xno_sw (by decide +kernel)
set_option maxRecDepth 20000 in
theorem vX12_dark : xMok mX12_dark := ⟨⟨wc_5.1, xtc8 184 rfl rfl, wc_5.2.1, wc_5.2.2, by decide +kernel, by decide, rfl⟩, bX12_dark_ok⟩
def lX12_darkens : List xL := [(3, 13, 112, 96, 326), (3, 13, 134, 96, 335), (3, 13, 143, 96, 311)]
theorem kX12_darkens : ∀ q ∈ lX12_darkens, xLq RX12 q := List.forall_mem_cons.mpr ⟨lk_340, List.forall_mem_cons.mpr ⟨lk_334, List.forall_mem_cons.mpr ⟨lk_341, fun _ h => absurd h List.not_mem_nil⟩⟩⟩
theorem bX12_darkens_ok : ∀ b ∈ bX12_darkens, xbok RX12 cX12_darkens b := xbF_ok (lk := lX12_darkens) (ls := []) kX12_darkens xno_sw (by decide +kernel)
set_option maxRecDepth 20000 in
theorem vX12_darkens : xMok mX12_darkens := ⟨⟨wc_5.1, xtc8 188 rfl rfl, wc_5.2.1, wc_5.2.2, by decide +kernel, by decide, rfl⟩, bX12_darkens_ok⟩
def lX12_darks : List xL := [(3, 13, 136, 96, 338), (3, 13, 169, 96, 323), (3, 13, 158, 96, 341)]
theorem kX12_darks : ∀ q ∈ lX12_darks, xLq RX12 q := List.forall_mem_cons.mpr ⟨lk_338, List.forall_mem_cons.mpr ⟨lk_333, List.forall_mem_cons.mpr ⟨lk_339, fun _ h => absurd h List.not_mem_nil⟩⟩⟩
theorem bX12_darks_ok : ∀ b ∈ bX12_darks, xbok RX12 cX12_darks b := xbF_ok (lk := lX12_darks) (ls := []) kX12_darks xno_sw (by decide +kernel)
set_option maxRecDepth 20000 in
theorem vX12_darks : xMok mX12_darks := ⟨⟨wc_5.1, xtc8 196 rfl rfl, wc_5.2.1, wc_5.2.2, by decide +kernel, by decide, rfl⟩, bX12_darks_ok⟩
def lX12_day : List xL := [(3, 1, 12, 0, 7), (3, 13, 161, 98, 105)]
theorem kX12_day : ∀ q ∈ lX12_day, xLq RX12 q := List.forall_mem_cons.mpr ⟨lk_290, List.forall_mem_cons.mpr ⟨lk_256, fun _ h => absurd h List.not_mem_nil⟩⟩
theorem bX12_day_ok : ∀ b ∈ bX12_day, xbok RX12 cX12_day b := xbF_ok (lk := lX12_day) (ls := []) kX12_day xno_sw (by decide +kernel)
set_option maxRecDepth 20000 in
theorem vX12_day : xMok mX12_day := ⟨⟨wc_5.1, xtc8 60 rfl rfl, wc_5.2.1, wc_5.2.2, by decide +kernel, by decide, rfl⟩, bX12_day_ok⟩
def lX12_end : List xL := [(3, 1, 12, 0, 7)]
theorem kX12_end : ∀ q ∈ lX12_end, xLq RX12 q := List.forall_mem_cons.mpr ⟨lk_290, fun _ h => absurd h List.not_mem_nil⟩
theorem bX12_end_ok : ∀ b ∈ bX12_end, xbok RX12 cX12_end b := xbF_ok (lk := lX12_end) (ls := []) kX12_end xno_sw (by decide +kernel)
set_option maxRecDepth 20000 in
theorem vX12_end : xMok mX12_end := ⟨⟨wc_5.1, xtc7 122 rfl rfl, wc_5.2.1, wc_5.2.2, by decide +kernel, by decide, rfl⟩, bX12_end_ok⟩
def lX12_ends : List xL := [(3, 1, 12, 10, 180), (3, 59, 12, 10, 180), (3, 1, 12, 0, 7), (3, 1, 12, 6, 148)]
theorem kX12_ends : ∀ q ∈ lX12_ends, xLq RX12 q := List.forall_mem_cons.mpr ⟨lk_250, List.forall_mem_cons.mpr ⟨lk_312, List.forall_mem_cons.mpr ⟨lk_290, List.forall_mem_cons.mpr ⟨lk_255, fun _ h => absurd h List.not_mem_nil⟩⟩⟩⟩
theorem bX12_ends_ok : ∀ b ∈ bX12_ends, xbok RX12 cX12_ends b := xbF_ok (lk := lX12_ends) (ls := []) kX12_ends xno_sw (by decide +kernel)
set_option maxRecDepth 20000 in
theorem vX12_ends : xMok mX12_ends := ⟨⟨wc_5.1, xtc7 181 rfl rfl, wc_5.2.1, wc_5.2.2, by decide +kernel, by decide, rfl⟩, bX12_ends_ok⟩
def lX12_fault : List xL := [(3, 1, 12, 0, 7)]
theorem kX12_fault : ∀ q ∈ lX12_fault, xLq RX12 q := List.forall_mem_cons.mpr ⟨lk_290, fun _ h => absurd h List.not_mem_nil⟩
theorem bX12_fault_ok : ∀ b ∈ bX12_fault, xbok RX12 cX12_fault b := xbF_ok (lk := lX12_fault) (ls := []) kX12_fault xno_sw (by decide +kernel)
set_option maxRecDepth 20000 in
theorem vX12_fault : xMok mX12_fault := ⟨⟨wc_5.1, xtc7 208 rfl rfl, wc_5.2.1, wc_5.2.2, by decide +kernel, by decide, rfl⟩, bX12_fault_ok⟩
def lX12_fed : List xL := [(3, 13, 168, 96, 241), (3, 13, 143, 96, 311)]
theorem kX12_fed : ∀ q ∈ lX12_fed, xLq RX12 q := List.forall_mem_cons.mpr ⟨lk_302, List.forall_mem_cons.mpr ⟨lk_341, fun _ h => absurd h List.not_mem_nil⟩⟩
theorem bX12_fed_ok : ∀ b ∈ bX12_fed, xbok RX12 cX12_fed b := xbF_ok (lk := lX12_fed) (ls := []) kX12_fed xno_sw (by decide +kernel)
set_option maxRecDepth 20000 in
theorem vX12_fed : xMok mX12_fed := ⟨⟨wc_5.1, xtc8 116 rfl rfl, wc_5.2.1, wc_5.2.2, by decide +kernel, by decide, rfl⟩, bX12_fed_ok⟩
def lX12_fedRows : List xL := [(3, 13, 189, 96, 302), (3, 1, 12, 0, 7), (3, 13, 147, 96, 308)]
theorem kX12_fedRows : ∀ q ∈ lX12_fedRows, xLq RX12 q := List.forall_mem_cons.mpr ⟨lk_329, List.forall_mem_cons.mpr ⟨lk_290, List.forall_mem_cons.mpr ⟨lk_331, fun _ h => absurd h List.not_mem_nil⟩⟩⟩
theorem bX12_fedRows_ok : ∀ b ∈ bX12_fedRows, xbok RX12 cX12_fedRows b := xbF_ok (lk := lX12_fedRows) (ls := []) kX12_fedRows xno_sw (by decide +kernel)
set_option maxRecDepth 20000 in
theorem vX12_fedRows : xMok mX12_fedRows := ⟨⟨wc_5.1, xtc8 120 rfl rfl, wc_5.2.1, wc_5.2.2, by decide +kernel, by decide, rfl⟩, bX12_fedRows_ok⟩
def lX12_feed : List xL := [(3, 1, 12, 0, 7)]
theorem kX12_feed : ∀ q ∈ lX12_feed, xLq RX12 q := List.forall_mem_cons.mpr ⟨lk_290, fun _ h => absurd h List.not_mem_nil⟩
theorem bX12_feed_ok : ∀ b ∈ bX12_feed, xbok RX12 cX12_feed b := xbF_ok (lk := lX12_feed) (ls := []) kX12_feed xno_sw (by decide +kernel)
set_option maxRecDepth 20000 in
theorem vX12_feed : xMok mX12_feed := ⟨⟨wc_5.1, xtc7 118 rfl rfl, wc_5.2.1, wc_5.2.2, by decide +kernel, by decide, rfl⟩, bX12_feed_ok⟩
def lX12_film : List xL := [(3, 13, 121, 96, 215), (3, 1, 12, 11, 17), (3, 1, 12, 12, 20), (3, 13, 110, 96, 190), (3, 1, 12, 10, 180), (3, 1, 12, 7, 151), (3, 13, 107, 96, 219), (3, 1, 12, 0, 7), (3, 1, 12, 13, 23), (3, 13, 115, 96, 186), (3, 1, 12, 14, 212)]
theorem kX12_film : ∀ q ∈ lX12_film, xLq RX12 q := List.forall_mem_cons.mpr ⟨lk_342, List.forall_mem_cons.mpr ⟨lk_257, List.forall_mem_cons.mpr ⟨lk_343, List.forall_mem_cons.mpr ⟨lk_254, List.forall_mem_cons.mpr ⟨lk_250, List.forall_mem_cons.mpr ⟨lk_251, List.forall_mem_cons.mpr ⟨lk_344, List.forall_mem_cons.mpr ⟨lk_290, List.forall_mem_cons.mpr ⟨lk_262, List.forall_mem_cons.mpr ⟨lk_259, List.forall_mem_cons.mpr ⟨lk_263, fun _ h => absurd h List.not_mem_nil⟩⟩⟩⟩⟩⟩⟩⟩⟩⟩⟩
theorem bX12_film_ok : ∀ b ∈ bX12_film, xbok RX12 cX12_film b := xbF_ok (lk := lX12_film) (ls := []) kX12_film xno_sw (by decide +kernel)
set_option maxRecDepth 20000 in
theorem vX12_film : xMok mX12_film := ⟨⟨wc_5.1, xtc7 126 rfl rfl, wc_5.2.1, wc_5.2.2, by decide +kernel, by decide, rfl⟩, bX12_film_ok⟩
def lX12_five : List xL := [(3, 13, 148, 98, 121), (3, 52, 32, 0, 113), (3, 52, 96, 0, 115)]
theorem kX12_five : ∀ q ∈ lX12_five, xLq RX12 q := List.forall_mem_cons.mpr ⟨lk_345, List.forall_mem_cons.mpr ⟨lk_278, List.forall_mem_cons.mpr ⟨lk_279, fun _ h => absurd h List.not_mem_nil⟩⟩⟩
theorem bX12_five_ok : ∀ b ∈ bX12_five, xbok RX12 cX12_five b := xbF_ok (lk := lX12_five) (ls := []) kX12_five xno_sw (by decide +kernel)
set_option maxRecDepth 20000 in
theorem vX12_five : xMok mX12_five := ⟨⟨wc_5.1, xtc7 156 rfl rfl, wc_5.2.1, wc_5.2.2, by decide +kernel, by decide, rfl⟩, bX12_five_ok⟩
def lX12_flows : List xL := [(3, 1, 12, 25, 48), (3, 1, 12, 26, 51), (3, 1, 12, 27, 54), (3, 1, 12, 28, 57), (3, 13, 224, 96, 296), (3, 1, 12, 0, 7), (3, 1, 12, 32, 69), (3, 13, 149, 96, 299)]
theorem kX12_flows : ∀ q ∈ lX12_flows, xLq RX12 q := List.forall_mem_cons.mpr ⟨lk_346, List.forall_mem_cons.mpr ⟨lk_347, List.forall_mem_cons.mpr ⟨lk_348, List.forall_mem_cons.mpr ⟨lk_349, List.forall_mem_cons.mpr ⟨lk_332, List.forall_mem_cons.mpr ⟨lk_290, List.forall_mem_cons.mpr ⟨lk_350, List.forall_mem_cons.mpr ⟨lk_351, fun _ h => absurd h List.not_mem_nil⟩⟩⟩⟩⟩⟩⟩⟩
theorem bX12_flows_ok : ∀ b ∈ bX12_flows, xbok RX12 cX12_flows b := xbF_ok (lk := lX12_flows) (ls := []) kX12_flows xno_sw (by decide +kernel)
set_option maxRecDepth 20000 in
theorem vX12_flows : xMok mX12_flows := ⟨⟨wc_5.1, xtc8 100 rfl rfl, wc_5.2.1, wc_5.2.2, by decide +kernel, by decide, rfl⟩, bX12_flows_ok⟩
def lX12_four : List xL := [(3, 13, 229, 98, 117), (3, 52, 32, 0, 113), (3, 52, 96, 0, 115)]
theorem kX12_four : ∀ q ∈ lX12_four, xLq RX12 q := List.forall_mem_cons.mpr ⟨lk_352, List.forall_mem_cons.mpr ⟨lk_278, List.forall_mem_cons.mpr ⟨lk_279, fun _ h => absurd h List.not_mem_nil⟩⟩⟩
theorem bX12_four_ok : ∀ b ∈ bX12_four, xbok RX12 cX12_four b := xbF_ok (lk := lX12_four) (ls := []) kX12_four xno_sw (by decide +kernel)
set_option maxRecDepth 20000 in
theorem vX12_four : xMok mX12_four := ⟨⟨wc_5.1, xtc7 159 rfl rfl, wc_5.2.1, wc_5.2.2, by decide +kernel, by decide, rfl⟩, bX12_four_ok⟩
def lX12_goesBack : List xL := [(3, 1, 12, 32, 69), (3, 1, 12, 25, 48), (3, 1, 12, 26, 51), (3, 1, 12, 27, 54)]
theorem kX12_goesBack : ∀ q ∈ lX12_goesBack, xLq RX12 q := List.forall_mem_cons.mpr ⟨lk_350, List.forall_mem_cons.mpr ⟨lk_346, List.forall_mem_cons.mpr ⟨lk_347, List.forall_mem_cons.mpr ⟨lk_348, fun _ h => absurd h List.not_mem_nil⟩⟩⟩⟩
theorem bX12_goesBack_ok : ∀ b ∈ bX12_goesBack, xbok RX12 cX12_goesBack b := xbF_ok (lk := lX12_goesBack) (ls := []) kX12_goesBack xno_sw (by decide +kernel)
set_option maxRecDepth 20000 in
theorem vX12_goesBack : xMok mX12_goesBack := ⟨⟨wc_5.1, xtc8 112 rfl rfl, wc_5.2.1, wc_5.2.2, by decide +kernel, by decide, rfl⟩, bX12_goesBack_ok⟩
def lX12_hand : List xL := [(3, 1, 12, 0, 7), (3, 13, 161, 98, 105), (3, 13, 171, 96, 247)]
theorem kX12_hand : ∀ q ∈ lX12_hand, xLq RX12 q := List.forall_mem_cons.mpr ⟨lk_290, List.forall_mem_cons.mpr ⟨lk_256, List.forall_mem_cons.mpr ⟨lk_303, fun _ h => absurd h List.not_mem_nil⟩⟩⟩
theorem bX12_hand_ok : ∀ b ∈ bX12_hand, xbok RX12 cX12_hand b := xbF_ok (lk := lX12_hand) (ls := []) kX12_hand xno_sw (by decide +kernel)
set_option maxRecDepth 20000 in
theorem vX12_hand : xMok mX12_hand := ⟨⟨wc_5.1, xtc9 22 rfl rfl, wc_5.2.1, wc_5.2.2, by decide +kernel, by decide, rfl⟩, bX12_hand_ok⟩
def lX12_hasFlaw : List xL := [(3, 1, 12, 0, 7), (3, 13, 161, 98, 105)]
theorem kX12_hasFlaw : ∀ q ∈ lX12_hasFlaw, xLq RX12 q := List.forall_mem_cons.mpr ⟨lk_290, List.forall_mem_cons.mpr ⟨lk_256, fun _ h => absurd h List.not_mem_nil⟩⟩
