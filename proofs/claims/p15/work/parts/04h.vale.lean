theorem bX7_init_ok : ∀ b ∈ bX7_init, xbok RX7 cX7_init b := xbF_ok (lk := lX7_init) (ls := []) kX7_init xno_sw (by decide +kernel)
theorem vX7_init : xMok mX7_init := ⟨⟨by decide +kernel, xtb 552 (by decide +kernel) rfl, xtb 136 (by decide +kernel) rfl, ⟨by decide +kernel, by decide +kernel⟩, by decide +kernel, by decide, rfl⟩, bX7_init_ok⟩
def lX7_isAsLarge : List xL := [(3, 1, 7, 0, 22), (3, 1, 1, 3, 69), (3, 13, 285, 40, 79)]
theorem kX7_isAsLarge : ∀ q ∈ lX7_isAsLarge, xLq RX7 q := List.forall_mem_cons.mpr ⟨lk_682, List.forall_mem_cons.mpr ⟨lk_701, List.forall_mem_cons.mpr ⟨lk_694, fun _ h => absurd h List.not_mem_nil⟩⟩⟩
theorem bX7_isAsLarge_ok : ∀ b ∈ bX7_isAsLarge, xbok RX7 cX7_isAsLarge b := xbF_ok (lk := lX7_isAsLarge) (ls := []) kX7_isAsLarge xno_sw (by decide +kernel)
theorem vX7_isAsLarge : xMok mX7_isAsLarge := ⟨⟨by decide +kernel, xtb 1259 (by decide +kernel) rfl, xtb 136 (by decide +kernel) rfl, ⟨by decide +kernel, by decide +kernel⟩, by decide +kernel, by decide, rfl⟩, bX7_isAsLarge_ok⟩
def lX7_pieceOf : List xL := [(3, 37, 0, 0, 66)]
theorem kX7_pieceOf : ∀ q ∈ lX7_pieceOf, xLq RX7 q := List.forall_mem_cons.mpr ⟨lk_702, fun _ h => absurd h List.not_mem_nil⟩
theorem bX7_pieceOf_ok : ∀ b ∈ bX7_pieceOf, xbok RX7 cX7_pieceOf b := xbF_ok (lk := lX7_pieceOf) (ls := []) kX7_pieceOf xno_sw (by decide +kernel)
theorem vX7_pieceOf : xMok mX7_pieceOf := ⟨⟨by decide +kernel, xtb 1272 (by decide +kernel) rfl, xtb 136 (by decide +kernel) rfl, ⟨by decide +kernel, by decide +kernel⟩, by decide +kernel, by decide, rfl⟩, bX7_pieceOf_ok⟩
def lX7_planPanel : List xL := [(3, 1, 7, 0, 22), (3, 1, 1, 3, 69), (3, 1, 5, 3, 72), (3, 13, 303, 56, 75), (3, 13, 285, 40, 79), (3, 1, 7, 2, 18), (3, 13, 286, 40, 102), (3, 13, 290, 40, 106)]
theorem kX7_planPanel : ∀ q ∈ lX7_planPanel, xLq RX7 q := List.forall_mem_cons.mpr ⟨lk_682, List.forall_mem_cons.mpr ⟨lk_701, List.forall_mem_cons.mpr ⟨lk_693, List.forall_mem_cons.mpr ⟨lk_703, List.forall_mem_cons.mpr ⟨lk_694, List.forall_mem_cons.mpr ⟨lk_704, List.forall_mem_cons.mpr ⟨lk_705, List.forall_mem_cons.mpr ⟨lk_706, fun _ h => absurd h List.not_mem_nil⟩⟩⟩⟩⟩⟩⟩⟩
theorem bX7_planPanel_ok : ∀ b ∈ bX7_planPanel, xbok RX7 cX7_planPanel b := xbF_ok (lk := lX7_planPanel) (ls := []) kX7_planPanel xno_sw (by decide +kernel)
theorem vX7_planPanel : xMok mX7_planPanel := ⟨⟨by decide +kernel, xtb 1300 (by decide +kernel) rfl, xtb 136 (by decide +kernel) rfl, ⟨by decide +kernel, by decide +kernel⟩, by decide +kernel, by decide, rfl⟩, bX7_planPanel_ok⟩
def lX7_planPiece : List xL := [(3, 13, 310, 56, 95), (3, 13, 311, 56, 42), (3, 13, 301, 56, 50), (3, 13, 305, 56, 98), (3, 13, 306, 58, 91)]
theorem kX7_planPiece : ∀ q ∈ lX7_planPiece, xLq RX7 q := List.forall_mem_cons.mpr ⟨lk_707, List.forall_mem_cons.mpr ⟨lk_708, List.forall_mem_cons.mpr ⟨lk_685, List.forall_mem_cons.mpr ⟨lk_709, List.forall_mem_cons.mpr ⟨lk_710, fun _ h => absurd h List.not_mem_nil⟩⟩⟩⟩⟩
theorem bX7_planPiece_ok : ∀ b ∈ bX7_planPiece, xbok RX7 cX7_planPiece b := xbF_ok (lk := lX7_planPiece) (ls := []) kX7_planPiece xno_sw (by decide +kernel)
theorem vX7_planPiece : xMok mX7_planPiece := ⟨⟨by decide +kernel, xtb 1295 (by decide +kernel) rfl, xtb 136 (by decide +kernel) rfl, ⟨by decide +kernel, by decide +kernel⟩, by decide +kernel, by decide, rfl⟩, bX7_planPiece_ok⟩
def lX7_refreshPlan : List xL := [(3, 1, 7, 4, 30), (3, 13, 308, 56, 85), (3, 1, 7, 2, 18), (3, 13, 283, 40, 88), (3, 1, 7, 0, 22), (3, 1, 1, 5, 33), (3, 1, 1, 6, 39), (3, 13, 306, 58, 91), (3, 59, 7, 4, 30)]
theorem kX7_refreshPlan : ∀ q ∈ lX7_refreshPlan, xLq RX7 q := List.forall_mem_cons.mpr ⟨lk_711, List.forall_mem_cons.mpr ⟨lk_712, List.forall_mem_cons.mpr ⟨lk_704, List.forall_mem_cons.mpr ⟨lk_713, List.forall_mem_cons.mpr ⟨lk_682, List.forall_mem_cons.mpr ⟨lk_683, List.forall_mem_cons.mpr ⟨lk_684, List.forall_mem_cons.mpr ⟨lk_710, List.forall_mem_cons.mpr ⟨lk_691, fun _ h => absurd h List.not_mem_nil⟩⟩⟩⟩⟩⟩⟩⟩⟩
theorem bX7_refreshPlan_ok : ∀ b ∈ bX7_refreshPlan, xbok RX7 cX7_refreshPlan b := xbF_ok (lk := lX7_refreshPlan) (ls := []) kX7_refreshPlan xno_sw (by decide +kernel)
theorem vX7_refreshPlan : xMok mX7_refreshPlan := ⟨⟨by decide +kernel, xtb 1290 (by decide +kernel) rfl, xtb 136 (by decide +kernel) rfl, ⟨by decide +kernel, by decide +kernel⟩, by decide +kernel, by decide, rfl⟩, bX7_refreshPlan_ok⟩
def lX7_refreshWorth : List xL := [(3, 1, 7, 3, 26), (3, 1, 7, 0, 22), (3, 1, 1, 5, 33), (3, 1, 1, 6, 39), (3, 13, 311, 56, 42), (3, 13, 299, 56, 46), (3, 59, 7, 3, 26)]
theorem kX7_refreshWorth : ∀ q ∈ lX7_refreshWorth, xLq RX7 q := List.forall_mem_cons.mpr ⟨lk_714, List.forall_mem_cons.mpr ⟨lk_682, List.forall_mem_cons.mpr ⟨lk_683, List.forall_mem_cons.mpr ⟨lk_684, List.forall_mem_cons.mpr ⟨lk_708, List.forall_mem_cons.mpr ⟨lk_715, List.forall_mem_cons.mpr ⟨lk_690, fun _ h => absurd h List.not_mem_nil⟩⟩⟩⟩⟩⟩⟩
theorem bX7_refreshWorth_ok : ∀ b ∈ bX7_refreshWorth, xbok RX7 cX7_refreshWorth b := xbF_ok (lk := lX7_refreshWorth) (ls := []) kX7_refreshWorth xno_sw (by decide +kernel)
theorem vX7_refreshWorth : xMok mX7_refreshWorth := ⟨⟨by decide +kernel, xtb 1251 (by decide +kernel) rfl, xtb 136 (by decide +kernel) rfl, ⟨by decide +kernel, by decide +kernel⟩, by decide +kernel, by decide, rfl⟩, bX7_refreshWorth_ok⟩
def lX7_worthCut : List xL := [(3, 37, 0, 0, 66), (3, 1, 7, 1, 9), (3, 62, 0, 0, 61)]
theorem kX7_worthCut : ∀ q ∈ lX7_worthCut, xLq RX7 q := List.forall_mem_cons.mpr ⟨lk_702, List.forall_mem_cons.mpr ⟨lk_686, List.forall_mem_cons.mpr ⟨lk_689, fun _ h => absurd h List.not_mem_nil⟩⟩⟩
theorem bX7_worthCut_ok : ∀ b ∈ bX7_worthCut, xbok RX7 cX7_worthCut b := xbF_ok (lk := lX7_worthCut) (ls := []) kX7_worthCut xno_sw (by decide +kernel)
theorem vX7_worthCut : xMok mX7_worthCut := ⟨⟨by decide +kernel, xtb 1278 (by decide +kernel) rfl, xtb 136 (by decide +kernel) rfl, ⟨by decide +kernel, by decide +kernel⟩, by decide +kernel, by decide, rfl⟩, bX7_worthCut_ok⟩
def lX7_worthOf : List xL := [(3, 1, 7, 1, 9), (3, 13, 304, 58, 54)]
theorem kX7_worthOf : ∀ q ∈ lX7_worthOf, xLq RX7 q := List.forall_mem_cons.mpr ⟨lk_686, List.forall_mem_cons.mpr ⟨lk_687, fun _ h => absurd h List.not_mem_nil⟩⟩
theorem bX7_worthOf_ok : ∀ b ∈ bX7_worthOf, xbok RX7 cX7_worthOf b := xbF_ok (lk := lX7_worthOf) (ls := []) kX7_worthOf xno_sw (by decide +kernel)
theorem vX7_worthOf : xMok mX7_worthOf := ⟨⟨by decide +kernel, xtb 1282 (by decide +kernel) rfl, xtb 136 (by decide +kernel) rfl, ⟨by decide +kernel, by decide +kernel⟩, by decide +kernel, by decide, rfl⟩, bX7_worthOf_ok⟩
def lX7_worthOfSize : List xL := [(3, 1, 7, 0, 22), (3, 1, 1, 3, 69), (3, 1, 5, 3, 72), (3, 13, 303, 56, 75), (3, 13, 285, 40, 79), (3, 62, 0, 0, 61)]
theorem kX7_worthOfSize : ∀ q ∈ lX7_worthOfSize, xLq RX7 q := List.forall_mem_cons.mpr ⟨lk_682, List.forall_mem_cons.mpr ⟨lk_701, List.forall_mem_cons.mpr ⟨lk_693, List.forall_mem_cons.mpr ⟨lk_703, List.forall_mem_cons.mpr ⟨lk_694, List.forall_mem_cons.mpr ⟨lk_689, fun _ h => absurd h List.not_mem_nil⟩⟩⟩⟩⟩⟩
theorem bX7_worthOfSize_ok : ∀ b ∈ bX7_worthOfSize, xbok RX7 cX7_worthOfSize b := xbF_ok (lk := lX7_worthOfSize) (ls := []) kX7_worthOfSize xno_sw (by decide +kernel)
theorem vX7_worthOfSize : xMok mX7_worthOfSize := ⟨⟨by decide +kernel, xtb 1255 (by decide +kernel) rfl, xtb 136 (by decide +kernel) rfl, ⟨by decide +kernel, by decide +kernel⟩, by decide +kernel, by decide, rfl⟩, bX7_worthOfSize_ok⟩
def lX8_advance : List xL := [(3, 1, 8, 4, 23), (3, 1, 8, 1, 19), (3, 1, 8, 0, 7), (3, 14, 8, 4, 23), (3, 14, 8, 3, 29), (3, 14, 8, 2, 32), (3, 13, 315, 66, 35), (3, 13, 314, 66, 39), (3, 13, 320, 64, 42), (3, 13, 317, 66, 45)]
theorem kX8_advance : ∀ q ∈ lX8_advance, xLq RX8 q := List.forall_mem_cons.mpr ⟨lk_716, List.forall_mem_cons.mpr ⟨lk_717, List.forall_mem_cons.mpr ⟨lk_718, List.forall_mem_cons.mpr ⟨lk_719, List.forall_mem_cons.mpr ⟨lk_720, List.forall_mem_cons.mpr ⟨lk_721, List.forall_mem_cons.mpr ⟨lk_722, List.forall_mem_cons.mpr ⟨lk_723, List.forall_mem_cons.mpr ⟨lk_724, List.forall_mem_cons.mpr ⟨lk_725, fun _ h => absurd h List.not_mem_nil⟩⟩⟩⟩⟩⟩⟩⟩⟩⟩
theorem bX8_advance_ok : ∀ b ∈ bX8_advance, xbok RX8 cX8_advance b := xbF_ok (lk := lX8_advance) (ls := []) kX8_advance xno_sw (by decide +kernel)
theorem vX8_advance : xMok mX8_advance := ⟨⟨by decide +kernel, xtb 692 (by decide +kernel) rfl, xtb 131 (by decide +kernel) rfl, ⟨by decide +kernel, by decide +kernel⟩, by decide +kernel, by decide, rfl⟩, bX8_advance_ok⟩
def lX8_init : List xL := [(3, 25, 0, 0, 1), (3, 61, 8, 0, 7)]
theorem kX8_init : ∀ q ∈ lX8_init, xLq RX8 q := List.forall_mem_cons.mpr ⟨lk_726, List.forall_mem_cons.mpr ⟨lk_727, fun _ h => absurd h List.not_mem_nil⟩⟩
theorem bX8_init_ok : ∀ b ∈ bX8_init, xbok RX8 cX8_init b := xbF_ok (lk := lX8_init) (ls := []) kX8_init xno_sw (by decide +kernel)
theorem vX8_init : xMok mX8_init := ⟨⟨by decide +kernel, xtb 338 (by decide +kernel) rfl, xtb 131 (by decide +kernel) rfl, ⟨by decide +kernel, by decide +kernel⟩, by decide +kernel, by decide, rfl⟩, bX8_init_ok⟩
def lX8_isDigit : List xL := []
theorem kX8_isDigit : ∀ q ∈ lX8_isDigit, xLq RX8 q := fun _ h => absurd h List.not_mem_nil
theorem bX8_isDigit_ok : ∀ b ∈ bX8_isDigit, xbok RX8 cX8_isDigit b := xbF_ok (lk := lX8_isDigit) (ls := []) kX8_isDigit xno_sw (by decide +kernel)
theorem vX8_isDigit : xMok mX8_isDigit := ⟨⟨by decide +kernel, xtb 698 (by decide +kernel) rfl, xtb 131 (by decide +kernel) rfl, ⟨by decide +kernel, by decide +kernel⟩, by decide +kernel, by decide, rfl⟩, bX8_isDigit_ok⟩
def lX8_isLetter : List xL := []
theorem kX8_isLetter : ∀ q ∈ lX8_isLetter, xLq RX8 q := fun _ h => absurd h List.not_mem_nil
theorem bX8_isLetter_ok : ∀ b ∈ bX8_isLetter, xbok RX8 cX8_isLetter b := xbF_ok (lk := lX8_isLetter) (ls := []) kX8_isLetter xno_sw (by decide +kernel)
theorem vX8_isLetter : xMok mX8_isLetter := ⟨⟨by decide +kernel, xtb 695 (by decide +kernel) rfl, xtb 131 (by decide +kernel) rfl, ⟨by decide +kernel, by decide +kernel⟩, by decide +kernel, by decide, rfl⟩, bX8_isLetter_ok⟩
def lX8_isSign : List xL := [(3, 1, 8, 2, 32), (3, 1, 8, 0, 7), (3, 1, 8, 3, 29)]
theorem kX8_isSign : ∀ q ∈ lX8_isSign, xLq RX8 q := List.forall_mem_cons.mpr ⟨lk_728, List.forall_mem_cons.mpr ⟨lk_718, List.forall_mem_cons.mpr ⟨lk_729, fun _ h => absurd h List.not_mem_nil⟩⟩⟩
theorem bX8_isSign_ok : ∀ b ∈ bX8_isSign, xbok RX8 cX8_isSign b := xbF_ok (lk := lX8_isSign) (ls := []) kX8_isSign xno_sw (by decide +kernel)
theorem vX8_isSign : xMok mX8_isSign := ⟨⟨by decide +kernel, xtb 785 (by decide +kernel) rfl, xtb 131 (by decide +kernel) rfl, ⟨by decide +kernel, by decide +kernel⟩, by decide +kernel, by decide, rfl⟩, bX8_isSign_ok⟩
def lX8_isSignByte : List xL := []
theorem kX8_isSignByte : ∀ q ∈ lX8_isSignByte, xLq RX8 q := fun _ h => absurd h List.not_mem_nil
theorem bX8_isSignByte_ok : ∀ b ∈ bX8_isSignByte, xbok RX8 cX8_isSignByte b := xbF_ok (lk := lX8_isSignByte) (ls := []) kX8_isSignByte xno_sw (by decide +kernel)
theorem vX8_isSignByte : xMok mX8_isSignByte := ⟨⟨by decide +kernel, xtb 705 (by decide +kernel) rfl, xtb 131 (by decide +kernel) rfl, ⟨by decide +kernel, by decide +kernel⟩, by decide +kernel, by decide, rfl⟩, bX8_isSignByte_ok⟩
def lX8_isWord : List xL := [(3, 1, 8, 2, 32), (3, 1, 8, 4, 23), (3, 1, 8, 3, 29), (3, 73, 0, 0, 51), (3, 1, 8, 0, 7), (3, 74, 0, 0, 56)]
theorem kX8_isWord : ∀ q ∈ lX8_isWord, xLq RX8 q := List.forall_mem_cons.mpr ⟨lk_728, List.forall_mem_cons.mpr ⟨lk_716, List.forall_mem_cons.mpr ⟨lk_729, List.forall_mem_cons.mpr ⟨lk_730, List.forall_mem_cons.mpr ⟨lk_718, List.forall_mem_cons.mpr ⟨lk_731, fun _ h => absurd h List.not_mem_nil⟩⟩⟩⟩⟩⟩
theorem bX8_isWord_ok : ∀ b ∈ bX8_isWord, xbok RX8 cX8_isWord b := xbF_ok (lk := lX8_isWord) (ls := []) kX8_isWord xno_sw (by decide +kernel)
theorem vX8_isWord : xMok mX8_isWord := ⟨⟨by decide +kernel, xtb 718 (by decide +kernel) rfl, xtb 131 (by decide +kernel) rfl, ⟨by decide +kernel, by decide +kernel⟩, by decide +kernel, by decide, rfl⟩, bX8_isWord_ok⟩
def lX8_start : List xL := [(3, 1, 8, 0, 7), (3, 63, 0, 0, 13), (3, 14, 8, 1, 19), (3, 14, 8, 4, 23), (3, 13, 312, 64, 26)]
theorem kX8_start : ∀ q ∈ lX8_start, xLq RX8 q := List.forall_mem_cons.mpr ⟨lk_718, List.forall_mem_cons.mpr ⟨lk_732, List.forall_mem_cons.mpr ⟨lk_733, List.forall_mem_cons.mpr ⟨lk_719, List.forall_mem_cons.mpr ⟨lk_734, fun _ h => absurd h List.not_mem_nil⟩⟩⟩⟩⟩
theorem bX8_start_ok : ∀ b ∈ bX8_start, xbok RX8 cX8_start b := xbF_ok (lk := lX8_start) (ls := []) kX8_start xno_sw (by decide +kernel)
theorem vX8_start : xMok mX8_start := ⟨⟨by decide +kernel, xtb 685 (by decide +kernel) rfl, xtb 131 (by decide +kernel) rfl, ⟨by decide +kernel, by decide +kernel⟩, by decide +kernel, by decide, rfl⟩, bX8_start_ok⟩
def lX8_takeDigits : List xL := [(3, 14, 8, 5, 48), (3, 1, 8, 4, 23), (3, 1, 8, 1, 19), (3, 1, 8, 0, 7), (3, 13, 314, 66, 39), (3, 1, 8, 3, 29), (3, 1, 8, 5, 48), (3, 14, 8, 4, 23), (3, 14, 8, 2, 32)]
theorem kX8_takeDigits : ∀ q ∈ lX8_takeDigits, xLq RX8 q := List.forall_mem_cons.mpr ⟨lk_735, List.forall_mem_cons.mpr ⟨lk_716, List.forall_mem_cons.mpr ⟨lk_717, List.forall_mem_cons.mpr ⟨lk_718, List.forall_mem_cons.mpr ⟨lk_723, List.forall_mem_cons.mpr ⟨lk_729, List.forall_mem_cons.mpr ⟨lk_736, List.forall_mem_cons.mpr ⟨lk_719, List.forall_mem_cons.mpr ⟨lk_721, fun _ h => absurd h List.not_mem_nil⟩⟩⟩⟩⟩⟩⟩⟩⟩
theorem bX8_takeDigits_ok : ∀ b ∈ bX8_takeDigits, xbok RX8 cX8_takeDigits b := xbF_ok (lk := lX8_takeDigits) (ls := []) kX8_takeDigits xno_sw (by decide +kernel)
theorem vX8_takeDigits : xMok mX8_takeDigits := ⟨⟨by decide +kernel, xtb 702 (by decide +kernel) rfl, xtb 131 (by decide +kernel) rfl, ⟨by decide +kernel, by decide +kernel⟩, by decide +kernel, by decide, rfl⟩, bX8_takeDigits_ok⟩
def lX9_append : List xL := [(3, 1, 9, 1, 57), (3, 1, 9, 0, 11), (3, 14, 9, 1, 57)]
theorem kX9_append : ∀ q ∈ lX9_append, xLq RX9 q := List.forall_mem_cons.mpr ⟨lk_737, List.forall_mem_cons.mpr ⟨lk_738, List.forall_mem_cons.mpr ⟨lk_739, fun _ h => absurd h List.not_mem_nil⟩⟩⟩
theorem bX9_append_ok : ∀ b ∈ bX9_append, xbok RX9 cX9_append b := xbF_ok (lk := lX9_append) (ls := []) kX9_append xno_sw (by decide +kernel)
theorem vX9_append : xMok mX9_append := ⟨⟨by decide +kernel, xtb 661 (by decide +kernel) rfl, xtb 127 (by decide +kernel) rfl, ⟨by decide +kernel, by decide +kernel⟩, by decide +kernel, by decide, rfl⟩, bX9_append_ok⟩
def lX9_copy : List xL := [(3, 1, 9, 0, 11), (3, 58, 0, 0, 70), (3, 1, 9, 1, 57), (3, 14, 9, 1, 57), (3, 1, 9, 2, 60), (3, 14, 9, 2, 60), (3, 1, 9, 3, 15), (3, 14, 9, 3, 15), (3, 1, 9, 4, 22), (3, 13, 241, 8, 76), (3, 1, 9, 5, 31), (3, 13, 284, 40, 80), (3, 1, 9, 6, 83), (3, 14, 9, 6, 83), (3, 1, 9, 7, 35), (3, 14, 9, 7, 35), (3, 1, 9, 8, 38), (3, 1, 9, 9, 86), (3, 14, 9, 9, 86), (3, 1, 9, 10, 41), (3, 1, 9, 11, 46), (3, 1, 9, 12, 51), (3, 1, 9, 13, 54)]
theorem kX9_copy : ∀ q ∈ lX9_copy, xLq RX9 q := List.forall_mem_cons.mpr ⟨lk_738, List.forall_mem_cons.mpr ⟨lk_740, List.forall_mem_cons.mpr ⟨lk_737, List.forall_mem_cons.mpr ⟨lk_739, List.forall_mem_cons.mpr ⟨lk_741, List.forall_mem_cons.mpr ⟨lk_742, List.forall_mem_cons.mpr ⟨lk_743, List.forall_mem_cons.mpr ⟨lk_744, List.forall_mem_cons.mpr ⟨lk_745, List.forall_mem_cons.mpr ⟨lk_746, List.forall_mem_cons.mpr ⟨lk_747, List.forall_mem_cons.mpr ⟨lk_748, List.forall_mem_cons.mpr ⟨lk_749, List.forall_mem_cons.mpr ⟨lk_750, List.forall_mem_cons.mpr ⟨lk_751, List.forall_mem_cons.mpr ⟨lk_752, List.forall_mem_cons.mpr ⟨lk_753, List.forall_mem_cons.mpr ⟨lk_754, List.forall_mem_cons.mpr ⟨lk_755, List.forall_mem_cons.mpr ⟨lk_756, List.forall_mem_cons.mpr ⟨lk_757, List.forall_mem_cons.mpr ⟨lk_758, List.forall_mem_cons.mpr ⟨lk_759, fun _ h => absurd h List.not_mem_nil⟩⟩⟩⟩⟩⟩⟩⟩⟩⟩⟩⟩⟩⟩⟩⟩⟩⟩⟩⟩⟩⟩⟩
theorem bX9_copy_ok : ∀ b ∈ bX9_copy, xbok RX9 cX9_copy b := xbF_ok (lk := lX9_copy) (ls := []) kX9_copy xno_sw (by decide +kernel)
theorem vX9_copy : xMok mX9_copy := ⟨⟨by decide +kernel, xtb 1524 (by decide +kernel) rfl, xtb 127 (by decide +kernel) rfl, ⟨by decide +kernel, by decide +kernel⟩, by decide +kernel, by decide, rfl⟩, bX9_copy_ok⟩
def lX9_cracksInView : List xL := [(3, 1, 9, 7, 35), (3, 1, 9, 5, 31), (3, 1, 5, 3, 63), (3, 13, 285, 40, 66)]
theorem kX9_cracksInView : ∀ q ∈ lX9_cracksInView, xLq RX9 q := List.forall_mem_cons.mpr ⟨lk_751, List.forall_mem_cons.mpr ⟨lk_747, List.forall_mem_cons.mpr ⟨lk_760, List.forall_mem_cons.mpr ⟨lk_761, fun _ h => absurd h List.not_mem_nil⟩⟩⟩⟩
theorem bX9_cracksInView_ok : ∀ b ∈ bX9_cracksInView, xbok RX9 cX9_cracksInView b := xbF_ok (lk := lX9_cracksInView) (ls := []) kX9_cracksInView xno_sw (by decide +kernel)
theorem vX9_cracksInView : xMok mX9_cracksInView := ⟨⟨by decide +kernel, xtb 1059 (by decide +kernel) rfl, xtb 127 (by decide +kernel) rfl, ⟨by decide +kernel, by decide +kernel⟩, by decide +kernel, by decide, rfl⟩, bX9_cracksInView_ok⟩
def lX9_findCrack : List xL := [(3, 1, 9, 5, 31), (3, 1, 5, 3, 63), (3, 13, 285, 40, 66)]
theorem kX9_findCrack : ∀ q ∈ lX9_findCrack, xLq RX9 q := List.forall_mem_cons.mpr ⟨lk_747, List.forall_mem_cons.mpr ⟨lk_760, List.forall_mem_cons.mpr ⟨lk_761, fun _ h => absurd h List.not_mem_nil⟩⟩⟩
theorem bX9_findCrack_ok : ∀ b ∈ bX9_findCrack, xbok RX9 cX9_findCrack b := xbF_ok (lk := lX9_findCrack) (ls := []) kX9_findCrack xno_sw (by decide +kernel)
theorem vX9_findCrack : xMok mX9_findCrack := ⟨⟨by decide +kernel, xtb 1048 (by decide +kernel) rfl, xtb 127 (by decide +kernel) rfl, ⟨by decide +kernel, by decide +kernel⟩, by decide +kernel, by decide, rfl⟩, bX9_findCrack_ok⟩
def lX9_init : List xL := [(3, 25, 0, 0, 3), (3, 61, 9, 0, 11), (3, 14, 9, 3, 15), (3, 24, 1, 0, 19), (3, 13, 242, 13, 21), (3, 61, 9, 4, 22), (3, 24, 5, 0, 26), (3, 13, 288, 44, 28), (3, 61, 9, 5, 31), (3, 14, 9, 7, 35), (3, 61, 9, 8, 38), (3, 61, 9, 10, 41), (3, 61, 9, 11, 46), (3, 61, 9, 12, 51), (3, 61, 9, 13, 54)]
theorem kX9_init : ∀ q ∈ lX9_init, xLq RX9 q := List.forall_mem_cons.mpr ⟨lk_762, List.forall_mem_cons.mpr ⟨lk_763, List.forall_mem_cons.mpr ⟨lk_744, List.forall_mem_cons.mpr ⟨lk_764, List.forall_mem_cons.mpr ⟨lk_765, List.forall_mem_cons.mpr ⟨lk_766, List.forall_mem_cons.mpr ⟨lk_767, List.forall_mem_cons.mpr ⟨lk_768, List.forall_mem_cons.mpr ⟨lk_769, List.forall_mem_cons.mpr ⟨lk_752, List.forall_mem_cons.mpr ⟨lk_770, List.forall_mem_cons.mpr ⟨lk_771, List.forall_mem_cons.mpr ⟨lk_772, List.forall_mem_cons.mpr ⟨lk_773, List.forall_mem_cons.mpr ⟨lk_774, fun _ h => absurd h List.not_mem_nil⟩⟩⟩⟩⟩⟩⟩⟩⟩⟩⟩⟩⟩⟩⟩
theorem bX9_init_ok : ∀ b ∈ bX9_init, xbok RX9 cX9_init b := xbF_ok (lk := lX9_init) (ls := []) kX9_init xno_sw (by decide +kernel)
theorem vX9_init : xMok mX9_init := ⟨⟨by decide +kernel, xtb 159 (by decide +kernel) rfl, xtb 127 (by decide +kernel) rfl, ⟨by decide +kernel, by decide +kernel⟩, by decide +kernel, by decide, rfl⟩, bX9_init_ok⟩
def lX9_take : List xL := [(3, 14, 9, 1, 57), (3, 14, 9, 2, 60), (3, 14, 9, 3, 15)]
theorem kX9_take : ∀ q ∈ lX9_take, xLq RX9 q := List.forall_mem_cons.mpr ⟨lk_739, List.forall_mem_cons.mpr ⟨lk_742, List.forall_mem_cons.mpr ⟨lk_744, fun _ h => absurd h List.not_mem_nil⟩⟩⟩
theorem bX9_take_ok : ∀ b ∈ bX9_take, xbok RX9 cX9_take b := xbF_ok (lk := lX9_take) (ls := []) kX9_take xno_sw (by decide +kernel)
theorem vX9_take : xMok mX9_take := ⟨⟨by decide +kernel, xtb 837 (by decide +kernel) rfl, xtb 127 (by decide +kernel) rfl, ⟨by decide +kernel, by decide +kernel⟩, by decide +kernel, by decide, rfl⟩, bX9_take_ok⟩
