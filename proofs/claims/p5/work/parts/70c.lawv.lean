def lL_b0 : List xL := [(3, 24, 11, 0, 7), (3, 13, 67, 92, 9), (3, 24, 12, 0, 10), (3, 13, 156, 100, 12)]
theorem kL_b0 : ∀ q ∈ lL_b0, xLq RL q := List.forall_mem_cons.mpr ⟨lw_lk_0, List.forall_mem_cons.mpr ⟨lw_lk_1, List.forall_mem_cons.mpr ⟨lw_lk_2, List.forall_mem_cons.mpr ⟨lw_lk_3, fun _ h => absurd h List.not_mem_nil⟩⟩⟩⟩
theorem bL_b0_ok : ∀ b ∈ [bLk_0], xbok RL cL_law b := xbF_ok (lk := lL_b0) (ls := []) kL_b0 xno_sw (by decide +kernel)
def lL_b1 : List xL := []
theorem kL_b1 : ∀ q ∈ lL_b1, xLq RL q := fun _ h => absurd h List.not_mem_nil
theorem bL_b1_ok : ∀ b ∈ [bLk_1], xbok RL cL_law b := xbF_ok (lk := lL_b1) (ls := []) kL_b1 xno_sw (by decide +kernel)
def lL_b2 : List xL := [(3, 13, 59, 88, 13), (3, 13, 144, 96, 17)]
theorem kL_b2 : ∀ q ∈ lL_b2, xLq RL q := List.forall_mem_cons.mpr ⟨lw_lk_4, List.forall_mem_cons.mpr ⟨lw_lk_5, fun _ h => absurd h List.not_mem_nil⟩⟩
theorem bL_b2_ok : ∀ b ∈ [bLk_2], xbok RL cL_law b := xbF_ok (lk := lL_b2) (ls := []) kL_b2 xno_sw (by decide +kernel)
def lL_b3 : List xL := [(3, 13, 56, 88, 18), (3, 13, 139, 96, 22)]
theorem kL_b3 : ∀ q ∈ lL_b3, xLq RL q := List.forall_mem_cons.mpr ⟨lw_lk_6, List.forall_mem_cons.mpr ⟨lw_lk_7, fun _ h => absurd h List.not_mem_nil⟩⟩
theorem bL_b3_ok : ∀ b ∈ [bLk_3], xbok RL cL_law b := xbF_ok (lk := lL_b3) (ls := []) kL_b3 xno_sw (by decide +kernel)
def lL_b4 : List xL := [(3, 13, 60, 88, 23), (3, 13, 145, 96, 27)]
theorem kL_b4 : ∀ q ∈ lL_b4, xLq RL q := List.forall_mem_cons.mpr ⟨lw_lk_8, List.forall_mem_cons.mpr ⟨lw_lk_9, fun _ h => absurd h List.not_mem_nil⟩⟩
theorem bL_b4_ok : ∀ b ∈ [bLk_4], xbok RL cL_law b := xbF_ok (lk := lL_b4) (ls := []) kL_b4 xno_sw (by decide +kernel)
def lL_b5 : List xL := [(3, 13, 57, 88, 28), (3, 13, 141, 96, 31)]
theorem kL_b5 : ∀ q ∈ lL_b5, xLq RL q := List.forall_mem_cons.mpr ⟨lw_lk_10, List.forall_mem_cons.mpr ⟨lw_lk_11, fun _ h => absurd h List.not_mem_nil⟩⟩
theorem bL_b5_ok : ∀ b ∈ [bLk_5], xbok RL cL_law b := xbF_ok (lk := lL_b5) (ls := []) kL_b5 xno_sw (by decide +kernel)
def lL_b6 : List xL := [(3, 13, 76, 88, 32), (3, 13, 180, 96, 36)]
theorem kL_b6 : ∀ q ∈ lL_b6, xLq RL q := List.forall_mem_cons.mpr ⟨lw_lk_12, List.forall_mem_cons.mpr ⟨lw_lk_13, fun _ h => absurd h List.not_mem_nil⟩⟩
theorem bL_b6_ok : ∀ b ∈ [bLk_6], xbok RL cL_law b := xbF_ok (lk := lL_b6) (ls := []) kL_b6 xno_sw (by decide +kernel)
def lL_b7 : List xL := [(3, 13, 83, 88, 37), (3, 13, 196, 96, 40)]
theorem kL_b7 : ∀ q ∈ lL_b7, xLq RL q := List.forall_mem_cons.mpr ⟨lw_lk_14, List.forall_mem_cons.mpr ⟨lw_lk_15, fun _ h => absurd h List.not_mem_nil⟩⟩
theorem bL_b7_ok : ∀ b ∈ [bLk_7], xbok RL cL_law b := xbF_ok (lk := lL_b7) (ls := []) kL_b7 xno_sw (by decide +kernel)
def lL_b8 : List xL := [(3, 13, 97, 88, 41), (3, 13, 225, 96, 44)]
theorem kL_b8 : ∀ q ∈ lL_b8, xLq RL q := List.forall_mem_cons.mpr ⟨lw_lk_16, List.forall_mem_cons.mpr ⟨lw_lk_17, fun _ h => absurd h List.not_mem_nil⟩⟩
theorem bL_b8_ok : ∀ b ∈ [bLk_8], xbok RL cL_law b := xbF_ok (lk := lL_b8) (ls := []) kL_b8 xno_sw (by decide +kernel)
def lL_b9 : List xL := [(3, 13, 39, 88, 45), (3, 13, 120, 96, 49)]
theorem kL_b9 : ∀ q ∈ lL_b9, xLq RL q := List.forall_mem_cons.mpr ⟨lw_lk_18, List.forall_mem_cons.mpr ⟨lw_lk_19, fun _ h => absurd h List.not_mem_nil⟩⟩
theorem bL_b9_ok : ∀ b ∈ [bLk_9], xbok RL cL_law b := xbF_ok (lk := lL_b9) (ls := []) kL_b9 xno_sw (by decide +kernel)
def lL_b10 : List xL := [(3, 13, 78, 88, 50), (3, 13, 184, 96, 53)]
theorem kL_b10 : ∀ q ∈ lL_b10, xLq RL q := List.forall_mem_cons.mpr ⟨lw_lk_20, List.forall_mem_cons.mpr ⟨lw_lk_21, fun _ h => absurd h List.not_mem_nil⟩⟩
theorem bL_b10_ok : ∀ b ∈ [bLk_10], xbok RL cL_law b := xbF_ok (lk := lL_b10) (ls := []) kL_b10 xno_sw (by decide +kernel)
def lL_b11 : List xL := [(3, 13, 105, 88, 54), (3, 13, 239, 96, 57)]
theorem kL_b11 : ∀ q ∈ lL_b11, xLq RL q := List.forall_mem_cons.mpr ⟨lw_lk_22, List.forall_mem_cons.mpr ⟨lw_lk_23, fun _ h => absurd h List.not_mem_nil⟩⟩
theorem bL_b11_ok : ∀ b ∈ [bLk_11], xbok RL cL_law b := xbF_ok (lk := lL_b11) (ls := []) kL_b11 xno_sw (by decide +kernel)
def lL_b12 : List xL := [(3, 13, 85, 88, 58), (3, 13, 201, 96, 61)]
theorem kL_b12 : ∀ q ∈ lL_b12, xLq RL q := List.forall_mem_cons.mpr ⟨lw_lk_24, List.forall_mem_cons.mpr ⟨lw_lk_25, fun _ h => absurd h List.not_mem_nil⟩⟩
theorem bL_b12_ok : ∀ b ∈ [bLk_12], xbok RL cL_law b := xbF_ok (lk := lL_b12) (ls := []) kL_b12 xno_sw (by decide +kernel)
def lL_b13 : List xL := [(3, 13, 100, 88, 62), (3, 13, 230, 96, 65)]
theorem kL_b13 : ∀ q ∈ lL_b13, xLq RL q := List.forall_mem_cons.mpr ⟨lw_lk_26, List.forall_mem_cons.mpr ⟨lw_lk_27, fun _ h => absurd h List.not_mem_nil⟩⟩
theorem bL_b13_ok : ∀ b ∈ [bLk_13], xbok RL cL_law b := xbF_ok (lk := lL_b13) (ls := []) kL_b13 xno_sw (by decide +kernel)
def lL_b14 : List xL := [(3, 13, 48, 88, 66), (3, 13, 129, 96, 69)]
theorem kL_b14 : ∀ q ∈ lL_b14, xLq RL q := List.forall_mem_cons.mpr ⟨lw_lk_28, List.forall_mem_cons.mpr ⟨lw_lk_29, fun _ h => absurd h List.not_mem_nil⟩⟩
theorem bL_b14_ok : ∀ b ∈ [bLk_14], xbok RL cL_law b := xbF_ok (lk := lL_b14) (ls := []) kL_b14 xno_sw (by decide +kernel)
def lL_b15 : List xL := [(3, 13, 54, 88, 70), (3, 13, 138, 96, 74)]
theorem kL_b15 : ∀ q ∈ lL_b15, xLq RL q := List.forall_mem_cons.mpr ⟨lw_lk_30, List.forall_mem_cons.mpr ⟨lw_lk_31, fun _ h => absurd h List.not_mem_nil⟩⟩
theorem bL_b15_ok : ∀ b ∈ [bLk_15], xbok RL cL_law b := xbF_ok (lk := lL_b15) (ls := []) kL_b15 xno_sw (by decide +kernel)
def lL_b16 : List xL := [(3, 13, 103, 88, 75), (3, 13, 235, 96, 78)]
theorem kL_b16 : ∀ q ∈ lL_b16, xLq RL q := List.forall_mem_cons.mpr ⟨lw_lk_32, List.forall_mem_cons.mpr ⟨lw_lk_33, fun _ h => absurd h List.not_mem_nil⟩⟩
theorem bL_b16_ok : ∀ b ∈ [bLk_16], xbok RL cL_law b := xbF_ok (lk := lL_b16) (ls := []) kL_b16 xno_sw (by decide +kernel)
def lL_b17 : List xL := []
theorem kL_b17 : ∀ q ∈ lL_b17, xLq RL q := fun _ h => absurd h List.not_mem_nil
theorem bL_b17_ok : ∀ b ∈ [bLk_17], xbok RL cL_law b := xbF_ok (lk := lL_b17) (ls := []) kL_b17 xno_sw (by decide +kernel)
def lL_b18 : List xL := []
theorem kL_b18 : ∀ q ∈ lL_b18, xLq RL q := fun _ h => absurd h List.not_mem_nil
theorem bL_b18_ok : ∀ b ∈ [bLk_18], xbok RL cL_law b := xbF_ok (lk := lL_b18) (ls := []) kL_b18 xno_sw (by decide +kernel)
def lL_b19 : List xL := [(3, 13, 47, 88, 79)]
theorem kL_b19 : ∀ q ∈ lL_b19, xLq RL q := List.forall_mem_cons.mpr ⟨lw_lk_34, fun _ h => absurd h List.not_mem_nil⟩
theorem bL_b19_ok : ∀ b ∈ [bLk_19], xbok RL cL_law b := xbF_ok (lk := lL_b19) (ls := []) kL_b19 xno_sw (by decide +kernel)
def lL_b20 : List xL := []
theorem kL_b20 : ∀ q ∈ lL_b20, xLq RL q := fun _ h => absurd h List.not_mem_nil
theorem bL_b20_ok : ∀ b ∈ [bLk_20], xbok RL cL_law b := xbF_ok (lk := lL_b20) (ls := []) kL_b20 xno_sw (by decide +kernel)
def lL_b21 : List xL := [(3, 13, 128, 96, 83)]
theorem kL_b21 : ∀ q ∈ lL_b21, xLq RL q := List.forall_mem_cons.mpr ⟨lw_lk_35, fun _ h => absurd h List.not_mem_nil⟩
theorem bL_b21_ok : ∀ b ∈ [bLk_21], xbok RL cL_law b := xbF_ok (lk := lL_b21) (ls := []) kL_b21 xno_sw (by decide +kernel)
def lL_b22 : List xL := []
theorem kL_b22 : ∀ q ∈ lL_b22, xLq RL q := fun _ h => absurd h List.not_mem_nil
theorem bL_b22_ok : ∀ b ∈ [bLk_22], xbok RL cL_law b := xbF_ok (lk := lL_b22) (ls := []) kL_b22 xno_sw (by decide +kernel)
def lL_b23 : List xL := []
theorem kL_b23 : ∀ q ∈ lL_b23, xLq RL q := fun _ h => absurd h List.not_mem_nil
theorem bL_b23_ok : ∀ b ∈ [bLk_23], xbok RL cL_law b := xbF_ok (lk := lL_b23) (ls := []) kL_b23 xno_sw (by decide +kernel)
def lL_b24 : List xL := [(3, 13, 77, 88, 84)]
theorem kL_b24 : ∀ q ∈ lL_b24, xLq RL q := List.forall_mem_cons.mpr ⟨lw_lk_36, fun _ h => absurd h List.not_mem_nil⟩
theorem bL_b24_ok : ∀ b ∈ [bLk_24], xbok RL cL_law b := xbF_ok (lk := lL_b24) (ls := []) kL_b24 xno_sw (by decide +kernel)
def lL_b25 : List xL := []
theorem kL_b25 : ∀ q ∈ lL_b25, xLq RL q := fun _ h => absurd h List.not_mem_nil
theorem bL_b25_ok : ∀ b ∈ [bLk_25], xbok RL cL_law b := xbF_ok (lk := lL_b25) (ls := []) kL_b25 xno_sw (by decide +kernel)
def lL_b26 : List xL := [(3, 13, 183, 96, 87)]
theorem kL_b26 : ∀ q ∈ lL_b26, xLq RL q := List.forall_mem_cons.mpr ⟨lw_lk_37, fun _ h => absurd h List.not_mem_nil⟩
theorem bL_b26_ok : ∀ b ∈ [bLk_26], xbok RL cL_law b := xbF_ok (lk := lL_b26) (ls := []) kL_b26 xno_sw (by decide +kernel)
def lL_b27 : List xL := [(3, 13, 82, 88, 88), (3, 13, 193, 96, 91)]
theorem kL_b27 : ∀ q ∈ lL_b27, xLq RL q := List.forall_mem_cons.mpr ⟨lw_lk_38, List.forall_mem_cons.mpr ⟨lw_lk_39, fun _ h => absurd h List.not_mem_nil⟩⟩
theorem bL_b27_ok : ∀ b ∈ [bLk_27], xbok RL cL_law b := xbF_ok (lk := lL_b27) (ls := []) kL_b27 xno_sw (by decide +kernel)
def lL_b28 : List xL := [(3, 13, 58, 88, 92), (3, 13, 142, 96, 95)]
theorem kL_b28 : ∀ q ∈ lL_b28, xLq RL q := List.forall_mem_cons.mpr ⟨lw_lk_40, List.forall_mem_cons.mpr ⟨lw_lk_41, fun _ h => absurd h List.not_mem_nil⟩⟩
theorem bL_b28_ok : ∀ b ∈ [bLk_28], xbok RL cL_law b := xbF_ok (lk := lL_b28) (ls := []) kL_b28 xno_sw (by decide +kernel)
def lL_b29 : List xL := [(3, 13, 50, 88, 96), (3, 13, 131, 96, 99)]
theorem kL_b29 : ∀ q ∈ lL_b29, xLq RL q := List.forall_mem_cons.mpr ⟨lw_lk_42, List.forall_mem_cons.mpr ⟨lw_lk_43, fun _ h => absurd h List.not_mem_nil⟩⟩
theorem bL_b29_ok : ∀ b ∈ [bLk_29], xbok RL cL_law b := xbF_ok (lk := lL_b29) (ls := []) kL_b29 xno_sw (by decide +kernel)
def lL_b30 : List xL := [(3, 13, 66, 88, 100), (3, 13, 154, 96, 104)]
theorem kL_b30 : ∀ q ∈ lL_b30, xLq RL q := List.forall_mem_cons.mpr ⟨lw_lk_44, List.forall_mem_cons.mpr ⟨lw_lk_45, fun _ h => absurd h List.not_mem_nil⟩⟩
theorem bL_b30_ok : ∀ b ∈ [bLk_30], xbok RL cL_law b := xbF_ok (lk := lL_b30) (ls := []) kL_b30 xno_sw (by decide +kernel)
def lL_b31 : List xL := [(3, 13, 88, 88, 105), (3, 13, 205, 96, 109)]
theorem kL_b31 : ∀ q ∈ lL_b31, xLq RL q := List.forall_mem_cons.mpr ⟨lw_lk_46, List.forall_mem_cons.mpr ⟨lw_lk_47, fun _ h => absurd h List.not_mem_nil⟩⟩
theorem bL_b31_ok : ∀ b ∈ [bLk_31], xbok RL cL_law b := xbF_ok (lk := lL_b31) (ls := []) kL_b31 xno_sw (by decide +kernel)
def lL_b32 : List xL := [(3, 13, 79, 88, 110), (3, 13, 186, 96, 113)]
theorem kL_b32 : ∀ q ∈ lL_b32, xLq RL q := List.forall_mem_cons.mpr ⟨lw_lk_48, List.forall_mem_cons.mpr ⟨lw_lk_49, fun _ h => absurd h List.not_mem_nil⟩⟩
theorem bL_b32_ok : ∀ b ∈ [bLk_32], xbok RL cL_law b := xbF_ok (lk := lL_b32) (ls := []) kL_b32 xno_sw (by decide +kernel)
def lL_b33 : List xL := [(3, 13, 101, 88, 114), (3, 13, 232, 96, 117)]
theorem kL_b33 : ∀ q ∈ lL_b33, xLq RL q := List.forall_mem_cons.mpr ⟨lw_lk_50, List.forall_mem_cons.mpr ⟨lw_lk_51, fun _ h => absurd h List.not_mem_nil⟩⟩
theorem bL_b33_ok : ∀ b ∈ [bLk_33], xbok RL cL_law b := xbF_ok (lk := lL_b33) (ls := []) kL_b33 xno_sw (by decide +kernel)
def lL_b34 : List xL := [(3, 13, 104, 88, 118), (3, 13, 236, 96, 121)]
theorem kL_b34 : ∀ q ∈ lL_b34, xLq RL q := List.forall_mem_cons.mpr ⟨lw_lk_52, List.forall_mem_cons.mpr ⟨lw_lk_53, fun _ h => absurd h List.not_mem_nil⟩⟩
theorem bL_b34_ok : ∀ b ∈ [bLk_34], xbok RL cL_law b := xbF_ok (lk := lL_b34) (ls := []) kL_b34 xno_sw (by decide +kernel)
def lL_b35 : List xL := [(3, 13, 51, 88, 122), (3, 13, 133, 96, 125)]
theorem kL_b35 : ∀ q ∈ lL_b35, xLq RL q := List.forall_mem_cons.mpr ⟨lw_lk_54, List.forall_mem_cons.mpr ⟨lw_lk_55, fun _ h => absurd h List.not_mem_nil⟩⟩
theorem bL_b35_ok : ∀ b ∈ [bLk_35], xbok RL cL_law b := xbF_ok (lk := lL_b35) (ls := []) kL_b35 xno_sw (by decide +kernel)
def lL_b36 : List xL := [(3, 13, 52, 88, 126), (3, 13, 135, 96, 129)]
theorem kL_b36 : ∀ q ∈ lL_b36, xLq RL q := List.forall_mem_cons.mpr ⟨lw_lk_56, List.forall_mem_cons.mpr ⟨lw_lk_57, fun _ h => absurd h List.not_mem_nil⟩⟩
theorem bL_b36_ok : ∀ b ∈ [bLk_36], xbok RL cL_law b := xbF_ok (lk := lL_b36) (ls := []) kL_b36 xno_sw (by decide +kernel)
def lL_b37 : List xL := [(3, 13, 53, 88, 130), (3, 13, 137, 96, 133)]
theorem kL_b37 : ∀ q ∈ lL_b37, xLq RL q := List.forall_mem_cons.mpr ⟨lw_lk_58, List.forall_mem_cons.mpr ⟨lw_lk_59, fun _ h => absurd h List.not_mem_nil⟩⟩
theorem bL_b37_ok : ∀ b ∈ [bLk_37], xbok RL cL_law b := xbF_ok (lk := lL_b37) (ls := []) kL_b37 xno_sw (by decide +kernel)
def lL_b38 : List xL := [(3, 13, 102, 88, 134), (3, 13, 233, 96, 138)]
theorem kL_b38 : ∀ q ∈ lL_b38, xLq RL q := List.forall_mem_cons.mpr ⟨lw_lk_60, List.forall_mem_cons.mpr ⟨lw_lk_61, fun _ h => absurd h List.not_mem_nil⟩⟩
theorem bL_b38_ok : ∀ b ∈ [bLk_38], xbok RL cL_law b := xbF_ok (lk := lL_b38) (ls := []) kL_b38 xno_sw (by decide +kernel)
def lL_b39 : List xL := [(3, 13, 87, 88, 139), (3, 13, 204, 96, 142)]
theorem kL_b39 : ∀ q ∈ lL_b39, xLq RL q := List.forall_mem_cons.mpr ⟨lw_lk_62, List.forall_mem_cons.mpr ⟨lw_lk_63, fun _ h => absurd h List.not_mem_nil⟩⟩
theorem bL_b39_ok : ∀ b ∈ [bLk_39], xbok RL cL_law b := xbF_ok (lk := lL_b39) (ls := []) kL_b39 xno_sw (by decide +kernel)
def lL_b40 : List xL := [(3, 13, 86, 88, 143), (3, 13, 202, 96, 146)]
theorem kL_b40 : ∀ q ∈ lL_b40, xLq RL q := List.forall_mem_cons.mpr ⟨lw_lk_64, List.forall_mem_cons.mpr ⟨lw_lk_65, fun _ h => absurd h List.not_mem_nil⟩⟩
theorem bL_b40_ok : ∀ b ∈ [bLk_40], xbok RL cL_law b := xbF_ok (lk := lL_b40) (ls := []) kL_b40 xno_sw (by decide +kernel)
def lL_b41 : List xL := [(3, 13, 42, 88, 147), (3, 13, 126, 96, 150)]
theorem kL_b41 : ∀ q ∈ lL_b41, xLq RL q := List.forall_mem_cons.mpr ⟨lw_lk_66, List.forall_mem_cons.mpr ⟨lw_lk_67, fun _ h => absurd h List.not_mem_nil⟩⟩
theorem bL_b41_ok : ∀ b ∈ [bLk_41], xbok RL cL_law b := xbF_ok (lk := lL_b41) (ls := []) kL_b41 xno_sw (by decide +kernel)
def lL_b42 : List xL := [(3, 13, 81, 88, 151), (3, 13, 192, 96, 154)]
theorem kL_b42 : ∀ q ∈ lL_b42, xLq RL q := List.forall_mem_cons.mpr ⟨lw_lk_68, List.forall_mem_cons.mpr ⟨lw_lk_69, fun _ h => absurd h List.not_mem_nil⟩⟩
theorem bL_b42_ok : ∀ b ∈ [bLk_42], xbok RL cL_law b := xbF_ok (lk := lL_b42) (ls := []) kL_b42 xno_sw (by decide +kernel)
def lL_b43 : List xL := [(3, 13, 62, 88, 155), (3, 13, 150, 96, 159)]
theorem kL_b43 : ∀ q ∈ lL_b43, xLq RL q := List.forall_mem_cons.mpr ⟨lw_lk_70, List.forall_mem_cons.mpr ⟨lw_lk_71, fun _ h => absurd h List.not_mem_nil⟩⟩
theorem bL_b43_ok : ∀ b ∈ [bLk_43], xbok RL cL_law b := xbF_ok (lk := lL_b43) (ls := []) kL_b43 xno_sw (by decide +kernel)
def lL_b44 : List xL := [(3, 13, 40, 88, 160), (3, 13, 124, 96, 163)]
theorem kL_b44 : ∀ q ∈ lL_b44, xLq RL q := List.forall_mem_cons.mpr ⟨lw_lk_72, List.forall_mem_cons.mpr ⟨lw_lk_73, fun _ h => absurd h List.not_mem_nil⟩⟩
theorem bL_b44_ok : ∀ b ∈ [bLk_44], xbok RL cL_law b := xbF_ok (lk := lL_b44) (ls := []) kL_b44 xno_sw (by decide +kernel)
def lL_b45 : List xL := [(3, 13, 94, 88, 164), (3, 13, 217, 96, 167)]
theorem kL_b45 : ∀ q ∈ lL_b45, xLq RL q := List.forall_mem_cons.mpr ⟨lw_lk_74, List.forall_mem_cons.mpr ⟨lw_lk_75, fun _ h => absurd h List.not_mem_nil⟩⟩
theorem bL_b45_ok : ∀ b ∈ [bLk_45], xbok RL cL_law b := xbF_ok (lk := lL_b45) (ls := []) kL_b45 xno_sw (by decide +kernel)
def lL_b46 : List xL := [(3, 13, 90, 88, 168), (3, 13, 210, 96, 171)]
theorem kL_b46 : ∀ q ∈ lL_b46, xLq RL q := List.forall_mem_cons.mpr ⟨lw_lk_76, List.forall_mem_cons.mpr ⟨lw_lk_77, fun _ h => absurd h List.not_mem_nil⟩⟩
theorem bL_b46_ok : ∀ b ∈ [bLk_46], xbok RL cL_law b := xbF_ok (lk := lL_b46) (ls := []) kL_b46 xno_sw (by decide +kernel)
def lL_b47 : List xL := [(3, 13, 74, 88, 172), (3, 13, 176, 96, 175)]
theorem kL_b47 : ∀ q ∈ lL_b47, xLq RL q := List.forall_mem_cons.mpr ⟨lw_lk_78, List.forall_mem_cons.mpr ⟨lw_lk_79, fun _ h => absurd h List.not_mem_nil⟩⟩
theorem bL_b47_ok : ∀ b ∈ [bLk_47], xbok RL cL_law b := xbF_ok (lk := lL_b47) (ls := []) kL_b47 xno_sw (by decide +kernel)
def lL_b48 : List xL := [(3, 13, 95, 88, 176), (3, 13, 219, 96, 179)]
theorem kL_b48 : ∀ q ∈ lL_b48, xLq RL q := List.forall_mem_cons.mpr ⟨lw_lk_80, List.forall_mem_cons.mpr ⟨lw_lk_81, fun _ h => absurd h List.not_mem_nil⟩⟩
theorem bL_b48_ok : ∀ b ∈ [bLk_48], xbok RL cL_law b := xbF_ok (lk := lL_b48) (ls := []) kL_b48 xno_sw (by decide +kernel)
def lL_b49 : List xL := [(3, 13, 98, 88, 180), (3, 13, 228, 96, 183)]
theorem kL_b49 : ∀ q ∈ lL_b49, xLq RL q := List.forall_mem_cons.mpr ⟨lw_lk_82, List.forall_mem_cons.mpr ⟨lw_lk_83, fun _ h => absurd h List.not_mem_nil⟩⟩
theorem bL_b49_ok : ∀ b ∈ [bLk_49], xbok RL cL_law b := xbF_ok (lk := lL_b49) (ls := []) kL_b49 xno_sw (by decide +kernel)
def lL_b50 : List xL := [(3, 13, 73, 88, 184), (3, 13, 175, 96, 187)]
theorem kL_b50 : ∀ q ∈ lL_b50, xLq RL q := List.forall_mem_cons.mpr ⟨lw_lk_84, List.forall_mem_cons.mpr ⟨lw_lk_85, fun _ h => absurd h List.not_mem_nil⟩⟩
theorem bL_b50_ok : ∀ b ∈ [bLk_50], xbok RL cL_law b := xbF_ok (lk := lL_b50) (ls := []) kL_b50 xno_sw (by decide +kernel)
def lL_b51 : List xL := [(3, 13, 75, 88, 188), (3, 13, 178, 96, 191)]
theorem kL_b51 : ∀ q ∈ lL_b51, xLq RL q := List.forall_mem_cons.mpr ⟨lw_lk_86, List.forall_mem_cons.mpr ⟨lw_lk_87, fun _ h => absurd h List.not_mem_nil⟩⟩
theorem bL_b51_ok : ∀ b ∈ [bLk_51], xbok RL cL_law b := xbF_ok (lk := lL_b51) (ls := []) kL_b51 xno_sw (by decide +kernel)
def lL_b52 : List xL := []
theorem kL_b52 : ∀ q ∈ lL_b52, xLq RL q := fun _ h => absurd h List.not_mem_nil
theorem bL_b52_ok : ∀ b ∈ [bLk_52], xbok RL cL_law b := xbF_ok (lk := lL_b52) (ls := []) kL_b52 xno_sw (by decide +kernel)
def lL_b53 : List xL := []
theorem kL_b53 : ∀ q ∈ lL_b53, xLq RL q := fun _ h => absurd h List.not_mem_nil
theorem bL_b53_ok : ∀ b ∈ [bLk_53], xbok RL cL_law b := xbF_ok (lk := lL_b53) (ls := []) kL_b53 xno_sw (by decide +kernel)
def lL_b54 : List xL := [(3, 13, 96, 88, 192)]
theorem kL_b54 : ∀ q ∈ lL_b54, xLq RL q := List.forall_mem_cons.mpr ⟨lw_lk_88, fun _ h => absurd h List.not_mem_nil⟩
theorem bL_b54_ok : ∀ b ∈ [bLk_54], xbok RL cL_law b := xbF_ok (lk := lL_b54) (ls := []) kL_b54 xno_sw (by decide +kernel)
def lL_b55 : List xL := []
theorem kL_b55 : ∀ q ∈ lL_b55, xLq RL q := fun _ h => absurd h List.not_mem_nil
theorem bL_b55_ok : ∀ b ∈ [bLk_55], xbok RL cL_law b := xbF_ok (lk := lL_b55) (ls := []) kL_b55 xno_sw (by decide +kernel)
def lL_b56 : List xL := [(3, 13, 223, 96, 196)]
theorem kL_b56 : ∀ q ∈ lL_b56, xLq RL q := List.forall_mem_cons.mpr ⟨lw_lk_89, fun _ h => absurd h List.not_mem_nil⟩
theorem bL_b56_ok : ∀ b ∈ [bLk_56], xbok RL cL_law b := xbF_ok (lk := lL_b56) (ls := []) kL_b56 xno_sw (by decide +kernel)
def lL_b57 : List xL := [(3, 13, 91, 88, 197), (3, 13, 212, 96, 200)]
theorem kL_b57 : ∀ q ∈ lL_b57, xLq RL q := List.forall_mem_cons.mpr ⟨lw_lk_90, List.forall_mem_cons.mpr ⟨lw_lk_91, fun _ h => absurd h List.not_mem_nil⟩⟩
theorem bL_b57_ok : ∀ b ∈ [bLk_57], xbok RL cL_law b := xbF_ok (lk := lL_b57) (ls := []) kL_b57 xno_sw (by decide +kernel)
def lL_b58 : List xL := [(3, 13, 84, 88, 201), (3, 13, 197, 96, 204)]
theorem kL_b58 : ∀ q ∈ lL_b58, xLq RL q := List.forall_mem_cons.mpr ⟨lw_lk_92, List.forall_mem_cons.mpr ⟨lw_lk_93, fun _ h => absurd h List.not_mem_nil⟩⟩
theorem bL_b58_ok : ∀ b ∈ [bLk_58], xbok RL cL_law b := xbF_ok (lk := lL_b58) (ls := []) kL_b58 xno_sw (by decide +kernel)
def lL_b59 : List xL := [(3, 13, 93, 88, 205), (3, 13, 216, 96, 208)]
theorem kL_b59 : ∀ q ∈ lL_b59, xLq RL q := List.forall_mem_cons.mpr ⟨lw_lk_94, List.forall_mem_cons.mpr ⟨lw_lk_95, fun _ h => absurd h List.not_mem_nil⟩⟩
theorem bL_b59_ok : ∀ b ∈ [bLk_59], xbok RL cL_law b := xbF_ok (lk := lL_b59) (ls := []) kL_b59 xno_sw (by decide +kernel)
def lL_b60 : List xL := [(3, 13, 38, 88, 209), (3, 13, 119, 96, 212)]
theorem kL_b60 : ∀ q ∈ lL_b60, xLq RL q := List.forall_mem_cons.mpr ⟨lw_lk_96, List.forall_mem_cons.mpr ⟨lw_lk_97, fun _ h => absurd h List.not_mem_nil⟩⟩
theorem bL_b60_ok : ∀ b ∈ [bLk_60], xbok RL cL_law b := xbF_ok (lk := lL_b60) (ls := []) kL_b60 xno_sw (by decide +kernel)
def lL_b61 : List xL := [(3, 13, 89, 88, 213), (3, 13, 209, 96, 216)]
theorem kL_b61 : ∀ q ∈ lL_b61, xLq RL q := List.forall_mem_cons.mpr ⟨lw_lk_98, List.forall_mem_cons.mpr ⟨lw_lk_99, fun _ h => absurd h List.not_mem_nil⟩⟩
theorem bL_b61_ok : ∀ b ∈ [bLk_61], xbok RL cL_law b := xbF_ok (lk := lL_b61) (ls := []) kL_b61 xno_sw (by decide +kernel)
def lL_b62 : List xL := [(3, 13, 44, 88, 217), (3, 13, 127, 96, 220)]
theorem kL_b62 : ∀ q ∈ lL_b62, xLq RL q := List.forall_mem_cons.mpr ⟨lw_lk_100, List.forall_mem_cons.mpr ⟨lw_lk_101, fun _ h => absurd h List.not_mem_nil⟩⟩
theorem bL_b62_ok : ∀ b ∈ [bLk_62], xbok RL cL_law b := xbF_ok (lk := lL_b62) (ls := []) kL_b62 xno_sw (by decide +kernel)
def lL_b63 : List xL := [(3, 13, 65, 88, 221), (3, 13, 153, 96, 224)]
theorem kL_b63 : ∀ q ∈ lL_b63, xLq RL q := List.forall_mem_cons.mpr ⟨lw_lk_102, List.forall_mem_cons.mpr ⟨lw_lk_103, fun _ h => absurd h List.not_mem_nil⟩⟩
theorem bL_b63_ok : ∀ b ∈ [bLk_63], xbok RL cL_law b := xbF_ok (lk := lL_b63) (ls := []) kL_b63 xno_sw (by decide +kernel)
def lL_b64 : List xL := [(3, 13, 37, 88, 225), (3, 13, 111, 96, 228)]
theorem kL_b64 : ∀ q ∈ lL_b64, xLq RL q := List.forall_mem_cons.mpr ⟨lw_lk_104, List.forall_mem_cons.mpr ⟨lw_lk_105, fun _ h => absurd h List.not_mem_nil⟩⟩
theorem bL_b64_ok : ∀ b ∈ [bLk_64], xbok RL cL_law b := xbF_ok (lk := lL_b64) (ls := []) kL_b64 xno_sw (by decide +kernel)
def lL_b65 : List xL := []
theorem kL_b65 : ∀ q ∈ lL_b65, xLq RL q := fun _ h => absurd h List.not_mem_nil
theorem bL_b65_ok : ∀ b ∈ [bLk_65], xbok RL cL_law b := xbF_ok (lk := lL_b65) (ls := []) kL_b65 xno_sw (by decide +kernel)
def lL_b66 : List xL := []
theorem kL_b66 : ∀ q ∈ lL_b66, xLq RL q := fun _ h => absurd h List.not_mem_nil
theorem bL_b66_ok : ∀ b ∈ [bLk_66], xbok RL cL_law b := xbF_ok (lk := lL_b66) (ls := []) kL_b66 xno_sw (by decide +kernel)
theorem bL_a_ok : ∀ b ∈ bL_a, xbok RL cL_law b := List.forall_mem_cons.mpr ⟨bL_b0_ok _ List.mem_cons_self, List.forall_mem_cons.mpr ⟨bL_b1_ok _ List.mem_cons_self, List.forall_mem_cons.mpr ⟨bL_b2_ok _ List.mem_cons_self, List.forall_mem_cons.mpr ⟨bL_b3_ok _ List.mem_cons_self, List.forall_mem_cons.mpr ⟨bL_b4_ok _ List.mem_cons_self, List.forall_mem_cons.mpr ⟨bL_b5_ok _ List.mem_cons_self, List.forall_mem_cons.mpr ⟨bL_b6_ok _ List.mem_cons_self, List.forall_mem_cons.mpr ⟨bL_b7_ok _ List.mem_cons_self, List.forall_mem_cons.mpr ⟨bL_b8_ok _ List.mem_cons_self, List.forall_mem_cons.mpr ⟨bL_b9_ok _ List.mem_cons_self, List.forall_mem_cons.mpr ⟨bL_b10_ok _ List.mem_cons_self, List.forall_mem_cons.mpr ⟨bL_b11_ok _ List.mem_cons_self, List.forall_mem_cons.mpr ⟨bL_b12_ok _ List.mem_cons_self, List.forall_mem_cons.mpr ⟨bL_b13_ok _ List.mem_cons_self, List.forall_mem_cons.mpr ⟨bL_b14_ok _ List.mem_cons_self, List.forall_mem_cons.mpr ⟨bL_b15_ok _ List.mem_cons_self, List.forall_mem_cons.mpr ⟨bL_b16_ok _ List.mem_cons_self, List.forall_mem_cons.mpr ⟨bL_b17_ok _ List.mem_cons_self, List.forall_mem_cons.mpr ⟨bL_b18_ok _ List.mem_cons_self, List.forall_mem_cons.mpr ⟨bL_b19_ok _ List.mem_cons_self, List.forall_mem_cons.mpr ⟨bL_b20_ok _ List.mem_cons_self, List.forall_mem_cons.mpr ⟨bL_b21_ok _ List.mem_cons_self, List.forall_mem_cons.mpr ⟨bL_b22_ok _ List.mem_cons_self, List.forall_mem_cons.mpr ⟨bL_b23_ok _ List.mem_cons_self, List.forall_mem_cons.mpr ⟨bL_b24_ok _ List.mem_cons_self, List.forall_mem_cons.mpr ⟨bL_b25_ok _ List.mem_cons_self, List.forall_mem_cons.mpr ⟨bL_b26_ok _ List.mem_cons_self, List.forall_mem_cons.mpr ⟨bL_b27_ok _ List.mem_cons_self, List.forall_mem_cons.mpr ⟨bL_b28_ok _ List.mem_cons_self, List.forall_mem_cons.mpr ⟨bL_b29_ok _ List.mem_cons_self, List.forall_mem_cons.mpr ⟨bL_b30_ok _ List.mem_cons_self, List.forall_mem_cons.mpr ⟨bL_b31_ok _ List.mem_cons_self, List.forall_mem_cons.mpr ⟨bL_b32_ok _ List.mem_cons_self, List.forall_mem_cons.mpr ⟨bL_b33_ok _ List.mem_cons_self, List.forall_mem_cons.mpr ⟨bL_b34_ok _ List.mem_cons_self, List.forall_mem_cons.mpr ⟨bL_b35_ok _ List.mem_cons_self, List.forall_mem_cons.mpr ⟨bL_b36_ok _ List.mem_cons_self, List.forall_mem_cons.mpr ⟨bL_b37_ok _ List.mem_cons_self, List.forall_mem_cons.mpr ⟨bL_b38_ok _ List.mem_cons_self, List.forall_mem_cons.mpr ⟨bL_b39_ok _ List.mem_cons_self, List.forall_mem_cons.mpr ⟨bL_b40_ok _ List.mem_cons_self, List.forall_mem_cons.mpr ⟨bL_b41_ok _ List.mem_cons_self, List.forall_mem_cons.mpr ⟨bL_b42_ok _ List.mem_cons_self, List.forall_mem_cons.mpr ⟨bL_b43_ok _ List.mem_cons_self, List.forall_mem_cons.mpr ⟨bL_b44_ok _ List.mem_cons_self, List.forall_mem_cons.mpr ⟨bL_b45_ok _ List.mem_cons_self, List.forall_mem_cons.mpr ⟨bL_b46_ok _ List.mem_cons_self, List.forall_mem_cons.mpr ⟨bL_b47_ok _ List.mem_cons_self, List.forall_mem_cons.mpr ⟨bL_b48_ok _ List.mem_cons_self, List.forall_mem_cons.mpr ⟨bL_b49_ok _ List.mem_cons_self, List.forall_mem_cons.mpr ⟨bL_b50_ok _ List.mem_cons_self, List.forall_mem_cons.mpr ⟨bL_b51_ok _ List.mem_cons_self, List.forall_mem_cons.mpr ⟨bL_b52_ok _ List.mem_cons_self, List.forall_mem_cons.mpr ⟨bL_b53_ok _ List.mem_cons_self, List.forall_mem_cons.mpr ⟨bL_b54_ok _ List.mem_cons_self, List.forall_mem_cons.mpr ⟨bL_b55_ok _ List.mem_cons_self, List.forall_mem_cons.mpr ⟨bL_b56_ok _ List.mem_cons_self, List.forall_mem_cons.mpr ⟨bL_b57_ok _ List.mem_cons_self, List.forall_mem_cons.mpr ⟨bL_b58_ok _ List.mem_cons_self, List.forall_mem_cons.mpr ⟨bL_b59_ok _ List.mem_cons_self, List.forall_mem_cons.mpr ⟨bL_b60_ok _ List.mem_cons_self, List.forall_mem_cons.mpr ⟨bL_b61_ok _ List.mem_cons_self, List.forall_mem_cons.mpr ⟨bL_b62_ok _ List.mem_cons_self, List.forall_mem_cons.mpr ⟨bL_b63_ok _ List.mem_cons_self, List.forall_mem_cons.mpr ⟨bL_b64_ok _ List.mem_cons_self, List.forall_mem_cons.mpr ⟨bL_b65_ok _ List.mem_cons_self, List.forall_mem_cons.mpr ⟨bL_b66_ok _ List.mem_cons_self, fun _ h => absurd h List.not_mem_nil⟩⟩⟩⟩⟩⟩⟩⟩⟩⟩⟩⟩⟩⟩⟩⟩⟩⟩⟩⟩⟩⟩⟩⟩⟩⟩⟩⟩⟩⟩⟩⟩⟩⟩⟩⟩⟩⟩⟩⟩⟩⟩⟩⟩⟩⟩⟩⟩⟩⟩⟩⟩⟩⟩⟩⟩⟩⟩⟩⟩⟩⟩⟩⟩⟩⟩⟩
theorem bL_p_ok : ∀ b ∈ bL_p, xbok RL cL_law b := bL_b0_ok
