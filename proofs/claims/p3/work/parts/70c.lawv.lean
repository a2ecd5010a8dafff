section
def lL_b0 : List xL := [(3, 24, 11, 0, 7), (3, 13, 67, 92, 9), (3, 24, 12, 0, 10), (3, 13, 156, 100, 12)]
theorem kL_b0 : ∀ q ∈ lL_b0, xLq RL q := List.forall_mem_cons.mpr ⟨lw_lk_0, List.forall_mem_cons.mpr ⟨lw_lk_1, List.forall_mem_cons.mpr ⟨lw_lk_2, List.forall_mem_cons.mpr ⟨lw_lk_3, fun _ h => absurd h List.not_mem_nil⟩⟩⟩⟩
theorem bL_b0_ok : ∀ b ∈ [bLk_0], xbok RL cL_law b := xbF_ok (lk := lL_b0) (ls := []) kL_b0 xno_sw (by decide +kernel)
def lL_b1 : List xL := []
theorem kL_b1 : ∀ q ∈ lL_b1, xLq RL q := fun _ h => absurd h List.not_mem_nil
theorem bL_b1_ok : ∀ b ∈ [bLk_1], xbok RL cL_law b := xbF_ok (lk := lL_b1) (ls := []) kL_b1 xno_sw (by decide +kernel)
def lL_b2 : List xL := [(3, 13, 59, 88, 13), (3, 13, 144, 96, 17)]
theorem kL_b2 : ∀ q ∈ lL_b2, xLq RL q := List.forall_mem_cons.mpr ⟨lw_lk_4, List.forall_mem_cons.mpr ⟨lw_lk_5, fun _ h => absurd h List.not_mem_nil⟩⟩
theorem bL_b2_ok : ∀ b ∈ [bLk_2], xbok RL cL_law b := xbF_ok (lk := lL_b2) (ls := []) kL_b2 xno_sw (by decide +kernel)
def lL_b3 : List xL := [(3, 13, 56, 88, 18), (3, 13, 139, 96, 22)]
theorem kL_b3 : ∀ q ∈ lL_b3, xLq RL q := List.forall_mem_cons.mpr ⟨lw_lk_6, List.forall_mem_cons.mpr ⟨lw_lk_7, fun _ h => absurd h List.not_mem_nil⟩⟩
theorem bL_b3_ok : ∀ b ∈ [bLk_3], xbok RL cL_law b := xbF_ok (lk := lL_b3) (ls := []) kL_b3 xno_sw (by decide +kernel)
def lL_b4 : List xL := [(3, 13, 60, 88, 23), (3, 13, 145, 96, 27)]
theorem kL_b4 : ∀ q ∈ lL_b4, xLq RL q := List.forall_mem_cons.mpr ⟨lw_lk_8, List.forall_mem_cons.mpr ⟨lw_lk_9, fun _ h => absurd h List.not_mem_nil⟩⟩
theorem bL_b4_ok : ∀ b ∈ [bLk_4], xbok RL cL_law b := xbF_ok (lk := lL_b4) (ls := []) kL_b4 xno_sw (by decide +kernel)
def lL_b5 : List xL := [(3, 13, 57, 88, 28), (3, 13, 141, 96, 31)]
theorem kL_b5 : ∀ q ∈ lL_b5, xLq RL q := List.forall_mem_cons.mpr ⟨lw_lk_10, List.forall_mem_cons.mpr ⟨lw_lk_11, fun _ h => absurd h List.not_mem_nil⟩⟩
theorem bL_b5_ok : ∀ b ∈ [bLk_5], xbok RL cL_law b := xbF_ok (lk := lL_b5) (ls := []) kL_b5 xno_sw (by decide +kernel)
def lL_b6 : List xL := [(3, 13, 76, 88, 32), (3, 13, 180, 96, 36)]
theorem kL_b6 : ∀ q ∈ lL_b6, xLq RL q := List.forall_mem_cons.mpr ⟨lw_lk_12, List.forall_mem_cons.mpr ⟨lw_lk_13, fun _ h => absurd h List.not_mem_nil⟩⟩
theorem bL_b6_ok : ∀ b ∈ [bLk_6], xbok RL cL_law b := xbF_ok (lk := lL_b6) (ls := []) kL_b6 xno_sw (by decide +kernel)
def lL_b7 : List xL := [(3, 13, 83, 88, 37), (3, 13, 196, 96, 40)]
theorem kL_b7 : ∀ q ∈ lL_b7, xLq RL q := List.forall_mem_cons.mpr ⟨lw_lk_14, List.forall_mem_cons.mpr ⟨lw_lk_15, fun _ h => absurd h List.not_mem_nil⟩⟩
theorem bL_b7_ok : ∀ b ∈ [bLk_7], xbok RL cL_law b := xbF_ok (lk := lL_b7) (ls := []) kL_b7 xno_sw (by decide +kernel)
def lL_b8 : List xL := [(3, 13, 97, 88, 41), (3, 13, 225, 96, 44)]
theorem kL_b8 : ∀ q ∈ lL_b8, xLq RL q := List.forall_mem_cons.mpr ⟨lw_lk_16, List.forall_mem_cons.mpr ⟨lw_lk_17, fun _ h => absurd h List.not_mem_nil⟩⟩
theorem bL_b8_ok : ∀ b ∈ [bLk_8], xbok RL cL_law b := xbF_ok (lk := lL_b8) (ls := []) kL_b8 xno_sw (by decide +kernel)
def lL_b9 : List xL := [(3, 13, 39, 88, 45), (3, 13, 120, 96, 49)]
theorem kL_b9 : ∀ q ∈ lL_b9, xLq RL q := List.forall_mem_cons.mpr ⟨lw_lk_18, List.forall_mem_cons.mpr ⟨lw_lk_19, fun _ h => absurd h List.not_mem_nil⟩⟩
theorem bL_b9_ok : ∀ b ∈ [bLk_9], xbok RL cL_law b := xbF_ok (lk := lL_b9) (ls := []) kL_b9 xno_sw (by decide +kernel)
def lL_b10 : List xL := [(3, 13, 78, 88, 50), (3, 13, 184, 96, 53)]
theorem kL_b10 : ∀ q ∈ lL_b10, xLq RL q := List.forall_mem_cons.mpr ⟨lw_lk_20, List.forall_mem_cons.mpr ⟨lw_lk_21, fun _ h => absurd h List.not_mem_nil⟩⟩
theorem bL_b10_ok : ∀ b ∈ [bLk_10], xbok RL cL_law b := xbF_ok (lk := lL_b10) (ls := []) kL_b10 xno_sw (by decide +kernel)
def lL_b11 : List xL := [(3, 13, 105, 88, 54), (3, 13, 239, 96, 57)]
theorem kL_b11 : ∀ q ∈ lL_b11, xLq RL q := List.forall_mem_cons.mpr ⟨lw_lk_22, List.forall_mem_cons.mpr ⟨lw_lk_23, fun _ h => absurd h List.not_mem_nil⟩⟩
theorem bL_b11_ok : ∀ b ∈ [bLk_11], xbok RL cL_law b := xbF_ok (lk := lL_b11) (ls := []) kL_b11 xno_sw (by decide +kernel)
def lL_b12 : List xL := [(3, 13, 85, 88, 58), (3, 13, 201, 96, 61)]
theorem kL_b12 : ∀ q ∈ lL_b12, xLq RL q := List.forall_mem_cons.mpr ⟨lw_lk_24, List.forall_mem_cons.mpr ⟨lw_lk_25, fun _ h => absurd h List.not_mem_nil⟩⟩
theorem bL_b12_ok : ∀ b ∈ [bLk_12], xbok RL cL_law b := xbF_ok (lk := lL_b12) (ls := []) kL_b12 xno_sw (by decide +kernel)
def lL_b13 : List xL := [(3, 13, 100, 88, 62), (3, 13, 230, 96, 65)]
theorem kL_b13 : ∀ q ∈ lL_b13, xLq RL q := List.forall_mem_cons.mpr ⟨lw_lk_26, List.forall_mem_cons.mpr ⟨lw_lk_27, fun _ h => absurd h List.not_mem_nil⟩⟩
theorem bL_b13_ok : ∀ b ∈ [bLk_13], xbok RL cL_law b := xbF_ok (lk := lL_b13) (ls := []) kL_b13 xno_sw (by decide +kernel)
def lL_b14 : List xL := [(3, 13, 48, 88, 66), (3, 13, 129, 96, 69)]
theorem kL_b14 : ∀ q ∈ lL_b14, xLq RL q := List.forall_mem_cons.mpr ⟨lw_lk_28, List.forall_mem_cons.mpr ⟨lw_lk_29, fun _ h => absurd h List.not_mem_nil⟩⟩
theorem bL_b14_ok : ∀ b ∈ [bLk_14], xbok RL cL_law b := xbF_ok (lk := lL_b14) (ls := []) kL_b14 xno_sw (by decide +kernel)
def lL_b15 : List xL := [(3, 13, 54, 88, 70), (3, 13, 138, 96, 74)]
theorem kL_b15 : ∀ q ∈ lL_b15, xLq RL q := List.forall_mem_cons.mpr ⟨lw_lk_30, List.forall_mem_cons.mpr ⟨lw_lk_31, fun _ h => absurd h List.not_mem_nil⟩⟩
theorem bL_b15_ok : ∀ b ∈ [bLk_15], xbok RL cL_law b := xbF_ok (lk := lL_b15) (ls := []) kL_b15 xno_sw (by decide +kernel)
def lL_b16 : List xL := [(3, 13, 103, 88, 75), (3, 13, 235, 96, 78)]
theorem kL_b16 : ∀ q ∈ lL_b16, xLq RL q := List.forall_mem_cons.mpr ⟨lw_lk_32, List.forall_mem_cons.mpr ⟨lw_lk_33, fun _ h => absurd h List.not_mem_nil⟩⟩
theorem bL_b16_ok : ∀ b ∈ [bLk_16], xbok RL cL_law b := xbF_ok (lk := lL_b16) (ls := []) kL_b16 xno_sw (by decide +kernel)
def lL_b17 : List xL := []
theorem kL_b17 : ∀ q ∈ lL_b17, xLq RL q := fun _ h => absurd h List.not_mem_nil
theorem bL_b17_ok : ∀ b ∈ [bLk_17], xbok RL cL_law b := xbF_ok (lk := lL_b17) (ls := []) kL_b17 xno_sw (by decide +kernel)
def lL_b18 : List xL := []
theorem kL_b18 : ∀ q ∈ lL_b18, xLq RL q := fun _ h => absurd h List.not_mem_nil
theorem bL_b18_ok : ∀ b ∈ [bLk_18], xbok RL cL_law b := xbF_ok (lk := lL_b18) (ls := []) kL_b18 xno_sw (by decide +kernel)
def lL_b19 : List xL := [(3, 13, 47, 88, 79)]
theorem kL_b19 : ∀ q ∈ lL_b19, xLq RL q := List.forall_mem_cons.mpr ⟨lw_lk_34, fun _ h => absurd h List.not_mem_nil⟩
theorem bL_b19_ok : ∀ b ∈ [bLk_19], xbok RL cL_law b := xbF_ok (lk := lL_b19) (ls := []) kL_b19 xno_sw (by decide +kernel)
def lL_b20 : List xL := []
theorem kL_b20 : ∀ q ∈ lL_b20, xLq RL q := fun _ h => absurd h List.not_mem_nil
theorem bL_b20_ok : ∀ b ∈ [bLk_20], xbok RL cL_law b := xbF_ok (lk := lL_b20) (ls := []) kL_b20 xno_sw (by decide +kernel)
def lL_b21 : List xL := [(3, 13, 128, 96, 83)]
theorem kL_b21 : ∀ q ∈ lL_b21, xLq RL q := List.forall_mem_cons.mpr ⟨lw_lk_35, fun _ h => absurd h List.not_mem_nil⟩
theorem bL_b21_ok : ∀ b ∈ [bLk_21], xbok RL cL_law b := xbF_ok (lk := lL_b21) (ls := []) kL_b21 xno_sw (by decide +kernel)
def lL_b22 : List xL := []
theorem kL_b22 : ∀ q ∈ lL_b22, xLq RL q := fun _ h => absurd h List.not_mem_nil
theorem bL_b22_ok : ∀ b ∈ [bLk_22], xbok RL cL_law b := xbF_ok (lk := lL_b22) (ls := []) kL_b22 xno_sw (by decide +kernel)
def lL_b23 : List xL := []
theorem kL_b23 : ∀ q ∈ lL_b23, xLq RL q := fun _ h => absurd h List.not_mem_nil
theorem bL_b23_ok : ∀ b ∈ [bLk_23], xbok RL cL_law b := xbF_ok (lk := lL_b23) (ls := []) kL_b23 xno_sw (by decide +kernel)
def lL_b24 : List xL := [(3, 13, 77, 88, 84)]
theorem kL_b24 : ∀ q ∈ lL_b24, xLq RL q := List.forall_mem_cons.mpr ⟨lw_lk_36, fun _ h => absurd h List.not_mem_nil⟩
theorem bL_b24_ok : ∀ b ∈ [bLk_24], xbok RL cL_law b := xbF_ok (lk := lL_b24) (ls := []) kL_b24 xno_sw (by decide +kernel)
def lL_b25 : List xL := []
theorem kL_b25 : ∀ q ∈ lL_b25, xLq RL q := fun _ h => absurd h List.not_mem_nil
theorem bL_b25_ok : ∀ b ∈ [bLk_25], xbok RL cL_law b := xbF_ok (lk := lL_b25) (ls := []) kL_b25 xno_sw (by decide +kernel)
def lL_b26 : List xL := [(3, 13, 183, 96, 87)]
theorem kL_b26 : ∀ q ∈ lL_b26, xLq RL q := List.forall_mem_cons.mpr ⟨lw_lk_37, fun _ h => absurd h List.not_mem_nil⟩
theorem bL_b26_ok : ∀ b ∈ [bLk_26], xbok RL cL_law b := xbF_ok (lk := lL_b26) (ls := []) kL_b26 xno_sw (by decide +kernel)
def lL_b27 : List xL := [(3, 13, 82, 88, 88), (3, 13, 193, 96, 91)]
theorem kL_b27 : ∀ q ∈ lL_b27, xLq RL q := List.forall_mem_cons.mpr ⟨lw_lk_38, List.forall_mem_cons.mpr ⟨lw_lk_39, fun _ h => absurd h List.not_mem_nil⟩⟩
theorem bL_b27_ok : ∀ b ∈ [bLk_27], xbok RL cL_law b := xbF_ok (lk := lL_b27) (ls := []) kL_b27 xno_sw (by decide +kernel)
def lL_b28 : List xL := [(3, 13, 58, 88, 92), (3, 13, 142, 96, 95)]
theorem kL_b28 : ∀ q ∈ lL_b28, xLq RL q := List.forall_mem_cons.mpr ⟨lw_lk_40, List.forall_mem_cons.mpr ⟨lw_lk_41, fun _ h => absurd h List.not_mem_nil⟩⟩
theorem bL_b28_ok : ∀ b ∈ [bLk_28], xbok RL cL_law b := xbF_ok (lk := lL_b28) (ls := []) kL_b28 xno_sw (by decide +kernel)
def lL_b29 : List xL := [(3, 13, 50, 88, 96), (3, 13, 131, 96, 99)]
theorem kL_b29 : ∀ q ∈ lL_b29, xLq RL q := List.forall_mem_cons.mpr ⟨lw_lk_42, List.forall_mem_cons.mpr ⟨lw_lk_43, fun _ h => absurd h List.not_mem_nil⟩⟩
theorem bL_b29_ok : ∀ b ∈ [bLk_29], xbok RL cL_law b := xbF_ok (lk := lL_b29) (ls := []) kL_b29 xno_sw (by decide +kernel)
def lL_b30 : List xL := [(3, 13, 66, 88, 100), (3, 13, 154, 96, 104)]
theorem kL_b30 : ∀ q ∈ lL_b30, xLq RL q := List.forall_mem_cons.mpr ⟨lw_lk_44, List.forall_mem_cons.mpr ⟨lw_lk_45, fun _ h => absurd h List.not_mem_nil⟩⟩
theorem bL_b30_ok : ∀ b ∈ [bLk_30], xbok RL cL_law b := xbF_ok (lk := lL_b30) (ls := []) kL_b30 xno_sw (by decide +kernel)
def lL_b31 : List xL := [(3, 13, 88, 88, 105), (3, 13, 205, 96, 109)]
theorem kL_b31 : ∀ q ∈ lL_b31, xLq RL q := List.forall_mem_cons.mpr ⟨lw_lk_46, List.forall_mem_cons.mpr ⟨lw_lk_47, fun _ h => absurd h List.not_mem_nil⟩⟩
theorem bL_b31_ok : ∀ b ∈ [bLk_31], xbok RL cL_law b := xbF_ok (lk := lL_b31) (ls := []) kL_b31 xno_sw (by decide +kernel)
def lL_b32 : List xL := [(3, 13, 79, 88, 110), (3, 13, 186, 96, 113)]
theorem kL_b32 : ∀ q ∈ lL_b32, xLq RL q := List.forall_mem_cons.mpr ⟨lw_lk_48, List.forall_mem_cons.mpr ⟨lw_lk_49, fun _ h => absurd h List.not_mem_nil⟩⟩
theorem bL_b32_ok : ∀ b ∈ [bLk_32], xbok RL cL_law b := xbF_ok (lk := lL_b32) (ls := []) kL_b32 xno_sw (by decide +kernel)
def lL_b33 : List xL := [(3, 13, 101, 88, 114), (3, 13, 232, 96, 117)]
theorem kL_b33 : ∀ q ∈ lL_b33, xLq RL q := List.forall_mem_cons.mpr ⟨lw_lk_50, List.forall_mem_cons.mpr ⟨lw_lk_51, fun _ h => absurd h List.not_mem_nil⟩⟩
theorem bL_b33_ok : ∀ b ∈ [bLk_33], xbok RL cL_law b := xbF_ok (lk := lL_b33) (ls := []) kL_b33 xno_sw (by decide +kernel)
def lL_b34 : List xL := [(3, 13, 104, 88, 118), (3, 13, 236, 96, 121)]
theorem kL_b34 : ∀ q ∈ lL_b34, xLq RL q := List.forall_mem_cons.mpr ⟨lw_lk_52, List.forall_mem_cons.mpr ⟨lw_lk_53, fun _ h => absurd h List.not_mem_nil⟩⟩
theorem bL_b34_ok : ∀ b ∈ [bLk_34], xbok RL cL_law b := xbF_ok (lk := lL_b34) (ls := []) kL_b34 xno_sw (by decide +kernel)
def lL_b35 : List xL := [(3, 13, 51, 88, 122), (3, 13, 133, 96, 125)]
theorem kL_b35 : ∀ q ∈ lL_b35, xLq RL q := List.forall_mem_cons.mpr ⟨lw_lk_54, List.forall_mem_cons.mpr ⟨lw_lk_55, fun _ h => absurd h List.not_mem_nil⟩⟩
theorem bL_b35_ok : ∀ b ∈ [bLk_35], xbok RL cL_law b := xbF_ok (lk := lL_b35) (ls := []) kL_b35 xno_sw (by decide +kernel)
def lL_b36 : List xL := [(3, 13, 52, 88, 126), (3, 13, 135, 96, 129)]
theorem kL_b36 : ∀ q ∈ lL_b36, xLq RL q := List.forall_mem_cons.mpr ⟨lw_lk_56, List.forall_mem_cons.mpr ⟨lw_lk_57, fun _ h => absurd h List.not_mem_nil⟩⟩
theorem bL_b36_ok : ∀ b ∈ [bLk_36], xbok RL cL_law b := xbF_ok (lk := lL_b36) (ls := []) kL_b36 xno_sw (by decide +kernel)
def lL_b37 : List xL := [(3, 13, 53, 88, 130), (3, 13, 137, 96, 133)]
theorem kL_b37 : ∀ q ∈ lL_b37, xLq RL q := List.forall_mem_cons.mpr ⟨lw_lk_58, List.forall_mem_cons.mpr ⟨lw_lk_59, fun _ h => absurd h List.not_mem_nil⟩⟩
theorem bL_b37_ok : ∀ b ∈ [bLk_37], xbok RL cL_law b := xbF_ok (lk := lL_b37) (ls := []) kL_b37 xno_sw (by decide +kernel)
def lL_b38 : List xL := [(3, 13, 102, 88, 134), (3, 13, 233, 96, 138)]
theorem kL_b38 : ∀ q ∈ lL_b38, xLq RL q := List.forall_mem_cons.mpr ⟨lw_lk_60, List.forall_mem_cons.mpr ⟨lw_lk_61, fun _ h => absurd h List.not_mem_nil⟩⟩
theorem bL_b38_ok : ∀ b ∈ [bLk_38], xbok RL cL_law b := xbF_ok (lk := lL_b38) (ls := []) kL_b38 xno_sw (by decide +kernel)
def lL_b39 : List xL := [(3, 13, 87, 88, 139), (3, 13, 204, 96, 142)]
theorem kL_b39 : ∀ q ∈ lL_b39, xLq RL q := List.forall_mem_cons.mpr ⟨lw_lk_62, List.forall_mem_cons.mpr ⟨lw_lk_63, fun _ h => absurd h List.not_mem_nil⟩⟩
theorem bL_b39_ok : ∀ b ∈ [bLk_39], xbok RL cL_law b := xbF_ok (lk := lL_b39) (ls := []) kL_b39 xno_sw (by decide +kernel)
def lL_b40 : List xL := [(3, 13, 86, 88, 143), (3, 13, 202, 96, 146)]
theorem kL_b40 : ∀ q ∈ lL_b40, xLq RL q := List.forall_mem_cons.mpr ⟨lw_lk_64, List.forall_mem_cons.mpr ⟨lw_lk_65, fun _ h => absurd h List.not_mem_nil⟩⟩
theorem bL_b40_ok : ∀ b ∈ [bLk_40], xbok RL cL_law b := xbF_ok (lk := lL_b40) (ls := []) kL_b40 xno_sw (by decide +kernel)
def lL_b41 : List xL := [(3, 13, 42, 88, 147), (3, 13, 126, 96, 150)]
theorem kL_b41 : ∀ q ∈ lL_b41, xLq RL q := List.forall_mem_cons.mpr ⟨lw_lk_66, List.forall_mem_cons.mpr ⟨lw_lk_67, fun _ h => absurd h List.not_mem_nil⟩⟩
theorem bL_b41_ok : ∀ b ∈ [bLk_41], xbok RL cL_law b := xbF_ok (lk := lL_b41) (ls := []) kL_b41 xno_sw (by decide +kernel)
def lL_b42 : List xL := [(3, 13, 81, 88, 151), (3, 13, 192, 96, 154)]
theorem kL_b42 : ∀ q ∈ lL_b42, xLq RL q := List.forall_mem_cons.mpr ⟨lw_lk_68, List.forall_mem_cons.mpr ⟨lw_lk_69, fun _ h => absurd h List.not_mem_nil⟩⟩
theorem bL_b42_ok : ∀ b ∈ [bLk_42], xbok RL cL_law b := xbF_ok (lk := lL_b42) (ls := []) kL_b42 xno_sw (by decide +kernel)
def lL_b43 : List xL := [(3, 13, 62, 88, 155), (3, 13, 150, 96, 159)]
theorem kL_b43 : ∀ q ∈ lL_b43, xLq RL q := List.forall_mem_cons.mpr ⟨lw_lk_70, List.forall_mem_cons.mpr ⟨lw_lk_71, fun _ h => absurd h List.not_mem_nil⟩⟩
theorem bL_b43_ok : ∀ b ∈ [bLk_43], xbok RL cL_law b := xbF_ok (lk := lL_b43) (ls := []) kL_b43 xno_sw (by decide +kernel)
def lL_b44 : List xL := [(3, 13, 40, 88, 160), (3, 13, 124, 96, 163)]
theorem kL_b44 : ∀ q ∈ lL_b44, xLq RL q := List.forall_mem_cons.mpr ⟨lw_lk_72, List.forall_mem_cons.mpr ⟨lw_lk_73, fun _ h => absurd h List.not_mem_nil⟩⟩
theorem bL_b44_ok : ∀ b ∈ [bLk_44], xbok RL cL_law b := xbF_ok (lk := lL_b44) (ls := []) kL_b44 xno_sw (by decide +kernel)
def lL_b45 : List xL := [(3, 13, 94, 88, 164), (3, 13, 217, 96, 167)]
theorem kL_b45 : ∀ q ∈ lL_b45, xLq RL q := List.forall_mem_cons.mpr ⟨lw_lk_74, List.forall_mem_cons.mpr ⟨lw_lk_75, fun _ h => absurd h List.not_mem_nil⟩⟩
theorem bL_b45_ok : ∀ b ∈ [bLk_45], xbok RL cL_law b := xbF_ok (lk := lL_b45) (ls := []) kL_b45 xno_sw (by decide +kernel)
def lL_b46 : List xL := [(3, 13, 90, 88, 168), (3, 13, 210, 96, 171)]
theorem kL_b46 : ∀ q ∈ lL_b46, xLq RL q := List.forall_mem_cons.mpr ⟨lw_lk_76, List.forall_mem_cons.mpr ⟨lw_lk_77, fun _ h => absurd h List.not_mem_nil⟩⟩
theorem bL_b46_ok : ∀ b ∈ [bLk_46], xbok RL cL_law b := xbF_ok (lk := lL_b46) (ls := []) kL_b46 xno_sw (by decide +kernel)
def lL_b47 : List xL := [(3, 13, 74, 88, 172), (3, 13, 176, 96, 175)]
theorem kL_b47 : ∀ q ∈ lL_b47, xLq RL q := List.forall_mem_cons.mpr ⟨lw_lk_78, List.forall_mem_cons.mpr ⟨lw_lk_79, fun _ h => absurd h List.not_mem_nil⟩⟩
theorem bL_b47_ok : ∀ b ∈ [bLk_47], xbok RL cL_law b := xbF_ok (lk := lL_b47) (ls := []) kL_b47 xno_sw (by decide +kernel)
def lL_b48 : List xL := [(3, 13, 95, 88, 176), (3, 13, 219, 96, 179)]
theorem kL_b48 : ∀ q ∈ lL_b48, xLq RL q := List.forall_mem_cons.mpr ⟨lw_lk_80, List.forall_mem_cons.mpr ⟨lw_lk_81, fun _ h => absurd h List.not_mem_nil⟩⟩
theorem bL_b48_ok : ∀ b ∈ [bLk_48], xbok RL cL_law b := xbF_ok (lk := lL_b48) (ls := []) kL_b48 xno_sw (by decide +kernel)
def lL_b49 : List xL := [(3, 13, 98, 88, 180), (3, 13, 228, 96, 183)]
theorem kL_b49 : ∀ q ∈ lL_b49, xLq RL q := List.forall_mem_cons.mpr ⟨lw_lk_82, List.forall_mem_cons.mpr ⟨lw_lk_83, fun _ h => absurd h List.not_mem_nil⟩⟩
theorem bL_b49_ok : ∀ b ∈ [bLk_49], xbok RL cL_law b := xbF_ok (lk := lL_b49) (ls := []) kL_b49 xno_sw (by decide +kernel)
def lL_b50 : List xL := [(3, 13, 73, 88, 184), (3, 13, 175, 96, 187)]
theorem kL_b50 : ∀ q ∈ lL_b50, xLq RL q := List.forall_mem_cons.mpr ⟨lw_lk_84, List.forall_mem_cons.mpr ⟨lw_lk_85, fun _ h => absurd h List.not_mem_nil⟩⟩
theorem bL_b50_ok : ∀ b ∈ [bLk_50], xbok RL cL_law b := xbF_ok (lk := lL_b50) (ls := []) kL_b50 xno_sw (by decide +kernel)
def lL_b51 : List xL := [(3, 13, 75, 88, 188), (3, 13, 178, 96, 191)]
theorem kL_b51 : ∀ q ∈ lL_b51, xLq RL q := List.forall_mem_cons.mpr ⟨lw_lk_86, List.forall_mem_cons.mpr ⟨lw_lk_87, fun _ h => absurd h List.not_mem_nil⟩⟩
theorem bL_b51_ok : ∀ b ∈ [bLk_51], xbok RL cL_law b := xbF_ok (lk := lL_b51) (ls := []) kL_b51 xno_sw (by decide +kernel)
def lL_b52 : List xL := []
theorem kL_b52 : ∀ q ∈ lL_b52, xLq RL q := fun _ h => absurd h List.not_mem_nil
theorem bL_b52_ok : ∀ b ∈ [bLk_52], xbok RL cL_law b := xbF_ok (lk := lL_b52) (ls := []) kL_b52 xno_sw (by decide +kernel)
def lL_b53 : List xL := []
theorem kL_b53 : ∀ q ∈ lL_b53, xLq RL q := fun _ h => absurd h List.not_mem_nil
theorem bL_b53_ok : ∀ b ∈ [bLk_53], xbok RL cL_law b := xbF_ok (lk := lL_b53) (ls := []) kL_b53 xno_sw (by decide +kernel)
def lL_b54 : List xL := [(3, 13, 96, 88, 192)]
theorem kL_b54 : ∀ q ∈ lL_b54, xLq RL q := List.forall_mem_cons.mpr ⟨lw_lk_88, fun _ h => absurd h List.not_mem_nil⟩
theorem bL_b54_ok : ∀ b ∈ [bLk_54], xbok RL cL_law b := xbF_ok (lk := lL_b54) (ls := []) kL_b54 xno_sw (by decide +kernel)
def lL_b55 : List xL := []
theorem kL_b55 : ∀ q ∈ lL_b55, xLq RL q := fun _ h => absurd h List.not_mem_nil
theorem bL_b55_ok : ∀ b ∈ [bLk_55], xbok RL cL_law b := xbF_ok (lk := lL_b55) (ls := []) kL_b55 xno_sw (by decide +kernel)
def lL_b56 : List xL := [(3, 13, 223, 96, 196)]
theorem kL_b56 : ∀ q ∈ lL_b56, xLq RL q := List.forall_mem_cons.mpr ⟨lw_lk_89, fun _ h => absurd h List.not_mem_nil⟩
theorem bL_b56_ok : ∀ b ∈ [bLk_56], xbok RL cL_law b := xbF_ok (lk := lL_b56) (ls := []) kL_b56 xno_sw (by decide +kernel)
def lL_b57 : List xL := [(3, 13, 91, 88, 197), (3, 13, 212, 96, 200)]
theorem kL_b57 : ∀ q ∈ lL_b57, xLq RL q := List.forall_mem_cons.mpr ⟨lw_lk_90, List.forall_mem_cons.mpr ⟨lw_lk_91, fun _ h => absurd h List.not_mem_nil⟩⟩
theorem bL_b57_ok : ∀ b ∈ [bLk_57], xbok RL cL_law b := xbF_ok (lk := lL_b57) (ls := []) kL_b57 xno_sw (by decide +kernel)
def lL_b58 : List xL := [(3, 13, 84, 88, 201), (3, 13, 197, 96, 204)]
theorem kL_b58 : ∀ q ∈ lL_b58, xLq RL q := List.forall_mem_cons.mpr ⟨lw_lk_92, List.forall_mem_cons.mpr ⟨lw_lk_93, fun _ h => absurd h List.not_mem_nil⟩⟩
theorem bL_b58_ok : ∀ b ∈ [bLk_58], xbok RL cL_law b := xbF_ok (lk := lL_b58) (ls := []) kL_b58 xno_sw (by decide +kernel)
def lL_b59 : List xL := [(3, 13, 93, 88, 205), (3, 13, 216, 96, 208)]
theorem kL_b59 : ∀ q ∈ lL_b59, xLq RL q := List.forall_mem_cons.mpr ⟨lw_lk_94, List.forall_mem_cons.mpr ⟨lw_lk_95, fun _ h => absurd h List.not_mem_nil⟩⟩
theorem bL_b59_ok : ∀ b ∈ [bLk_59], xbok RL cL_law b := xbF_ok (lk := lL_b59) (ls := []) kL_b59 xno_sw (by decide +kernel)
def lL_b60 : List xL := [(3, 13, 38, 88, 209), (3, 13, 119, 96, 212)]
theorem kL_b60 : ∀ q ∈ lL_b60, xLq RL q := List.forall_mem_cons.mpr ⟨lw_lk_96, List.forall_mem_cons.mpr ⟨lw_lk_97, fun _ h => absurd h List.not_mem_nil⟩⟩
theorem bL_b60_ok : ∀ b ∈ [bLk_60], xbok RL cL_law b := xbF_ok (lk := lL_b60) (ls := []) kL_b60 xno_sw (by decide +kernel)
def lL_b61 : List xL := [(3, 13, 89, 88, 213), (3, 13, 209, 96, 216)]
theorem kL_b61 : ∀ q ∈ lL_b61, xLq RL q := List.forall_mem_cons.mpr ⟨lw_lk_98, List.forall_mem_cons.mpr ⟨lw_lk_99, fun _ h => absurd h List.not_mem_nil⟩⟩
theorem bL_b61_ok : ∀ b ∈ [bLk_61], xbok RL cL_law b := xbF_ok (lk := lL_b61) (ls := []) kL_b61 xno_sw (by decide +kernel)
def lL_b62 : List xL := [(3, 13, 44, 88, 217), (3, 13, 127, 96, 220)]
theorem kL_b62 : ∀ q ∈ lL_b62, xLq RL q := List.forall_mem_cons.mpr ⟨lw_lk_100, List.forall_mem_cons.mpr ⟨lw_lk_101, fun _ h => absurd h List.not_mem_nil⟩⟩
theorem bL_b62_ok : ∀ b ∈ [bLk_62], xbok RL cL_law b := xbF_ok (lk := lL_b62) (ls := []) kL_b62 xno_sw (by decide +kernel)
def lL_b63 : List xL := [(3, 13, 65, 88, 221), (3, 13, 153, 96, 224)]
theorem kL_b63 : ∀ q ∈ lL_b63, xLq RL q := List.forall_mem_cons.mpr ⟨lw_lk_102, List.forall_mem_cons.mpr ⟨lw_lk_103, fun _ h => absurd h List.not_mem_nil⟩⟩
theorem bL_b63_ok : ∀ b ∈ [bLk_63], xbok RL cL_law b := xbF_ok (lk := lL_b63) (ls := []) kL_b63 xno_sw (by decide +kernel)
def lL_b64 : List xL := [(3, 13, 37, 88, 225), (3, 13, 111, 96, 228)]
theorem kL_b64 : ∀ q ∈ lL_b64, xLq RL q := List.forall_mem_cons.mpr ⟨lw_lk_104, List.forall_mem_cons.mpr ⟨lw_lk_105, fun _ h => absurd h List.not_mem_nil⟩⟩
theorem bL_b64_ok : ∀ b ∈ [bLk_64], xbok RL cL_law b := xbF_ok (lk := lL_b64) (ls := []) kL_b64 xno_sw (by decide +kernel)
def lL_b65 : List xL := []
theorem kL_b65 : ∀ q ∈ lL_b65, xLq RL q := fun _ h => absurd h List.not_mem_nil
theorem bL_b65_ok : ∀ b ∈ [bLk_65], xbok RL cL_law b := xbF_ok (lk := lL_b65) (ls := []) kL_b65 xno_sw (by decide +kernel)
def lL_b66 : List xL := []
theorem kL_b66 : ∀ q ∈ lL_b66, xLq RL q := fun _ h => absurd h List.not_mem_nil
theorem bL_b66_ok : ∀ b ∈ [bLk_66], xbok RL cL_law b := xbF_ok (lk := lL_b66) (ls := []) kL_b66 xno_sw (by decide +kernel)
theorem bL_a_ok : ∀ b ∈ bL_a, xbok RL cL_law b := List.forall_mem_cons.mpr ⟨bL_b0_ok _ List.mem_cons_self, List.forall_mem_cons.mpr ⟨bL_b1_ok _ List.mem_cons_self, List.forall_mem_cons.mpr ⟨bL_b2_ok _ List.mem_cons_self, List.forall_mem_cons.mpr ⟨bL_b3_ok _ List.mem_cons_self, List.forall_mem_cons.mpr ⟨bL_b4_ok _ List.mem_cons_self, List.forall_mem_cons.mpr ⟨bL_b5_ok _ List.mem_cons_self, List.forall_mem_cons.mpr ⟨bL_b6_ok _ List.mem_cons_self, List.forall_mem_cons.mpr ⟨bL_b7_ok _ List.mem_cons_self, List.forall_mem_cons.mpr ⟨bL_b8_ok _ List.mem_cons_self, List.forall_mem_cons.mpr ⟨bL_b9_ok _ List.mem_cons_self, List.forall_mem_cons.mpr ⟨bL_b10_ok _ List.mem_cons_self, List.forall_mem_cons.mpr ⟨bL_b11_ok _ List.mem_cons_self, List.forall_mem_cons.mpr ⟨bL_b12_ok _ List.mem_cons_self, List.forall_mem_cons.mpr ⟨bL_b13_ok _ List.mem_cons_self, List.forall_mem_cons.mpr ⟨bL_b14_ok _ List.mem_cons_self, List.forall_mem_cons.mpr ⟨bL_b15_ok _ List.mem_cons_self, List.forall_mem_cons.mpr ⟨bL_b16_ok _ List.mem_cons_self, List.forall_mem_cons.mpr ⟨bL_b17_ok _ List.mem_cons_self, List.forall_mem_cons.mpr ⟨bL_b18_ok _ List.mem_cons_self, List.forall_mem_cons.mpr ⟨bL_b19_ok _ List.mem_cons_self, List.forall_mem_cons.mpr ⟨bL_b20_ok _ List.mem_cons_self, List.forall_mem_cons.mpr ⟨bL_b21_ok _ List.mem_cons_self, List.forall_mem_cons.mpr ⟨bL_b22_ok _ List.mem_cons_self, List.forall_mem_cons.mpr ⟨bL_b23_ok _ List.mem_cons_self, List.forall_mem_cons.mpr ⟨bL_b24_ok _ List.mem_cons_self, List.forall_mem_cons.mpr ⟨bL_b25_ok _ List.mem_cons_self, List.forall_mem_cons.mpr ⟨bL_b26_ok _ List.mem_cons_self, List.forall_mem_cons.mpr ⟨bL_b27_ok _ List.mem_cons_self, List.forall_mem_cons.mpr ⟨bL_b28_ok _ List.mem_cons_self, List.forall_mem_cons.mpr ⟨bL_b29_ok _ List.mem_cons_self, List.forall_mem_cons.mpr ⟨bL_b30_ok _ List.mem_cons_self, List.forall_mem_cons.mpr ⟨bL_b31_ok _ List.mem_cons_self, List.forall_mem_cons.mpr ⟨bL_b32_ok _ List.mem_cons_self, List.forall_mem_cons.mpr ⟨bL_b33_ok _ List.mem_cons_self, List.forall_mem_cons.mpr ⟨bL_b34_ok _ List.mem_cons_self, List.forall_mem_cons.mpr ⟨bL_b35_ok _ List.mem_cons_self, List.forall_mem_cons.mpr ⟨bL_b36_ok _ List.mem_cons_self, List.forall_mem_cons.mpr ⟨bL_b37_ok _ List.mem_cons_self, List.forall_mem_cons.mpr ⟨bL_b38_ok _ List.mem_cons_self, List.forall_mem_cons.mpr ⟨bL_b39_ok _ List.mem_cons_self, List.forall_mem_cons.mpr ⟨bL_b40_ok _ List.mem_cons_self, List.forall_mem_cons.mpr ⟨bL_b41_ok _ List.mem_cons_self, List.forall_mem_cons.mpr ⟨bL_b42_ok _ List.mem_cons_self, List.forall_mem_cons.mpr ⟨bL_b43_ok _ List.mem_cons_self, List.forall_mem_cons.mpr ⟨bL_b44_ok _ List.mem_cons_self, List.forall_mem_cons.mpr ⟨bL_b45_ok _ List.mem_cons_self, List.forall_mem_cons.mpr ⟨bL_b46_ok _ List.mem_cons_self, List.forall_mem_cons.mpr ⟨bL_b47_ok _ List.mem_cons_self, List.forall_mem_cons.mpr ⟨bL_b48_ok _ List.mem_cons_self, List.forall_mem_cons.mpr ⟨bL_b49_ok _ List.mem_cons_self, List.forall_mem_cons.mpr ⟨bL_b50_ok _ List.mem_cons_self, List.forall_mem_cons.mpr ⟨bL_b51_ok _ List.mem_cons_self, List.forall_mem_cons.mpr ⟨bL_b52_ok _ List.mem_cons_self, List.forall_mem_cons.mpr ⟨bL_b53_ok _ List.mem_cons_self, List.forall_mem_cons.mpr ⟨bL_b54_ok _ List.mem_cons_self, List.forall_mem_cons.mpr ⟨bL_b55_ok _ List.mem_cons_self, List.forall_mem_cons.mpr ⟨bL_b56_ok _ List.mem_cons_self, List.forall_mem_cons.mpr ⟨bL_b57_ok _ List.mem_cons_self, List.forall_mem_cons.mpr ⟨bL_b58_ok _ List.mem_cons_self, List.forall_mem_cons.mpr ⟨bL_b59_ok _ List.mem_cons_self, List.forall_mem_cons.mpr ⟨bL_b60_ok _ List.mem_cons_self, List.forall_mem_cons.mpr ⟨bL_b61_ok _ List.mem_cons_self, List.forall_mem_cons.mpr ⟨bL_b62_ok _ List.mem_cons_self, List.forall_mem_cons.mpr ⟨bL_b63_ok _ List.mem_cons_self, List.forall_mem_cons.mpr ⟨bL_b64_ok _ List.mem_cons_self, List.forall_mem_cons.mpr ⟨bL_b65_ok _ List.mem_cons_self, List.forall_mem_cons.mpr ⟨bL_b66_ok _ List.mem_cons_self, fun _ h => absurd h List.not_mem_nil⟩⟩⟩⟩⟩⟩⟩⟩⟩⟩⟩⟩⟩⟩⟩⟩⟩⟩⟩⟩⟩⟩⟩⟩⟩⟩⟩⟩⟩⟩⟩⟩⟩⟩⟩⟩⟩⟩⟩⟩⟩⟩⟩⟩⟩⟩⟩⟩⟩⟩⟩⟩⟩⟩⟩⟩⟩⟩⟩⟩⟩⟩⟩⟩⟩⟩⟩
theorem bL_p_ok : ∀ b ∈ bL_p, xbok RL cL_law b := bL_b0_ok
end
section
/-! the law's own steps: the script is a row of L ints that nobody changes -/
def xSX (L : Nat) (us : Nat → Nat) (g : xG) (A : Nat → Prop) (s : State) : Prop := ∃ xs : Nat → Int32, va_X (g.2.2 99) L xs s s.heap ∧ g.2.2 99 < s.heap.size ∧ ¬ A (g.2.2 99) ∧ ∀ j, j < L → xs j = nI (us j) ∧ us j < 4294967296
def xLdX (L : Nat) (us : Nat → Nat) (d : Nat) (M : xM) (σ : xS) (fs : List xS) : Prop := xMb M → xpos M σ → ∀ (p : Program) (l : Launch) (e : Env) (R : Room) (s : State) (m : MethodId) (args : Array Value) (below : List Frame) (meth : Method) (c : Code) (D : va_G) (A : Nat → Prop) (g : xG) (cw0 : xWc) (tys0 : xTy) (io0 : List Nat) (Q : State → Prop), xCx p R s m args meth c A g io0 d M → xSX L us g A s → (∀ φ ∈ fs, xpos M φ → xOk p l e R s m args below meth c D A M.2.2.1 g cw0 tys0 io0 Q φ) → xOk p l e R s m args below meth c D A M.2.2.1 g cw0 tys0 io0 Q σ
def xToX (L : Nat) (us : Nat → Nat) (d : Nat) (M : xM) (σ : xS) (P : xS → Prop) : Prop := ∃ τ, xLdX L us d M σ [τ] ∧ P τ
section XLX
variable {L d p0 pc ln x y ix n : Nat} {us : Nat → Nat} {M : xM} {σ τ : xS} {fs : List xS} {P P' : xS → Prop} {tl : List xI} {lo : xLo} {st : List xV} {hp : xH} {va : xV}
theorem xLd.toX (h : xLd d M σ fs) : xLdX L us d M σ fs := fun hM hpos p l e R s m args below meth c D A g cw0 tys0 io0 Q C _ hQ => h hM hpos p l e R s m args below meth c D A g cw0 tys0 io0 Q C hQ
theorem xthenX (h1 : xLdX L us d M σ [τ]) (h2 : xLdX L us d M τ fs) : xLdX L us d M σ fs := fun hM hpos p l e R s m args below meth c D A g cw0 tys0 io0 Q C X hQ => h1 hM hpos p l e R s m args below meth c D A g cw0 tys0 io0 Q C X (fun φ hφ hp => by
  have e1 := List.mem_singleton.mp hφ
  subst e1
  exact h2 hM hp p l e R s m args below meth c D A g cw0 tys0 io0 Q C X hQ)
theorem xTo.toX (h : xTo d M σ P) : xToX L us d M σ P := by
  obtain ⟨τ, h1, h2⟩ := h
  exact ⟨τ, h1.toX, h2⟩
theorem xg_tX (h1 : xLdX L us d M σ [τ]) (h2 : xToX L us d M τ P) : xToX L us d M σ P := by
  obtain ⟨φ, h3, h4⟩ := h2
  exact ⟨φ, xthenX h1 h3, h4⟩
theorem xToX.bind (h1 : xToX L us d M σ P) (h2 : ∀ τ, P τ → xToX L us d M τ P') : xToX L us d M σ P' := by
  obtain ⟨φ, h3, h4⟩ := h1
  exact xg_tX h3 (h2 φ h4)
theorem xg_sldX (hn : xnm hp.2.1 va = (0, n)) (h : n < L) (hL : L < 2147483648) : xLdX L us d M (p0, (pc, ln, 10, x, y, ix) :: tl, lo, va :: (8, 99) :: st, hp) [(pc + ln, tl, lo, (0, us n) :: st, hp)] := by
  intro hM hpos p l e R s m args below meth c D A g cw0 tys0 io0 Q C X hQ cw tys io H locs ls lv sv hE hK hP hD hS hlv hlo hsv hh
  obtain ⟨q1, q2, q3, q4⟩ := hpos
  have q1 : pc = p0 := q1
  subst q1
  obtain ⟨t', z3, hdec, c0⟩ := q2
  have z4 : xget xopi 10 = some (fun _ => .iaload, xPn 1) := rfl
  have z3 : xget xopi 10 = some t' := z3
  rw [z4] at z3
  cases z3
  have a1 : ln = 1 := c0
  subst a1
  have hdec : decode M.2.1 pc = .ok (.iaload, 1) := hdec
  obtain ⟨wa, sv1, rfl, r1, hs1⟩ := xrel_cons hsv
  have e1 := xnm_ok hh.2.1 r1
  rw [hn] at e1
  obtain ⟨-, e1⟩ := e1
  subst e1
  obtain ⟨wb, sv2, rfl, r2, hs2⟩ := xrel_cons hs1
  have e2 : wb = .ref (g.2.2 99) := r2
  subst e2
  obtain ⟨hx, hb, -⟩ := id C
  obtain ⟨xs, x1, x2, x3, x4⟩ := X
  obtain ⟨x5, x6⟩ := x4 n h
  refine va_sld (xs := xs) hx hb x1 x2 x3 hS (vp_in_nI h (by omega)) hdec ?_
  rw [nI_clamp (by omega), x5]
  refine hQ _ List.mem_cons_self ⟨?_, q4⟩ cw tys io H locs ls lv (.int _ :: sv2) hE hK hP hD hS hlv hlo ⟨⟨x6, rfl⟩, hs2⟩ hh
  cases tl with
  | nil => trivial
  | cons a b => exact q3
theorem xg_slnX (hL : L < 2147483648) : xLdX L us d M (p0, (pc, ln, 31, x, y, ix) :: tl, lo, (8, 99) :: st, hp) [(pc + ln, tl, lo, (0, L) :: st, hp)] := by
  intro hM hpos p l e R s m args below meth c D A g cw0 tys0 io0 Q C X hQ cw tys io H locs ls lv sv hE hK hP hD hS hlv hlo hsv hh
  obtain ⟨q1, q2, q3, q4⟩ := hpos
  have q1 : pc = p0 := q1
  subst q1
  obtain ⟨t', z3, hdec, c0⟩ := q2
  have z4 : xget xopi 31 = some (fun _ => .arraylength, xPn 1) := rfl
  have z3 : xget xopi 31 = some t' := z3
  rw [z4] at z3
  cases z3
  have a1 : ln = 1 := c0
  subst a1
  have hdec : decode M.2.1 pc = .ok (.arraylength, 1) := hdec
  obtain ⟨wb, sv2, rfl, r2, hs2⟩ := xrel_cons hsv
  have e2 : wb = .ref (g.2.2 99) := r2
  subst e2
  obtain ⟨hx, hb, -⟩ := id C
  obtain ⟨xs, x1, x2, x3, x4⟩ := X
  refine va_slen (xs := xs) hx hb x1 x2 x3 hS hdec ?_
  refine hQ _ List.mem_cons_self ⟨?_, q4⟩ cw tys io H locs ls lv (.int _ :: sv2) hE hK hP hD hS hlv hlo ⟨⟨by omega, rfl⟩, hs2⟩ hh
  cases tl with
  | nil => trivial
  | cons a b => exact q3
end XLX
end
section
/-! new cells: where the world is known by its shape alone -/
def shp (n : Nat) : List Nat := List.replicate (n / 10) 10 ++ (if n % 10 = 0 then [] else [n % 10])
theorem shp_ge {n : Nat} (h : 10 ≤ n) : shp n = 10 :: shp (n - 10) := by
  have e1 : n / 10 = (n - 10) / 10 + 1 := by omega
  have e2 : n % 10 = (n - 10) % 10 := by omega
  unfold shp
  rw [e1, e2]
  rfl
theorem xpush_ex {α : Type} {v : α} : ∀ {w : List (List α)} {n : Nat}, w.map List.length = shp n → ∃ w', xpush v w (n / 10) (n % 10) = some w' ∧ w'.map List.length = shp (n + 1)
  | [], n, h => by
    have hn : n = 0 := by
      rcases Nat.lt_or_ge n 10 with q | q
      · unfold shp at h
        have e : n / 10 = 0 := by omega
        rw [e] at h
        by_cases z : n % 10 = 0
        · omega
        · rw [if_neg z] at h
          cases h
      · rw [shp_ge q] at h
        cases h
    subst hn
    exact ⟨[[v]], rfl, rfl⟩
  | c :: t, n, h => by
    by_cases hn : 10 ≤ n
    · have e1 : n / 10 = (n - 10) / 10 + 1 := by omega
      have e2 : n % 10 = (n - 10) % 10 := by omega
      rw [shp_ge hn] at h
      have h : c.length :: t.map List.length = 10 :: shp (n - 10) := h
      injection h with h1 h2
      obtain ⟨t', h3, h4⟩ := xpush_ex (v := v) (w := t) h2
      refine ⟨c :: t', ?_, ?_⟩
      · rw [e1, e2]
        show Option.rec (motive := fun _ => Option (List (List α))) none (fun r => some (c :: r)) (xpush v t ((n - 10) / 10) ((n - 10) % 10)) = _
        rw [h3]
      · rw [shp_ge (show 10 ≤ n + 1 by omega)]
        show c.length :: t'.map List.length = _
        rw [h4, h1]
        have e3 : n + 1 - 10 = n - 10 + 1 := by omega
        rw [e3]
    · have e1 : n / 10 = 0 := by omega
      have e2 : n % 10 = n := by omega
      unfold shp at h
      rw [e1, e2] at h
      by_cases z : n = 0
      · rw [if_pos z] at h
        cases h
      · rw [if_neg z] at h
        have h : c.length :: t.map List.length = [n] := h
        injection h with h1 h2
        have ht : t = [] := List.map_eq_nil_iff.mp h2
        subst ht
        refine ⟨[c ++ [v]], ?_, ?_⟩
        · rw [e1, e2]
          show cond (Nat.beq c.length n) (some [c ++ [v]]) none = _
          rw [h1, Nat.beq_refl]
          rfl
        · show [(c ++ [v]).length] = _
          rw [List.length_append, h1]
          by_cases y : n = 9
          · subst y
            rfl
          · have e3 : (n + 1) / 10 = 0 := by omega
            have e4 : (n + 1) % 10 = n + 1 := by omega
            unfold shp
            rw [e3, e4, if_neg (by omega)]
            rfl
/-- the world with one cell more: what was there stays -/
theorem wpush {α : Type} {v : α} {w : List (List α)} {n : Nat} (h : w.map List.length = shp n) : ∃ w', xpush v w (n / 10) (n % 10) = some w' ∧ w'.map List.length = shp (n + 1) ∧ wget w' n = some v ∧ ∀ k x, wget w k = some x → wget w' k = some x := by
  obtain ⟨w', h1, h2⟩ := xpush_ex (v := v) h
  refine ⟨w', h1, h2, ?_, fun k x hk => ?_⟩
  · obtain ⟨c, e1, e2⟩ := xpush_new h1
    rw [wget_of e1]
    exact e2
  · obtain ⟨c, e1, e2⟩ := wget_some hk
    obtain ⟨c', e3, e4⟩ := xpush_old h1 e1 e2
    rw [wget_of e3]
    exact e4
section XNW
variable {d p0 pc ln x y ix n cn sl na nc : Nat} {M : xM} {tl : List xI} {lo : xLo} {st : List xV} {w : List (List xE)} {bd : List (Nat × Nat)} {fc : List (Nat × Nat × Bool)} {va : xV} {fs : List xV} {P : xS → Prop}
theorem xg_newO (hf : xget xdfl x = some fs) (hs : w.map List.length = shp nc) (h1 : cn < M.2.2.2.2.2.2.1) (h2 : sl + fs.length ≤ M.2.2.2.2.2.2.2.1) (K : ∀ w', w'.map List.length = shp (nc + 1) → wget w' nc = some (.inl (x, fs)) → (∀ k q, wget w k = some q → wget w' k = some q) → xTo d M (pc + ln, tl, lo, (2, nc) :: st, (w', bd, fc, cn + 1, sl + fs.length, na, nc + 1)) P) : xTo d M (p0, (pc, ln, 24, x, y, ix) :: tl, lo, st, (w, bd, fc, cn, sl, na, nc)) P := by
  obtain ⟨w', e1, e2, e3, e4⟩ := wpush (v := (.inl (x, fs) : xE)) hs
  refine xg_t (xg_op (f := xh_new) (fs := [(pc + ln, tl, lo, (2, nc) :: st, (w', bd, fc, cn + 1, sl + fs.length, na, nc + 1))]) rfl ?_) (K w' e2 e3 e4)
  show xob (xget xdfl x) (fun fs => xmk M (w, bd, fc, cn, sl, na, nc) (.inl (x, fs)) fs.length 0 (fun v hp' => xidk d M (pc + ln, tl, lo, v :: st, hp'))) = _
  rw [hf]
  show xif (Nat.blt cn M.2.2.2.2.2.2.1 && Nat.ble (sl + fs.length) M.2.2.2.2.2.2.2.1) (xob (xpush (.inl (x, fs)) w (nc / 10) (nc % 10)) fun w => xN (cn + 1) fun cn => xN (sl + fs.length) fun sl => xN (na + 0) fun t => xN (nc + 1) fun nw => xidk d M (pc + ln, tl, lo, (2, nc) :: st, (w, bd, fc, cn, sl, t, nw))) = _
  have b1 : Nat.blt cn M.2.2.2.2.2.2.1 = true := Nat.ble_eq_true_of_le h1
  have b2 : Nat.ble (sl + fs.length) M.2.2.2.2.2.2.2.1 = true := Nat.ble_eq_true_of_le h2
  rw [b1, b2, e1]
  show (xN (cn + 1) fun cn => xN (sl + fs.length) fun sl => xN (na + 0) fun t => xN (nc + 1) fun nw => xidk d M (pc + ln, tl, lo, (2, nc) :: st, (w', bd, fc, cn, sl, t, nw))) = _
  rw [xN_eq, xN_eq, xN_eq, xN_eq]
  rfl
theorem xg_newA (hn : xnm bd va = (0, n)) (hk : y ≤ 3) (hl : n ≤ 1000000) (hs : w.map List.length = shp nc) (h1 : cn < M.2.2.2.2.2.2.1) (h2 : sl + n ≤ M.2.2.2.2.2.2.2.1) (K : ∀ w', w'.map List.length = shp (nc + 1) → wget w' nc = some (.inr (y, n, na, [])) → (∀ k q, wget w k = some q → wget w' k = some q) → xTo d M (pc + ln, tl, lo, (2, nc) :: st, (w', bd, fc, cn + 1, sl + n, na + 1, nc + 1)) P) : xTo d M (p0, (pc, ln, 23, x, y, ix) :: tl, lo, va :: st, (w, bd, fc, cn, sl, na, nc)) P := by
  obtain ⟨w', e1, e2, e3, e4⟩ := wpush (v := (.inr (y, n, na, []) : xE)) hs
  refine xg_t (xg_op (f := xh_newarray) (fs := [(pc + ln, tl, lo, (2, nc) :: st, (w', bd, fc, cn + 1, sl + n, na + 1, nc + 1))]) rfl ?_) (K w' e2 e3 e4)
  show xif (Nat.ble y 3) (xnewa y xidk d M (pc, ln, 23, x, y, ix) tl lo st (w, bd, fc, cn, sl, na, nc) (xnm bd va)) = _
  rw [hn, Nat.ble_eq_true_of_le hk]
  show xif (Nat.beq 0 0 && Nat.ble n 1000000) (xmk M (w, bd, fc, cn, sl, na, nc) (.inr (y, n, na, [])) n 1 (fun v hp' => xidk d M (pc + ln, tl, lo, v :: st, hp'))) = _
  rw [Nat.ble_eq_true_of_le hl]
  show xif (Nat.blt cn M.2.2.2.2.2.2.1 && Nat.ble (sl + n) M.2.2.2.2.2.2.2.1) (xob (xpush (.inr (y, n, na, [])) w (nc / 10) (nc % 10)) fun w => xN (cn + 1) fun cn => xN (sl + n) fun sl => xN (na + 1) fun t => xN (nc + 1) fun nw => xidk d M (pc + ln, tl, lo, (2, nc) :: st, (w, bd, fc, cn, sl, t, nw))) = _
  have b1 : Nat.blt cn M.2.2.2.2.2.2.1 = true := Nat.ble_eq_true_of_le h1
  have b2 : Nat.ble (sl + n) M.2.2.2.2.2.2.2.1 = true := Nat.ble_eq_true_of_le h2
  rw [b1, b2, e1]
  show (xN (cn + 1) fun cn => xN (sl + n) fun sl => xN (na + 1) fun t => xN (nc + 1) fun nw => xidk d M (pc + ln, tl, lo, (2, nc) :: st, (w', bd, fc, cn, sl, t, nw))) = _
  rw [xN_eq, xN_eq, xN_eq, xN_eq]
  rfl
end XNW
end
section
/-! the model: quarrels -/
theorem neg_bit {L a : Nat} (h1 : 2147483648 ≤ L) (h2 : L < 4294967296) (ha : a = 31) : Nat.land (xpt (nI L >>> (nI a &&& 31))) 1 = 1 := by
  subst ha
  have e := pk_shr (nI L) (nI 31 &&& 31) 31 (xsh5 (by decide))
  rw [xnI_toInt h2] at e
  have z1 := xpt_lt (nI L >>> (nI 31 &&& 31))
  have z2 := xpt_eq (nI L >>> (nI 31 &&& 31))
  rw [← z2, xnI_toInt z1] at e
  generalize xpt (nI L >>> (nI 31 &&& 31)) = z at *
  have hb : xbs L = L - 2147483648 := by unfold xbs; omega
  have hs : ((xbs L : Int) - 2147483648) >>> 31 = -1 := by
    rw [Int.shiftRight_eq_div_pow, hb]
    have p : ((2 ^ 31 : Nat) : Int) = 2147483648 := by decide
    rw [p]
    omega
  rw [hs] at e
  have hz : xbs z = 2147483647 := by omega
  have hz2 : z = 4294967295 := by
    unfold xbs at hz
    omega
  subst hz2
  decide
theorem low_step {L a z : Nat} (h : L % 2 ^ a = 0) (hz : Nat.land (L / 2 ^ a) 1 = z) (h0 : z = 0) : L % 2 ^ (a + 1) = 0 := by
  have e : Nat.land (L / 2 ^ a) 1 = L / 2 ^ a % 2 := Nat.and_one_is_mod _
  rw [Nat.mod_pow_succ, h]
  have q : L / 2 ^ a % 2 = 0 := by omega
  rw [q]
  rfl
theorem low_bd {L a : Nat} (h : L % 2 ^ (a + 1) = 0) (h0 : L ≠ 0) (h1 : L < 2147483648) : a + 1 ≤ 30 := by
  rcases Nat.lt_or_ge a 30 with q | q
  · omega
  · have p : 2 ^ 31 ≤ 2 ^ (a + 1) := Nat.pow_le_pow_right (by decide) (by omega)
    have p2 : (2 : Nat) ^ 31 = 2147483648 := by decide
    rw [Nat.mod_eq_of_lt (by omega)] at h
    exact absurd h h0
section XMG
variable {d : Nat} {w : List (List xE)} {bd : List (Nat × Nat)} {fc : List (Nat × Nat × Bool)} {rr : Nat × Nat}
theorem xg_ishrE {p0 pc ln x y ix u v z : Nat} {M : xM} {tl : List xI} {lo : xLo} {st : List xV} {hp : xH} {va vb : xV} (ha : xnm hp.2.1 va = (0, u)) (hb : xnm hp.2.1 vb = (0, v)) (hu : u < 2147483648) (hv : v < 32) (hz : u / 2 ^ v = z) : xLd d M (p0, (pc, ln, 29, x, y, ix) :: tl, lo, vb :: va :: st, hp) [(pc + ln, tl, lo, (0, z) :: st, hp)] := xg_bin (F := fun a b => a / 2 ^ b) (chk := fun a b => Nat.blt a 2147483648 && Nat.blt b 32) (al := true) (bo := xany) rfl ha hb (Bool.and_eq_true_iff.mpr ⟨Nat.ble_eq_true_of_le hu, Nat.ble_eq_true_of_le hv⟩) hz
theorem mIsQuarrel {se : Nat} (hI : xMnv w) (hse : se ≤ 4294967295) : xPi d mX12_isQuarrel [(2, 82), (0, se)] w bd fc rr (fun n w' => (n ≤ 1) ∧ xMnv w' ∧ xFr [] w w') := by
  refine xPi.of ?_
  show xTo d mX12_isQuarrel (0, [], [(0, (2, 82)), (1, (0, se))], [], (w, bd, fc, 0, 0, rr)) (fun φ => ∃ n w', xEnd 4 [(0, n)] (w', bd, fc, 0, 0, rr) φ ∧ (n ≤ 1) ∧ xMnv w' ∧ xFr [] w w')
  refine xoCh82 (xqc82 hI : cp82 (wget w 82)) (fun f82_1 f82_3 f82_5 f82_7 f82_9 f82_11 f82_13 f82_15 f82_17 f82_19 f82_21 f82_22 f82_23 f82_25 f82_27 f82_29 h82_31 hb2 hb4 hb6 hb8 hb10 hb12 hb14 hb16 hb18 hb20 hb24 hb26 hb28 hb30 hb32 => ?_)
  refine xoI (xqc111 hI : cpI 240 78 4294967295 (wget w 111)) (fun g111_33 h111_34 hb35 => ?_)
  refine xg_t (xg_blq rfl) ?_
  refine xg_t (xg_const) ?_
  refine xg_t (xg_istore (l1 := [(0, (2, 82)), (1, (0, se))]) rfl rfl rfl) ?_
  refine xg_t (xg_const) ?_
  refine xg_t (xg_istore (l1 := [(2, (0, 0)), (0, (2, 82)), (1, (0, se))]) rfl rfl rfl) ?_
  refine xg_t (xg_drop (l1 := [(0, (2, 82)), (1, (0, se)), (2, (0, 0)), (3, (0, 0))]) (List.forall_mem_cons.mpr ⟨List.mem_cons_of_mem _ (List.mem_cons_of_mem _ (List.mem_cons_self)), List.forall_mem_cons.mpr ⟨List.mem_cons_of_mem _ (List.mem_cons_of_mem _ (List.mem_cons_of_mem _ (List.mem_cons_self))), List.forall_mem_cons.mpr ⟨List.mem_cons_of_mem _ (List.mem_cons_self), List.forall_mem_cons.mpr ⟨List.mem_cons_self, fun _ h => absurd h List.not_mem_nil⟩⟩⟩⟩)) ?_
  have key36 : ∀ (m38 : Nat) (kp li : Nat) (w39 : List (List xE)), 240 - li < m38 → kp ≤ 1 → li ≤ 240 → xMnv w39 → xFr [] w w39 → xTo d mX12_isQuarrel (4, [], [(0, (2, 82)), (1, (0, se)), (2, (0, kp)), (3, (0, li))], [], (w39, bd, fc, 0, 0, rr)) (fun φ => ∃ n w', xEnd 4 [(0, n)] (w', bd, fc, 0, 0, rr) φ ∧ (n ≤ 1) ∧ xMnv w' ∧ xFr [] w w') := by
    intro m38
    induction m38 with
    | zero => intro kp li w39 hz; exact absurd hz (Nat.not_lt_zero _)
    | succ m38 ih37 =>
      intro kp li w39 hm44 hn42 hn43 hI40 hF41
      refine xg_t (xg_blq rfl) ?_
      refine xg_t (xg_iload (va := (0, li)) rfl rfl) ?_
      refine xg_t (xg_sip) ?_
      by_cases hc45 : li < 240
      · refine xg_t (xg_icF (u := li) (v := 240) rfl xnm0 xnm0 (xj_geF hc45 (by omega))) ?_
        refine xg_t (xg_iload (va := (0, kp)) rfl rfl) ?_
        by_cases hc46 : kp = 0
        · refine xg_t (xg_ifF (u := kp) rfl xnm0 (xj_neF hc46)) ?_
          refine xg_t (xg_aload (va := (2, 82)) rfl rfl) ?_
          refine xg_t (xg_getf (va := (2, 111)) (hF41.get (by decide) h82_31) rfl) ?_
          refine xg_t (xg_iload (va := (0, li)) rfl rfl) ?_
          refine xg_ialdB (n := li) (B := 4294967295) (h111_34.fr hF41 (by decide)) (hb35) xnm0 (by omega) (fun u47 hu48 he49 => ?_)
          refine xg_t (xg_iload (va := (0, se)) rfl rfl) ?_
          refine xg_k (xg_iand (z := Nat.land u47 se) (u := u47) (v := se) xnm0 xnm0 rfl) (xland_lt (by omega)) (fun z50 hz51 => ?_)
          refine xg_t (xg_iload (va := (0, se)) rfl rfl) ?_
          by_cases hc52 : z50 = se
          · refine xg_t (xg_icF (u := z50) (v := se) rfl xnm0 xnm0 (xj_neF hc52)) ?_
            refine xg_t (xg_const) ?_
            refine xg_t (xg_goto) ?_
            refine xg_t (xg_blq rfl) ?_
            refine xg_t (xg_istore (l1 := [(0, (2, 82)), (1, (0, se)), (3, (0, li))]) rfl rfl rfl) ?_
            refine xg_t (xg_iinc (u := li) (z := li + 1) (l1 := [(2, (0, 1)), (0, (2, 82)), (1, (0, se))]) rfl rfl (by omega) rfl) ?_
            refine xg_t (xg_goto) ?_
            refine xg_t (xg_drop (l1 := [(0, (2, 82)), (1, (0, se)), (2, (0, 1)), (3, (0, li + 1))]) (List.forall_mem_cons.mpr ⟨List.mem_cons_of_mem _ (List.mem_cons_of_mem _ (List.mem_cons_self)), List.forall_mem_cons.mpr ⟨List.mem_cons_of_mem _ (List.mem_cons_of_mem _ (List.mem_cons_of_mem _ (List.mem_cons_self))), List.forall_mem_cons.mpr ⟨List.mem_cons_of_mem _ (List.mem_cons_self), List.forall_mem_cons.mpr ⟨List.mem_cons_self, fun _ h => absurd h List.not_mem_nil⟩⟩⟩⟩)) ?_
            exact ih37 1 (li + 1) w39 (by omega) (by omega) (by omega) (hI40) (hF41)
          · refine xg_t (xg_icT (u := z50) (v := se) rfl xnm0 xnm0 (xj_neT hc52)) ?_
            refine xg_t (xg_blq rfl) ?_
            refine xg_t (xg_const) ?_
            refine xg_t (xg_blq rfl) ?_
            refine xg_t (xg_istore (l1 := [(0, (2, 82)), (1, (0, se)), (3, (0, li))]) rfl rfl rfl) ?_
            refine xg_t (xg_iinc (u := li) (z := li + 1) (l1 := [(2, (0, 0)), (0, (2, 82)), (1, (0, se))]) rfl rfl (by omega) rfl) ?_
            refine xg_t (xg_goto) ?_
            refine xg_t (xg_drop (l1 := [(0, (2, 82)), (1, (0, se)), (2, (0, 0)), (3, (0, li + 1))]) (List.forall_mem_cons.mpr ⟨List.mem_cons_of_mem _ (List.mem_cons_of_mem _ (List.mem_cons_self)), List.forall_mem_cons.mpr ⟨List.mem_cons_of_mem _ (List.mem_cons_of_mem _ (List.mem_cons_of_mem _ (List.mem_cons_self))), List.forall_mem_cons.mpr ⟨List.mem_cons_of_mem _ (List.mem_cons_self), List.forall_mem_cons.mpr ⟨List.mem_cons_self, fun _ h => absurd h List.not_mem_nil⟩⟩⟩⟩)) ?_
            exact ih37 0 (li + 1) w39 (by omega) (by omega) (by omega) (hI40) (hF41)
        · refine xg_t (xg_ifT (u := kp) rfl xnm0 (xj_neT hc46)) ?_
          refine xg_t (xg_blq rfl) ?_
          refine xg_t (xg_iload (va := (0, kp)) rfl rfl) ?_
          refine xg_t (xg_ifT (u := kp) rfl xnm0 (xj_neT (by omega))) ?_
          refine xg_t (xg_blq rfl) ?_
          refine xg_t (xg_const) ?_
          refine xg_t (xg_blq rfl) ?_
          exact xg_e ⟨0, w39, ⟨rfl, rfl⟩, by first | decide | omega, hI40, hF41⟩
      · refine xg_t (xg_icT (u := li) (v := 240) rfl xnm0 xnm0 (xj_geT (by omega) (by omega))) ?_
        refine xg_t (xg_blq rfl) ?_
        refine xg_t (xg_iload (va := (0, kp)) rfl rfl) ?_
        by_cases hc53 : kp = 0
        · refine xg_t (xg_ifF (u := kp) rfl xnm0 (xj_neF hc53)) ?_
          refine xg_t (xg_const) ?_
          refine xg_t (xg_goto) ?_
          refine xg_t (xg_blq rfl) ?_
          exact xg_e ⟨1, w39, ⟨rfl, rfl⟩, by first | decide | omega, hI40, hF41⟩
        · refine xg_t (xg_ifT (u := kp) rfl xnm0 (xj_neT hc53)) ?_
          refine xg_t (xg_blq rfl) ?_
          refine xg_t (xg_const) ?_
          refine xg_t (xg_blq rfl) ?_
          exact xg_e ⟨0, w39, ⟨rfl, rfl⟩, by first | decide | omega, hI40, hF41⟩
  exact key36 _ 0 0 w (Nat.lt_succ_self _) (by omega) (by omega) (hI) (xFr.rf)
theorem mQuarrel {kk : Nat} (hI : xMnv w) (hkk : kk ≤ 4294967295) : xPi (d + 3) mX12_quarrel [(2, 82), (0, kk)] w bd fc rr (fun n w' => (n ≤ 4294967295) ∧ xMnv w' ∧ xFr [111] w w') := by
  refine xPi.of ?_
  show xTo (d + 3) mX12_quarrel (0, [], [(0, (2, 82)), (1, (0, kk))], [], (w, bd, fc, 0, 0, rr)) (fun φ => ∃ n w', xEnd 1 [(0, n)] (w', bd, fc, 0, 0, rr) φ ∧ (n ≤ 4294967295) ∧ xMnv w' ∧ xFr [111] w w')
  refine xoCh82 (xqc82 hI : cp82 (wget w 82)) (fun f82_1 f82_3 f82_5 f82_7 f82_9 f82_11 f82_13 f82_15 f82_17 f82_19 f82_21 f82_22 f82_23 f82_25 f82_27 f82_29 h82_31 hb2 hb4 hb6 hb8 hb10 hb12 hb14 hb16 hb18 hb20 hb24 hb26 hb28 hb30 hb32 => ?_)
  refine xoX83 (xqc83 hI : cpx83 (wget w 83)) (fun g83_33 h83_34 hb35 hx36 => ?_)
  refine xg_t (xg_blq rfl) ?_
  refine xg_t (xg_iload (va := (0, kk)) rfl rfl) ?_
  by_cases hc37 : kk < 2147483648
  · refine xg_t (xg_ifF (u := kk) rfl xnm0 (xjz_ltF hc37)) ?_
    refine xg_t (xg_aload (va := (2, 82)) rfl rfl) ?_
    refine xg_cVi mX12_manyKept (vs := []) (rest := []) (cn1 := 0) (sl1 := 0) rfl (mManyKept (hI)) rfl h82_31 rfl rfl rfl rfl rfl rfl (fun n42 w38 hq39 => ?_)
    obtain ⟨hn43, hI40, hF41⟩ := hq39
    by_cases hc44 : xbs 0 < xbs n42
    · have hc44u := hc44
      unfold xbs at hc44u
      have hn45 : n42 ≤ 2147483647 := by omega
      refine xg_t (xg_ifF (u := n42) rfl xnm0 (xjs_leF hc44)) ?_
      refine xg_t (xg_blq rfl) ?_
      refine xg_t (xg_const) ?_
      exact xg_e ⟨4294967295, w38, ⟨rfl, rfl⟩, by first | decide | omega, hI40, (hF41.up (by decide))⟩
    · have hc44u := hc44
      unfold xbs at hc44u
      refine xg_t (xg_ifT (u := n42) rfl xnm0 (xjs_leT hc44)) ?_
      refine xg_t (xg_blq rfl) ?_
      refine xg_t (xg_const) ?_
      refine xg_t (xg_istore (l1 := [(0, (2, 82)), (1, (0, kk))]) rfl rfl rfl) ?_
      refine xg_t (xg_const) ?_
      refine xg_t (xg_istore (l1 := [(2, (0, 4294967295)), (0, (2, 82)), (1, (0, kk))]) rfl rfl rfl) ?_
      refine xg_t (xg_drop (l1 := [(0, (2, 82)), (1, (0, kk)), (2, (0, 4294967295)), (3, (0, 1))]) (List.forall_mem_cons.mpr ⟨List.mem_cons_of_mem _ (List.mem_cons_of_mem _ (List.mem_cons_self)), List.forall_mem_cons.mpr ⟨List.mem_cons_of_mem _ (List.mem_cons_of_mem _ (List.mem_cons_of_mem _ (List.mem_cons_self))), List.forall_mem_cons.mpr ⟨List.mem_cons_of_mem _ (List.mem_cons_self), List.forall_mem_cons.mpr ⟨List.mem_cons_self, fun _ h => absurd h List.not_mem_nil⟩⟩⟩⟩)) ?_
      have key46 : ∀ (m48 : Nat) (be se : Nat) (w49 : List (List xE)), 4097 - se < m48 → be ≤ 4294967295 → se ≤ 4096 → xMnv w49 → xFr [111] w w49 → xTo (d + 3) mX12_quarrel (17, [], [(0, (2, 82)), (1, (0, kk)), (2, (0, be)), (3, (0, se))], [], (w49, bd, fc, 0, 0, rr)) (fun φ => ∃ n w', xEnd 1 [(0, n)] (w', bd, fc, 0, 0, rr) φ ∧ (n ≤ 4294967295) ∧ xMnv w' ∧ xFr [111] w w') := by
        intro m48
        induction m48 with
        | zero => intro be se w49 hz; exact absurd hz (Nat.not_lt_zero _)
        | succ m48 ih47 =>
          intro be se w49 hm54 hn52 hn53 hI50 hF51
          refine xg_t (xg_blq rfl) ?_
          refine xg_t (xg_iload (va := (0, se)) rfl rfl) ?_
          refine xg_t (xg_aload (va := (2, 82)) rfl rfl) ?_
          refine xg_cVi mX12_allTests (vs := []) (rest := [(0, se)]) (cn1 := 0) (sl1 := 0) rfl (mAllTests (hI50)) rfl (hF51.get (by decide) h82_31) rfl rfl rfl rfl rfl rfl (fun n59 w55 hq56 => ?_)
          obtain ⟨hn60, hI57, hF58⟩ := hq56
          by_cases hc61 : n59 < se
          · refine xg_t (xg_icT (u := se) (v := n59) rfl xnm0 xnm0 (xj_gtT hc61 (by omega))) ?_
            refine xg_t (xg_blq rfl) ?_
            refine xg_t (xg_iload (va := (0, be)) rfl rfl) ?_
            refine xg_t (xg_istore (l1 := [(0, (2, 82)), (1, (0, kk)), (2, (0, be))]) rfl rfl rfl) ?_
            refine xg_t (xg_const) ?_
            refine xg_t (xg_istore (l1 := [(3, (0, be)), (0, (2, 82)), (1, (0, kk)), (2, (0, be))]) rfl rfl rfl) ?_
            refine xg_t (xg_drop (l1 := [(0, (2, 82)), (1, (0, kk)), (3, (0, be)), (4, (0, 0))]) (List.forall_mem_cons.mpr ⟨List.mem_cons_of_mem _ (List.mem_cons_of_mem _ (List.mem_cons_self)), List.forall_mem_cons.mpr ⟨List.mem_cons_of_mem _ (List.mem_cons_of_mem _ (List.mem_cons_of_mem _ (List.mem_cons_self))), List.forall_mem_cons.mpr ⟨List.mem_cons_of_mem _ (List.mem_cons_self), List.forall_mem_cons.mpr ⟨List.mem_cons_self, fun _ h => absurd h List.not_mem_nil⟩⟩⟩⟩)) ?_
            have key62 : ∀ (m64 : Nat) (lf ni : Nat) (w65 : List (List xE)), lf < m64 → lf ≤ 4294967295 → ni ≤ 4294967295 → xMnv w65 → xFr [111] w w65 → xTo (d + 3) mX12_quarrel (108, [], [(0, (2, 82)), (1, (0, kk)), (3, (0, lf)), (4, (0, ni))], [], (w65, bd, fc, 0, 0, rr)) (fun φ => ∃ n w', xEnd 1 [(0, n)] (w', bd, fc, 0, 0, rr) φ ∧ (n ≤ 4294967295) ∧ xMnv w' ∧ xFr [111] w w') := by
              intro m64
              induction m64 with
              | zero => intro lf ni w65 hz; exact absurd hz (Nat.not_lt_zero _)
              | succ m64 ih63 =>
                intro lf ni w65 hm70 hn68 hn69 hI66 hF67
                refine xg_t (xg_blq rfl) ?_
                refine xg_t (xg_iload (va := (0, ni)) rfl rfl) ?_
                refine xg_t (xg_iload (va := (0, kk)) rfl rfl) ?_
                by_cases hc71 : xbs ni < xbs kk
                · have hc71u := hc71
                  unfold xbs at hc71u
                  have hn72 : kk ≤ 2147483647 := by omega
                  refine xg_t (xg_icF (u := ni) (v := kk) rfl xnm0 xnm0 (xjs_geF hc71)) ?_
                  refine xg_t (xg_iload (va := (0, lf)) rfl rfl) ?_
                  by_cases hc73 : lf = 0
                  · refine xg_t (xg_ifT (u := lf) rfl xnm0 (xj_eqT hc73)) ?_
                    refine xg_t (xg_blq rfl) ?_
                    refine xg_t (xg_iload (va := (0, lf)) rfl rfl) ?_
                    by_cases hc74 : lf = 0
                    · refine xg_t (xg_ifF (u := lf) rfl xnm0 (xj_neF hc74)) ?_
                      refine xg_t (xg_const) ?_
                      exact xg_e ⟨4294967295, w65, ⟨rfl, rfl⟩, by first | decide | omega, hI66, hF67⟩
                    · refine xg_t (xg_ifT (u := lf) rfl xnm0 (xj_neT hc74)) ?_
                      refine xg_t (xg_blq rfl) ?_
                      by_cases hc75 : lf < 2147483648
                      · refine xg_t (xg_const) ?_
                        refine xg_t (xg_istore (l1 := [(0, (2, 82)), (1, (0, kk)), (3, (0, lf))]) rfl rfl rfl) ?_
                        refine xg_t (xg_drop (l1 := [(0, (2, 82)), (1, (0, kk)), (3, (0, lf)), (4, (0, 0))]) (List.forall_mem_cons.mpr ⟨List.mem_cons_of_mem _ (List.mem_cons_self), List.forall_mem_cons.mpr ⟨List.mem_cons_of_mem _ (List.mem_cons_of_mem _ (List.mem_cons_self)), List.forall_mem_cons.mpr ⟨List.mem_cons_of_mem _ (List.mem_cons_of_mem _ (List.mem_cons_of_mem _ (List.mem_cons_self))), List.forall_mem_cons.mpr ⟨List.mem_cons_self, fun _ h => absurd h List.not_mem_nil⟩⟩⟩⟩)) ?_
                        have key76 : ∀ (m78 : Nat) (ai : Nat), 32 - ai < m78 → ai ≤ 31 → lf % 2 ^ ai = 0 → xTo (d + 3) mX12_quarrel (139, [], [(0, (2, 82)), (1, (0, kk)), (3, (0, lf)), (4, (0, ai))], [], (w65, bd, fc, 0, 0, rr)) (fun φ => ∃ n w', xEnd 1 [(0, n)] (w', bd, fc, 0, 0, rr) φ ∧ (n ≤ 4294967295) ∧ xMnv w' ∧ xFr [111] w w') := by
                          intro m78
                          induction m78 with
                          | zero => intro ai hz; exact absurd hz (Nat.not_lt_zero _)
                          | succ m78 ih77 =>
                            intro ai hm84 hn82 he83
                            refine xg_t (xg_blq rfl) ?_
                            refine xg_t (xg_iload (va := (0, lf)) rfl rfl) ?_
                            refine xg_t (xg_iload (va := (0, ai)) rfl rfl) ?_
                            refine xg_t (xg_ishrE (u := lf) (v := ai) xnm0 xnm0 (by omega) (by omega) rfl) ?_
                            refine xg_t (xg_const) ?_
                            refine xg_t (xg_iand (u := lf / 2 ^ ai) (v := 1) (z := Nat.land (lf / 2 ^ ai) 1) xnm0 xnm0 rfl) ?_
                            obtain ⟨z85, hz86⟩ : ∃ z, Nat.land (lf / 2 ^ ai) 1 = z := ⟨_, rfl⟩
                            rw [hz86]
                            by_cases hc87 : z85 = 0
                            · refine xg_t (xg_ifF (u := z85) rfl xnm0 (xj_neF hc87)) ?_
                              refine xg_t (xg_iinc (u := ai) (z := ai + 1) (l1 := [(0, (2, 82)), (1, (0, kk)), (3, (0, lf))]) rfl rfl (by omega) rfl) ?_
                              refine xg_t (xg_goto) ?_
                              refine xg_t (xg_drop (l1 := [(0, (2, 82)), (1, (0, kk)), (3, (0, lf)), (4, (0, ai + 1))]) (List.forall_mem_cons.mpr ⟨List.mem_cons_of_mem _ (List.mem_cons_self), List.forall_mem_cons.mpr ⟨List.mem_cons_of_mem _ (List.mem_cons_of_mem _ (List.mem_cons_self)), List.forall_mem_cons.mpr ⟨List.mem_cons_of_mem _ (List.mem_cons_of_mem _ (List.mem_cons_of_mem _ (List.mem_cons_self))), List.forall_mem_cons.mpr ⟨List.mem_cons_self, fun _ h => absurd h List.not_mem_nil⟩⟩⟩⟩)) ?_
                              have hl88 := low_step he83 hz86 (by omega)
                              have hl89 := low_bd hl88 (by omega) (by omega)
                              exact ih77 (ai + 1)  (by omega) (by omega) (hl88)
                            · refine xg_t (xg_ifT (u := z85) rfl xnm0 (xj_neT hc87)) ?_
                              refine xg_t (xg_blq rfl) ?_
                              refine xg_t (xg_iload (va := (0, ai)) rfl rfl) ?_
                              exact xg_e ⟨ai, w65, ⟨rfl, rfl⟩, by omega, hI66, hF67⟩
                        exact key76 _ 0  (Nat.lt_succ_self _) (by omega) (Nat.mod_one _)
                      · refine xg_t (xg_const) ?_
                        refine xg_t (xg_istore (l1 := [(0, (2, 82)), (1, (0, kk)), (3, (0, lf))]) rfl rfl rfl) ?_
                        refine xg_t (xg_drop (l1 := [(0, (2, 82)), (1, (0, kk)), (3, (0, lf)), (4, (0, 0))]) (List.forall_mem_cons.mpr ⟨List.mem_cons_of_mem _ (List.mem_cons_self), List.forall_mem_cons.mpr ⟨List.mem_cons_of_mem _ (List.mem_cons_of_mem _ (List.mem_cons_self)), List.forall_mem_cons.mpr ⟨List.mem_cons_of_mem _ (List.mem_cons_of_mem _ (List.mem_cons_of_mem _ (List.mem_cons_self))), List.forall_mem_cons.mpr ⟨List.mem_cons_self, fun _ h => absurd h List.not_mem_nil⟩⟩⟩⟩)) ?_
                        have key90 : ∀ (m92 : Nat) (ai : Nat), 32 - ai < m92 → ai ≤ 31 → ai ≤ 31 → xTo (d + 3) mX12_quarrel (139, [], [(0, (2, 82)), (1, (0, kk)), (3, (0, lf)), (4, (0, ai))], [], (w65, bd, fc, 0, 0, rr)) (fun φ => ∃ n w', xEnd 1 [(0, n)] (w', bd, fc, 0, 0, rr) φ ∧ (n ≤ 4294967295) ∧ xMnv w' ∧ xFr [111] w w') := by
                          intro m92
                          induction m92 with
                          | zero => intro ai hz; exact absurd hz (Nat.not_lt_zero _)
                          | succ m92 ih91 =>
                            intro ai hm98 hn96 he97
                            refine xg_t (xg_blq rfl) ?_
                            refine xg_t (xg_iload (va := (0, lf)) rfl rfl) ?_
                            refine xg_t (xg_iload (va := (0, ai)) rfl rfl) ?_
                            refine xg_t (xg_ishrG (u := lf) (v := ai) xnm0 xnm0) ?_
                            refine xg_t (xg_const) ?_
                            refine xg_t (xg_iand (u := xpt (nI lf >>> (nI ai &&& 31))) (v := 1) (z := Nat.land (xpt (nI lf >>> (nI ai &&& 31))) 1) xnm0 xnm0 rfl) ?_
                            have hz100 := fun h => neg_bit (L := lf) (a := ai) (by omega) (by omega) h
                            generalize Nat.land (xpt (nI lf >>> (nI ai &&& 31))) 1 = z99 at hz100 ⊢
                            by_cases hc101 : z99 = 0
                            · refine xg_t (xg_ifF (u := z99) rfl xnm0 (xj_neF hc101)) ?_
                              refine xg_t (xg_iinc (u := ai) (z := ai + 1) (l1 := [(0, (2, 82)), (1, (0, kk)), (3, (0, lf))]) rfl rfl (by omega) rfl) ?_
                              refine xg_t (xg_goto) ?_
                              refine xg_t (xg_drop (l1 := [(0, (2, 82)), (1, (0, kk)), (3, (0, lf)), (4, (0, ai + 1))]) (List.forall_mem_cons.mpr ⟨List.mem_cons_of_mem _ (List.mem_cons_self), List.forall_mem_cons.mpr ⟨List.mem_cons_of_mem _ (List.mem_cons_of_mem _ (List.mem_cons_self)), List.forall_mem_cons.mpr ⟨List.mem_cons_of_mem _ (List.mem_cons_of_mem _ (List.mem_cons_of_mem _ (List.mem_cons_self))), List.forall_mem_cons.mpr ⟨List.mem_cons_self, fun _ h => absurd h List.not_mem_nil⟩⟩⟩⟩)) ?_
                              exact ih91 (ai + 1)  (by omega) (by omega) (by omega)
                            · refine xg_t (xg_ifT (u := z99) rfl xnm0 (xj_neT hc101)) ?_
                              refine xg_t (xg_blq rfl) ?_
                              refine xg_t (xg_iload (va := (0, ai)) rfl rfl) ?_
                              exact xg_e ⟨ai, w65, ⟨rfl, rfl⟩, by omega, hI66, hF67⟩
                        exact key90 _ 0  (Nat.lt_succ_self _) (by omega) (by omega)
                  · refine xg_t (xg_ifF (u := lf) rfl xnm0 (xj_eqF hc73)) ?_
                    refine xg_t (xg_iload (va := (0, lf)) rfl rfl) ?_
                    refine xg_t (xg_iload (va := (0, lf)) rfl rfl) ?_
                    refine xg_t (xg_const) ?_
                    refine xg_t (xg_isub (u := lf) (v := 1) (z := lf - 1) xnm0 xnm0 (by omega)) ?_
                    have hle103 : Nat.land lf (lf - 1) ≤ lf - 1 := Nat.and_le_right
                    refine xg_t (xg_iand (u := lf) (v := lf - 1) (z := Nat.land lf (lf - 1)) xnm0 xnm0 rfl) ?_
                    generalize Nat.land lf (lf - 1) = z102 at hle103 ⊢
                    refine xg_t (xg_istore (l1 := [(0, (2, 82)), (1, (0, kk)), (4, (0, ni))]) rfl rfl rfl) ?_
                    refine xg_t (xg_iinc (u := ni) (z := (ni + 1) % 4294967296) (l1 := [(3, (0, z102)), (0, (2, 82)), (1, (0, kk))]) rfl rfl (rfl) rfl) ?_
                    refine xg_t (xg_goto) ?_
                    refine xg_t (xg_drop (l1 := [(0, (2, 82)), (1, (0, kk)), (3, (0, z102)), (4, (0, (ni + 1) % 4294967296))]) (List.forall_mem_cons.mpr ⟨List.mem_cons_of_mem _ (List.mem_cons_of_mem _ (List.mem_cons_self)), List.forall_mem_cons.mpr ⟨List.mem_cons_of_mem _ (List.mem_cons_of_mem _ (List.mem_cons_of_mem _ (List.mem_cons_self))), List.forall_mem_cons.mpr ⟨List.mem_cons_of_mem _ (List.mem_cons_self), List.forall_mem_cons.mpr ⟨List.mem_cons_self, fun _ h => absurd h List.not_mem_nil⟩⟩⟩⟩)) ?_
                    exact ih63 z102 ((ni + 1) % 4294967296) w65 (by omega) (by omega) (by omega) (hI66) (hF67)
                · have hc71u := hc71
                  unfold xbs at hc71u
                  have hn104 : ni ≤ 2147483647 := by omega
                  have hn105 : kk ≤ 2147483647 := by omega
                  refine xg_t (xg_icT (u := ni) (v := kk) rfl xnm0 xnm0 (xjs_geT hc71)) ?_
                  refine xg_t (xg_blq rfl) ?_
                  refine xg_t (xg_iload (va := (0, lf)) rfl rfl) ?_
                  by_cases hc106 : lf = 0
                  · refine xg_t (xg_ifF (u := lf) rfl xnm0 (xj_neF hc106)) ?_
                    refine xg_t (xg_const) ?_
                    exact xg_e ⟨4294967295, w65, ⟨rfl, rfl⟩, by first | decide | omega, hI66, hF67⟩
                  · refine xg_t (xg_ifT (u := lf) rfl xnm0 (xj_neT hc106)) ?_
                    refine xg_t (xg_blq rfl) ?_
                    by_cases hc107 : lf < 2147483648
                    · refine xg_t (xg_const) ?_
                      refine xg_t (xg_istore (l1 := [(0, (2, 82)), (1, (0, kk)), (3, (0, lf))]) rfl rfl rfl) ?_
                      refine xg_t (xg_drop (l1 := [(0, (2, 82)), (1, (0, kk)), (3, (0, lf)), (4, (0, 0))]) (List.forall_mem_cons.mpr ⟨List.mem_cons_of_mem _ (List.mem_cons_self), List.forall_mem_cons.mpr ⟨List.mem_cons_of_mem _ (List.mem_cons_of_mem _ (List.mem_cons_self)), List.forall_mem_cons.mpr ⟨List.mem_cons_of_mem _ (List.mem_cons_of_mem _ (List.mem_cons_of_mem _ (List.mem_cons_self))), List.forall_mem_cons.mpr ⟨List.mem_cons_self, fun _ h => absurd h List.not_mem_nil⟩⟩⟩⟩)) ?_
                      have key108 : ∀ (m110 : Nat) (ai : Nat), 32 - ai < m110 → ai ≤ 31 → lf % 2 ^ ai = 0 → xTo (d + 3) mX12_quarrel (139, [], [(0, (2, 82)), (1, (0, kk)), (3, (0, lf)), (4, (0, ai))], [], (w65, bd, fc, 0, 0, rr)) (fun φ => ∃ n w', xEnd 1 [(0, n)] (w', bd, fc, 0, 0, rr) φ ∧ (n ≤ 4294967295) ∧ xMnv w' ∧ xFr [111] w w') := by
                        intro m110
                        induction m110 with
                        | zero => intro ai hz; exact absurd hz (Nat.not_lt_zero _)
                        | succ m110 ih109 =>
                          intro ai hm116 hn114 he115
                          refine xg_t (xg_blq rfl) ?_
                          refine xg_t (xg_iload (va := (0, lf)) rfl rfl) ?_
                          refine xg_t (xg_iload (va := (0, ai)) rfl rfl) ?_
                          refine xg_t (xg_ishrE (u := lf) (v := ai) xnm0 xnm0 (by omega) (by omega) rfl) ?_
                          refine xg_t (xg_const) ?_
                          refine xg_t (xg_iand (u := lf / 2 ^ ai) (v := 1) (z := Nat.land (lf / 2 ^ ai) 1) xnm0 xnm0 rfl) ?_
                          obtain ⟨z117, hz118⟩ : ∃ z, Nat.land (lf / 2 ^ ai) 1 = z := ⟨_, rfl⟩
                          rw [hz118]
                          by_cases hc119 : z117 = 0
                          · refine xg_t (xg_ifF (u := z117) rfl xnm0 (xj_neF hc119)) ?_
                            refine xg_t (xg_iinc (u := ai) (z := ai + 1) (l1 := [(0, (2, 82)), (1, (0, kk)), (3, (0, lf))]) rfl rfl (by omega) rfl) ?_
                            refine xg_t (xg_goto) ?_
                            refine xg_t (xg_drop (l1 := [(0, (2, 82)), (1, (0, kk)), (3, (0, lf)), (4, (0, ai + 1))]) (List.forall_mem_cons.mpr ⟨List.mem_cons_of_mem _ (List.mem_cons_self), List.forall_mem_cons.mpr ⟨List.mem_cons_of_mem _ (List.mem_cons_of_mem _ (List.mem_cons_self)), List.forall_mem_cons.mpr ⟨List.mem_cons_of_mem _ (List.mem_cons_of_mem _ (List.mem_cons_of_mem _ (List.mem_cons_self))), List.forall_mem_cons.mpr ⟨List.mem_cons_self, fun _ h => absurd h List.not_mem_nil⟩⟩⟩⟩)) ?_
                            have hl120 := low_step he115 hz118 (by omega)
                            have hl121 := low_bd hl120 (by omega) (by omega)
                            exact ih109 (ai + 1)  (by omega) (by omega) (hl120)
                          · refine xg_t (xg_ifT (u := z117) rfl xnm0 (xj_neT hc119)) ?_
                            refine xg_t (xg_blq rfl) ?_
                            refine xg_t (xg_iload (va := (0, ai)) rfl rfl) ?_
                            exact xg_e ⟨ai, w65, ⟨rfl, rfl⟩, by omega, hI66, hF67⟩
                      exact key108 _ 0  (Nat.lt_succ_self _) (by omega) (Nat.mod_one _)
                    · refine xg_t (xg_const) ?_
                      refine xg_t (xg_istore (l1 := [(0, (2, 82)), (1, (0, kk)), (3, (0, lf))]) rfl rfl rfl) ?_
                      refine xg_t (xg_drop (l1 := [(0, (2, 82)), (1, (0, kk)), (3, (0, lf)), (4, (0, 0))]) (List.forall_mem_cons.mpr ⟨List.mem_cons_of_mem _ (List.mem_cons_self), List.forall_mem_cons.mpr ⟨List.mem_cons_of_mem _ (List.mem_cons_of_mem _ (List.mem_cons_self)), List.forall_mem_cons.mpr ⟨List.mem_cons_of_mem _ (List.mem_cons_of_mem _ (List.mem_cons_of_mem _ (List.mem_cons_self))), List.forall_mem_cons.mpr ⟨List.mem_cons_self, fun _ h => absurd h List.not_mem_nil⟩⟩⟩⟩)) ?_
                      have key122 : ∀ (m124 : Nat) (ai : Nat), 32 - ai < m124 → ai ≤ 31 → ai ≤ 31 → xTo (d + 3) mX12_quarrel (139, [], [(0, (2, 82)), (1, (0, kk)), (3, (0, lf)), (4, (0, ai))], [], (w65, bd, fc, 0, 0, rr)) (fun φ => ∃ n w', xEnd 1 [(0, n)] (w', bd, fc, 0, 0, rr) φ ∧ (n ≤ 4294967295) ∧ xMnv w' ∧ xFr [111] w w') := by
                        intro m124
                        induction m124 with
                        | zero => intro ai hz; exact absurd hz (Nat.not_lt_zero _)
                        | succ m124 ih123 =>
                          intro ai hm130 hn128 he129
                          refine xg_t (xg_blq rfl) ?_
                          refine xg_t (xg_iload (va := (0, lf)) rfl rfl) ?_
                          refine xg_t (xg_iload (va := (0, ai)) rfl rfl) ?_
                          refine xg_t (xg_ishrG (u := lf) (v := ai) xnm0 xnm0) ?_
                          refine xg_t (xg_const) ?_
                          refine xg_t (xg_iand (u := xpt (nI lf >>> (nI ai &&& 31))) (v := 1) (z := Nat.land (xpt (nI lf >>> (nI ai &&& 31))) 1) xnm0 xnm0 rfl) ?_
                          have hz132 := fun h => neg_bit (L := lf) (a := ai) (by omega) (by omega) h
                          generalize Nat.land (xpt (nI lf >>> (nI ai &&& 31))) 1 = z131 at hz132 ⊢
                          by_cases hc133 : z131 = 0
                          · refine xg_t (xg_ifF (u := z131) rfl xnm0 (xj_neF hc133)) ?_
                            refine xg_t (xg_iinc (u := ai) (z := ai + 1) (l1 := [(0, (2, 82)), (1, (0, kk)), (3, (0, lf))]) rfl rfl (by omega) rfl) ?_
                            refine xg_t (xg_goto) ?_
                            refine xg_t (xg_drop (l1 := [(0, (2, 82)), (1, (0, kk)), (3, (0, lf)), (4, (0, ai + 1))]) (List.forall_mem_cons.mpr ⟨List.mem_cons_of_mem _ (List.mem_cons_self), List.forall_mem_cons.mpr ⟨List.mem_cons_of_mem _ (List.mem_cons_of_mem _ (List.mem_cons_self)), List.forall_mem_cons.mpr ⟨List.mem_cons_of_mem _ (List.mem_cons_of_mem _ (List.mem_cons_of_mem _ (List.mem_cons_self))), List.forall_mem_cons.mpr ⟨List.mem_cons_self, fun _ h => absurd h List.not_mem_nil⟩⟩⟩⟩)) ?_
                            exact ih123 (ai + 1)  (by omega) (by omega) (by omega)
                          · refine xg_t (xg_ifT (u := z131) rfl xnm0 (xj_neT hc133)) ?_
                            refine xg_t (xg_blq rfl) ?_
                            refine xg_t (xg_iload (va := (0, ai)) rfl rfl) ?_
                            exact xg_e ⟨ai, w65, ⟨rfl, rfl⟩, by omega, hI66, hF67⟩
                      exact key122 _ 0  (Nat.lt_succ_self _) (by omega) (by omega)
            exact key62 _ be 0 w55 (Nat.lt_succ_self _) (by omega) (by omega) (hI57) ((hF51.tr (hF58.up (by decide))))
          · refine xg_t (xg_icF (u := se) (v := n59) rfl xnm0 xnm0 (xj_gtF (by omega) (by omega))) ?_
            refine xg_t (xg_iload (va := (0, be)) rfl rfl) ?_
            by_cases hc134 : be < 2147483648
            · refine xg_t (xg_ifT (u := be) rfl xnm0 (xjz_geT hc134)) ?_
              refine xg_t (xg_blq rfl) ?_
              refine xg_t (xg_iload (va := (0, se)) rfl rfl) ?_
              refine xg_t (xg_iload (va := (0, be)) rfl rfl) ?_
              refine xg_k (xg_ixor (u := se) (v := be) xnm0 xnm0) (xpt_lt _) (fun z135 hz136 => ?_)
              refine xg_t (xg_blq rfl) ?_
              refine xg_t (xg_istore (l1 := [(0, (2, 82)), (1, (0, kk)), (2, (0, be)), (3, (0, se))]) rfl rfl rfl) ?_
              refine xg_t (xg_iload (va := (0, be)) rfl rfl) ?_
              refine xg_t (xg_ifF (u := be) rfl xnm0 (xj_ltF (by omega) (by omega))) ?_
              refine xg_t (xg_iload (va := (0, se)) rfl rfl) ?_
              refine xg_cSi mX12_ones (vs := [(0, se)]) (rest := []) (cn1 := 0) (sl1 := 0) rfl (mOnes (hI57) (by omega)) rfl rfl rfl rfl rfl rfl rfl (fun n141 w137 hq138 => ?_)
              obtain ⟨hn142, hI139, hF140⟩ := hq138
              refine xg_t (xg_iload (va := (0, be)) rfl rfl) ?_
              refine xg_cSi mX12_ones (vs := [(0, be)]) (rest := [(0, n141)]) (cn1 := 0) (sl1 := 0) rfl (mOnes (hI139) (by omega)) rfl rfl rfl rfl rfl rfl rfl (fun n147 w143 hq144 => ?_)
              obtain ⟨hn148, hI145, hF146⟩ := hq144
              by_cases hc149 : xbs n141 < xbs n147
              · have hc149u := hc149
                unfold xbs at hc149u
                refine xg_t (xg_icT (u := n141) (v := n147) rfl xnm0 xnm0 (xjs_ltT hc149)) ?_
                refine xg_t (xg_blq rfl) ?_
                refine xg_t (xg_const) ?_
                refine xg_t (xg_goto) ?_
                refine xg_t (xg_blq rfl) ?_
                refine xg_t (xg_istore (l1 := [(4, (0, z135)), (0, (2, 82)), (1, (0, kk)), (2, (0, be)), (3, (0, se))]) rfl rfl rfl) ?_
                refine xg_t (xg_iload (va := (0, 1)) rfl rfl) ?_
                refine xg_t (xg_ifF (u := 1) rfl xnm0 (by decide)) ?_
                refine xg_t (xg_aload (va := (2, 82)) rfl rfl) ?_
                refine xg_t (xg_iload (va := (0, se)) rfl rfl) ?_
                refine xg_cVi mX12_isQuarrel (vs := [(0, se)]) (rest := []) (cn1 := 0) (sl1 := 0) rfl (mIsQuarrel (hI145) (by omega)) rfl (hF146.get (by decide) (hF140.get (by decide) (hF58.get (by decide) (hF51.get (by decide) h82_31)))) rfl rfl rfl rfl rfl rfl (fun n154 w150 hq151 => ?_)
                obtain ⟨hn155, hI152, hF153⟩ := hq151
                by_cases hc156 : n154 = 0
                · refine xg_t (xg_ifT (u := n154) rfl xnm0 (xj_eqT hc156)) ?_
                  refine xg_t (xg_blq rfl) ?_
                  refine xg_t (xg_iinc (u := se) (z := se + 1) (l1 := [(5, (0, 1)), (4, (0, z135)), (0, (2, 82)), (1, (0, kk)), (2, (0, be))]) rfl rfl (by omega) rfl) ?_
                  refine xg_t (xg_goto) ?_
                  refine xg_t (xg_drop (l1 := [(0, (2, 82)), (1, (0, kk)), (2, (0, be)), (3, (0, se + 1))]) (List.forall_mem_cons.mpr ⟨List.mem_cons_of_mem _ (List.mem_cons_of_mem _ (List.mem_cons_of_mem _ (List.mem_cons_self))), List.forall_mem_cons.mpr ⟨List.mem_cons_of_mem _ (List.mem_cons_of_mem _ (List.mem_cons_of_mem _ (List.mem_cons_of_mem _ (List.mem_cons_self)))), List.forall_mem_cons.mpr ⟨List.mem_cons_of_mem _ (List.mem_cons_of_mem _ (List.mem_cons_of_mem _ (List.mem_cons_of_mem _ (List.mem_cons_of_mem _ (List.mem_cons_self))))), List.forall_mem_cons.mpr ⟨List.mem_cons_self, fun _ h => absurd h List.not_mem_nil⟩⟩⟩⟩)) ?_
                  exact ih47 be (se + 1) w150 (by omega) (by omega) (by omega) (hI152) (((((hF51.tr (hF58.up (by decide))).tr (hF140.up (by decide))).tr (hF146.up (by decide))).tr (hF153.up (by decide))))
                · refine xg_t (xg_ifF (u := n154) rfl xnm0 (xj_eqF hc156)) ?_
                  refine xg_t (xg_iload (va := (0, se)) rfl rfl) ?_
                  refine xg_t (xg_istore (l1 := [(5, (0, 1)), (4, (0, z135)), (0, (2, 82)), (1, (0, kk)), (3, (0, se))]) rfl rfl rfl) ?_
                  refine xg_t (xg_blq rfl) ?_
                  refine xg_t (xg_iinc (u := se) (z := se + 1) (l1 := [(2, (0, se)), (5, (0, 1)), (4, (0, z135)), (0, (2, 82)), (1, (0, kk))]) rfl rfl (by omega) rfl) ?_
                  refine xg_t (xg_goto) ?_
                  refine xg_t (xg_drop (l1 := [(0, (2, 82)), (1, (0, kk)), (2, (0, se)), (3, (0, se + 1))]) (List.forall_mem_cons.mpr ⟨List.mem_cons_of_mem _ (List.mem_cons_of_mem _ (List.mem_cons_of_mem _ (List.mem_cons_of_mem _ (List.mem_cons_self)))), List.forall_mem_cons.mpr ⟨List.mem_cons_of_mem _ (List.mem_cons_of_mem _ (List.mem_cons_of_mem _ (List.mem_cons_of_mem _ (List.mem_cons_of_mem _ (List.mem_cons_self))))), List.forall_mem_cons.mpr ⟨List.mem_cons_of_mem _ (List.mem_cons_self), List.forall_mem_cons.mpr ⟨List.mem_cons_self, fun _ h => absurd h List.not_mem_nil⟩⟩⟩⟩)) ?_
                  exact ih47 se (se + 1) w150 (by omega) (by omega) (by omega) (hI152) (((((hF51.tr (hF58.up (by decide))).tr (hF140.up (by decide))).tr (hF146.up (by decide))).tr (hF153.up (by decide))))
              · have hc149u := hc149
                unfold xbs at hc149u
                refine xg_t (xg_icF (u := n141) (v := n147) rfl xnm0 xnm0 (xjs_ltF hc149)) ?_
                refine xg_t (xg_iload (va := (0, se)) rfl rfl) ?_
                refine xg_cSi mX12_ones (vs := [(0, se)]) (rest := []) (cn1 := 0) (sl1 := 0) rfl (mOnes (hI145) (by omega)) rfl rfl rfl rfl rfl rfl rfl (fun n161 w157 hq158 => ?_)
                obtain ⟨hn162, hI159, hF160⟩ := hq158
                refine xg_t (xg_iload (va := (0, be)) rfl rfl) ?_
                refine xg_cSi mX12_ones (vs := [(0, be)]) (rest := [(0, n161)]) (cn1 := 0) (sl1 := 0) rfl (mOnes (hI159) (by omega)) rfl rfl rfl rfl rfl rfl rfl (fun n167 w163 hq164 => ?_)
                obtain ⟨hn168, hI165, hF166⟩ := hq164
                by_cases hc169 : n161 = n167
                · refine xg_t (xg_icF (u := n161) (v := n167) rfl xnm0 xnm0 (xj_neF hc169)) ?_
                  refine xg_t (xg_iload (va := (0, se)) rfl rfl) ?_
                  refine xg_t (xg_iload (va := (0, z135)) rfl rfl) ?_
                  refine xg_k (xg_iand (z := Nat.land se z135) (u := se) (v := z135) xnm0 xnm0 rfl) (xland_lt (by omega)) (fun z170 hz171 => ?_)
                  refine xg_t (xg_iload (va := (0, z135)) rfl rfl) ?_
                  refine xg_k (xg_ineg (u := z135) xnm0) (xpt_lt _) (fun z172 hz173 => ?_)
                  refine xg_k (xg_iand (z := Nat.land z170 z172) (u := z170) (v := z172) xnm0 xnm0 rfl) (xland_lt (by omega)) (fun z174 hz175 => ?_)
                  by_cases hc176 : z174 = 0
                  · refine xg_t (xg_ifT (u := z174) rfl xnm0 (xj_eqT hc176)) ?_
                    refine xg_t (xg_blq rfl) ?_
                    refine xg_t (xg_const) ?_
                    refine xg_t (xg_blq rfl) ?_
                    refine xg_t (xg_istore (l1 := [(4, (0, z135)), (0, (2, 82)), (1, (0, kk)), (2, (0, be)), (3, (0, se))]) rfl rfl rfl) ?_
                    refine xg_t (xg_iload (va := (0, 0)) rfl rfl) ?_
                    refine xg_t (xg_ifT (u := 0) rfl xnm0 (by decide)) ?_
                    refine xg_t (xg_blq rfl) ?_
                    refine xg_t (xg_iinc (u := se) (z := se + 1) (l1 := [(5, (0, 0)), (4, (0, z135)), (0, (2, 82)), (1, (0, kk)), (2, (0, be))]) rfl rfl (by omega) rfl) ?_
                    refine xg_t (xg_goto) ?_
                    refine xg_t (xg_drop (l1 := [(0, (2, 82)), (1, (0, kk)), (2, (0, be)), (3, (0, se + 1))]) (List.forall_mem_cons.mpr ⟨List.mem_cons_of_mem _ (List.mem_cons_of_mem _ (List.mem_cons_of_mem _ (List.mem_cons_self))), List.forall_mem_cons.mpr ⟨List.mem_cons_of_mem _ (List.mem_cons_of_mem _ (List.mem_cons_of_mem _ (List.mem_cons_of_mem _ (List.mem_cons_self)))), List.forall_mem_cons.mpr ⟨List.mem_cons_of_mem _ (List.mem_cons_of_mem _ (List.mem_cons_of_mem _ (List.mem_cons_of_mem _ (List.mem_cons_of_mem _ (List.mem_cons_self))))), List.forall_mem_cons.mpr ⟨List.mem_cons_self, fun _ h => absurd h List.not_mem_nil⟩⟩⟩⟩)) ?_
                    exact ih47 be (se + 1) w163 (by omega) (by omega) (by omega) (hI165) ((((((hF51.tr (hF58.up (by decide))).tr (hF140.up (by decide))).tr (hF146.up (by decide))).tr (hF160.up (by decide))).tr (hF166.up (by decide))))
                  · refine xg_t (xg_ifF (u := z174) rfl xnm0 (xj_eqF hc176)) ?_
                    refine xg_t (xg_blq rfl) ?_
                    refine xg_t (xg_const) ?_
                    refine xg_t (xg_goto) ?_
                    refine xg_t (xg_blq rfl) ?_
                    refine xg_t (xg_istore (l1 := [(4, (0, z135)), (0, (2, 82)), (1, (0, kk)), (2, (0, be)), (3, (0, se))]) rfl rfl rfl) ?_
                    refine xg_t (xg_iload (va := (0, 1)) rfl rfl) ?_
                    refine xg_t (xg_ifF (u := 1) rfl xnm0 (by decide)) ?_
                    refine xg_t (xg_aload (va := (2, 82)) rfl rfl) ?_
                    refine xg_t (xg_iload (va := (0, se)) rfl rfl) ?_
                    refine xg_cVi mX12_isQuarrel (vs := [(0, se)]) (rest := []) (cn1 := 0) (sl1 := 0) rfl (mIsQuarrel (hI165) (by omega)) rfl (hF166.get (by decide) (hF160.get (by decide) (hF146.get (by decide) (hF140.get (by decide) (hF58.get (by decide) (hF51.get (by decide) h82_31)))))) rfl rfl rfl rfl rfl rfl (fun n181 w177 hq178 => ?_)
                    obtain ⟨hn182, hI179, hF180⟩ := hq178
                    by_cases hc183 : n181 = 0
                    · refine xg_t (xg_ifT (u := n181) rfl xnm0 (xj_eqT hc183)) ?_
                      refine xg_t (xg_blq rfl) ?_
                      refine xg_t (xg_iinc (u := se) (z := se + 1) (l1 := [(5, (0, 1)), (4, (0, z135)), (0, (2, 82)), (1, (0, kk)), (2, (0, be))]) rfl rfl (by omega) rfl) ?_
                      refine xg_t (xg_goto) ?_
                      refine xg_t (xg_drop (l1 := [(0, (2, 82)), (1, (0, kk)), (2, (0, be)), (3, (0, se + 1))]) (List.forall_mem_cons.mpr ⟨List.mem_cons_of_mem _ (List.mem_cons_of_mem _ (List.mem_cons_of_mem _ (List.mem_cons_self))), List.forall_mem_cons.mpr ⟨List.mem_cons_of_mem _ (List.mem_cons_of_mem _ (List.mem_cons_of_mem _ (List.mem_cons_of_mem _ (List.mem_cons_self)))), List.forall_mem_cons.mpr ⟨List.mem_cons_of_mem _ (List.mem_cons_of_mem _ (List.mem_cons_of_mem _ (List.mem_cons_of_mem _ (List.mem_cons_of_mem _ (List.mem_cons_self))))), List.forall_mem_cons.mpr ⟨List.mem_cons_self, fun _ h => absurd h List.not_mem_nil⟩⟩⟩⟩)) ?_
                      exact ih47 be (se + 1) w177 (by omega) (by omega) (by omega) (hI179) (((((((hF51.tr (hF58.up (by decide))).tr (hF140.up (by decide))).tr (hF146.up (by decide))).tr (hF160.up (by decide))).tr (hF166.up (by decide))).tr (hF180.up (by decide))))
                    · refine xg_t (xg_ifF (u := n181) rfl xnm0 (xj_eqF hc183)) ?_
                      refine xg_t (xg_iload (va := (0, se)) rfl rfl) ?_
                      refine xg_t (xg_istore (l1 := [(5, (0, 1)), (4, (0, z135)), (0, (2, 82)), (1, (0, kk)), (3, (0, se))]) rfl rfl rfl) ?_
                      refine xg_t (xg_blq rfl) ?_
                      refine xg_t (xg_iinc (u := se) (z := se + 1) (l1 := [(2, (0, se)), (5, (0, 1)), (4, (0, z135)), (0, (2, 82)), (1, (0, kk))]) rfl rfl (by omega) rfl) ?_
                      refine xg_t (xg_goto) ?_
                      refine xg_t (xg_drop (l1 := [(0, (2, 82)), (1, (0, kk)), (2, (0, se)), (3, (0, se + 1))]) (List.forall_mem_cons.mpr ⟨List.mem_cons_of_mem _ (List.mem_cons_of_mem _ (List.mem_cons_of_mem _ (List.mem_cons_of_mem _ (List.mem_cons_self)))), List.forall_mem_cons.mpr ⟨List.mem_cons_of_mem _ (List.mem_cons_of_mem _ (List.mem_cons_of_mem _ (List.mem_cons_of_mem _ (List.mem_cons_of_mem _ (List.mem_cons_self))))), List.forall_mem_cons.mpr ⟨List.mem_cons_of_mem _ (List.mem_cons_self), List.forall_mem_cons.mpr ⟨List.mem_cons_self, fun _ h => absurd h List.not_mem_nil⟩⟩⟩⟩)) ?_
                      exact ih47 se (se + 1) w177 (by omega) (by omega) (by omega) (hI179) (((((((hF51.tr (hF58.up (by decide))).tr (hF140.up (by decide))).tr (hF146.up (by decide))).tr (hF160.up (by decide))).tr (hF166.up (by decide))).tr (hF180.up (by decide))))
                · refine xg_t (xg_icT (u := n161) (v := n167) rfl xnm0 xnm0 (xj_neT hc169)) ?_
                  refine xg_t (xg_blq rfl) ?_
                  refine xg_t (xg_const) ?_
                  refine xg_t (xg_blq rfl) ?_
                  refine xg_t (xg_istore (l1 := [(4, (0, z135)), (0, (2, 82)), (1, (0, kk)), (2, (0, be)), (3, (0, se))]) rfl rfl rfl) ?_
                  refine xg_t (xg_iload (va := (0, 0)) rfl rfl) ?_
                  refine xg_t (xg_ifT (u := 0) rfl xnm0 (by decide)) ?_
                  refine xg_t (xg_blq rfl) ?_
                  refine xg_t (xg_iinc (u := se) (z := se + 1) (l1 := [(5, (0, 0)), (4, (0, z135)), (0, (2, 82)), (1, (0, kk)), (2, (0, be))]) rfl rfl (by omega) rfl) ?_
                  refine xg_t (xg_goto) ?_
                  refine xg_t (xg_drop (l1 := [(0, (2, 82)), (1, (0, kk)), (2, (0, be)), (3, (0, se + 1))]) (List.forall_mem_cons.mpr ⟨List.mem_cons_of_mem _ (List.mem_cons_of_mem _ (List.mem_cons_of_mem _ (List.mem_cons_self))), List.forall_mem_cons.mpr ⟨List.mem_cons_of_mem _ (List.mem_cons_of_mem _ (List.mem_cons_of_mem _ (List.mem_cons_of_mem _ (List.mem_cons_self)))), List.forall_mem_cons.mpr ⟨List.mem_cons_of_mem _ (List.mem_cons_of_mem _ (List.mem_cons_of_mem _ (List.mem_cons_of_mem _ (List.mem_cons_of_mem _ (List.mem_cons_self))))), List.forall_mem_cons.mpr ⟨List.mem_cons_self, fun _ h => absurd h List.not_mem_nil⟩⟩⟩⟩)) ?_
                  exact ih47 be (se + 1) w163 (by omega) (by omega) (by omega) (hI165) ((((((hF51.tr (hF58.up (by decide))).tr (hF140.up (by decide))).tr (hF146.up (by decide))).tr (hF160.up (by decide))).tr (hF166.up (by decide))))
            · refine xg_t (xg_ifF (u := be) rfl xnm0 (xjz_geF (by omega) (by omega))) ?_
              refine xg_t (xg_const) ?_
              refine xg_t (xg_goto) ?_
              refine xg_t (xg_blq rfl) ?_
              refine xg_t (xg_istore (l1 := [(0, (2, 82)), (1, (0, kk)), (2, (0, be)), (3, (0, se))]) rfl rfl rfl) ?_
              refine xg_t (xg_iload (va := (0, be)) rfl rfl) ?_
              refine xg_t (xg_ifT (u := be) rfl xnm0 (xjz_ltT (by omega) (by omega))) ?_
              refine xg_t (xg_blq rfl) ?_
              refine xg_t (xg_const) ?_
              refine xg_t (xg_goto) ?_
              refine xg_t (xg_blq rfl) ?_
              refine xg_t (xg_istore (l1 := [(4, (0, 0)), (0, (2, 82)), (1, (0, kk)), (2, (0, be)), (3, (0, se))]) rfl rfl rfl) ?_
              refine xg_t (xg_iload (va := (0, 1)) rfl rfl) ?_
              refine xg_t (xg_ifF (u := 1) rfl xnm0 (by decide)) ?_
              refine xg_t (xg_aload (va := (2, 82)) rfl rfl) ?_
              refine xg_t (xg_iload (va := (0, se)) rfl rfl) ?_
              refine xg_cVi mX12_isQuarrel (vs := [(0, se)]) (rest := []) (cn1 := 0) (sl1 := 0) rfl (mIsQuarrel (hI57) (by omega)) rfl (hF58.get (by decide) (hF51.get (by decide) h82_31)) rfl rfl rfl rfl rfl rfl (fun n188 w184 hq185 => ?_)
              obtain ⟨hn189, hI186, hF187⟩ := hq185
              by_cases hc190 : n188 = 0
              · refine xg_t (xg_ifT (u := n188) rfl xnm0 (xj_eqT hc190)) ?_
                refine xg_t (xg_blq rfl) ?_
                refine xg_t (xg_iinc (u := se) (z := se + 1) (l1 := [(5, (0, 1)), (4, (0, 0)), (0, (2, 82)), (1, (0, kk)), (2, (0, be))]) rfl rfl (by omega) rfl) ?_
                refine xg_t (xg_goto) ?_
                refine xg_t (xg_drop (l1 := [(0, (2, 82)), (1, (0, kk)), (2, (0, be)), (3, (0, se + 1))]) (List.forall_mem_cons.mpr ⟨List.mem_cons_of_mem _ (List.mem_cons_of_mem _ (List.mem_cons_of_mem _ (List.mem_cons_self))), List.forall_mem_cons.mpr ⟨List.mem_cons_of_mem _ (List.mem_cons_of_mem _ (List.mem_cons_of_mem _ (List.mem_cons_of_mem _ (List.mem_cons_self)))), List.forall_mem_cons.mpr ⟨List.mem_cons_of_mem _ (List.mem_cons_of_mem _ (List.mem_cons_of_mem _ (List.mem_cons_of_mem _ (List.mem_cons_of_mem _ (List.mem_cons_self))))), List.forall_mem_cons.mpr ⟨List.mem_cons_self, fun _ h => absurd h List.not_mem_nil⟩⟩⟩⟩)) ?_
                exact ih47 be (se + 1) w184 (by omega) (by omega) (by omega) (hI186) (((hF51.tr (hF58.up (by decide))).tr (hF187.up (by decide))))
              · refine xg_t (xg_ifF (u := n188) rfl xnm0 (xj_eqF hc190)) ?_
                refine xg_t (xg_iload (va := (0, se)) rfl rfl) ?_
                refine xg_t (xg_istore (l1 := [(5, (0, 1)), (4, (0, 0)), (0, (2, 82)), (1, (0, kk)), (3, (0, se))]) rfl rfl rfl) ?_
                refine xg_t (xg_blq rfl) ?_
                refine xg_t (xg_iinc (u := se) (z := se + 1) (l1 := [(2, (0, se)), (5, (0, 1)), (4, (0, 0)), (0, (2, 82)), (1, (0, kk))]) rfl rfl (by omega) rfl) ?_
                refine xg_t (xg_goto) ?_
                refine xg_t (xg_drop (l1 := [(0, (2, 82)), (1, (0, kk)), (2, (0, se)), (3, (0, se + 1))]) (List.forall_mem_cons.mpr ⟨List.mem_cons_of_mem _ (List.mem_cons_of_mem _ (List.mem_cons_of_mem _ (List.mem_cons_of_mem _ (List.mem_cons_self)))), List.forall_mem_cons.mpr ⟨List.mem_cons_of_mem _ (List.mem_cons_of_mem _ (List.mem_cons_of_mem _ (List.mem_cons_of_mem _ (List.mem_cons_of_mem _ (List.mem_cons_self))))), List.forall_mem_cons.mpr ⟨List.mem_cons_of_mem _ (List.mem_cons_self), List.forall_mem_cons.mpr ⟨List.mem_cons_self, fun _ h => absurd h List.not_mem_nil⟩⟩⟩⟩)) ?_
                exact ih47 se (se + 1) w184 (by omega) (by omega) (by omega) (hI186) (((hF51.tr (hF58.up (by decide))).tr (hF187.up (by decide))))
      exact key46 _ 4294967295 1 w38 (Nat.lt_succ_self _) (by omega) (by omega) (hI40) ((hF41.up (by decide)))
  · refine xg_t (xg_ifT (u := kk) rfl xnm0 (xjz_ltT (by omega) (by omega))) ?_
    refine xg_t (xg_blq rfl) ?_
    refine xg_t (xg_const) ?_
    exact xg_e ⟨4294967295, w, ⟨rfl, rfl⟩, by first | decide | omega, hI, xFr.rf⟩
end XMG
end
section
/-! the model: rules -/
def RD (w : List (List xE)) : Prop := fld w 82 14 ≤ 16 ∧ ∀ l, l < fld w 82 14 → rwv w 112 (20 * l) ≤ 4
theorem rules_ok {f g h r : Nat → Nat} {L : Nat} (hf : okA f) (h1 : ∀ i, 0 ≤ i → i < 320 → g (1020 + i) = r i) (h2 : ∀ j, j < 1020 + 0 ∨ 1020 + 320 ≤ j → g j = f j) (hl : L ≤ 16) (hR : ∀ l, l < L → r (20 * l) ≤ 4) (h3 : h 902 = L) (h4 : ∀ j, j ≠ 902 → h j = g j) : okA h := by
  have e : ∀ j, j < 1020 → j ≠ 902 → h j = f j := fun j hj hn => by rw [h4 j hn, h2 j (by omega)]
  have e0 := e 0 (by decide) (by decide)
  have e1 := e 1 (by decide) (by decide)
  have e2 := e 2 (by decide) (by decide)
  have e3 := e 3 (by decide) (by decide)
  have e4 := e 4 (by decide) (by decide)
  have e5 := e 5 (by decide) (by decide)
  have e6 := e 6 (by decide) (by decide)
  have e7 := e 7 (by decide) (by decide)
  have e8 := e 8 (by decide) (by decide)
  have e9 := e 9 (by decide) (by decide)
  have e10 := e 10 (by decide) (by decide)
  have e13 := e 13 (by decide) (by decide)
  have e15 := e 15 (by decide) (by decide)
  have e900 := e 900 (by decide) (by decide)
  have e901 := e 901 (by decide) (by decide)
  obtain ⟨b0, b1, b2, b3, b4, b5, b6, b7, b8, b9, b10, b11, b12, b13, b14, b15, b16⟩ := hf.lits
  refine hf.mk0 (fun j hj => by rw [h4 j (by omega), h2 j (by omega)]) (okB.of0 ⟨by omega, by omega, by omega, by omega, by omega, by omega, by omega, by omega, by omega, by omega, by omega, by omega, by omega, by omega, by omega, by omega, by omega⟩ ?_ ?_ ?_ ?_)
  · intro k i hk hi
    rw [e _ (by omega) (by omega)]
    exact hf.lay (by omega) hi
  · intro k hk
    rw [e _ (by omega) (by omega)]
    exact hf.lif (by omega)
  · intro p i hk hi
    rw [e _ (by omega) (by omega)]
    exact hf.pic (by omega) hi
  · intro l hk
    rw [h4 _ (by omega), h1 (20 * l) (by omega) (by omega)]
    exact hR l (by omega)
theorem RD.fr {S : List Nat} {w w' : List (List xE)} (h : RD w) (hf : xFr S w w') (h1 : 112 ∉ S) (h2 : fld w' 82 14 = fld w 82 14) : RD w' := by
  refine ⟨by rw [h2]; exact h.1, fun l hl => ?_⟩
  rw [rwv_fr hf h1]
  exact h.2 l (by rw [← h2]; exact hl)
section XME
variable {d : Nat} {w : List (List xE)} {bd : List (Nat × Nat)} {fc : List (Nat × Nat × Bool)} {rr : Nat × Nat}
theorem mTakes {wq : Nat} (hI : xMnv w) (hwq : wq ≤ 4294967295) (hps : PS w) : xPi (d + 5) mX12_takes [(2, 82), (0, wq)] w bd fc rr (fun n w' => (n ≤ 1 ∧ PK w w' ∧ (n = 1 → mu w' < mu w)) ∧ xMnv w' ∧ xFr [82] w w') := by
  refine xPi.of ?_
  show xTo (d + 5) mX12_takes (0, [], [(0, (2, 82)), (1, (0, wq))], [], (w, bd, fc, 0, 0, rr)) (fun φ => ∃ n w', xEnd 4 [(0, n)] (w', bd, fc, 0, 0, rr) φ ∧ (n ≤ 1 ∧ PK w w' ∧ (n = 1 → mu w' < mu w)) ∧ xMnv w' ∧ xFr [82] w w')
  refine xoCh82 (xqc82 hI : cp82 (wget w 82)) (fun f82_1 f82_3 f82_5 f82_7 f82_9 f82_11 f82_13 f82_15 f82_17 f82_19 f82_21 f82_22 f82_23 f82_25 f82_27 f82_29 h82_31 hb2 hb4 hb6 hb8 hb10 hb12 hb14 hb16 hb18 hb20 hb24 hb26 hb28 hb30 hb32 => ?_)
  have hf33 : fld w 82 4 = f82_5 := fld_of h82_31
  have hf34 : fld w 82 5 = f82_7 := fld_of h82_31
  have hf35 : fld w 82 7 = f82_11 := fld_of h82_31
  have hf36 : fld w 82 10 = f82_17 := fld_of h82_31
  have hf37 : fld w 82 14 = f82_19 := fld_of h82_31
  have hps_ : fld w 82 10 = 0 ∨ FA w ≠ 0 := hps
  refine xg_t (xg_blq rfl) ?_
  refine xg_t (xg_aload (va := (2, 82)) rfl rfl) ?_
  refine xg_t (xg_getf (va := (0, f82_17)) h82_31 rfl) ?_
  by_cases hc38 : f82_17 = 0
  · refine xg_t (xg_ifF (u := f82_17) rfl xnm0 (xj_neF hc38)) ?_
    refine xg_t (xg_aload (va := (2, 82)) rfl rfl) ?_
    refine xg_t (xg_getf (va := (0, f82_11)) h82_31 rfl) ?_
    refine xg_t (xg_const) ?_
    by_cases hc39 : f82_11 = 3
    · refine xg_t (xg_icF (u := f82_11) (v := 3) rfl xnm0 xnm0 (xj_neF hc39)) ?_
      refine xg_t (xg_aload (va := (2, 82)) rfl rfl) ?_
      refine xg_t (xg_getf (va := (0, f82_15)) h82_31 rfl) ?_
      have hn40 : f82_15 ≤ 4294967295 := hb16
      refine xg_t (xg_iload (va := (0, wq)) rfl rfl) ?_
      by_cases hc41 : f82_15 = wq
      · refine xg_t (xg_icT (u := f82_15) (v := wq) rfl xnm0 xnm0 (xj_eqT hc41)) ?_
        refine xg_t (xg_blq rfl) ?_
        refine xg_t (xg_aload (va := (2, 82)) rfl rfl) ?_
        refine xg_cVv mX12_advance (vs := []) (rest := []) (cn1 := 0) (sl1 := 0) rfl (mAdvance (hI)) rfl h82_31 rfl rfl rfl rfl rfl rfl (fun w42 hq43 => ?_)
        obtain ⟨hI44, hF45, hx46⟩ := hq43
        obtain ⟨hv47, hv48, hv49, hv50⟩ := hx46
        have hf51 := FA_fr hF45 (by decide)
        refine xg_t (xg_const) ?_
        exact xg_e ⟨1, w42, ⟨rfl, rfl⟩, ⟨by omega, ⟨fun _ => by omega, by omega, by omega, (show fld w42 82 10 = 0 ∨ FA w42 ≠ 0 by omega), (K83.fr hF45 (by decide))⟩, fun _ => by omega⟩, hI44, (hF45.up (by decide))⟩
      · refine xg_t (xg_icF (u := f82_15) (v := wq) rfl xnm0 xnm0 (xj_eqF hc41)) ?_
        refine xg_t (xg_blq rfl) ?_
        refine xg_t (xg_const) ?_
        exact xg_e ⟨0, w, ⟨rfl, rfl⟩, ⟨by omega, PK.rf hps, fun _ => by omega⟩, hI, xFr.rf⟩
    · refine xg_t (xg_icT (u := f82_11) (v := 3) rfl xnm0 xnm0 (xj_neT hc39)) ?_
      refine xg_t (xg_blq rfl) ?_
      refine xg_t (xg_const) ?_
      exact xg_e ⟨0, w, ⟨rfl, rfl⟩, ⟨by omega, PK.rf hps, fun _ => by omega⟩, hI, xFr.rf⟩
  · refine xg_t (xg_ifT (u := f82_17) rfl xnm0 (xj_neT hc38)) ?_
    refine xg_t (xg_blq rfl) ?_
    refine xg_t (xg_const) ?_
    exact xg_e ⟨0, w, ⟨rfl, rfl⟩, ⟨by omega, PK.rf hps, fun _ => by omega⟩, hI, xFr.rf⟩
theorem mMust {cq : Nat} (hI : xMnv w) (hcq : cq ≤ 4294967295) (hps : PS w) : xPq (d + 5) mX12_must [(2, 82), (0, cq)] w bd fc rr [] (fun w' => xMnv w' ∧ xFr [82, 83] w w' ∧ (PK w w')) := by
  refine xPq.of ?_
  show xTo (d + 5) mX12_must (0, [], [(0, (2, 82)), (1, (0, cq))], [], (w, bd, fc, 0, 0, rr)) (fun φ => ∃ w', xEnd 0 [] (w', bd, fc, 0, 0, rr) φ ∧ xMnv w' ∧ xFr [82, 83] w w' ∧ (PK w w'))
  refine xoCh82 (xqc82 hI : cp82 (wget w 82)) (fun f82_1 f82_3 f82_5 f82_7 f82_9 f82_11 f82_13 f82_15 f82_17 f82_19 f82_21 f82_22 f82_23 f82_25 f82_27 f82_29 h82_31 hb2 hb4 hb6 hb8 hb10 hb12 hb14 hb16 hb18 hb20 hb24 hb26 hb28 hb30 hb32 => ?_)
  have hf33 : fld w 82 4 = f82_5 := fld_of h82_31
  have hf34 : fld w 82 5 = f82_7 := fld_of h82_31
  have hf35 : fld w 82 7 = f82_11 := fld_of h82_31
  have hf36 : fld w 82 10 = f82_17 := fld_of h82_31
  have hf37 : fld w 82 14 = f82_19 := fld_of h82_31
  have hps_ : fld w 82 10 = 0 ∨ FA w ≠ 0 := hps
  refine xg_t (xg_blq rfl) ?_
  refine xg_t (xg_aload (va := (2, 82)) rfl rfl) ?_
  refine xg_t (xg_getf (va := (0, f82_17)) h82_31 rfl) ?_
  by_cases hc38 : f82_17 = 0
  · refine xg_t (xg_ifF (u := f82_17) rfl xnm0 (xj_neF hc38)) ?_
    refine xg_t (xg_aload (va := (2, 82)) rfl rfl) ?_
    refine xg_t (xg_getf (va := (0, f82_11)) h82_31 rfl) ?_
    refine xg_t (xg_const) ?_
    by_cases hc39 : f82_11 = 2
    · refine xg_t (xg_icF (u := f82_11) (v := 2) rfl xnm0 xnm0 (xj_neF hc39)) ?_
      refine xg_t (xg_aload (va := (2, 82)) rfl rfl) ?_
      refine xg_t (xg_getf (va := (0, f82_3)) h82_31 rfl) ?_
      have hn40 : f82_3 ≤ 4294967295 := hb4
      refine xg_t (xg_iload (va := (0, cq)) rfl rfl) ?_
      by_cases hc41 : f82_3 = cq
      · refine xg_t (xg_icF (u := f82_3) (v := cq) rfl xnm0 xnm0 (xj_neF hc41)) ?_
        refine xg_t (xg_aload (va := (2, 82)) rfl rfl) ?_
        refine xg_cVv mX12_advance (vs := []) (rest := []) (cn1 := 0) (sl1 := 0) rfl (mAdvance (hI)) rfl h82_31 rfl rfl rfl rfl rfl rfl (fun w42 hq43 => ?_)
        obtain ⟨hI44, hF45, hx46⟩ := hq43
        obtain ⟨hv47, hv48, hv49, hv50⟩ := hx46
        have hf51 := FA_fr hF45 (by decide)
        refine xg_t (xg_goto) ?_
        refine xg_t (xg_blq rfl) ?_
        exact xg_e ⟨w42, ⟨rfl, rfl⟩, hI44, (hF45.up (by decide)), ⟨fun _ => by omega, by omega, by omega, (show fld w42 82 10 = 0 ∨ FA w42 ≠ 0 by omega), (K83.fr hF45 (by decide))⟩⟩
      · refine xg_t (xg_icT (u := f82_3) (v := cq) rfl xnm0 xnm0 (xj_neT hc41)) ?_
        refine xg_t (xg_blq rfl) ?_
        refine xg_t (xg_aload (va := (2, 82)) rfl rfl) ?_
        refine xg_cVv mX12_ends (vs := []) (rest := []) (cn1 := 0) (sl1 := 0) rfl (mEnds (hI) (show fld w 82 10 = 0 ∨ FA w ≠ 0 by omega)) rfl h82_31 rfl rfl rfl rfl rfl rfl (fun w52 hq53 => ?_)
        obtain ⟨hI54, hF55, hx56⟩ := hq53
        obtain ⟨hv57, hv58, hv59, hv60, hv61⟩ := hx56
        refine xg_t (xg_blq rfl) ?_
        exact xg_e ⟨w52, ⟨rfl, rfl⟩, hI54, (hF55.up (by decide)), ⟨fun _ => by omega, by omega, by omega, (show fld w52 82 10 = 0 ∨ FA w52 ≠ 0 by omega), hv61⟩⟩
    · refine xg_t (xg_icT (u := f82_11) (v := 2) rfl xnm0 xnm0 (xj_neT hc39)) ?_
      refine xg_t (xg_blq rfl) ?_
      refine xg_t (xg_aload (va := (2, 82)) rfl rfl) ?_
      refine xg_cVv mX12_ends (vs := []) (rest := []) (cn1 := 0) (sl1 := 0) rfl (mEnds (hI) (show fld w 82 10 = 0 ∨ FA w ≠ 0 by omega)) rfl h82_31 rfl rfl rfl rfl rfl rfl (fun w62 hq63 => ?_)
      obtain ⟨hI64, hF65, hx66⟩ := hq63
      obtain ⟨hv67, hv68, hv69, hv70, hv71⟩ := hx66
      refine xg_t (xg_blq rfl) ?_
      exact xg_e ⟨w62, ⟨rfl, rfl⟩, hI64, (hF65.up (by decide)), ⟨fun _ => by omega, by omega, by omega, (show fld w62 82 10 = 0 ∨ FA w62 ≠ 0 by omega), hv71⟩⟩
  · refine xg_t (xg_ifT (u := f82_17) rfl xnm0 (xj_neT hc38)) ?_
    refine xg_t (xg_blq rfl) ?_
    refine xg_t (xg_aload (va := (2, 82)) rfl rfl) ?_
    refine xg_cVv mX12_ends (vs := []) (rest := []) (cn1 := 0) (sl1 := 0) rfl (mEnds (hI) (show fld w 82 10 = 0 ∨ FA w ≠ 0 by omega)) rfl h82_31 rfl rfl rfl rfl rfl rfl (fun w72 hq73 => ?_)
    obtain ⟨hI74, hF75, hx76⟩ := hq73
    obtain ⟨hv77, hv78, hv79, hv80, hv81⟩ := hx76
    refine xg_t (xg_blq rfl) ?_
    exact xg_e ⟨w72, ⟨rfl, rfl⟩, hI74, (hF75.up (by decide)), ⟨fun _ => by omega, by omega, by omega, (show fld w72 82 10 = 0 ∨ FA w72 ≠ 0 by omega), hv81⟩⟩
theorem mNumberNow (hI : xMnv w) (hps : PS w) : xPi (d + 5) mX12_numberNow [(2, 82)] w bd fc rr (fun n w' => (n ≤ 4294967295 ∧ PK w w') ∧ xMnv w' ∧ xFr [82, 83] w w') := by
  refine xPi.of ?_
  show xTo (d + 5) mX12_numberNow (0, [], [(0, (2, 82))], [], (w, bd, fc, 0, 0, rr)) (fun φ => ∃ n w', xEnd 1 [(0, n)] (w', bd, fc, 0, 0, rr) φ ∧ (n ≤ 4294967295 ∧ PK w w') ∧ xMnv w' ∧ xFr [82, 83] w w')
  refine xoCh82 (xqc82 hI : cp82 (wget w 82)) (fun f82_1 f82_3 f82_5 f82_7 f82_9 f82_11 f82_13 f82_15 f82_17 f82_19 f82_21 f82_22 f82_23 f82_25 f82_27 f82_29 h82_31 hb2 hb4 hb6 hb8 hb10 hb12 hb14 hb16 hb18 hb20 hb24 hb26 hb28 hb30 hb32 => ?_)
  have hf33 : fld w 82 4 = f82_5 := fld_of h82_31
  have hf34 : fld w 82 5 = f82_7 := fld_of h82_31
  have hf35 : fld w 82 7 = f82_11 := fld_of h82_31
  have hf36 : fld w 82 10 = f82_17 := fld_of h82_31
  have hf37 : fld w 82 14 = f82_19 := fld_of h82_31
  have hps_ : fld w 82 10 = 0 ∨ FA w ≠ 0 := hps
  refine xg_t (xg_blq rfl) ?_
  refine xg_t (xg_aload (va := (2, 82)) rfl rfl) ?_
  refine xg_t (xg_getf (va := (0, f82_13)) h82_31 rfl) ?_
  have hn38 : f82_13 ≤ 4294967295 := hb14
  refine xg_t (xg_istore (l1 := [(0, (2, 82))]) rfl rfl rfl) ?_
  refine xg_t (xg_aload (va := (2, 82)) rfl rfl) ?_
  refine xg_t (xg_getf (va := (0, f82_17)) h82_31 rfl) ?_
  by_cases hc39 : f82_17 = 0
  · refine xg_t (xg_ifF (u := f82_17) rfl xnm0 (xj_neF hc39)) ?_
    refine xg_t (xg_aload (va := (2, 82)) rfl rfl) ?_
    refine xg_t (xg_getf (va := (0, f82_11)) h82_31 rfl) ?_
    refine xg_t (xg_const) ?_
    by_cases hc40 : f82_11 = 1
    · refine xg_t (xg_icF (u := f82_11) (v := 1) rfl xnm0 xnm0 (xj_neF hc40)) ?_
      refine xg_t (xg_aload (va := (2, 82)) rfl rfl) ?_
      refine xg_cVv mX12_advance (vs := []) (rest := []) (cn1 := 0) (sl1 := 0) rfl (mAdvance (hI)) rfl h82_31 rfl rfl rfl rfl rfl rfl (fun w41 hq42 => ?_)
      obtain ⟨hI43, hF44, hx45⟩ := hq42
      obtain ⟨hv46, hv47, hv48, hv49⟩ := hx45
      have hf50 := FA_fr hF44 (by decide)
      refine xg_t (xg_goto) ?_
      refine xg_t (xg_blq rfl) ?_
      refine xg_t (xg_iload (va := (0, f82_13)) rfl rfl) ?_
      exact xg_e ⟨f82_13, w41, ⟨rfl, rfl⟩, ⟨by omega, ⟨fun _ => by omega, by omega, by omega, (show fld w41 82 10 = 0 ∨ FA w41 ≠ 0 by omega), (K83.fr hF44 (by decide))⟩⟩, hI43, (hF44.up (by decide))⟩
    · refine xg_t (xg_icT (u := f82_11) (v := 1) rfl xnm0 xnm0 (xj_neT hc40)) ?_
      refine xg_t (xg_blq rfl) ?_
      refine xg_t (xg_aload (va := (2, 82)) rfl rfl) ?_
      refine xg_cVv mX12_ends (vs := []) (rest := []) (cn1 := 0) (sl1 := 0) rfl (mEnds (hI) (show fld w 82 10 = 0 ∨ FA w ≠ 0 by omega)) rfl h82_31 rfl rfl rfl rfl rfl rfl (fun w51 hq52 => ?_)
      obtain ⟨hI53, hF54, hx55⟩ := hq52
      obtain ⟨hv56, hv57, hv58, hv59, hv60⟩ := hx55
      refine xg_t (xg_blq rfl) ?_
      refine xg_t (xg_iload (va := (0, f82_13)) rfl rfl) ?_
      exact xg_e ⟨f82_13, w51, ⟨rfl, rfl⟩, ⟨by omega, ⟨fun _ => by omega, by omega, by omega, (show fld w51 82 10 = 0 ∨ FA w51 ≠ 0 by omega), hv60⟩⟩, hI53, (hF54.up (by decide))⟩
  · refine xg_t (xg_ifT (u := f82_17) rfl xnm0 (xj_neT hc39)) ?_
    refine xg_t (xg_blq rfl) ?_
    refine xg_t (xg_aload (va := (2, 82)) rfl rfl) ?_
    refine xg_cVv mX12_ends (vs := []) (rest := []) (cn1 := 0) (sl1 := 0) rfl (mEnds (hI) (show fld w 82 10 = 0 ∨ FA w ≠ 0 by omega)) rfl h82_31 rfl rfl rfl rfl rfl rfl (fun w61 hq62 => ?_)
    obtain ⟨hI63, hF64, hx65⟩ := hq62
    obtain ⟨hv66, hv67, hv68, hv69, hv70⟩ := hx65
    refine xg_t (xg_blq rfl) ?_
    refine xg_t (xg_iload (va := (0, f82_13)) rfl rfl) ?_
    exact xg_e ⟨f82_13, w61, ⟨rfl, rfl⟩, ⟨by omega, ⟨fun _ => by omega, by omega, by omega, (show fld w61 82 10 = 0 ∨ FA w61 ≠ 0 by omega), hv70⟩⟩, hI63, (hF64.up (by decide))⟩
theorem mATest (hI : xMnv w) (hps : PS w) : xPq (d + 6) mX12_aTest [(2, 82)] w bd fc rr [] (fun w' => xMnv w' ∧ xFr [82, 83, 113] w w' ∧ (PK w w')) := by
  refine xPq.of ?_
  show xTo (d + 6) mX12_aTest (0, [], [(0, (2, 82))], [], (w, bd, fc, 0, 0, rr)) (fun φ => ∃ w', xEnd 0 [] (w', bd, fc, 0, 0, rr) φ ∧ xMnv w' ∧ xFr [82, 83, 113] w w' ∧ (PK w w'))
  refine xoCh82 (xqc82 hI : cp82 (wget w 82)) (fun f82_1 f82_3 f82_5 f82_7 f82_9 f82_11 f82_13 f82_15 f82_17 f82_19 f82_21 f82_22 f82_23 f82_25 f82_27 f82_29 h82_31 hb2 hb4 hb6 hb8 hb10 hb12 hb14 hb16 hb18 hb20 hb24 hb26 hb28 hb30 hb32 => ?_)
  have hf33 : fld w 82 4 = f82_5 := fld_of h82_31
  have hf34 : fld w 82 5 = f82_7 := fld_of h82_31
  have hf35 : fld w 82 7 = f82_11 := fld_of h82_31
  have hf36 : fld w 82 10 = f82_17 := fld_of h82_31
  have hf37 : fld w 82 14 = f82_19 := fld_of h82_31
  have hps_ : fld w 82 10 = 0 ∨ FA w ≠ 0 := hps
  refine xoI (xqc113 hI : cpI 4 80 4294967295 (wget w 113)) (fun g113_38 h113_39 hb40 => ?_)
  refine xg_t (xg_blq rfl) ?_
  refine xg_t (xg_aload (va := (2, 82)) rfl rfl) ?_
  refine xg_t (xg_getf (va := (2, 113)) h82_31 rfl) ?_
  refine xg_t (xg_const) ?_
  refine xg_t (xg_aload (va := (2, 82)) rfl rfl) ?_
  refine xg_t (xg_bip) ?_
  refine xg_cVi mX12_takes (vs := [(0, 52)]) (rest := [(0, 0), (2, 113)]) (cn1 := 0) (sl1 := 0) rfl (mTakes (hI) (by omega) (show fld w 82 10 = 0 ∨ FA w ≠ 0 by omega)) rfl h82_31 rfl rfl rfl rfl rfl rfl (fun n45 w41 hq42 => ?_)
  obtain ⟨hn46, hI43, hF44⟩ := hq42
  obtain ⟨hn47, hn48, hn49⟩ := hn46
  have hq50 := hn48
  unfold PK PS at hq50
  by_cases hc51 : n45 = 0
  · refine xg_t (xg_ifT (u := n45) rfl xnm0 (xj_eqT hc51)) ?_
    refine xg_t (xg_blq rfl) ?_
    refine xg_t (xg_const) ?_
    refine xg_t (xg_blq rfl) ?_
    refine xg_iastK (n := 0) (u := 0) (h113_39.fr hF44 (by decide)) xnm0 xnm0 rfl (by first | decide | omega) (fun w52 hr53 hb54 => ?_)
    have hf55 := FA_fr (xFr.of (S := [113]) hb54 (by decide)) (by decide)
    have hf56 := mu_fr (xFr.of (S := [113]) hb54 (by decide)) (by decide)
    have hf57 := fld_fr (c := 82) (j := 7) (xFr.of (S := [113]) hb54 (by decide)) (by decide)
    have hf58 := fld_fr (c := 82) (j := 10) (xFr.of (S := [113]) hb54 (by decide)) (by decide)
    have hf59 := fld_fr (c := 82) (j := 14) (xFr.of (S := [113]) hb54 (by decide)) (by decide)
    refine xg_t (xg_aload (va := (2, 82)) rfl rfl) ?_
    refine xoCh82 (xqc82 hI43 : cp82 (wget w41 82)) (fun f82_60 f82_62 f82_64 f82_66 f82_68 f82_70 f82_72 f82_74 f82_76 f82_78 f82_80 f82_81 f82_82 f82_84 f82_86 f82_88 h82_90 hb61 hb63 hb65 hb67 hb69 hb71 hb73 hb75 hb77 hb79 hb83 hb85 hb87 hb89 hb91 => ?_)
    refine xg_t (xg_getf (va := (2, 113)) (hb54.get (by decide) h82_90) rfl) ?_
    refine xg_t (xg_const) ?_
    refine xg_t (xg_aload (va := (2, 82)) rfl rfl) ?_
    refine xg_t (xg_getf (va := (0, f82_74)) (hb54.get (by decide) h82_90) rfl) ?_
    have hn92 : f82_74 ≤ 4294967295 := hb75
    refine xg_iastK (n := 1) (u := f82_74) hr53 xnm0 xnm0 rfl (by first | decide | omega) (fun w93 hr94 hb95 => ?_)
    have hf96 := FA_fr (xFr.of (S := [113]) hb95 (by decide)) (by decide)
    have hf97 := mu_fr (xFr.of (S := [113]) hb95 (by decide)) (by decide)
    have hf98 := fld_fr (c := 82) (j := 7) (xFr.of (S := [113]) hb95 (by decide)) (by decide)
    have hf99 := fld_fr (c := 82) (j := 10) (xFr.of (S := [113]) hb95 (by decide)) (by decide)
    have hf100 := fld_fr (c := 82) (j := 14) (xFr.of (S := [113]) hb95 (by decide)) (by decide)
    refine xg_t (xg_aload (va := (2, 82)) rfl rfl) ?_
    refine xg_t (xg_getf (va := (2, 113)) (hb95.get (by decide) (hb54.get (by decide) h82_90)) rfl) ?_
    refine xg_t (xg_const) ?_
    refine xg_t (xg_bip) ?_
    refine xg_iastK (n := 2) (u := 61) hr94 xnm0 xnm0 rfl (by first | decide | omega) (fun w101 hr102 hb103 => ?_)
    have hf104 := FA_fr (xFr.of (S := [113]) hb103 (by decide)) (by decide)
    have hf105 := mu_fr (xFr.of (S := [113]) hb103 (by decide)) (by decide)
    have hf106 := fld_fr (c := 82) (j := 7) (xFr.of (S := [113]) hb103 (by decide)) (by decide)
    have hf107 := fld_fr (c := 82) (j := 10) (xFr.of (S := [113]) hb103 (by decide)) (by decide)
    have hf108 := fld_fr (c := 82) (j := 14) (xFr.of (S := [113]) hb103 (by decide)) (by decide)
    refine xg_t (xg_aload (va := (2, 82)) rfl rfl) ?_
    refine xg_t (xg_getf (va := (2, 113)) (hb103.get (by decide) (hb95.get (by decide) (hb54.get (by decide) h82_90))) rfl) ?_
    refine xg_t (xg_const) ?_
    refine xg_t (xg_const) ?_
    refine xg_iastK (n := 3) (u := 1) hr102 xnm0 xnm0 rfl (by first | decide | omega) (fun w109 hr110 hb111 => ?_)
    have hf112 := FA_fr (xFr.of (S := [113]) hb111 (by decide)) (by decide)
    have hf113 := mu_fr (xFr.of (S := [113]) hb111 (by decide)) (by decide)
    have hf114 := fld_fr (c := 82) (j := 7) (xFr.of (S := [113]) hb111 (by decide)) (by decide)
    have hf115 := fld_fr (c := 82) (j := 10) (xFr.of (S := [113]) hb111 (by decide)) (by decide)
    have hf116 := fld_fr (c := 82) (j := 14) (xFr.of (S := [113]) hb111 (by decide)) (by decide)
    refine xg_t (xg_aload (va := (2, 82)) rfl rfl) ?_
    refine xg_t (xg_getf (va := (0, f82_76)) (hb111.get (by decide) (hb103.get (by decide) (hb95.get (by decide) (hb54.get (by decide) h82_90)))) rfl) ?_
    by_cases hc117 : f82_76 = 0
    · refine xg_t (xg_ifF (u := f82_76) rfl xnm0 (xj_neF hc117)) ?_
      refine xg_t (xg_aload (va := (2, 82)) rfl rfl) ?_
      refine xg_t (xg_getf (va := (0, f82_70)) (hb111.get (by decide) (hb103.get (by decide) (hb95.get (by decide) (hb54.get (by decide) h82_90)))) rfl) ?_
      refine xg_t (xg_const) ?_
      by_cases hc118 : f82_70 = 3
      · refine xg_t (xg_icF (u := f82_70) (v := 3) rfl xnm0 xnm0 (xj_neF hc118)) ?_
        refine xg_t (xg_aload (va := (2, 82)) rfl rfl) ?_
        refine xg_t (xg_getf (va := (0, f82_74)) (hb111.get (by decide) (hb103.get (by decide) (hb95.get (by decide) (hb54.get (by decide) h82_90)))) rfl) ?_
        refine xg_t (xg_bip) ?_
        refine xg_t (xg_bip) ?_
        refine xg_t (xg_cSr mX12_isIn (vs := [(0, f82_74), (0, 20), (0, 30)]) (rest := []) (rs := [(0, if 20 ≤ f82_74 ∧ f82_74 ≤ 30 then 1 else 0)]) (cn1 := 0) (sl1 := 0) rfl (mIsIn (by omega) (by omega) (by omega)) rfl rfl rfl rfl rfl rfl rfl rfl) ?_
        by_cases hc119 : 20 ≤ f82_74 ∧ f82_74 ≤ 30
        · refine xg_t (xg_ifT (u := (if 20 ≤ f82_74 ∧ f82_74 ≤ 30 then 1 else 0)) rfl xnm0 (xj_neT (xite1 hc119))) ?_
          refine xg_t (xg_blq rfl) ?_
          refine xg_t (xg_aload (va := (2, 82)) rfl rfl) ?_
          refine xg_cVv mX12_advance (vs := []) (rest := []) (cn1 := 0) (sl1 := 0) rfl (mAdvance (xMnv.up (S := [113]) hI43 ((((xFr.of (S := [113]) hb54 (by decide)).tr (xFr.of (S := [113]) hb95 (by decide))).tr (xFr.of (S := [113]) hb103 (by decide))).tr (xFr.of (S := [113]) hb111 (by decide))) (List.forall_mem_cons.mpr ⟨xqu113 (show cpI 4 80 4294967295 (wget w109 113) from ⟨_, hr110, xrb (by omega) (xrb (by omega) (xrb (by omega) (xrb (by omega) (hb40))))⟩), fun _ h => absurd h List.not_mem_nil⟩))) rfl (hb111.get (by decide) (hb103.get (by decide) (hb95.get (by decide) (hb54.get (by decide) h82_90)))) rfl rfl rfl rfl rfl rfl (fun w120 hq121 => ?_)
          obtain ⟨hI122, hF123, hx124⟩ := hq121
          obtain ⟨hv125, hv126, hv127, hv128⟩ := hx124
          have hf129 := FA_fr hF123 (by decide)
          refine xg_t (xg_aload (va := (2, 82)) rfl rfl) ?_
          refine xoCh82 (xqc82 hI122 : cp82 (wget w120 82)) (fun f82_130 f82_132 f82_134 f82_136 f82_138 f82_140 f82_142 f82_144 f82_146 f82_148 f82_150 f82_151 f82_152 f82_154 f82_156 f82_158 h82_160 hb131 hb133 hb135 hb137 hb139 hb141 hb143 hb145 hb147 hb149 hb153 hb155 hb157 hb159 hb161 => ?_)
          refine xg_t (xg_getf (va := (2, 113)) h82_160 rfl) ?_
          refine xg_t (xg_const) ?_
          refine xg_ialdB (n := 1) (B := 4294967295) (hr110.fr hF123 (by decide)) (xrb (by omega) (xrb (by omega) (xrb (by omega) (xrb (by omega) (hb40))))) xnm0 (by first | decide | omega) (fun u162 hu163 he164 => ?_)
          refine xg_t (xg_bip) ?_
          by_cases hc165 : xbs 21 < xbs u162
          · have hc165u := hc165
            unfold xbs at hc165u
            have hn166 : u162 ≤ 2147483647 := by omega
            refine xg_t (xg_icT (u := u162) (v := 21) rfl xnm0 xnm0 (xjs_gtT hc165)) ?_
            refine xg_t (xg_blq rfl) ?_
            refine xg_t (xg_aload (va := (2, 82)) rfl rfl) ?_
            refine xg_t (xg_getf (va := (2, 113)) h82_160 rfl) ?_
            refine xg_t (xg_const) ?_
            refine xg_t (xg_aload (va := (2, 82)) rfl rfl) ?_
            refine xg_t (xg_getf (va := (0, f82_132)) h82_160 rfl) ?_
            have hn167 : f82_132 ≤ 4294967295 := hb133
            refine xg_iastK (n := 2) (u := f82_132) (hr110.fr hF123 (by decide)) xnm0 xnm0 rfl (by first | decide | omega) (fun w168 hr169 hb170 => ?_)
            have hf171 := FA_fr (xFr.of (S := [113]) hb170 (by decide)) (by decide)
            have hf172 := mu_fr (xFr.of (S := [113]) hb170 (by decide)) (by decide)
            have hf173 := fld_fr (c := 82) (j := 7) (xFr.of (S := [113]) hb170 (by decide)) (by decide)
            have hf174 := fld_fr (c := 82) (j := 10) (xFr.of (S := [113]) hb170 (by decide)) (by decide)
            have hf175 := fld_fr (c := 82) (j := 14) (xFr.of (S := [113]) hb170 (by decide)) (by decide)
            refine xg_t (xg_aload (va := (2, 82)) rfl rfl) ?_
            refine xg_t (xg_getf (va := (0, f82_140)) (hb170.get (by decide) h82_160) rfl) ?_
            refine xg_t (xg_const) ?_
            by_cases hc176 : f82_140 = 2
            · refine xg_t (xg_icF (u := f82_140) (v := 2) rfl xnm0 xnm0 (xj_neF hc176)) ?_
              refine xg_t (xg_aload (va := (2, 82)) rfl rfl) ?_
              refine xg_t (xg_getf (va := (0, f82_132)) (hb170.get (by decide) h82_160) rfl) ?_
              refine xg_t (xg_bip) ?_
              by_cases hc177 : f82_132 = 58
              · refine xg_t (xg_icT (u := f82_132) (v := 58) rfl xnm0 xnm0 (xj_eqT hc177)) ?_
                refine xg_t (xg_blq rfl) ?_
                refine xg_t (xg_aload (va := (2, 82)) rfl rfl) ?_
                refine xg_cVv mX12_ends (vs := []) (rest := []) (cn1 := 0) (sl1 := 0) rfl (mEnds (xMnv.up (S := [113]) hI122 (xFr.of (S := [113]) hb170 (by decide)) (List.forall_mem_cons.mpr ⟨xqu113 (show cpI 4 80 4294967295 (wget w168 113) from ⟨_, hr169, xrb (by omega) (xrb (by omega) (xrb (by omega) (xrb (by omega) (xrb (by omega) (hb40)))))⟩), fun _ h => absurd h List.not_mem_nil⟩)) (show fld w168 82 10 = 0 ∨ FA w168 ≠ 0 by omega)) rfl (hb170.get (by decide) h82_160) rfl rfl rfl rfl rfl rfl (fun w178 hq179 => ?_)
                obtain ⟨hI180, hF181, hx182⟩ := hq179
                obtain ⟨hv183, hv184, hv185, hv186, hv187⟩ := hx182
                exact xg_e ⟨w178, ⟨rfl, rfl⟩, hI180, (((((hF44.up (by decide)).tr ((((xFr.of (S := [82, 83, 113]) hb54 (by decide)).tr (xFr.of (S := [82, 83, 113]) hb95 (by decide))).tr (xFr.of (S := [82, 83, 113]) hb103 (by decide))).tr (xFr.of (S := [82, 83, 113]) hb111 (by decide)))).tr (hF123.up (by decide))).tr (xFr.of (S := [82, 83, 113]) hb170 (by decide))).tr (hF181.up (by decide))), ⟨fun _ => by omega, by omega, by omega, (show fld w178 82 10 = 0 ∨ FA w178 ≠ 0 by omega), ((((((((K83.fr hF44 (by decide)).tr (K83.but hb54 (by decide))).tr (K83.but hb95 (by decide))).tr (K83.but hb103 (by decide))).tr (K83.but hb111 (by decide))).tr (K83.fr hF123 (by decide))).tr (K83.but hb170 (by decide))).tr hv187)⟩⟩
              · refine xg_t (xg_icF (u := f82_132) (v := 58) rfl xnm0 xnm0 (xj_eqF hc177)) ?_
                refine xg_t (xg_aload (va := (2, 82)) rfl rfl) ?_
                refine xg_t (xg_getf (va := (0, f82_132)) (hb170.get (by decide) h82_160) rfl) ?_
                refine xg_t (xg_bip) ?_
                by_cases hc188 : f82_132 = 59
                · refine xg_t (xg_icF (u := f82_132) (v := 59) rfl xnm0 xnm0 (xj_neF hc188)) ?_
                  refine xg_t (xg_blq rfl) ?_
                  refine xg_t (xg_aload (va := (2, 82)) rfl rfl) ?_
                  refine xg_cVv mX12_ends (vs := []) (rest := []) (cn1 := 0) (sl1 := 0) rfl (mEnds (xMnv.up (S := [113]) hI122 (xFr.of (S := [113]) hb170 (by decide)) (List.forall_mem_cons.mpr ⟨xqu113 (show cpI 4 80 4294967295 (wget w168 113) from ⟨_, hr169, xrb (by omega) (xrb (by omega) (xrb (by omega) (xrb (by omega) (xrb (by omega) (hb40)))))⟩), fun _ h => absurd h List.not_mem_nil⟩)) (show fld w168 82 10 = 0 ∨ FA w168 ≠ 0 by omega)) rfl (hb170.get (by decide) h82_160) rfl rfl rfl rfl rfl rfl (fun w189 hq190 => ?_)
                  obtain ⟨hI191, hF192, hx193⟩ := hq190
                  obtain ⟨hv194, hv195, hv196, hv197, hv198⟩ := hx193
                  exact xg_e ⟨w189, ⟨rfl, rfl⟩, hI191, (((((hF44.up (by decide)).tr ((((xFr.of (S := [82, 83, 113]) hb54 (by decide)).tr (xFr.of (S := [82, 83, 113]) hb95 (by decide))).tr (xFr.of (S := [82, 83, 113]) hb103 (by decide))).tr (xFr.of (S := [82, 83, 113]) hb111 (by decide)))).tr (hF123.up (by decide))).tr (xFr.of (S := [82, 83, 113]) hb170 (by decide))).tr (hF192.up (by decide))), ⟨fun _ => by omega, by omega, by omega, (show fld w189 82 10 = 0 ∨ FA w189 ≠ 0 by omega), ((((((((K83.fr hF44 (by decide)).tr (K83.but hb54 (by decide))).tr (K83.but hb95 (by decide))).tr (K83.but hb103 (by decide))).tr (K83.but hb111 (by decide))).tr (K83.fr hF123 (by decide))).tr (K83.but hb170 (by decide))).tr hv198)⟩⟩
                · refine xg_t (xg_icT (u := f82_132) (v := 59) rfl xnm0 xnm0 (xj_neT hc188)) ?_
                  refine xg_t (xg_blq rfl) ?_
                  refine xg_t (xg_aload (va := (2, 82)) rfl rfl) ?_
                  refine xg_cVv mX12_advance (vs := []) (rest := []) (cn1 := 0) (sl1 := 0) rfl (mAdvance (xMnv.up (S := [113]) hI122 (xFr.of (S := [113]) hb170 (by decide)) (List.forall_mem_cons.mpr ⟨xqu113 (show cpI 4 80 4294967295 (wget w168 113) from ⟨_, hr169, xrb (by omega) (xrb (by omega) (xrb (by omega) (xrb (by omega) (xrb (by omega) (hb40)))))⟩), fun _ h => absurd h List.not_mem_nil⟩))) rfl (hb170.get (by decide) h82_160) rfl rfl rfl rfl rfl rfl (fun w199 hq200 => ?_)
                  obtain ⟨hI201, hF202, hx203⟩ := hq200
                  obtain ⟨hv204, hv205, hv206, hv207⟩ := hx203
                  have hf208 := FA_fr hF202 (by decide)
                  refine xg_t (xg_aload (va := (2, 82)) rfl rfl) ?_
                  refine xoCh82 (xqc82 hI201 : cp82 (wget w199 82)) (fun f82_209 f82_211 f82_213 f82_215 f82_217 f82_219 f82_221 f82_223 f82_225 f82_227 f82_229 f82_230 f82_231 f82_233 f82_235 f82_237 h82_239 hb210 hb212 hb214 hb216 hb218 hb220 hb222 hb224 hb226 hb228 hb232 hb234 hb236 hb238 hb240 => ?_)
                  refine xg_t (xg_getf (va := (2, 113)) h82_239 rfl) ?_
                  refine xg_t (xg_const) ?_
                  refine xg_t (xg_aload (va := (2, 82)) rfl rfl) ?_
                  refine xg_cVi mX12_numberNow (vs := []) (rest := [(0, 3), (2, 113)]) (cn1 := 0) (sl1 := 0) rfl (mNumberNow (hI201) (show fld w199 82 10 = 0 ∨ FA w199 ≠ 0 by omega)) rfl h82_239 rfl rfl rfl rfl rfl rfl (fun n245 w241 hq242 => ?_)
                  obtain ⟨hn246, hI243, hF244⟩ := hq242
                  obtain ⟨hn247, hn248⟩ := hn246
                  have hq249 := hn248
                  unfold PK PS at hq249
                  refine xg_iastK (n := 3) (u := n245) ((hr169.fr hF202 (by decide)).fr hF244 (by decide)) xnm0 xnm0 rfl (by first | decide | omega) (fun w250 hr251 hb252 => ?_)
                  have hf253 := FA_fr (xFr.of (S := [113]) hb252 (by decide)) (by decide)
                  have hf254 := mu_fr (xFr.of (S := [113]) hb252 (by decide)) (by decide)
                  have hf255 := fld_fr (c := 82) (j := 7) (xFr.of (S := [113]) hb252 (by decide)) (by decide)
                  have hf256 := fld_fr (c := 82) (j := 10) (xFr.of (S := [113]) hb252 (by decide)) (by decide)
                  have hf257 := fld_fr (c := 82) (j := 14) (xFr.of (S := [113]) hb252 (by decide)) (by decide)
                  exact xg_e ⟨w250, ⟨rfl, rfl⟩, xMnv.up (S := [113]) hI243 (xFr.of (S := [113]) hb252 (by decide)) (List.forall_mem_cons.mpr ⟨xqu113 (show cpI 4 80 4294967295 (wget w250 113) from ⟨_, hr251, xrb (by omega) (xrb (by omega) (xrb (by omega) (xrb (by omega) (xrb (by omega) (xrb (by omega) (hb40))))))⟩), fun _ h => absurd h List.not_mem_nil⟩), (((((((hF44.up (by decide)).tr ((((xFr.of (S := [82, 83, 113]) hb54 (by decide)).tr (xFr.of (S := [82, 83, 113]) hb95 (by decide))).tr (xFr.of (S := [82, 83, 113]) hb103 (by decide))).tr (xFr.of (S := [82, 83, 113]) hb111 (by decide)))).tr (hF123.up (by decide))).tr (xFr.of (S := [82, 83, 113]) hb170 (by decide))).tr (hF202.up (by decide))).tr (hF244.up (by decide))).tr (xFr.of (S := [82, 83, 113]) hb252 (by decide))), ⟨fun _ => by omega, by omega, by omega, (show fld w250 82 10 = 0 ∨ FA w250 ≠ 0 by omega), ((((((((((K83.fr hF44 (by decide)).tr (K83.but hb54 (by decide))).tr (K83.but hb95 (by decide))).tr (K83.but hb103 (by decide))).tr (K83.but hb111 (by decide))).tr (K83.fr hF123 (by decide))).tr (K83.but hb170 (by decide))).tr (K83.fr hF202 (by decide))).tr hn248.2.2.2.2).tr (K83.but hb252 (by decide)))⟩⟩
            · refine xg_t (xg_icT (u := f82_140) (v := 2) rfl xnm0 xnm0 (xj_neT hc176)) ?_
              refine xg_t (xg_blq rfl) ?_
              refine xg_t (xg_aload (va := (2, 82)) rfl rfl) ?_
              refine xg_cVv mX12_ends (vs := []) (rest := []) (cn1 := 0) (sl1 := 0) rfl (mEnds (xMnv.up (S := [113]) hI122 (xFr.of (S := [113]) hb170 (by decide)) (List.forall_mem_cons.mpr ⟨xqu113 (show cpI 4 80 4294967295 (wget w168 113) from ⟨_, hr169, xrb (by omega) (xrb (by omega) (xrb (by omega) (xrb (by omega) (xrb (by omega) (hb40)))))⟩), fun _ h => absurd h List.not_mem_nil⟩)) (show fld w168 82 10 = 0 ∨ FA w168 ≠ 0 by omega)) rfl (hb170.get (by decide) h82_160) rfl rfl rfl rfl rfl rfl (fun w258 hq259 => ?_)
              obtain ⟨hI260, hF261, hx262⟩ := hq259
              obtain ⟨hv263, hv264, hv265, hv266, hv267⟩ := hx262
              exact xg_e ⟨w258, ⟨rfl, rfl⟩, hI260, (((((hF44.up (by decide)).tr ((((xFr.of (S := [82, 83, 113]) hb54 (by decide)).tr (xFr.of (S := [82, 83, 113]) hb95 (by decide))).tr (xFr.of (S := [82, 83, 113]) hb103 (by decide))).tr (xFr.of (S := [82, 83, 113]) hb111 (by decide)))).tr (hF123.up (by decide))).tr (xFr.of (S := [82, 83, 113]) hb170 (by decide))).tr (hF261.up (by decide))), ⟨fun _ => by omega, by omega, by omega, (show fld w258 82 10 = 0 ∨ FA w258 ≠ 0 by omega), ((((((((K83.fr hF44 (by decide)).tr (K83.but hb54 (by decide))).tr (K83.but hb95 (by decide))).tr (K83.but hb103 (by decide))).tr (K83.but hb111 (by decide))).tr (K83.fr hF123 (by decide))).tr (K83.but hb170 (by decide))).tr hv267)⟩⟩
          · have hc165u := hc165
            unfold xbs at hc165u
            refine xg_t (xg_icF (u := u162) (v := 21) rfl xnm0 xnm0 (xjs_gtF hc165)) ?_
            exact xg_e ⟨w120, ⟨rfl, rfl⟩, hI122, (((hF44.up (by decide)).tr ((((xFr.of (S := [82, 83, 113]) hb54 (by decide)).tr (xFr.of (S := [82, 83, 113]) hb95 (by decide))).tr (xFr.of (S := [82, 83, 113]) hb103 (by decide))).tr (xFr.of (S := [82, 83, 113]) hb111 (by decide)))).tr (hF123.up (by decide))), ⟨fun _ => by omega, by omega, by omega, (show fld w120 82 10 = 0 ∨ FA w120 ≠ 0 by omega), ((((((K83.fr hF44 (by decide)).tr (K83.but hb54 (by decide))).tr (K83.but hb95 (by decide))).tr (K83.but hb103 (by decide))).tr (K83.but hb111 (by decide))).tr (K83.fr hF123 (by decide)))⟩⟩
        · refine xg_t (xg_ifF (u := (if 20 ≤ f82_74 ∧ f82_74 ≤ 30 then 1 else 0)) rfl xnm0 (xj_neF (xite0 hc119))) ?_
          refine xg_t (xg_blq rfl) ?_
          refine xg_t (xg_aload (va := (2, 82)) rfl rfl) ?_
          refine xg_cVv mX12_ends (vs := []) (rest := []) (cn1 := 0) (sl1 := 0) rfl (mEnds (xMnv.up (S := [113]) hI43 ((((xFr.of (S := [113]) hb54 (by decide)).tr (xFr.of (S := [113]) hb95 (by decide))).tr (xFr.of (S := [113]) hb103 (by decide))).tr (xFr.of (S := [113]) hb111 (by decide))) (List.forall_mem_cons.mpr ⟨xqu113 (show cpI 4 80 4294967295 (wget w109 113) from ⟨_, hr110, xrb (by omega) (xrb (by omega) (xrb (by omega) (xrb (by omega) (hb40))))⟩), fun _ h => absurd h List.not_mem_nil⟩)) (show fld w109 82 10 = 0 ∨ FA w109 ≠ 0 by omega)) rfl (hb111.get (by decide) (hb103.get (by decide) (hb95.get (by decide) (hb54.get (by decide) h82_90)))) rfl rfl rfl rfl rfl rfl (fun w268 hq269 => ?_)
          obtain ⟨hI270, hF271, hx272⟩ := hq269
          obtain ⟨hv273, hv274, hv275, hv276, hv277⟩ := hx272
          exact xg_e ⟨w268, ⟨rfl, rfl⟩, hI270, (((hF44.up (by decide)).tr ((((xFr.of (S := [82, 83, 113]) hb54 (by decide)).tr (xFr.of (S := [82, 83, 113]) hb95 (by decide))).tr (xFr.of (S := [82, 83, 113]) hb103 (by decide))).tr (xFr.of (S := [82, 83, 113]) hb111 (by decide)))).tr (hF271.up (by decide))), ⟨fun _ => by omega, by omega, by omega, (show fld w268 82 10 = 0 ∨ FA w268 ≠ 0 by omega), ((((((K83.fr hF44 (by decide)).tr (K83.but hb54 (by decide))).tr (K83.but hb95 (by decide))).tr (K83.but hb103 (by decide))).tr (K83.but hb111 (by decide))).tr hv277)⟩⟩
      · refine xg_t (xg_icT (u := f82_70) (v := 3) rfl xnm0 xnm0 (xj_neT hc118)) ?_
        refine xg_t (xg_blq rfl) ?_
        refine xg_t (xg_aload (va := (2, 82)) rfl rfl) ?_
        refine xg_cVv mX12_ends (vs := []) (rest := []) (cn1 := 0) (sl1 := 0) rfl (mEnds (xMnv.up (S := [113]) hI43 ((((xFr.of (S := [113]) hb54 (by decide)).tr (xFr.of (S := [113]) hb95 (by decide))).tr (xFr.of (S := [113]) hb103 (by decide))).tr (xFr.of (S := [113]) hb111 (by decide))) (List.forall_mem_cons.mpr ⟨xqu113 (show cpI 4 80 4294967295 (wget w109 113) from ⟨_, hr110, xrb (by omega) (xrb (by omega) (xrb (by omega) (xrb (by omega) (hb40))))⟩), fun _ h => absurd h List.not_mem_nil⟩)) (show fld w109 82 10 = 0 ∨ FA w109 ≠ 0 by omega)) rfl (hb111.get (by decide) (hb103.get (by decide) (hb95.get (by decide) (hb54.get (by decide) h82_90)))) rfl rfl rfl rfl rfl rfl (fun w278 hq279 => ?_)
        obtain ⟨hI280, hF281, hx282⟩ := hq279
        obtain ⟨hv283, hv284, hv285, hv286, hv287⟩ := hx282
        exact xg_e ⟨w278, ⟨rfl, rfl⟩, hI280, (((hF44.up (by decide)).tr ((((xFr.of (S := [82, 83, 113]) hb54 (by decide)).tr (xFr.of (S := [82, 83, 113]) hb95 (by decide))).tr (xFr.of (S := [82, 83, 113]) hb103 (by decide))).tr (xFr.of (S := [82, 83, 113]) hb111 (by decide)))).tr (hF281.up (by decide))), ⟨fun _ => by omega, by omega, by omega, (show fld w278 82 10 = 0 ∨ FA w278 ≠ 0 by omega), ((((((K83.fr hF44 (by decide)).tr (K83.but hb54 (by decide))).tr (K83.but hb95 (by decide))).tr (K83.but hb103 (by decide))).tr (K83.but hb111 (by decide))).tr hv287)⟩⟩
    · refine xg_t (xg_ifT (u := f82_76) rfl xnm0 (xj_neT hc117)) ?_
      refine xg_t (xg_blq rfl) ?_
      refine xg_t (xg_aload (va := (2, 82)) rfl rfl) ?_
      refine xg_cVv mX12_ends (vs := []) (rest := []) (cn1 := 0) (sl1 := 0) rfl (mEnds (xMnv.up (S := [113]) hI43 ((((xFr.of (S := [113]) hb54 (by decide)).tr (xFr.of (S := [113]) hb95 (by decide))).tr (xFr.of (S := [113]) hb103 (by decide))).tr (xFr.of (S := [113]) hb111 (by decide))) (List.forall_mem_cons.mpr ⟨xqu113 (show cpI 4 80 4294967295 (wget w109 113) from ⟨_, hr110, xrb (by omega) (xrb (by omega) (xrb (by omega) (xrb (by omega) (hb40))))⟩), fun _ h => absurd h List.not_mem_nil⟩)) (show fld w109 82 10 = 0 ∨ FA w109 ≠ 0 by omega)) rfl (hb111.get (by decide) (hb103.get (by decide) (hb95.get (by decide) (hb54.get (by decide) h82_90)))) rfl rfl rfl rfl rfl rfl (fun w288 hq289 => ?_)
      obtain ⟨hI290, hF291, hx292⟩ := hq289
      obtain ⟨hv293, hv294, hv295, hv296, hv297⟩ := hx292
      exact xg_e ⟨w288, ⟨rfl, rfl⟩, hI290, (((hF44.up (by decide)).tr ((((xFr.of (S := [82, 83, 113]) hb54 (by decide)).tr (xFr.of (S := [82, 83, 113]) hb95 (by decide))).tr (xFr.of (S := [82, 83, 113]) hb103 (by decide))).tr (xFr.of (S := [82, 83, 113]) hb111 (by decide)))).tr (hF291.up (by decide))), ⟨fun _ => by omega, by omega, by omega, (show fld w288 82 10 = 0 ∨ FA w288 ≠ 0 by omega), ((((((K83.fr hF44 (by decide)).tr (K83.but hb54 (by decide))).tr (K83.but hb95 (by decide))).tr (K83.but hb103 (by decide))).tr (K83.but hb111 (by decide))).tr hv297)⟩⟩
  · refine xg_t (xg_ifF (u := n45) rfl xnm0 (xj_eqF hc51)) ?_
    refine xg_t (xg_const) ?_
    refine xg_t (xg_goto) ?_
    refine xg_t (xg_blq rfl) ?_
    refine xg_iastK (n := 0) (u := 1) (h113_39.fr hF44 (by decide)) xnm0 xnm0 rfl (by first | decide | omega) (fun w298 hr299 hb300 => ?_)
    have hf301 := FA_fr (xFr.of (S := [113]) hb300 (by decide)) (by decide)
    have hf302 := mu_fr (xFr.of (S := [113]) hb300 (by decide)) (by decide)
    have hf303 := fld_fr (c := 82) (j := 7) (xFr.of (S := [113]) hb300 (by decide)) (by decide)
    have hf304 := fld_fr (c := 82) (j := 10) (xFr.of (S := [113]) hb300 (by decide)) (by decide)
    have hf305 := fld_fr (c := 82) (j := 14) (xFr.of (S := [113]) hb300 (by decide)) (by decide)
    refine xg_t (xg_aload (va := (2, 82)) rfl rfl) ?_
    refine xoCh82 (xqc82 hI43 : cp82 (wget w41 82)) (fun f82_306 f82_308 f82_310 f82_312 f82_314 f82_316 f82_318 f82_320 f82_322 f82_324 f82_326 f82_327 f82_328 f82_330 f82_332 f82_334 h82_336 hb307 hb309 hb311 hb313 hb315 hb317 hb319 hb321 hb323 hb325 hb329 hb331 hb333 hb335 hb337 => ?_)
    refine xg_t (xg_getf (va := (2, 113)) (hb300.get (by decide) h82_336) rfl) ?_
    refine xg_t (xg_const) ?_
    refine xg_t (xg_aload (va := (2, 82)) rfl rfl) ?_
    refine xg_t (xg_getf (va := (0, f82_320)) (hb300.get (by decide) h82_336) rfl) ?_
    have hn338 : f82_320 ≤ 4294967295 := hb321
    refine xg_iastK (n := 1) (u := f82_320) hr299 xnm0 xnm0 rfl (by first | decide | omega) (fun w339 hr340 hb341 => ?_)
    have hf342 := FA_fr (xFr.of (S := [113]) hb341 (by decide)) (by decide)
    have hf343 := mu_fr (xFr.of (S := [113]) hb341 (by decide)) (by decide)
    have hf344 := fld_fr (c := 82) (j := 7) (xFr.of (S := [113]) hb341 (by decide)) (by decide)
    have hf345 := fld_fr (c := 82) (j := 10) (xFr.of (S := [113]) hb341 (by decide)) (by decide)
    have hf346 := fld_fr (c := 82) (j := 14) (xFr.of (S := [113]) hb341 (by decide)) (by decide)
    refine xg_t (xg_aload (va := (2, 82)) rfl rfl) ?_
    refine xg_t (xg_getf (va := (2, 113)) (hb341.get (by decide) (hb300.get (by decide) h82_336)) rfl) ?_
    refine xg_t (xg_const) ?_
    refine xg_t (xg_bip) ?_
    refine xg_iastK (n := 2) (u := 61) hr340 xnm0 xnm0 rfl (by first | decide | omega) (fun w347 hr348 hb349 => ?_)
    have hf350 := FA_fr (xFr.of (S := [113]) hb349 (by decide)) (by decide)
    have hf351 := mu_fr (xFr.of (S := [113]) hb349 (by decide)) (by decide)
    have hf352 := fld_fr (c := 82) (j := 7) (xFr.of (S := [113]) hb349 (by decide)) (by decide)
    have hf353 := fld_fr (c := 82) (j := 10) (xFr.of (S := [113]) hb349 (by decide)) (by decide)
    have hf354 := fld_fr (c := 82) (j := 14) (xFr.of (S := [113]) hb349 (by decide)) (by decide)
    refine xg_t (xg_aload (va := (2, 82)) rfl rfl) ?_
    refine xg_t (xg_getf (va := (2, 113)) (hb349.get (by decide) (hb341.get (by decide) (hb300.get (by decide) h82_336))) rfl) ?_
    refine xg_t (xg_const) ?_
    refine xg_t (xg_const) ?_
    refine xg_iastK (n := 3) (u := 1) hr348 xnm0 xnm0 rfl (by first | decide | omega) (fun w355 hr356 hb357 => ?_)
    have hf358 := FA_fr (xFr.of (S := [113]) hb357 (by decide)) (by decide)
    have hf359 := mu_fr (xFr.of (S := [113]) hb357 (by decide)) (by decide)
    have hf360 := fld_fr (c := 82) (j := 7) (xFr.of (S := [113]) hb357 (by decide)) (by decide)
    have hf361 := fld_fr (c := 82) (j := 10) (xFr.of (S := [113]) hb357 (by decide)) (by decide)
    have hf362 := fld_fr (c := 82) (j := 14) (xFr.of (S := [113]) hb357 (by decide)) (by decide)
    refine xg_t (xg_aload (va := (2, 82)) rfl rfl) ?_
    refine xg_t (xg_getf (va := (0, f82_322)) (hb357.get (by decide) (hb349.get (by decide) (hb341.get (by decide) (hb300.get (by decide) h82_336)))) rfl) ?_
    by_cases hc363 : f82_322 = 0
    · refine xg_t (xg_ifF (u := f82_322) rfl xnm0 (xj_neF hc363)) ?_
      refine xg_t (xg_aload (va := (2, 82)) rfl rfl) ?_
      refine xg_t (xg_getf (va := (0, f82_316)) (hb357.get (by decide) (hb349.get (by decide) (hb341.get (by decide) (hb300.get (by decide) h82_336)))) rfl) ?_
      refine xg_t (xg_const) ?_
      by_cases hc364 : f82_316 = 3
      · refine xg_t (xg_icF (u := f82_316) (v := 3) rfl xnm0 xnm0 (xj_neF hc364)) ?_
        refine xg_t (xg_aload (va := (2, 82)) rfl rfl) ?_
        refine xg_t (xg_getf (va := (0, f82_320)) (hb357.get (by decide) (hb349.get (by decide) (hb341.get (by decide) (hb300.get (by decide) h82_336)))) rfl) ?_
        refine xg_t (xg_bip) ?_
        refine xg_t (xg_bip) ?_
        refine xg_t (xg_cSr mX12_isIn (vs := [(0, f82_320), (0, 20), (0, 30)]) (rest := []) (rs := [(0, if 20 ≤ f82_320 ∧ f82_320 ≤ 30 then 1 else 0)]) (cn1 := 0) (sl1 := 0) rfl (mIsIn (by omega) (by omega) (by omega)) rfl rfl rfl rfl rfl rfl rfl rfl) ?_
        by_cases hc365 : 20 ≤ f82_320 ∧ f82_320 ≤ 30
        · refine xg_t (xg_ifT (u := (if 20 ≤ f82_320 ∧ f82_320 ≤ 30 then 1 else 0)) rfl xnm0 (xj_neT (xite1 hc365))) ?_
          refine xg_t (xg_blq rfl) ?_
          refine xg_t (xg_aload (va := (2, 82)) rfl rfl) ?_
          refine xg_cVv mX12_advance (vs := []) (rest := []) (cn1 := 0) (sl1 := 0) rfl (mAdvance (xMnv.up (S := [113]) hI43 ((((xFr.of (S := [113]) hb300 (by decide)).tr (xFr.of (S := [113]) hb341 (by decide))).tr (xFr.of (S := [113]) hb349 (by decide))).tr (xFr.of (S := [113]) hb357 (by decide))) (List.forall_mem_cons.mpr ⟨xqu113 (show cpI 4 80 4294967295 (wget w355 113) from ⟨_, hr356, xrb (by omega) (xrb (by omega) (xrb (by omega) (xrb (by omega) (hb40))))⟩), fun _ h => absurd h List.not_mem_nil⟩))) rfl (hb357.get (by decide) (hb349.get (by decide) (hb341.get (by decide) (hb300.get (by decide) h82_336)))) rfl rfl rfl rfl rfl rfl (fun w366 hq367 => ?_)
          obtain ⟨hI368, hF369, hx370⟩ := hq367
          obtain ⟨hv371, hv372, hv373, hv374⟩ := hx370
          have hf375 := FA_fr hF369 (by decide)
          refine xg_t (xg_aload (va := (2, 82)) rfl rfl) ?_
          refine xoCh82 (xqc82 hI368 : cp82 (wget w366 82)) (fun f82_376 f82_378 f82_380 f82_382 f82_384 f82_386 f82_388 f82_390 f82_392 f82_394 f82_396 f82_397 f82_398 f82_400 f82_402 f82_404 h82_406 hb377 hb379 hb381 hb383 hb385 hb387 hb389 hb391 hb393 hb395 hb399 hb401 hb403 hb405 hb407 => ?_)
          refine xg_t (xg_getf (va := (2, 113)) h82_406 rfl) ?_
          refine xg_t (xg_const) ?_
          refine xg_ialdB (n := 1) (B := 4294967295) (hr356.fr hF369 (by decide)) (xrb (by omega) (xrb (by omega) (xrb (by omega) (xrb (by omega) (hb40))))) xnm0 (by first | decide | omega) (fun u408 hu409 he410 => ?_)
          refine xg_t (xg_bip) ?_
          by_cases hc411 : xbs 21 < xbs u408
          · have hc411u := hc411
            unfold xbs at hc411u
            have hn412 : u408 ≤ 2147483647 := by omega
            refine xg_t (xg_icT (u := u408) (v := 21) rfl xnm0 xnm0 (xjs_gtT hc411)) ?_
            refine xg_t (xg_blq rfl) ?_
            refine xg_t (xg_aload (va := (2, 82)) rfl rfl) ?_
            refine xg_t (xg_getf (va := (2, 113)) h82_406 rfl) ?_
            refine xg_t (xg_const) ?_
            refine xg_t (xg_aload (va := (2, 82)) rfl rfl) ?_
            refine xg_t (xg_getf (va := (0, f82_378)) h82_406 rfl) ?_
            have hn413 : f82_378 ≤ 4294967295 := hb379
            refine xg_iastK (n := 2) (u := f82_378) (hr356.fr hF369 (by decide)) xnm0 xnm0 rfl (by first | decide | omega) (fun w414 hr415 hb416 => ?_)
            have hf417 := FA_fr (xFr.of (S := [113]) hb416 (by decide)) (by decide)
            have hf418 := mu_fr (xFr.of (S := [113]) hb416 (by decide)) (by decide)
            have hf419 := fld_fr (c := 82) (j := 7) (xFr.of (S := [113]) hb416 (by decide)) (by decide)
            have hf420 := fld_fr (c := 82) (j := 10) (xFr.of (S := [113]) hb416 (by decide)) (by decide)
            have hf421 := fld_fr (c := 82) (j := 14) (xFr.of (S := [113]) hb416 (by decide)) (by decide)
            refine xg_t (xg_aload (va := (2, 82)) rfl rfl) ?_
            refine xg_t (xg_getf (va := (0, f82_386)) (hb416.get (by decide) h82_406) rfl) ?_
            refine xg_t (xg_const) ?_
            by_cases hc422 : f82_386 = 2
            · refine xg_t (xg_icF (u := f82_386) (v := 2) rfl xnm0 xnm0 (xj_neF hc422)) ?_
              refine xg_t (xg_aload (va := (2, 82)) rfl rfl) ?_
              refine xg_t (xg_getf (va := (0, f82_378)) (hb416.get (by decide) h82_406) rfl) ?_
              refine xg_t (xg_bip) ?_
              by_cases hc423 : f82_378 = 58
              · refine xg_t (xg_icT (u := f82_378) (v := 58) rfl xnm0 xnm0 (xj_eqT hc423)) ?_
                refine xg_t (xg_blq rfl) ?_
                refine xg_t (xg_aload (va := (2, 82)) rfl rfl) ?_
                refine xg_cVv mX12_ends (vs := []) (rest := []) (cn1 := 0) (sl1 := 0) rfl (mEnds (xMnv.up (S := [113]) hI368 (xFr.of (S := [113]) hb416 (by decide)) (List.forall_mem_cons.mpr ⟨xqu113 (show cpI 4 80 4294967295 (wget w414 113) from ⟨_, hr415, xrb (by omega) (xrb (by omega) (xrb (by omega) (xrb (by omega) (xrb (by omega) (hb40)))))⟩), fun _ h => absurd h List.not_mem_nil⟩)) (show fld w414 82 10 = 0 ∨ FA w414 ≠ 0 by omega)) rfl (hb416.get (by decide) h82_406) rfl rfl rfl rfl rfl rfl (fun w424 hq425 => ?_)
                obtain ⟨hI426, hF427, hx428⟩ := hq425
                obtain ⟨hv429, hv430, hv431, hv432, hv433⟩ := hx428
                exact xg_e ⟨w424, ⟨rfl, rfl⟩, hI426, (((((hF44.up (by decide)).tr ((((xFr.of (S := [82, 83, 113]) hb300 (by decide)).tr (xFr.of (S := [82, 83, 113]) hb341 (by decide))).tr (xFr.of (S := [82, 83, 113]) hb349 (by decide))).tr (xFr.of (S := [82, 83, 113]) hb357 (by decide)))).tr (hF369.up (by decide))).tr (xFr.of (S := [82, 83, 113]) hb416 (by decide))).tr (hF427.up (by decide))), ⟨fun _ => by omega, by omega, by omega, (show fld w424 82 10 = 0 ∨ FA w424 ≠ 0 by omega), ((((((((K83.fr hF44 (by decide)).tr (K83.but hb300 (by decide))).tr (K83.but hb341 (by decide))).tr (K83.but hb349 (by decide))).tr (K83.but hb357 (by decide))).tr (K83.fr hF369 (by decide))).tr (K83.but hb416 (by decide))).tr hv433)⟩⟩
              · refine xg_t (xg_icF (u := f82_378) (v := 58) rfl xnm0 xnm0 (xj_eqF hc423)) ?_
                refine xg_t (xg_aload (va := (2, 82)) rfl rfl) ?_
                refine xg_t (xg_getf (va := (0, f82_378)) (hb416.get (by decide) h82_406) rfl) ?_
                refine xg_t (xg_bip) ?_
                by_cases hc434 : f82_378 = 59
                · refine xg_t (xg_icF (u := f82_378) (v := 59) rfl xnm0 xnm0 (xj_neF hc434)) ?_
                  refine xg_t (xg_blq rfl) ?_
                  refine xg_t (xg_aload (va := (2, 82)) rfl rfl) ?_
                  refine xg_cVv mX12_ends (vs := []) (rest := []) (cn1 := 0) (sl1 := 0) rfl (mEnds (xMnv.up (S := [113]) hI368 (xFr.of (S := [113]) hb416 (by decide)) (List.forall_mem_cons.mpr ⟨xqu113 (show cpI 4 80 4294967295 (wget w414 113) from ⟨_, hr415, xrb (by omega) (xrb (by omega) (xrb (by omega) (xrb (by omega) (xrb (by omega) (hb40)))))⟩), fun _ h => absurd h List.not_mem_nil⟩)) (show fld w414 82 10 = 0 ∨ FA w414 ≠ 0 by omega)) rfl (hb416.get (by decide) h82_406) rfl rfl rfl rfl rfl rfl (fun w435 hq436 => ?_)
                  obtain ⟨hI437, hF438, hx439⟩ := hq436
                  obtain ⟨hv440, hv441, hv442, hv443, hv444⟩ := hx439
                  exact xg_e ⟨w435, ⟨rfl, rfl⟩, hI437, (((((hF44.up (by decide)).tr ((((xFr.of (S := [82, 83, 113]) hb300 (by decide)).tr (xFr.of (S := [82, 83, 113]) hb341 (by decide))).tr (xFr.of (S := [82, 83, 113]) hb349 (by decide))).tr (xFr.of (S := [82, 83, 113]) hb357 (by decide)))).tr (hF369.up (by decide))).tr (xFr.of (S := [82, 83, 113]) hb416 (by decide))).tr (hF438.up (by decide))), ⟨fun _ => by omega, by omega, by omega, (show fld w435 82 10 = 0 ∨ FA w435 ≠ 0 by omega), ((((((((K83.fr hF44 (by decide)).tr (K83.but hb300 (by decide))).tr (K83.but hb341 (by decide))).tr (K83.but hb349 (by decide))).tr (K83.but hb357 (by decide))).tr (K83.fr hF369 (by decide))).tr (K83.but hb416 (by decide))).tr hv444)⟩⟩
                · refine xg_t (xg_icT (u := f82_378) (v := 59) rfl xnm0 xnm0 (xj_neT hc434)) ?_
                  refine xg_t (xg_blq rfl) ?_
                  refine xg_t (xg_aload (va := (2, 82)) rfl rfl) ?_
                  refine xg_cVv mX12_advance (vs := []) (rest := []) (cn1 := 0) (sl1 := 0) rfl (mAdvance (xMnv.up (S := [113]) hI368 (xFr.of (S := [113]) hb416 (by decide)) (List.forall_mem_cons.mpr ⟨xqu113 (show cpI 4 80 4294967295 (wget w414 113) from ⟨_, hr415, xrb (by omega) (xrb (by omega) (xrb (by omega) (xrb (by omega) (xrb (by omega) (hb40)))))⟩), fun _ h => absurd h List.not_mem_nil⟩))) rfl (hb416.get (by decide) h82_406) rfl rfl rfl rfl rfl rfl (fun w445 hq446 => ?_)
                  obtain ⟨hI447, hF448, hx449⟩ := hq446
                  obtain ⟨hv450, hv451, hv452, hv453⟩ := hx449
                  have hf454 := FA_fr hF448 (by decide)
                  refine xg_t (xg_aload (va := (2, 82)) rfl rfl) ?_
                  refine xoCh82 (xqc82 hI447 : cp82 (wget w445 82)) (fun f82_455 f82_457 f82_459 f82_461 f82_463 f82_465 f82_467 f82_469 f82_471 f82_473 f82_475 f82_476 f82_477 f82_479 f82_481 f82_483 h82_485 hb456 hb458 hb460 hb462 hb464 hb466 hb468 hb470 hb472 hb474 hb478 hb480 hb482 hb484 hb486 => ?_)
                  refine xg_t (xg_getf (va := (2, 113)) h82_485 rfl) ?_
                  refine xg_t (xg_const) ?_
                  refine xg_t (xg_aload (va := (2, 82)) rfl rfl) ?_
                  refine xg_cVi mX12_numberNow (vs := []) (rest := [(0, 3), (2, 113)]) (cn1 := 0) (sl1 := 0) rfl (mNumberNow (hI447) (show fld w445 82 10 = 0 ∨ FA w445 ≠ 0 by omega)) rfl h82_485 rfl rfl rfl rfl rfl rfl (fun n491 w487 hq488 => ?_)
                  obtain ⟨hn492, hI489, hF490⟩ := hq488
                  obtain ⟨hn493, hn494⟩ := hn492
                  have hq495 := hn494
                  unfold PK PS at hq495
                  refine xg_iastK (n := 3) (u := n491) ((hr415.fr hF448 (by decide)).fr hF490 (by decide)) xnm0 xnm0 rfl (by first | decide | omega) (fun w496 hr497 hb498 => ?_)
                  have hf499 := FA_fr (xFr.of (S := [113]) hb498 (by decide)) (by decide)
                  have hf500 := mu_fr (xFr.of (S := [113]) hb498 (by decide)) (by decide)
                  have hf501 := fld_fr (c := 82) (j := 7) (xFr.of (S := [113]) hb498 (by decide)) (by decide)
                  have hf502 := fld_fr (c := 82) (j := 10) (xFr.of (S := [113]) hb498 (by decide)) (by decide)
                  have hf503 := fld_fr (c := 82) (j := 14) (xFr.of (S := [113]) hb498 (by decide)) (by decide)
                  exact xg_e ⟨w496, ⟨rfl, rfl⟩, xMnv.up (S := [113]) hI489 (xFr.of (S := [113]) hb498 (by decide)) (List.forall_mem_cons.mpr ⟨xqu113 (show cpI 4 80 4294967295 (wget w496 113) from ⟨_, hr497, xrb (by omega) (xrb (by omega) (xrb (by omega) (xrb (by omega) (xrb (by omega) (xrb (by omega) (hb40))))))⟩), fun _ h => absurd h List.not_mem_nil⟩), (((((((hF44.up (by decide)).tr ((((xFr.of (S := [82, 83, 113]) hb300 (by decide)).tr (xFr.of (S := [82, 83, 113]) hb341 (by decide))).tr (xFr.of (S := [82, 83, 113]) hb349 (by decide))).tr (xFr.of (S := [82, 83, 113]) hb357 (by decide)))).tr (hF369.up (by decide))).tr (xFr.of (S := [82, 83, 113]) hb416 (by decide))).tr (hF448.up (by decide))).tr (hF490.up (by decide))).tr (xFr.of (S := [82, 83, 113]) hb498 (by decide))), ⟨fun _ => by omega, by omega, by omega, (show fld w496 82 10 = 0 ∨ FA w496 ≠ 0 by omega), ((((((((((K83.fr hF44 (by decide)).tr (K83.but hb300 (by decide))).tr (K83.but hb341 (by decide))).tr (K83.but hb349 (by decide))).tr (K83.but hb357 (by decide))).tr (K83.fr hF369 (by decide))).tr (K83.but hb416 (by decide))).tr (K83.fr hF448 (by decide))).tr hn494.2.2.2.2).tr (K83.but hb498 (by decide)))⟩⟩
            · refine xg_t (xg_icT (u := f82_386) (v := 2) rfl xnm0 xnm0 (xj_neT hc422)) ?_
              refine xg_t (xg_blq rfl) ?_
              refine xg_t (xg_aload (va := (2, 82)) rfl rfl) ?_
              refine xg_cVv mX12_ends (vs := []) (rest := []) (cn1 := 0) (sl1 := 0) rfl (mEnds (xMnv.up (S := [113]) hI368 (xFr.of (S := [113]) hb416 (by decide)) (List.forall_mem_cons.mpr ⟨xqu113 (show cpI 4 80 4294967295 (wget w414 113) from ⟨_, hr415, xrb (by omega) (xrb (by omega) (xrb (by omega) (xrb (by omega) (xrb (by omega) (hb40)))))⟩), fun _ h => absurd h List.not_mem_nil⟩)) (show fld w414 82 10 = 0 ∨ FA w414 ≠ 0 by omega)) rfl (hb416.get (by decide) h82_406) rfl rfl rfl rfl rfl rfl (fun w504 hq505 => ?_)
              obtain ⟨hI506, hF507, hx508⟩ := hq505
              obtain ⟨hv509, hv510, hv511, hv512, hv513⟩ := hx508
              exact xg_e ⟨w504, ⟨rfl, rfl⟩, hI506, (((((hF44.up (by decide)).tr ((((xFr.of (S := [82, 83, 113]) hb300 (by decide)).tr (xFr.of (S := [82, 83, 113]) hb341 (by decide))).tr (xFr.of (S := [82, 83, 113]) hb349 (by decide))).tr (xFr.of (S := [82, 83, 113]) hb357 (by decide)))).tr (hF369.up (by decide))).tr (xFr.of (S := [82, 83, 113]) hb416 (by decide))).tr (hF507.up (by decide))), ⟨fun _ => by omega, by omega, by omega, (show fld w504 82 10 = 0 ∨ FA w504 ≠ 0 by omega), ((((((((K83.fr hF44 (by decide)).tr (K83.but hb300 (by decide))).tr (K83.but hb341 (by decide))).tr (K83.but hb349 (by decide))).tr (K83.but hb357 (by decide))).tr (K83.fr hF369 (by decide))).tr (K83.but hb416 (by decide))).tr hv513)⟩⟩
          · have hc411u := hc411
            unfold xbs at hc411u
            refine xg_t (xg_icF (u := u408) (v := 21) rfl xnm0 xnm0 (xjs_gtF hc411)) ?_
            exact xg_e ⟨w366, ⟨rfl, rfl⟩, hI368, (((hF44.up (by decide)).tr ((((xFr.of (S := [82, 83, 113]) hb300 (by decide)).tr (xFr.of (S := [82, 83, 113]) hb341 (by decide))).tr (xFr.of (S := [82, 83, 113]) hb349 (by decide))).tr (xFr.of (S := [82, 83, 113]) hb357 (by decide)))).tr (hF369.up (by decide))), ⟨fun _ => by omega, by omega, by omega, (show fld w366 82 10 = 0 ∨ FA w366 ≠ 0 by omega), ((((((K83.fr hF44 (by decide)).tr (K83.but hb300 (by decide))).tr (K83.but hb341 (by decide))).tr (K83.but hb349 (by decide))).tr (K83.but hb357 (by decide))).tr (K83.fr hF369 (by decide)))⟩⟩
        · refine xg_t (xg_ifF (u := (if 20 ≤ f82_320 ∧ f82_320 ≤ 30 then 1 else 0)) rfl xnm0 (xj_neF (xite0 hc365))) ?_
          refine xg_t (xg_blq rfl) ?_
          refine xg_t (xg_aload (va := (2, 82)) rfl rfl) ?_
          refine xg_cVv mX12_ends (vs := []) (rest := []) (cn1 := 0) (sl1 := 0) rfl (mEnds (xMnv.up (S := [113]) hI43 ((((xFr.of (S := [113]) hb300 (by decide)).tr (xFr.of (S := [113]) hb341 (by decide))).tr (xFr.of (S := [113]) hb349 (by decide))).tr (xFr.of (S := [113]) hb357 (by decide))) (List.forall_mem_cons.mpr ⟨xqu113 (show cpI 4 80 4294967295 (wget w355 113) from ⟨_, hr356, xrb (by omega) (xrb (by omega) (xrb (by omega) (xrb (by omega) (hb40))))⟩), fun _ h => absurd h List.not_mem_nil⟩)) (show fld w355 82 10 = 0 ∨ FA w355 ≠ 0 by omega)) rfl (hb357.get (by decide) (hb349.get (by decide) (hb341.get (by decide) (hb300.get (by decide) h82_336)))) rfl rfl rfl rfl rfl rfl (fun w514 hq515 => ?_)
          obtain ⟨hI516, hF517, hx518⟩ := hq515
          obtain ⟨hv519, hv520, hv521, hv522, hv523⟩ := hx518
          exact xg_e ⟨w514, ⟨rfl, rfl⟩, hI516, (((hF44.up (by decide)).tr ((((xFr.of (S := [82, 83, 113]) hb300 (by decide)).tr (xFr.of (S := [82, 83, 113]) hb341 (by decide))).tr (xFr.of (S := [82, 83, 113]) hb349 (by decide))).tr (xFr.of (S := [82, 83, 113]) hb357 (by decide)))).tr (hF517.up (by decide))), ⟨fun _ => by omega, by omega, by omega, (show fld w514 82 10 = 0 ∨ FA w514 ≠ 0 by omega), ((((((K83.fr hF44 (by decide)).tr (K83.but hb300 (by decide))).tr (K83.but hb341 (by decide))).tr (K83.but hb349 (by decide))).tr (K83.but hb357 (by decide))).tr hv523)⟩⟩
      · refine xg_t (xg_icT (u := f82_316) (v := 3) rfl xnm0 xnm0 (xj_neT hc364)) ?_
        refine xg_t (xg_blq rfl) ?_
        refine xg_t (xg_aload (va := (2, 82)) rfl rfl) ?_
        refine xg_cVv mX12_ends (vs := []) (rest := []) (cn1 := 0) (sl1 := 0) rfl (mEnds (xMnv.up (S := [113]) hI43 ((((xFr.of (S := [113]) hb300 (by decide)).tr (xFr.of (S := [113]) hb341 (by decide))).tr (xFr.of (S := [113]) hb349 (by decide))).tr (xFr.of (S := [113]) hb357 (by decide))) (List.forall_mem_cons.mpr ⟨xqu113 (show cpI 4 80 4294967295 (wget w355 113) from ⟨_, hr356, xrb (by omega) (xrb (by omega) (xrb (by omega) (xrb (by omega) (hb40))))⟩), fun _ h => absurd h List.not_mem_nil⟩)) (show fld w355 82 10 = 0 ∨ FA w355 ≠ 0 by omega)) rfl (hb357.get (by decide) (hb349.get (by decide) (hb341.get (by decide) (hb300.get (by decide) h82_336)))) rfl rfl rfl rfl rfl rfl (fun w524 hq525 => ?_)
        obtain ⟨hI526, hF527, hx528⟩ := hq525
        obtain ⟨hv529, hv530, hv531, hv532, hv533⟩ := hx528
        exact xg_e ⟨w524, ⟨rfl, rfl⟩, hI526, (((hF44.up (by decide)).tr ((((xFr.of (S := [82, 83, 113]) hb300 (by decide)).tr (xFr.of (S := [82, 83, 113]) hb341 (by decide))).tr (xFr.of (S := [82, 83, 113]) hb349 (by decide))).tr (xFr.of (S := [82, 83, 113]) hb357 (by decide)))).tr (hF527.up (by decide))), ⟨fun _ => by omega, by omega, by omega, (show fld w524 82 10 = 0 ∨ FA w524 ≠ 0 by omega), ((((((K83.fr hF44 (by decide)).tr (K83.but hb300 (by decide))).tr (K83.but hb341 (by decide))).tr (K83.but hb349 (by decide))).tr (K83.but hb357 (by decide))).tr hv533)⟩⟩
    · refine xg_t (xg_ifT (u := f82_322) rfl xnm0 (xj_neT hc363)) ?_
      refine xg_t (xg_blq rfl) ?_
      refine xg_t (xg_aload (va := (2, 82)) rfl rfl) ?_
      refine xg_cVv mX12_ends (vs := []) (rest := []) (cn1 := 0) (sl1 := 0) rfl (mEnds (xMnv.up (S := [113]) hI43 ((((xFr.of (S := [113]) hb300 (by decide)).tr (xFr.of (S := [113]) hb341 (by decide))).tr (xFr.of (S := [113]) hb349 (by decide))).tr (xFr.of (S := [113]) hb357 (by decide))) (List.forall_mem_cons.mpr ⟨xqu113 (show cpI 4 80 4294967295 (wget w355 113) from ⟨_, hr356, xrb (by omega) (xrb (by omega) (xrb (by omega) (xrb (by omega) (hb40))))⟩), fun _ h => absurd h List.not_mem_nil⟩)) (show fld w355 82 10 = 0 ∨ FA w355 ≠ 0 by omega)) rfl (hb357.get (by decide) (hb349.get (by decide) (hb341.get (by decide) (hb300.get (by decide) h82_336)))) rfl rfl rfl rfl rfl rfl (fun w534 hq535 => ?_)
      obtain ⟨hI536, hF537, hx538⟩ := hq535
      obtain ⟨hv539, hv540, hv541, hv542, hv543⟩ := hx538
      exact xg_e ⟨w534, ⟨rfl, rfl⟩, hI536, (((hF44.up (by decide)).tr ((((xFr.of (S := [82, 83, 113]) hb300 (by decide)).tr (xFr.of (S := [82, 83, 113]) hb341 (by decide))).tr (xFr.of (S := [82, 83, 113]) hb349 (by decide))).tr (xFr.of (S := [82, 83, 113]) hb357 (by decide)))).tr (hF537.up (by decide))), ⟨fun _ => by omega, by omega, by omega, (show fld w534 82 10 = 0 ∨ FA w534 ≠ 0 by omega), ((((((K83.fr hF44 (by decide)).tr (K83.but hb300 (by decide))).tr (K83.but hb341 (by decide))).tr (K83.but hb349 (by decide))).tr (K83.but hb357 (by decide))).tr hv543)⟩⟩
theorem mRulePuts {kk va : Nat} (hI : xMnv w) (hkk : kk ≤ 19) (hva : va ≤ 4294967295) (hln : fld w 82 14 ≤ 2000) : xPq d mX12_rulePuts [(2, 82), (0, kk), (0, va)] w bd fc rr [] (fun w' => xMnv w' ∧ xFr [112] w w' ∧ (∀ j, j < 320 → ((fld w 82 14 < 16 ∧ j = 20 * fld w 82 14 + kk) → rwv w' 112 j = va) ∧ (¬ (j = 20 * fld w 82 14 + kk) → rwv w' 112 j = rwv w 112 j))) := by
  refine xPq.of ?_
  show xTo d mX12_rulePuts (0, [], [(0, (2, 82)), (1, (0, kk)), (2, (0, va))], [], (w, bd, fc, 0, 0, rr)) (fun φ => ∃ w', xEnd 0 [] (w', bd, fc, 0, 0, rr) φ ∧ xMnv w' ∧ xFr [112] w w' ∧ (∀ j, j < 320 → ((fld w 82 14 < 16 ∧ j = 20 * fld w 82 14 + kk) → rwv w' 112 j = va) ∧ (¬ (j = 20 * fld w 82 14 + kk) → rwv w' 112 j = rwv w 112 j)))
  refine xoCh82 (xqc82 hI : cp82 (wget w 82)) (fun f82_1 f82_3 f82_5 f82_7 f82_9 f82_11 f82_13 f82_15 f82_17 f82_19 f82_21 f82_22 f82_23 f82_25 f82_27 f82_29 h82_31 hb2 hb4 hb6 hb8 hb10 hb12 hb14 hb16 hb18 hb20 hb24 hb26 hb28 hb30 hb32 => ?_)
  refine xoI (xqc112 hI : cpI 320 79 4294967295 (wget w 112)) (fun g112_33 h112_34 hb35 => ?_)
  have hf36 : fld w 82 14 = f82_19 := fld_of h82_31
  have hl37 : f82_19 ≤ 2000 := by omega
  refine xg_t (xg_blq rfl) ?_
  refine xg_t (xg_aload (va := (2, 82)) rfl rfl) ?_
  refine xg_t (xg_getf (va := (0, f82_19)) h82_31 rfl) ?_
  have hn38 := id hb20
  unfold xHid at hn38
  refine xg_t (xg_bip) ?_
  by_cases hc39 : f82_19 < 16
  · refine xg_t (xg_icF (u := f82_19) (v := 16) rfl xnm0 xnm0 (xj_geF hc39 (by omega))) ?_
    refine xg_t (xg_aload (va := (2, 82)) rfl rfl) ?_
    refine xg_t (xg_getf (va := (2, 112)) h82_31 rfl) ?_
    refine xg_t (xg_bip) ?_
    refine xg_t (xg_aload (va := (2, 82)) rfl rfl) ?_
    refine xg_t (xg_getf (va := (0, f82_19)) h82_31 rfl) ?_
    refine xg_t (xg_imul (u := 20) (v := f82_19) (z := 20 * f82_19) xnm0 xnm0 (by omega)) ?_
    refine xg_t (xg_iload (va := (0, kk)) rfl rfl) ?_
    refine xg_t (xg_iadd (u := 20 * f82_19) (v := kk) (z := (20 * f82_19) + kk) xnm0 xnm0 (by omega)) ?_
    refine xg_t (xg_iload (va := (0, va)) rfl rfl) ?_
    refine xg_iastK (n := (20 * f82_19) + kk) (u := va) h112_34 xnm0 xnm0 rfl (by omega) (fun w40 hr41 hb42 => ?_)
    refine xg_t (xg_blq rfl) ?_
    exact xg_e ⟨w40, ⟨rfl, rfl⟩, xMnv.up (S := [112]) hI (xFr.of (S := [112]) hb42 (by decide)) (List.forall_mem_cons.mpr ⟨xqu112 (show cpI 320 79 4294967295 (wget w40 112) from ⟨_, hr41, xrb (by omega) (hb35)⟩), fun _ h => absurd h List.not_mem_nil⟩), (xFr.of (S := [112]) hb42 (by decide)), fun j hj => ⟨fun h => (rwv_of hr41 hj).trans (if_pos (show j = (20 * f82_19) + kk by omega)), fun h => (rwv_of hr41 hj).trans ((if_neg (show ¬ j = (20 * f82_19) + kk by omega)).trans (rwv_of h112_34 hj).symm)⟩⟩
  · refine xg_t (xg_icT (u := f82_19) (v := 16) rfl xnm0 xnm0 (xj_geT (by omega) (by omega))) ?_
    refine xg_t (xg_blq rfl) ?_
    exact xg_e ⟨w, ⟨rfl, rfl⟩, hI, xFr.rf, fun j hj => ⟨fun h => absurd h.1 (by omega), fun _ => rfl⟩⟩
set_option maxHeartbeats 60000000 in
theorem mARuleT {kr : Nat} (hI : xMnv w) (hps : PS w) (hln : fld w 82 14 ≤ 1000) (hk : FA w ≠ 0 ∨ kr ≤ 4) (hkr : kr ≤ 1002) (h16 : 16 ≤ fld w 82 14 → FA w ≠ 0) : xTo (d + 7) mX12_aRule (107, [], [(0, (2, 82)), (1, (0, kr))], [], (w, bd, fc, 0, 0, rr)) (fun φ => ∃ w', xEnd 0 [] (w', bd, fc, 0, 0, rr) φ ∧ xMnv w' ∧ xFr [82, 83, 112, 113] w w' ∧ ((FA w ≠ 0 → FA w' ≠ 0) ∧ PS w' ∧ ((fld w' 82 10 = 1 ∧ mu w' ≤ mu w ∧ fld w' 82 14 = fld w 82 14) ∨ (mu w' < mu w ∧ fld w' 82 14 = fld w 82 14 + 1)) ∧ (FA w' ≠ 0 ∨ (RD w → RD w')) ∧ K83 w w')) := by
  refine xoCh82 (xqc82 hI : cp82 (wget w 82)) (fun f82_1 f82_3 f82_5 f82_7 f82_9 f82_11 f82_13 f82_15 f82_17 f82_19 f82_21 f82_22 f82_23 f82_25 f82_27 f82_29 h82_31 hb2 hb4 hb6 hb8 hb10 hb12 hb14 hb16 hb18 hb20 hb24 hb26 hb28 hb30 hb32 => ?_)
  have hf33 : fld w 82 4 = f82_5 := fld_of h82_31
  have hf34 : fld w 82 5 = f82_7 := fld_of h82_31
  have hf35 : fld w 82 7 = f82_11 := fld_of h82_31
  have hf36 : fld w 82 10 = f82_17 := fld_of h82_31
  have hf37 : fld w 82 14 = f82_19 := fld_of h82_31
  have hps_ : fld w 82 10 = 0 ∨ FA w ≠ 0 := hps
  refine xoI (xqc113 hI : cpI 4 80 4294967295 (wget w 113)) (fun g113_38 h113_39 hb40 => ?_)
  have hl41 : f82_19 ≤ 1000 := by omega
  refine xg_t (xg_blq rfl) ?_
  refine xg_t (xg_aload (va := (2, 82)) rfl rfl) ?_
  refine xg_t (xg_getf (va := (0, f82_17)) h82_31 rfl) ?_
  by_cases hc42 : f82_17 = 0
  · refine xg_t (xg_ifF (u := f82_17) rfl xnm0 (xj_neF hc42)) ?_
    refine xg_t (xg_aload (va := (2, 82)) rfl rfl) ?_
    refine xg_t (xg_getf (va := (0, f82_11)) h82_31 rfl) ?_
    refine xg_t (xg_const) ?_
    by_cases hc43 : f82_11 = 3
    · refine xg_t (xg_icF (u := f82_11) (v := 3) rfl xnm0 xnm0 (xj_neF hc43)) ?_
      refine xg_t (xg_aload (va := (2, 82)) rfl rfl) ?_
      refine xg_t (xg_getf (va := (0, f82_15)) h82_31 rfl) ?_
      have hn44 : f82_15 ≤ 4294967295 := hb16
      refine xg_t (xg_bip) ?_
      refine xg_t (xg_bip) ?_
      refine xg_t (xg_cSr mX12_isIn (vs := [(0, f82_15), (0, 40), (0, 42)]) (rest := []) (rs := [(0, if 40 ≤ f82_15 ∧ f82_15 ≤ 42 then 1 else 0)]) (cn1 := 0) (sl1 := 0) rfl (mIsIn (by omega) (by omega) (by omega)) rfl rfl rfl rfl rfl rfl rfl rfl) ?_
      by_cases hc45 : 40 ≤ f82_15 ∧ f82_15 ≤ 42
      · refine xg_t (xg_ifT (u := (if 40 ≤ f82_15 ∧ f82_15 ≤ 42 then 1 else 0)) rfl xnm0 (xj_neT (xite1 hc45))) ?_
        refine xg_t (xg_blq rfl) ?_
        refine xg_t (xg_aload (va := (2, 82)) rfl rfl) ?_
        refine xg_t (xg_getf (va := (0, f82_15)) h82_31 rfl) ?_
        refine xg_t (xg_istore (l1 := [(0, (2, 82)), (1, (0, kr))]) rfl rfl rfl) ?_
        refine xg_t (xg_aload (va := (2, 82)) rfl rfl) ?_
        have hf46 : fld w 82 7 = f82_11 := fld_of h82_31
        refine xg_cVv mX12_advance (vs := []) (rest := []) (cn1 := 0) (sl1 := 0) rfl (mAdvance (hI)) rfl h82_31 rfl rfl rfl rfl rfl rfl (fun w47 hq48 => ?_)
        obtain ⟨hI49, hF50, hx51⟩ := hq48
        clear hb2 hb4 hb6 hb8 hb10 hb12 hb14 hb18 hb20 hb24 hb26 hb28 hb30
        obtain ⟨hv52, hv53, hv54, hv55⟩ := hx51
        have hf56 := FA_fr hF50 (by decide)
        have pk57 : PK w w47 := ⟨fun _ => by omega, hv52, hv55, (show fld w47 82 10 = 0 ∨ FA w47 ≠ 0 by omega), K83.fr hF50 (by decide)⟩
        have pk58 : PK w w47 := PK.tr (PK.rf hps) pk57
        have ro59 : ∀ l, l < fld w 82 14 → l < 16 → rwv w47 112 (20 * l) = rwv w 112 (20 * l) := fun l hl h6 => (rwv_fr hF50 (by decide)).trans ((fun l _ _ => rfl) l hl h6)
        have hq60 := pk58
        unfold PK PS at hq60
        have ms61 : mu w47 < mu w := Nat.lt_of_lt_of_le (hv53 (by omega)) (PK.rf hps).2.1
        refine xg_t (xg_iload (va := (0, f82_15)) rfl rfl) ?_
        refine xg_t (xg_bip) ?_
        by_cases hc62 : f82_15 = 40
        · refine xg_t (xg_icF (u := f82_15) (v := 40) rfl xnm0 xnm0 (xj_neF hc62)) ?_
          refine xg_t (xg_const) ?_
          refine xg_t (xg_goto) ?_
          refine xg_t (xg_blq rfl) ?_
          refine xg_t (xg_istore (l1 := [(2, (0, f82_15)), (0, (2, 82)), (1, (0, kr))]) rfl rfl rfl) ?_
          refine xg_t (xg_aload (va := (2, 82)) rfl rfl) ?_
          refine xg_t (xg_bip) ?_
          refine xoCh82 (xqc82 hI49 : cp82 (wget w47 82)) (fun f82_63 f82_65 f82_67 f82_69 f82_71 f82_73 f82_75 f82_77 f82_79 f82_81 f82_83 f82_84 f82_85 f82_87 f82_89 f82_91 h82_93 hb64 hb66 hb68 hb70 hb72 hb74 hb76 hb78 hb80 hb82 hb86 hb88 hb90 hb92 hb94 => ?_)
          refine xg_cVv mX12_must (vs := [(0, 59)]) (rest := []) (cn1 := 0) (sl1 := 0) rfl (mMust (hI49) (by omega) pk58.2.2.2.1) rfl h82_93 rfl rfl rfl rfl rfl rfl (fun w95 hq96 => ?_)
          obtain ⟨hI97, hF98, hx99⟩ := hq96
          clear hb64 hb66 hb68 hb70 hb72 hb74 hb76 hb78 hb80 hb82 hb86 hb88 hb90 hb92
          have pk100 : PK w w95 := PK.tr pk58 hx99
          have ro101 : ∀ l, l < fld w 82 14 → l < 16 → rwv w95 112 (20 * l) = rwv w 112 (20 * l) := fun l hl h6 => (rwv_fr hF98 (by decide)).trans (ro59 l hl h6)
          have hq102 := pk100
          unfold PK PS at hq102
          clear hq60
          have ms103 : mu w95 < mu w := Nat.lt_of_le_of_lt hx99.2.1 ms61
          refine xg_t (xg_aload (va := (2, 82)) rfl rfl) ?_
          refine xg_t (xg_const) ?_
          refine xg_t (xg_iload (va := (0, kr)) rfl rfl) ?_
          have hl104 : fld w95 82 14 = fld w 82 14 := pk100.2.2.1
          have hl105 : fld w95 82 14 ≤ 2000 := by omega
          refine xoCh82 (xqc82 hI97 : cp82 (wget w95 82)) (fun f82_106 f82_108 f82_110 f82_112 f82_114 f82_116 f82_118 f82_120 f82_122 f82_124 f82_126 f82_127 f82_128 f82_130 f82_132 f82_134 h82_136 hb107 hb109 hb111 hb113 hb115 hb117 hb119 hb121 hb123 hb125 hb129 hb131 hb133 hb135 hb137 => ?_)
          refine xg_cVv mX12_rulePuts (vs := [(0, 0), (0, kr)]) (rest := []) (cn1 := 0) (sl1 := 0) rfl (mRulePuts (hI97) (by omega) (by omega) (by omega)) rfl h82_136 rfl rfl rfl rfl rfl rfl (fun w138 hq139 => ?_)
          obtain ⟨hI140, hF141, hx142⟩ := hq139
          have hx143 := hx142
          have pk144 : PK w w138 := PK.tr pk100 (PK.fr hF141 (by decide) (by decide) pk100.2.2.2.1)
          have ro145 : ∀ l, l < fld w 82 14 → l < 16 → rwv w138 112 (20 * l) = rwv w 112 (20 * l) := fun l hl h6 => ((hx143 _ (by omega)).2 (by omega)).trans (ro101 l hl h6)
          have hq146 := pk144
          unfold PK PS at hq146
          clear hq102
          have ms147 : mu w138 < mu w := Nat.lt_of_le_of_lt (PK.fr hF141 (by decide) (by decide) pk100.2.2.2.1).2.1 ms103
          have rz148 : fld w 82 14 < 16 → rwv w138 112 (20 * fld w 82 14) = kr := fun h6 => (hx143 _ (by omega)).1 ⟨by omega, by omega⟩
          refine xg_t (xg_aload (va := (2, 82)) rfl rfl) ?_
          refine xg_t (xg_bip) ?_
          refine xg_t (xg_iload (va := (0, f82_15)) rfl rfl) ?_
          have hl149 : fld w138 82 14 = fld w 82 14 := pk144.2.2.1
          have hl150 : fld w138 82 14 ≤ 2000 := by omega
          refine xg_cVv mX12_rulePuts (vs := [(0, 17), (0, f82_15)]) (rest := []) (cn1 := 0) (sl1 := 0) rfl (mRulePuts (hI140) (by omega) (by omega) (by omega)) rfl (hF141.get (by decide) h82_136) rfl rfl rfl rfl rfl rfl (fun w151 hq152 => ?_)
          obtain ⟨hI153, hF154, hx155⟩ := hq152
          have hx156 := hx155
          have pk157 : PK w w151 := PK.tr pk144 (PK.fr hF154 (by decide) (by decide) pk144.2.2.2.1)
          have ro158 : ∀ l, l < fld w 82 14 → l < 16 → rwv w151 112 (20 * l) = rwv w 112 (20 * l) := fun l hl h6 => ((hx156 _ (by omega)).2 (by omega)).trans (ro145 l hl h6)
          have hq159 := pk157
          unfold PK PS at hq159
          clear hq146
          have ms160 : mu w151 < mu w := Nat.lt_of_le_of_lt (PK.fr hF154 (by decide) (by decide) pk144.2.2.2.1).2.1 ms147
          have rz161 : fld w 82 14 < 16 → rwv w151 112 (20 * fld w 82 14) = kr := fun h6 => ((hx156 _ (by omega)).2 (by omega)).trans (rz148 h6)
          refine xg_t (xg_aload (va := (2, 82)) rfl rfl) ?_
          refine xg_t (xg_bip) ?_
          refine xg_t (xg_iload (va := (0, 0)) rfl rfl) ?_
          have hl162 : fld w151 82 14 = fld w 82 14 := pk157.2.2.1
          have hl163 : fld w151 82 14 ≤ 2000 := by omega
          refine xg_cVv mX12_rulePuts (vs := [(0, 18), (0, 0)]) (rest := []) (cn1 := 0) (sl1 := 0) rfl (mRulePuts (hI153) (by omega) (by omega) (by omega)) rfl (hF154.get (by decide) (hF141.get (by decide) h82_136)) rfl rfl rfl rfl rfl rfl (fun w164 hq165 => ?_)
          obtain ⟨hI166, hF167, hx168⟩ := hq165
          have hx169 := hx168
          have pk170 : PK w w164 := PK.tr pk157 (PK.fr hF167 (by decide) (by decide) pk157.2.2.2.1)
          have ro171 : ∀ l, l < fld w 82 14 → l < 16 → rwv w164 112 (20 * l) = rwv w 112 (20 * l) := fun l hl h6 => ((hx169 _ (by omega)).2 (by omega)).trans (ro158 l hl h6)
          have hq172 := pk170
          unfold PK PS at hq172
          clear hq159
          have ms173 : mu w164 < mu w := Nat.lt_of_le_of_lt (PK.fr hF167 (by decide) (by decide) pk157.2.2.2.1).2.1 ms160
          have rz174 : fld w 82 14 < 16 → rwv w164 112 (20 * fld w 82 14) = kr := fun h6 => ((hx169 _ (by omega)).2 (by omega)).trans (rz161 h6)
          have hf175 : fld w164 82 4 = f82_110 := fld_of (hF167.get (by decide) (hF154.get (by decide) (hF141.get (by decide) h82_136)))
          have hf176 : fld w164 82 5 = f82_112 := fld_of (hF167.get (by decide) (hF154.get (by decide) (hF141.get (by decide) h82_136)))
          have hf177 : fld w164 82 7 = f82_116 := fld_of (hF167.get (by decide) (hF154.get (by decide) (hF141.get (by decide) h82_136)))
          have hf178 : fld w164 82 10 = f82_122 := fld_of (hF167.get (by decide) (hF154.get (by decide) (hF141.get (by decide) h82_136)))
          have hf179 : fld w164 82 14 = f82_124 := fld_of (hF167.get (by decide) (hF154.get (by decide) (hF141.get (by decide) h82_136)))
          have hu180 : mu w164 = 2 * (fld w164 82 4 - fld w164 82 5) + min 1 (fld w164 82 7) := rfl
          have hl181 : f82_124 ≤ 1001 := by omega
          refine xg_t (xg_aload (va := (2, 82)) rfl rfl) ?_
          refine xg_t (xg_dup rfl) ?_
          refine xg_t (xg_getf (va := (0, f82_124)) (hF167.get (by decide) (hF154.get (by decide) (hF141.get (by decide) h82_136))) rfl) ?_
          have hn182 := id hb125
          unfold xHid at hn182
          refine xg_t (xg_const) ?_
          refine xg_t (xg_iadd (u := f82_124) (v := 1) (z := f82_124 + 1) xnm0 xnm0 (by omega)) ?_
          refine xg_putI (fl1 := [(2, 83), (2, 84), (0, f82_106), (0, f82_108), (0, f82_110), (0, f82_112), (0, f82_114), (0, f82_116), (0, f82_118), (0, f82_120), (0, f82_122), (2, 85), (2, 86), (2, 87), (0, f82_124 + 1), (2, 88), (2, 89), (2, 90), (2, 91), (2, 92), (2, 93), (2, 94), (4, f82_126), (4, f82_127), (0, f82_128), (2, 95), (2, 96), (2, 97), (2, 98), (2, 99), (2, 100), (2, 101), (2, 102), (0, f82_130), (2, 103), (2, 104), (2, 105), (2, 106), (2, 107), (2, 108), (2, 109), (0, f82_132), (0, f82_134), (2, 110), (2, 111), (2, 112), (2, 113)]) (hF167.get (by decide) (hF154.get (by decide) (hF141.get (by decide) h82_136))) rfl rfl rfl (fun w183 hk184 hb185 => ?_)
          have hF186 : xFr [82] w164 w183 := xFr.of hb185 (by decide)
          have hA187 := FA_fr hF186 (by decide)
          have hf188 : fld w183 82 4 = f82_110 := fld_of hk184
          have hf189 : fld w183 82 5 = f82_112 := fld_of hk184
          have hf190 : fld w183 82 7 = f82_116 := fld_of hk184
          have hf191 : fld w183 82 10 = f82_122 := fld_of hk184
          have hf192 : fld w183 82 14 = f82_124 + 1 := fld_of hk184
          have hu193 : mu w183 = 2 * (fld w183 82 4 - fld w183 82 5) + min 1 (fld w183 82 7) := rfl
          have hD194 : FA w183 ≠ 0 ∨ (RD w → RD w183) := by
            by_cases z : FA w183 ≠ 0
            · exact Or.inl z
            · refine Or.inr (fun hd => ⟨by omega, fun l hl => ?_⟩)
              rw [rwv_fr hF186 (by decide)]
              by_cases y : l = fld w 82 14
              · rw [y, rz174 (by omega)]; omega
              · rw [ro171 l (by omega) (by have := hd.1; omega)]; exact hd.2 l (by omega)
          exact xg_e ⟨w183, ⟨rfl, rfl⟩, xMnv.up (S := [82]) hI166 (xFr.of (S := [82]) hb185 (by decide)) (List.forall_mem_cons.mpr ⟨xqu82 (show cp82 (wget w183 82) from xmC82 f82_106 f82_108 f82_110 f82_112 f82_114 f82_116 f82_118 f82_120 f82_122 (f82_124 + 1) f82_126 f82_127 f82_128 f82_130 f82_132 f82_134 hk184 hb107 hb109 hb111 hb113 hb115 hb117 hb119 hb121 hb123 (by omega) hb129 hb131 hb133 hb135 (by omega)), fun _ h => absurd h List.not_mem_nil⟩), ((((((hF50.up (by decide)).tr (hF98.up (by decide))).tr (hF141.up (by decide))).tr (hF154.up (by decide))).tr (hF167.up (by decide))).tr (xFr.of (S := [82, 83, 112, 113]) hb185 (by decide))), ⟨fun h => by have := pk170.1 h; omega, (show fld w183 82 10 = 0 ∨ FA w183 ≠ 0 by omega), Or.inr ⟨by have := ms173; omega, by omega⟩, hD194, pk170.2.2.2.2.tr (K83.fr hF186 (by decide))⟩⟩
        · refine xg_t (xg_icT (u := f82_15) (v := 40) rfl xnm0 xnm0 (xj_neT hc62)) ?_
          refine xg_t (xg_blq rfl) ?_
          refine xg_t (xg_aload (va := (2, 82)) rfl rfl) ?_
          refine xoCh82 (xqc82 hI49 : cp82 (wget w47 82)) (fun f82_195 f82_197 f82_199 f82_201 f82_203 f82_205 f82_207 f82_209 f82_211 f82_213 f82_215 f82_216 f82_217 f82_219 f82_221 f82_223 h82_225 hb196 hb198 hb200 hb202 hb204 hb206 hb208 hb210 hb212 hb214 hb218 hb220 hb222 hb224 hb226 => ?_)
          refine xg_cVi mX12_numberNow (vs := []) (rest := []) (cn1 := 0) (sl1 := 0) rfl (mNumberNow (hI49) pk58.2.2.2.1) rfl h82_225 rfl rfl rfl rfl rfl rfl (fun n231 w227 hq228 => ?_)
          obtain ⟨hn232, hI229, hF230⟩ := hq228
          clear hb196 hb198 hb200 hb202 hb204 hb206 hb208 hb210 hb212 hb214 hb218 hb220 hb222 hb224
          obtain ⟨hn233, hn234⟩ := hn232
          have pk235 : PK w w227 := PK.tr pk58 hn234
          have ro236 : ∀ l, l < fld w 82 14 → l < 16 → rwv w227 112 (20 * l) = rwv w 112 (20 * l) := fun l hl h6 => (rwv_fr hF230 (by decide)).trans (ro59 l hl h6)
          have hq237 := pk235
          unfold PK PS at hq237
          clear hq60
          have ms238 : mu w227 < mu w := Nat.lt_of_le_of_lt hn234.2.1 ms61
          refine xg_t (xg_blq rfl) ?_
          refine xg_t (xg_istore (l1 := [(2, (0, f82_15)), (0, (2, 82)), (1, (0, kr))]) rfl rfl rfl) ?_
          refine xg_t (xg_aload (va := (2, 82)) rfl rfl) ?_
          refine xg_t (xg_bip) ?_
          refine xoCh82 (xqc82 hI229 : cp82 (wget w227 82)) (fun f82_239 f82_241 f82_243 f82_245 f82_247 f82_249 f82_251 f82_253 f82_255 f82_257 f82_259 f82_260 f82_261 f82_263 f82_265 f82_267 h82_269 hb240 hb242 hb244 hb246 hb248 hb250 hb252 hb254 hb256 hb258 hb262 hb264 hb266 hb268 hb270 => ?_)
          refine xg_cVv mX12_must (vs := [(0, 59)]) (rest := []) (cn1 := 0) (sl1 := 0) rfl (mMust (hI229) (by omega) pk235.2.2.2.1) rfl h82_269 rfl rfl rfl rfl rfl rfl (fun w271 hq272 => ?_)
          obtain ⟨hI273, hF274, hx275⟩ := hq272
          clear hb240 hb242 hb244 hb246 hb248 hb250 hb252 hb254 hb256 hb258 hb262 hb264 hb266 hb268
          have pk276 : PK w w271 := PK.tr pk235 hx275
          have ro277 : ∀ l, l < fld w 82 14 → l < 16 → rwv w271 112 (20 * l) = rwv w 112 (20 * l) := fun l hl h6 => (rwv_fr hF274 (by decide)).trans (ro236 l hl h6)
          have hq278 := pk276
          unfold PK PS at hq278
          clear hq237
          have ms279 : mu w271 < mu w := Nat.lt_of_le_of_lt hx275.2.1 ms238
          refine xg_t (xg_aload (va := (2, 82)) rfl rfl) ?_
          refine xg_t (xg_const) ?_
          refine xg_t (xg_iload (va := (0, kr)) rfl rfl) ?_
          have hl280 : fld w271 82 14 = fld w 82 14 := pk276.2.2.1
          have hl281 : fld w271 82 14 ≤ 2000 := by omega
          refine xoCh82 (xqc82 hI273 : cp82 (wget w271 82)) (fun f82_282 f82_284 f82_286 f82_288 f82_290 f82_292 f82_294 f82_296 f82_298 f82_300 f82_302 f82_303 f82_304 f82_306 f82_308 f82_310 h82_312 hb283 hb285 hb287 hb289 hb291 hb293 hb295 hb297 hb299 hb301 hb305 hb307 hb309 hb311 hb313 => ?_)
          refine xg_cVv mX12_rulePuts (vs := [(0, 0), (0, kr)]) (rest := []) (cn1 := 0) (sl1 := 0) rfl (mRulePuts (hI273) (by omega) (by omega) (by omega)) rfl h82_312 rfl rfl rfl rfl rfl rfl (fun w314 hq315 => ?_)
          obtain ⟨hI316, hF317, hx318⟩ := hq315
          have hx319 := hx318
          have pk320 : PK w w314 := PK.tr pk276 (PK.fr hF317 (by decide) (by decide) pk276.2.2.2.1)
          have ro321 : ∀ l, l < fld w 82 14 → l < 16 → rwv w314 112 (20 * l) = rwv w 112 (20 * l) := fun l hl h6 => ((hx319 _ (by omega)).2 (by omega)).trans (ro277 l hl h6)
          have hq322 := pk320
          unfold PK PS at hq322
          clear hq278
          have ms323 : mu w314 < mu w := Nat.lt_of_le_of_lt (PK.fr hF317 (by decide) (by decide) pk276.2.2.2.1).2.1 ms279
          have rz324 : fld w 82 14 < 16 → rwv w314 112 (20 * fld w 82 14) = kr := fun h6 => (hx319 _ (by omega)).1 ⟨by omega, by omega⟩
          refine xg_t (xg_aload (va := (2, 82)) rfl rfl) ?_
          refine xg_t (xg_bip) ?_
          refine xg_t (xg_iload (va := (0, f82_15)) rfl rfl) ?_
          have hl325 : fld w314 82 14 = fld w 82 14 := pk320.2.2.1
          have hl326 : fld w314 82 14 ≤ 2000 := by omega
          refine xg_cVv mX12_rulePuts (vs := [(0, 17), (0, f82_15)]) (rest := []) (cn1 := 0) (sl1 := 0) rfl (mRulePuts (hI316) (by omega) (by omega) (by omega)) rfl (hF317.get (by decide) h82_312) rfl rfl rfl rfl rfl rfl (fun w327 hq328 => ?_)
          obtain ⟨hI329, hF330, hx331⟩ := hq328
          have hx332 := hx331
          have pk333 : PK w w327 := PK.tr pk320 (PK.fr hF330 (by decide) (by decide) pk320.2.2.2.1)
          have ro334 : ∀ l, l < fld w 82 14 → l < 16 → rwv w327 112 (20 * l) = rwv w 112 (20 * l) := fun l hl h6 => ((hx332 _ (by omega)).2 (by omega)).trans (ro321 l hl h6)
          have hq335 := pk333
          unfold PK PS at hq335
          clear hq322
          have ms336 : mu w327 < mu w := Nat.lt_of_le_of_lt (PK.fr hF330 (by decide) (by decide) pk320.2.2.2.1).2.1 ms323
          have rz337 : fld w 82 14 < 16 → rwv w327 112 (20 * fld w 82 14) = kr := fun h6 => ((hx332 _ (by omega)).2 (by omega)).trans (rz324 h6)
          refine xg_t (xg_aload (va := (2, 82)) rfl rfl) ?_
          refine xg_t (xg_bip) ?_
          refine xg_t (xg_iload (va := (0, n231)) rfl rfl) ?_
          have hl338 : fld w327 82 14 = fld w 82 14 := pk333.2.2.1
          have hl339 : fld w327 82 14 ≤ 2000 := by omega
          refine xg_cVv mX12_rulePuts (vs := [(0, 18), (0, n231)]) (rest := []) (cn1 := 0) (sl1 := 0) rfl (mRulePuts (hI329) (by omega) (by omega) (by omega)) rfl (hF330.get (by decide) (hF317.get (by decide) h82_312)) rfl rfl rfl rfl rfl rfl (fun w340 hq341 => ?_)
          obtain ⟨hI342, hF343, hx344⟩ := hq341
          have hx345 := hx344
          have pk346 : PK w w340 := PK.tr pk333 (PK.fr hF343 (by decide) (by decide) pk333.2.2.2.1)
          have ro347 : ∀ l, l < fld w 82 14 → l < 16 → rwv w340 112 (20 * l) = rwv w 112 (20 * l) := fun l hl h6 => ((hx345 _ (by omega)).2 (by omega)).trans (ro334 l hl h6)
          have hq348 := pk346
          unfold PK PS at hq348
          clear hq335
          have ms349 : mu w340 < mu w := Nat.lt_of_le_of_lt (PK.fr hF343 (by decide) (by decide) pk333.2.2.2.1).2.1 ms336
          have rz350 : fld w 82 14 < 16 → rwv w340 112 (20 * fld w 82 14) = kr := fun h6 => ((hx345 _ (by omega)).2 (by omega)).trans (rz337 h6)
          have hf351 : fld w340 82 4 = f82_286 := fld_of (hF343.get (by decide) (hF330.get (by decide) (hF317.get (by decide) h82_312)))
          have hf352 : fld w340 82 5 = f82_288 := fld_of (hF343.get (by decide) (hF330.get (by decide) (hF317.get (by decide) h82_312)))
          have hf353 : fld w340 82 7 = f82_292 := fld_of (hF343.get (by decide) (hF330.get (by decide) (hF317.get (by decide) h82_312)))
          have hf354 : fld w340 82 10 = f82_298 := fld_of (hF343.get (by decide) (hF330.get (by decide) (hF317.get (by decide) h82_312)))
          have hf355 : fld w340 82 14 = f82_300 := fld_of (hF343.get (by decide) (hF330.get (by decide) (hF317.get (by decide) h82_312)))
          have hu356 : mu w340 = 2 * (fld w340 82 4 - fld w340 82 5) + min 1 (fld w340 82 7) := rfl
          have hl357 : f82_300 ≤ 1001 := by omega
          refine xg_t (xg_aload (va := (2, 82)) rfl rfl) ?_
          refine xg_t (xg_dup rfl) ?_
          refine xg_t (xg_getf (va := (0, f82_300)) (hF343.get (by decide) (hF330.get (by decide) (hF317.get (by decide) h82_312))) rfl) ?_
          have hn358 := id hb301
          unfold xHid at hn358
          refine xg_t (xg_const) ?_
          refine xg_t (xg_iadd (u := f82_300) (v := 1) (z := f82_300 + 1) xnm0 xnm0 (by omega)) ?_
          refine xg_putI (fl1 := [(2, 83), (2, 84), (0, f82_282), (0, f82_284), (0, f82_286), (0, f82_288), (0, f82_290), (0, f82_292), (0, f82_294), (0, f82_296), (0, f82_298), (2, 85), (2, 86), (2, 87), (0, f82_300 + 1), (2, 88), (2, 89), (2, 90), (2, 91), (2, 92), (2, 93), (2, 94), (4, f82_302), (4, f82_303), (0, f82_304), (2, 95), (2, 96), (2, 97), (2, 98), (2, 99), (2, 100), (2, 101), (2, 102), (0, f82_306), (2, 103), (2, 104), (2, 105), (2, 106), (2, 107), (2, 108), (2, 109), (0, f82_308), (0, f82_310), (2, 110), (2, 111), (2, 112), (2, 113)]) (hF343.get (by decide) (hF330.get (by decide) (hF317.get (by decide) h82_312))) rfl rfl rfl (fun w359 hk360 hb361 => ?_)
          have hF362 : xFr [82] w340 w359 := xFr.of hb361 (by decide)
          have hA363 := FA_fr hF362 (by decide)
          have hf364 : fld w359 82 4 = f82_286 := fld_of hk360
          have hf365 : fld w359 82 5 = f82_288 := fld_of hk360
          have hf366 : fld w359 82 7 = f82_292 := fld_of hk360
          have hf367 : fld w359 82 10 = f82_298 := fld_of hk360
          have hf368 : fld w359 82 14 = f82_300 + 1 := fld_of hk360
          have hu369 : mu w359 = 2 * (fld w359 82 4 - fld w359 82 5) + min 1 (fld w359 82 7) := rfl
          have hD370 : FA w359 ≠ 0 ∨ (RD w → RD w359) := by
            by_cases z : FA w359 ≠ 0
            · exact Or.inl z
            · refine Or.inr (fun hd => ⟨by omega, fun l hl => ?_⟩)
              rw [rwv_fr hF362 (by decide)]
              by_cases y : l = fld w 82 14
              · rw [y, rz350 (by omega)]; omega
              · rw [ro347 l (by omega) (by have := hd.1; omega)]; exact hd.2 l (by omega)
          exact xg_e ⟨w359, ⟨rfl, rfl⟩, xMnv.up (S := [82]) hI342 (xFr.of (S := [82]) hb361 (by decide)) (List.forall_mem_cons.mpr ⟨xqu82 (show cp82 (wget w359 82) from xmC82 f82_282 f82_284 f82_286 f82_288 f82_290 f82_292 f82_294 f82_296 f82_298 (f82_300 + 1) f82_302 f82_303 f82_304 f82_306 f82_308 f82_310 hk360 hb283 hb285 hb287 hb289 hb291 hb293 hb295 hb297 hb299 (by omega) hb305 hb307 hb309 hb311 (by omega)), fun _ h => absurd h List.not_mem_nil⟩), (((((((hF50.up (by decide)).tr (hF230.up (by decide))).tr (hF274.up (by decide))).tr (hF317.up (by decide))).tr (hF330.up (by decide))).tr (hF343.up (by decide))).tr (xFr.of (S := [82, 83, 112, 113]) hb361 (by decide))), ⟨fun h => by have := pk346.1 h; omega, (show fld w359 82 10 = 0 ∨ FA w359 ≠ 0 by omega), Or.inr ⟨by have := ms349; omega, by omega⟩, hD370, pk346.2.2.2.2.tr (K83.fr hF362 (by decide))⟩⟩
      · refine xg_t (xg_ifF (u := (if 40 ≤ f82_15 ∧ f82_15 ≤ 42 then 1 else 0)) rfl xnm0 (xj_neF (xite0 hc45))) ?_
        refine xg_t (xg_blq rfl) ?_
        refine xg_t (xg_aload (va := (2, 82)) rfl rfl) ?_
        refine xg_cVv mX12_ends (vs := []) (rest := []) (cn1 := 0) (sl1 := 0) rfl (mEnds (hI) (PK.rf hps).2.2.2.1) rfl h82_31 rfl rfl rfl rfl rfl rfl (fun w371 hq372 => ?_)
        obtain ⟨hI373, hF374, hx375⟩ := hq372
        clear hb2 hb4 hb6 hb8 hb10 hb12 hb14 hb16 hb18 hb20 hb24 hb26 hb28 hb30
        obtain ⟨hv376, hv377, hv378, hv379, hv380⟩ := hx375
        have pk381 : PK w w371 := ⟨fun _ => hv376, by omega, by omega, Or.inr hv376, hv380⟩
        have pk382 : PK w w371 := PK.tr (PK.rf hps) pk381
        have ro383 : ∀ l, l < fld w 82 14 → l < 16 → rwv w371 112 (20 * l) = rwv w 112 (20 * l) := fun l hl h6 => (rwv_fr hF374 (by decide)).trans ((fun l _ _ => rfl) l hl h6)
        have hq384 := pk382
        unfold PK PS at hq384
        refine xoCh82 (xqc82 hI373 : cp82 (wget w371 82)) (fun f82_385 f82_387 f82_389 f82_391 f82_393 f82_395 f82_397 f82_399 f82_401 f82_403 f82_405 f82_406 f82_407 f82_409 f82_411 f82_413 h82_415 hb386 hb388 hb390 hb392 hb394 hb396 hb398 hb400 hb402 hb404 hb408 hb410 hb412 hb414 hb416 => ?_)
        exact xg_e ⟨w371, ⟨rfl, rfl⟩, hI373, (hF374.up (by decide)), ⟨pk382.1, pk382.2.2.2.1, Or.inl ⟨by omega, pk382.2.1, pk382.2.2.1⟩, Or.inl (by omega), pk382.2.2.2.2⟩⟩
    · refine xg_t (xg_icT (u := f82_11) (v := 3) rfl xnm0 xnm0 (xj_neT hc43)) ?_
      refine xg_t (xg_blq rfl) ?_
      refine xg_t (xg_aload (va := (2, 82)) rfl rfl) ?_
      refine xg_cVv mX12_ends (vs := []) (rest := []) (cn1 := 0) (sl1 := 0) rfl (mEnds (hI) (PK.rf hps).2.2.2.1) rfl h82_31 rfl rfl rfl rfl rfl rfl (fun w417 hq418 => ?_)
      obtain ⟨hI419, hF420, hx421⟩ := hq418
      clear hb2 hb4 hb6 hb8 hb10 hb12 hb14 hb16 hb18 hb20 hb24 hb26 hb28 hb30
      obtain ⟨hv422, hv423, hv424, hv425, hv426⟩ := hx421
      have pk427 : PK w w417 := ⟨fun _ => hv422, by omega, by omega, Or.inr hv422, hv426⟩
      have pk428 : PK w w417 := PK.tr (PK.rf hps) pk427
      have ro429 : ∀ l, l < fld w 82 14 → l < 16 → rwv w417 112 (20 * l) = rwv w 112 (20 * l) := fun l hl h6 => (rwv_fr hF420 (by decide)).trans ((fun l _ _ => rfl) l hl h6)
      have hq430 := pk428
      unfold PK PS at hq430
      refine xoCh82 (xqc82 hI419 : cp82 (wget w417 82)) (fun f82_431 f82_433 f82_435 f82_437 f82_439 f82_441 f82_443 f82_445 f82_447 f82_449 f82_451 f82_452 f82_453 f82_455 f82_457 f82_459 h82_461 hb432 hb434 hb436 hb438 hb440 hb442 hb444 hb446 hb448 hb450 hb454 hb456 hb458 hb460 hb462 => ?_)
      exact xg_e ⟨w417, ⟨rfl, rfl⟩, hI419, (hF420.up (by decide)), ⟨pk428.1, pk428.2.2.2.1, Or.inl ⟨by omega, pk428.2.1, pk428.2.2.1⟩, Or.inl (by omega), pk428.2.2.2.2⟩⟩
  · refine xg_t (xg_ifT (u := f82_17) rfl xnm0 (xj_neT hc42)) ?_
    refine xg_t (xg_blq rfl) ?_
    refine xg_t (xg_aload (va := (2, 82)) rfl rfl) ?_
    refine xg_cVv mX12_ends (vs := []) (rest := []) (cn1 := 0) (sl1 := 0) rfl (mEnds (hI) (PK.rf hps).2.2.2.1) rfl h82_31 rfl rfl rfl rfl rfl rfl (fun w463 hq464 => ?_)
    obtain ⟨hI465, hF466, hx467⟩ := hq464
    clear hb2 hb4 hb6 hb8 hb10 hb12 hb14 hb16 hb18 hb20 hb24 hb26 hb28 hb30
    obtain ⟨hv468, hv469, hv470, hv471, hv472⟩ := hx467
    have pk473 : PK w w463 := ⟨fun _ => hv468, by omega, by omega, Or.inr hv468, hv472⟩
    have pk474 : PK w w463 := PK.tr (PK.rf hps) pk473
    have ro475 : ∀ l, l < fld w 82 14 → l < 16 → rwv w463 112 (20 * l) = rwv w 112 (20 * l) := fun l hl h6 => (rwv_fr hF466 (by decide)).trans ((fun l _ _ => rfl) l hl h6)
    have hq476 := pk474
    unfold PK PS at hq476
    refine xoCh82 (xqc82 hI465 : cp82 (wget w463 82)) (fun f82_477 f82_479 f82_481 f82_483 f82_485 f82_487 f82_489 f82_491 f82_493 f82_495 f82_497 f82_498 f82_499 f82_501 f82_503 f82_505 h82_507 hb478 hb480 hb482 hb484 hb486 hb488 hb490 hb492 hb494 hb496 hb500 hb502 hb504 hb506 hb508 => ?_)
    exact xg_e ⟨w463, ⟨rfl, rfl⟩, hI465, (hF466.up (by decide)), ⟨pk474.1, pk474.2.2.2.1, Or.inl ⟨by omega, pk474.2.1, pk474.2.2.1⟩, Or.inl (by omega), pk474.2.2.2.2⟩⟩
set_option maxHeartbeats 60000000 in
theorem mARule (hI : xMnv w) (hps : PS w) (hln : fld w 82 14 ≤ 1000) (hmu : mu w ≤ 1001) : xPq (d + 7) mX12_aRule [(2, 82)] w bd fc rr [] (fun w' => xMnv w' ∧ xFr [82, 83, 112, 113] w w' ∧ ((FA w ≠ 0 → FA w' ≠ 0) ∧ PS w' ∧ ((fld w' 82 10 = 1 ∧ mu w' ≤ mu w ∧ fld w' 82 14 = fld w 82 14) ∨ (mu w' < mu w ∧ fld w' 82 14 = fld w 82 14 + 1)) ∧ (FA w' ≠ 0 ∨ (RD w → RD w')) ∧ K83 w w')) := by
  refine xPq.of ?_
  show xTo (d + 7) mX12_aRule (0, [], [(0, (2, 82))], [], (w, bd, fc, 0, 0, rr)) (fun φ => ∃ w', xEnd 0 [] (w', bd, fc, 0, 0, rr) φ ∧ xMnv w' ∧ xFr [82, 83, 112, 113] w w' ∧ ((FA w ≠ 0 → FA w' ≠ 0) ∧ PS w' ∧ ((fld w' 82 10 = 1 ∧ mu w' ≤ mu w ∧ fld w' 82 14 = fld w 82 14) ∨ (mu w' < mu w ∧ fld w' 82 14 = fld w 82 14 + 1)) ∧ (FA w' ≠ 0 ∨ (RD w → RD w')) ∧ K83 w w'))
  refine xoCh82 (xqc82 hI : cp82 (wget w 82)) (fun f82_1 f82_3 f82_5 f82_7 f82_9 f82_11 f82_13 f82_15 f82_17 f82_19 f82_21 f82_22 f82_23 f82_25 f82_27 f82_29 h82_31 hb2 hb4 hb6 hb8 hb10 hb12 hb14 hb16 hb18 hb20 hb24 hb26 hb28 hb30 hb32 => ?_)
  have hf33 : fld w 82 4 = f82_5 := fld_of h82_31
  have hf34 : fld w 82 5 = f82_7 := fld_of h82_31
  have hf35 : fld w 82 7 = f82_11 := fld_of h82_31
  have hf36 : fld w 82 10 = f82_17 := fld_of h82_31
  have hf37 : fld w 82 14 = f82_19 := fld_of h82_31
  have hps_ : fld w 82 10 = 0 ∨ FA w ≠ 0 := hps
  refine xoI (xqc113 hI : cpI 4 80 4294967295 (wget w 113)) (fun g113_38 h113_39 hb40 => ?_)
  have hl41 : f82_19 ≤ 1000 := by omega
  refine xg_t (xg_blq rfl) ?_
  refine xg_t (xg_aload (va := (2, 82)) rfl rfl) ?_
  refine xg_t (xg_getf (va := (0, f82_19)) h82_31 rfl) ?_
  have hn42 := id hb20
  unfold xHid at hn42
  refine xg_t (xg_bip) ?_
  by_cases hc43 : f82_19 < 16
  · refine xg_t (xg_icT (u := f82_19) (v := 16) rfl xnm0 xnm0 (xj_ltT hc43 (by omega))) ?_
    refine xg_t (xg_blq rfl) ?_
    refine xg_t (xg_const) ?_
    refine xg_t (xg_istore (l1 := [(0, (2, 82))]) rfl rfl rfl) ?_
    refine xg_t (xg_aload (va := (2, 82)) rfl rfl) ?_
    refine xg_t (xg_bip) ?_
    refine xg_cVi mX12_takes (vs := [(0, 50)]) (rest := []) (cn1 := 0) (sl1 := 0) rfl (mTakes (hI) (by omega) (PK.rf hps).2.2.2.1) rfl h82_31 rfl rfl rfl rfl rfl rfl (fun n48 w44 hq45 => ?_)
    obtain ⟨hn49, hI46, hF47⟩ := hq45
    clear hb2 hb4 hb6 hb8 hb10 hb12 hb14 hb16 hb18 hb20 hb24 hb26 hb28 hb30
    obtain ⟨hn50, hn51, hn52⟩ := hn49
    have pk53 : PK w w44 := PK.tr (PK.rf hps) hn51
    have ro54 : ∀ l, l < fld w 82 14 → l < 16 → rwv w44 112 (20 * l) = rwv w 112 (20 * l) := fun l hl h6 => (rwv_fr hF47 (by decide)).trans ((fun l _ _ => rfl) l hl h6)
    have hq55 := pk53
    unfold PK PS at hq55
    by_cases hc56 : n48 = 0
    · refine xg_t (xg_ifT (u := n48) rfl xnm0 (xj_eqT hc56)) ?_
      refine xg_t (xg_drop (l1 := [(0, (2, 82)), (1, (0, 0))]) (List.forall_mem_cons.mpr ⟨List.mem_cons_of_mem _ (List.mem_cons_self), List.forall_mem_cons.mpr ⟨List.mem_cons_self, fun _ h => absurd h List.not_mem_nil⟩⟩)) ?_
      refine (mARuleT (hI46) pk53.2.2.2.1 (by omega) (by omega) (by omega) (fun _ => by omega)).imp (fun φ h => ?_)
      obtain ⟨w', e1, e2, e3, e4, e5, e6, e7, e8⟩ := h
      refine ⟨w', e1, e2, ((hF47.up (by decide))).tr (e3.up (by decide)), fun z => e4 (pk53.1 z), e5, ?_, ?_, pk53.2.2.2.2.tr e8⟩
      · have q1 := pk53.2.1
        have q2 := pk53.2.2.1
        rcases e6 with ⟨c1, c2, c3⟩ | ⟨c1, c2⟩
        · exact Or.inl ⟨c1, by omega, by omega⟩
        · exact Or.inr ⟨by omega, by omega⟩
      · rcases e7 with r | r
        · exact Or.inl r
        · refine Or.inr (fun hd => r ⟨by rw [pk53.2.2.1]; exact hd.1, fun l hl => ?_⟩)
          have q2 := pk53.2.2.1
          rw [ro54 l (by omega) (by have := hd.1; omega)]
          exact hd.2 l (by omega)
    · have ms57 : mu w44 < mu w := Nat.lt_of_lt_of_le (hn52 (by omega)) (PK.rf hps).2.1
      refine xg_t (xg_ifF (u := n48) rfl xnm0 (xj_eqF hc56)) ?_
      refine xg_t (xg_const) ?_
      refine xg_t (xg_istore (l1 := [(1, (0, 0)), (0, (2, 82))]) rfl rfl rfl) ?_
      refine xg_t (xg_drop (l1 := [(0, (2, 82)), (1, (0, 0)), (2, (0, 1))]) (List.forall_mem_cons.mpr ⟨List.mem_cons_of_mem _ (List.mem_cons_of_mem _ (List.mem_cons_self)), List.forall_mem_cons.mpr ⟨List.mem_cons_of_mem _ (List.mem_cons_self), List.forall_mem_cons.mpr ⟨List.mem_cons_self, fun _ h => absurd h List.not_mem_nil⟩⟩⟩)) ?_
      have key58 : ∀ (m60 : Nat) (kr mo : Nat) (w61 : List (List xE)), 2 * mu w61 + mo < m60 → kr ≤ 1002 → mo ≤ 1 → xMnv w61 → xFr [82, 83, 112, 113] w w61 → (PK w w61 ∧ (∀ l, l < fld w 82 14 → l < 16 → rwv w61 112 (20 * l) = rwv w 112 (20 * l)) ∧ mu w61 < mu w ∧ (FA w61 ≠ 0 ∨ kr ≤ 4) ∧ kr + mu w61 ≤ 1002 ∧ (mo = 1 → kr + mu w61 ≤ 1001) ∧ (16 ≤ fld w 82 14 → FA w61 ≠ 0)) → xTo (d + 7) mX12_aRule (31, [], [(0, (2, 82)), (1, (0, kr)), (2, (0, mo))], [], (w61, bd, fc, 0, 0, rr)) (fun φ => ∃ w', xEnd 0 [] (w', bd, fc, 0, 0, rr) φ ∧ xMnv w' ∧ xFr [82, 83, 112, 113] w w' ∧ ((FA w ≠ 0 → FA w' ≠ 0) ∧ PS w' ∧ ((fld w' 82 10 = 1 ∧ mu w' ≤ mu w ∧ fld w' 82 14 = fld w 82 14) ∨ (mu w' < mu w ∧ fld w' 82 14 = fld w 82 14 + 1)) ∧ (FA w' ≠ 0 ∨ (RD w → RD w')) ∧ K83 w w')) := by
        intro m60
        induction m60 with
        | zero => intro kr mo w61 hz; exact absurd hz (Nat.not_lt_zero _)
        | succ m60 ih59 =>
          intro kr mo w61 hm67 hn64 hn65 hI62 hF63 he66
          obtain ⟨hz68, hz69, hz70, hz71, hz72, hz73, hz74⟩ := he66
          have hq75 := hz68
          unfold PK PS at hq75
          refine xoCh82 (xqc82 hI62 : cp82 (wget w61 82)) (fun f82_76 f82_78 f82_80 f82_82 f82_84 f82_86 f82_88 f82_90 f82_92 f82_94 f82_96 f82_97 f82_98 f82_100 f82_102 f82_104 h82_106 hb77 hb79 hb81 hb83 hb85 hb87 hb89 hb91 hb93 hb95 hb99 hb101 hb103 hb105 hb107 => ?_)
          refine xg_t (xg_blq rfl) ?_
          refine xg_t (xg_iload (va := (0, mo)) rfl rfl) ?_
          by_cases hc108 : mo = 0
          · refine xg_t (xg_ifT (u := mo) rfl xnm0 (xj_eqT hc108)) ?_
            refine xg_t (xg_blq rfl) ?_
            refine xg_t (xg_aload (va := (2, 82)) rfl rfl) ?_
            refine xg_t (xg_bip) ?_
            refine xg_cVv mX12_must (vs := [(0, 58)]) (rest := []) (cn1 := 0) (sl1 := 0) rfl (mMust (hI62) (by omega) hz68.2.2.2.1) rfl h82_106 rfl rfl rfl rfl rfl rfl (fun w109 hq110 => ?_)
            obtain ⟨hI111, hF112, hx113⟩ := hq110
            clear hb77 hb79 hb81 hb83 hb85 hb87 hb89 hb91 hb93 hb95 hb99 hb101 hb103 hb105
            have pk114 : PK w w109 := PK.tr hz68 hx113
            have ro115 : ∀ l, l < fld w 82 14 → l < 16 → rwv w109 112 (20 * l) = rwv w 112 (20 * l) := fun l hl h6 => (rwv_fr hF112 (by decide)).trans (hz69 l hl h6)
            have hq116 := pk114
            unfold PK PS at hq116
            clear hq75
            have pj117 : PK w61 w109 := PK.tr (PK.rf hz68.2.2.2.1) hx113
            have hq118 := pj117
            unfold PK PS at hq118
            have ms119 : mu w109 < mu w := Nat.lt_of_le_of_lt hx113.2.1 hz70
            refine xg_t (xg_drop (l1 := [(0, (2, 82)), (1, (0, kr))]) (List.forall_mem_cons.mpr ⟨List.mem_cons_self, List.forall_mem_cons.mpr ⟨List.mem_cons_of_mem _ (List.mem_cons_self), fun _ h => absurd h List.not_mem_nil⟩⟩)) ?_
            refine (mARuleT (hI111) pk114.2.2.2.1 (by omega) (by omega) (by omega) (fun _ => by omega)).imp (fun φ h => ?_)
            obtain ⟨w', e1, e2, e3, e4, e5, e6, e7, e8⟩ := h
            refine ⟨w', e1, e2, ((hF63.tr (hF112.up (by decide)))).tr (e3.up (by decide)), fun z => e4 (pk114.1 z), e5, ?_, ?_, pk114.2.2.2.2.tr e8⟩
            · have q1 := pk114.2.1
              have q2 := pk114.2.2.1
              rcases e6 with ⟨c1, c2, c3⟩ | ⟨c1, c2⟩
              · exact Or.inl ⟨c1, by omega, by omega⟩
              · exact Or.inr ⟨by omega, by omega⟩
            · rcases e7 with r | r
              · exact Or.inl r
              · refine Or.inr (fun hd => r ⟨by rw [pk114.2.2.1]; exact hd.1, fun l hl => ?_⟩)
                have q2 := pk114.2.2.1
                rw [ro115 l (by omega) (by have := hd.1; omega)]
                exact hd.2 l (by omega)
          · refine xg_t (xg_ifF (u := mo) rfl xnm0 (xj_eqF hc108)) ?_
            refine xg_t (xg_iload (va := (0, kr)) rfl rfl) ?_
            refine xg_t (xg_const) ?_
            by_cases hc120 : 3 < kr
            · refine xg_t (xg_icF (u := kr) (v := 3) rfl xnm0 xnm0 (xj_leF hc120 (by omega))) ?_
              refine xg_t (xg_aload (va := (2, 82)) rfl rfl) ?_
              refine xg_t (xg_const) ?_
              refine xg_t (xg_aload (va := (2, 82)) rfl rfl) ?_
              refine xg_t (xg_getf (va := (0, f82_84)) h82_106 rfl) ?_
              have hn121 : f82_84 ≤ 4294967295 := hb85
              refine xg_cVv mX12_also (vs := [(0, 3), (0, f82_84)]) (rest := []) (cn1 := 0) (sl1 := 0) rfl (mAlso (hI62) (by omega) (by omega) (by omega) hz68.2.2.2.1) rfl h82_106 rfl rfl rfl rfl rfl rfl (fun w122 hq123 => ?_)
              obtain ⟨hI124, hF125, hx126⟩ := hq123
              obtain ⟨hv128, hv129⟩ := hx126
              have pk127 : PK w61 w122 := ⟨fun _ => hv128, Nat.le_of_eq (mu_fr hF125 (by decide)), fld_fr hF125 (by decide), Or.inr hv128, hv129⟩
              have pk130 : PK w w122 := PK.tr hz68 pk127
              have ro131 : ∀ l, l < fld w 82 14 → l < 16 → rwv w122 112 (20 * l) = rwv w 112 (20 * l) := fun l hl h6 => (rwv_fr hF125 (by decide)).trans (hz69 l hl h6)
              have hq132 := pk130
              unfold PK PS at hq132
              clear hq75
              have pj133 : PK w61 w122 := PK.tr (PK.rf hz68.2.2.2.1) pk127
              have hq134 := pj133
              unfold PK PS at hq134
              have ms135 : mu w122 < mu w := Nat.lt_of_le_of_lt pk127.2.1 hz70
              have fa136 : FA w122 ≠ 0 := hv128
              refine xg_t (xg_blq rfl) ?_
              refine xg_t (xg_aload (va := (2, 82)) rfl rfl) ?_
              refine xg_cVv mX12_aTest (vs := []) (rest := []) (cn1 := 0) (sl1 := 0) rfl (mATest (hI124) pk130.2.2.2.1) rfl (hF125.get (by decide) h82_106) rfl rfl rfl rfl rfl rfl (fun w137 hq138 => ?_)
              obtain ⟨hI139, hF140, hx141⟩ := hq138
              clear hb77 hb79 hb81 hb83 hb85 hb87 hb89 hb91 hb93 hb95 hb99 hb101 hb103 hb105
              have pk142 : PK w w137 := PK.tr pk130 hx141
              have ro143 : ∀ l, l < fld w 82 14 → l < 16 → rwv w137 112 (20 * l) = rwv w 112 (20 * l) := fun l hl h6 => (rwv_fr hF140 (by decide)).trans (ro131 l hl h6)
              have hq144 := pk142
              unfold PK PS at hq144
              clear hq132
              have pj145 : PK w61 w137 := PK.tr pj133 hx141
              have hq146 := pj145
              unfold PK PS at hq146
              clear hq134
              have fa147 : FA w137 ≠ 0 := hx141.1 fa136
              have ms148 : mu w137 < mu w := Nat.lt_of_le_of_lt hx141.2.1 ms135
              refine xg_t (xg_const) ?_
              refine xg_t (xg_istore (l1 := [(0, (2, 82)), (1, (0, kr)), (2, (0, mo))]) rfl rfl rfl) ?_
              refine xg_t (xg_blq rfl) ?_
              refine xg_t (xg_iload (va := (0, 0)) rfl rfl) ?_
              refine xg_t (xg_const) ?_
              refine xg_t (xg_icF (u := 0) (v := 4) rfl xnm0 xnm0 (by decide)) ?_
              refine xg_t (xg_iload (va := (0, kr)) rfl rfl) ?_
              refine xg_t (xg_const) ?_
              refine xg_t (xg_icT (u := kr) (v := 4) rfl xnm0 xnm0 (xj_geT (by omega) (by omega))) ?_
              refine xg_t (xg_blq rfl) ?_
              refine xg_t (xg_iinc (u := kr) (z := kr + 1) (l1 := [(3, (0, 0)), (0, (2, 82)), (2, (0, mo))]) rfl rfl (by omega) rfl) ?_
              refine xg_t (xg_aload (va := (2, 82)) rfl rfl) ?_
              refine xg_t (xg_bip) ?_
              refine xoCh82 (xqc82 hI139 : cp82 (wget w137 82)) (fun f82_149 f82_151 f82_153 f82_155 f82_157 f82_159 f82_161 f82_163 f82_165 f82_167 f82_169 f82_170 f82_171 f82_173 f82_175 f82_177 h82_179 hb150 hb152 hb154 hb156 hb158 hb160 hb162 hb164 hb166 hb168 hb172 hb174 hb176 hb178 hb180 => ?_)
              refine xg_cVi mX12_takes (vs := [(0, 51)]) (rest := []) (cn1 := 0) (sl1 := 0) rfl (mTakes (hI139) (by omega) pk142.2.2.2.1) rfl h82_179 rfl rfl rfl rfl rfl rfl (fun n185 w181 hq182 => ?_)
              obtain ⟨hn186, hI183, hF184⟩ := hq182
              clear hb150 hb152 hb154 hb156 hb158 hb160 hb162 hb164 hb166 hb168 hb172 hb174 hb176 hb178
              obtain ⟨hn187, hn188, hn189⟩ := hn186
              have pk190 : PK w w181 := PK.tr pk142 hn188
              have ro191 : ∀ l, l < fld w 82 14 → l < 16 → rwv w181 112 (20 * l) = rwv w 112 (20 * l) := fun l hl h6 => (rwv_fr hF184 (by decide)).trans (ro143 l hl h6)
              have hq192 := pk190
              unfold PK PS at hq192
              clear hq144
              have pj193 : PK w61 w181 := PK.tr pj145 hn188
              have hq194 := pj193
              unfold PK PS at hq194
              clear hq146
              have fa195 : FA w181 ≠ 0 := hn188.1 fa147
              have ms196 : mu w181 < mu w := Nat.lt_of_le_of_lt hn188.2.1 ms148
              have hu197 : n185 = 1 → mu w181 < mu w61 := fun h => Nat.lt_of_lt_of_le (hn189 h) pj145.2.1
              refine xg_t (xg_istore (l1 := [(1, (0, kr + 1)), (3, (0, 0)), (0, (2, 82))]) rfl rfl rfl) ?_
              refine xg_t (xg_goto) ?_
              refine xg_t (xg_drop (l1 := [(0, (2, 82)), (1, (0, kr + 1)), (2, (0, n185))]) (List.forall_mem_cons.mpr ⟨List.mem_cons_of_mem _ (List.mem_cons_of_mem _ (List.mem_cons_of_mem _ (List.mem_cons_self))), List.forall_mem_cons.mpr ⟨List.mem_cons_of_mem _ (List.mem_cons_self), List.forall_mem_cons.mpr ⟨List.mem_cons_self, fun _ h => absurd h List.not_mem_nil⟩⟩⟩)) ?_
              exact ih59 (kr + 1) n185 w181 (by omega) (by omega) (by omega) (hI183) ((((hF63.tr (hF125.up (by decide))).tr (hF140.up (by decide))).tr (hF184.up (by decide)))) (⟨pk190, ro191, ms196, by omega, by omega, fun _ => by omega, fun h => by omega⟩)
            · refine xg_t (xg_icT (u := kr) (v := 3) rfl xnm0 xnm0 (xj_leT (by omega) (by omega))) ?_
              refine xg_t (xg_blq rfl) ?_
              refine xg_t (xg_aload (va := (2, 82)) rfl rfl) ?_
              refine xg_cVv mX12_aTest (vs := []) (rest := []) (cn1 := 0) (sl1 := 0) rfl (mATest (hI62) hz68.2.2.2.1) rfl h82_106 rfl rfl rfl rfl rfl rfl (fun w198 hq199 => ?_)
              obtain ⟨hI200, hF201, hx202⟩ := hq199
              clear hb77 hb79 hb81 hb83 hb85 hb87 hb89 hb91 hb93 hb95 hb99 hb101 hb103 hb105
              have pk203 : PK w w198 := PK.tr hz68 hx202
              have ro204 : ∀ l, l < fld w 82 14 → l < 16 → rwv w198 112 (20 * l) = rwv w 112 (20 * l) := fun l hl h6 => (rwv_fr hF201 (by decide)).trans (hz69 l hl h6)
              have hq205 := pk203
              unfold PK PS at hq205
              clear hq75
              have pj206 : PK w61 w198 := PK.tr (PK.rf hz68.2.2.2.1) hx202
              have hq207 := pj206
              unfold PK PS at hq207
              have ms208 : mu w198 < mu w := Nat.lt_of_le_of_lt hx202.2.1 hz70
              refine xg_t (xg_const) ?_
              refine xg_t (xg_istore (l1 := [(0, (2, 82)), (1, (0, kr)), (2, (0, mo))]) rfl rfl rfl) ?_
              refine xg_t (xg_blq rfl) ?_
              refine xg_t (xg_iload (va := (0, 0)) rfl rfl) ?_
              refine xg_t (xg_const) ?_
              refine xg_t (xg_icF (u := 0) (v := 4) rfl xnm0 xnm0 (by decide)) ?_
              refine xg_t (xg_iload (va := (0, kr)) rfl rfl) ?_
              refine xg_t (xg_const) ?_
              refine xg_t (xg_icF (u := kr) (v := 4) rfl xnm0 xnm0 (xj_geF (by omega) (by omega))) ?_
              refine xg_t (xg_aload (va := (2, 82)) rfl rfl) ?_
              refine xg_t (xg_const) ?_
              refine xg_t (xg_const) ?_
              refine xg_t (xg_iload (va := (0, kr)) rfl rfl) ?_
              refine xg_t (xg_imul (u := 4) (v := kr) (z := 4 * kr) xnm0 xnm0 (by omega)) ?_
              refine xg_t (xg_iadd (u := 1) (v := 4 * kr) (z := 1 + (4 * kr)) xnm0 xnm0 (by omega)) ?_
              refine xg_t (xg_iload (va := (0, 0)) rfl rfl) ?_
              refine xg_t (xg_iadd (u := 1 + (4 * kr)) (v := 0) (z := (1 + (4 * kr)) + 0) xnm0 xnm0 (by omega)) ?_
              refine xg_t (xg_aload (va := (2, 82)) rfl rfl) ?_
              refine xoCh82 (xqc82 hI200 : cp82 (wget w198 82)) (fun f82_209 f82_211 f82_213 f82_215 f82_217 f82_219 f82_221 f82_223 f82_225 f82_227 f82_229 f82_230 f82_231 f82_233 f82_235 f82_237 h82_239 hb210 hb212 hb214 hb216 hb218 hb220 hb222 hb224 hb226 hb228 hb232 hb234 hb236 hb238 hb240 => ?_)
              refine xg_t (xg_getf (va := (2, 113)) h82_239 rfl) ?_
              refine xg_t (xg_iload (va := (0, 0)) rfl rfl) ?_
              refine xoI (xqc113 hI200 : cpI 4 80 4294967295 (wget w198 113)) (fun g113_241 h113_242 hb243 => ?_)
              refine xg_ialdB (n := 0) (B := 4294967295) h113_242 (hb243) xnm0 (by first | decide | omega) (fun u244 hu245 he246 => ?_)
              have hl247 : fld w198 82 14 = fld w 82 14 := pk203.2.2.1
              have hl248 : fld w198 82 14 ≤ 2000 := by omega
              refine xg_cVv mX12_rulePuts (vs := [(0, (1 + (4 * kr)) + 0), (0, u244)]) (rest := []) (cn1 := 0) (sl1 := 0) rfl (mRulePuts (hI200) (by omega) (by omega) (by omega)) rfl h82_239 rfl rfl rfl rfl rfl rfl (fun w249 hq250 => ?_)
              obtain ⟨hI251, hF252, hx253⟩ := hq250
              have hx254 := hx253
              have pk255 : PK w w249 := PK.tr pk203 (PK.fr hF252 (by decide) (by decide) pk203.2.2.2.1)
              have ro256 : ∀ l, l < fld w 82 14 → l < 16 → rwv w249 112 (20 * l) = rwv w 112 (20 * l) := fun l hl h6 => ((hx254 _ (by omega)).2 (by omega)).trans (ro204 l hl h6)
              have hq257 := pk255
              unfold PK PS at hq257
              clear hq205
              have pj258 : PK w61 w249 := PK.tr pj206 (PK.fr hF252 (by decide) (by decide) pk203.2.2.2.1)
              have hq259 := pj258
              unfold PK PS at hq259
              clear hq207
              have ms260 : mu w249 < mu w := Nat.lt_of_le_of_lt (PK.fr hF252 (by decide) (by decide) pk203.2.2.2.1).2.1 ms208
              refine xg_t (xg_iinc (u := 0) (z := 1) (l1 := [(0, (2, 82)), (1, (0, kr)), (2, (0, mo))]) rfl rfl (by decide) rfl) ?_
              refine xg_t (xg_goto) ?_
              refine xg_t (xg_blq rfl) ?_
              refine xg_t (xg_iload (va := (0, 1)) rfl rfl) ?_
              refine xg_t (xg_const) ?_
              refine xg_t (xg_icF (u := 1) (v := 4) rfl xnm0 xnm0 (by decide)) ?_
              refine xg_t (xg_iload (va := (0, kr)) rfl rfl) ?_
              refine xg_t (xg_const) ?_
              refine xg_t (xg_icF (u := kr) (v := 4) rfl xnm0 xnm0 (xj_geF (by omega) (by omega))) ?_
              refine xg_t (xg_aload (va := (2, 82)) rfl rfl) ?_
              refine xg_t (xg_const) ?_
              refine xg_t (xg_const) ?_
              refine xg_t (xg_iload (va := (0, kr)) rfl rfl) ?_
              refine xg_t (xg_imul (u := 4) (v := kr) (z := 4 * kr) xnm0 xnm0 (by omega)) ?_
              refine xg_t (xg_iadd (u := 1) (v := 4 * kr) (z := 1 + (4 * kr)) xnm0 xnm0 (by omega)) ?_
              refine xg_t (xg_iload (va := (0, 1)) rfl rfl) ?_
              refine xg_t (xg_iadd (u := 1 + (4 * kr)) (v := 1) (z := (1 + (4 * kr)) + 1) xnm0 xnm0 (by omega)) ?_
              refine xg_t (xg_aload (va := (2, 82)) rfl rfl) ?_
              refine xg_t (xg_getf (va := (2, 113)) (hF252.get (by decide) h82_239) rfl) ?_
              refine xg_t (xg_iload (va := (0, 1)) rfl rfl) ?_
              refine xg_ialdB (n := 1) (B := 4294967295) (h113_242.fr hF252 (by decide)) (hb243) xnm0 (by first | decide | omega) (fun u261 hu262 he263 => ?_)
              have hl264 : fld w249 82 14 = fld w 82 14 := pk255.2.2.1
              have hl265 : fld w249 82 14 ≤ 2000 := by omega
              refine xg_cVv mX12_rulePuts (vs := [(0, (1 + (4 * kr)) + 1), (0, u261)]) (rest := []) (cn1 := 0) (sl1 := 0) rfl (mRulePuts (hI251) (by omega) (by omega) (by omega)) rfl (hF252.get (by decide) h82_239) rfl rfl rfl rfl rfl rfl (fun w266 hq267 => ?_)
              obtain ⟨hI268, hF269, hx270⟩ := hq267
              have hx271 := hx270
              have pk272 : PK w w266 := PK.tr pk255 (PK.fr hF269 (by decide) (by decide) pk255.2.2.2.1)
              have ro273 : ∀ l, l < fld w 82 14 → l < 16 → rwv w266 112 (20 * l) = rwv w 112 (20 * l) := fun l hl h6 => ((hx271 _ (by omega)).2 (by omega)).trans (ro256 l hl h6)
              have hq274 := pk272
              unfold PK PS at hq274
              clear hq257
              have pj275 : PK w61 w266 := PK.tr pj258 (PK.fr hF269 (by decide) (by decide) pk255.2.2.2.1)
              have hq276 := pj275
              unfold PK PS at hq276
              clear hq259
              have ms277 : mu w266 < mu w := Nat.lt_of_le_of_lt (PK.fr hF269 (by decide) (by decide) pk255.2.2.2.1).2.1 ms260
              refine xg_t (xg_iinc (u := 1) (z := 2) (l1 := [(0, (2, 82)), (1, (0, kr)), (2, (0, mo))]) rfl rfl (by decide) rfl) ?_
              refine xg_t (xg_goto) ?_
              refine xg_t (xg_blq rfl) ?_
              refine xg_t (xg_iload (va := (0, 2)) rfl rfl) ?_
              refine xg_t (xg_const) ?_
              refine xg_t (xg_icF (u := 2) (v := 4) rfl xnm0 xnm0 (by decide)) ?_
              refine xg_t (xg_iload (va := (0, kr)) rfl rfl) ?_
              refine xg_t (xg_const) ?_
              refine xg_t (xg_icF (u := kr) (v := 4) rfl xnm0 xnm0 (xj_geF (by omega) (by omega))) ?_
              refine xg_t (xg_aload (va := (2, 82)) rfl rfl) ?_
              refine xg_t (xg_const) ?_
              refine xg_t (xg_const) ?_
              refine xg_t (xg_iload (va := (0, kr)) rfl rfl) ?_
              refine xg_t (xg_imul (u := 4) (v := kr) (z := 4 * kr) xnm0 xnm0 (by omega)) ?_
              refine xg_t (xg_iadd (u := 1) (v := 4 * kr) (z := 1 + (4 * kr)) xnm0 xnm0 (by omega)) ?_
              refine xg_t (xg_iload (va := (0, 2)) rfl rfl) ?_
              refine xg_t (xg_iadd (u := 1 + (4 * kr)) (v := 2) (z := (1 + (4 * kr)) + 2) xnm0 xnm0 (by omega)) ?_
              refine xg_t (xg_aload (va := (2, 82)) rfl rfl) ?_
              refine xg_t (xg_getf (va := (2, 113)) (hF269.get (by decide) (hF252.get (by decide) h82_239)) rfl) ?_
              refine xg_t (xg_iload (va := (0, 2)) rfl rfl) ?_
              refine xg_ialdB (n := 2) (B := 4294967295) ((h113_242.fr hF252 (by decide)).fr hF269 (by decide)) (hb243) xnm0 (by first | decide | omega) (fun u278 hu279 he280 => ?_)
              have hl281 : fld w266 82 14 = fld w 82 14 := pk272.2.2.1
              have hl282 : fld w266 82 14 ≤ 2000 := by omega
              refine xg_cVv mX12_rulePuts (vs := [(0, (1 + (4 * kr)) + 2), (0, u278)]) (rest := []) (cn1 := 0) (sl1 := 0) rfl (mRulePuts (hI268) (by omega) (by omega) (by omega)) rfl (hF269.get (by decide) (hF252.get (by decide) h82_239)) rfl rfl rfl rfl rfl rfl (fun w283 hq284 => ?_)
              obtain ⟨hI285, hF286, hx287⟩ := hq284
              have hx288 := hx287
              have pk289 : PK w w283 := PK.tr pk272 (PK.fr hF286 (by decide) (by decide) pk272.2.2.2.1)
              have ro290 : ∀ l, l < fld w 82 14 → l < 16 → rwv w283 112 (20 * l) = rwv w 112 (20 * l) := fun l hl h6 => ((hx288 _ (by omega)).2 (by omega)).trans (ro273 l hl h6)
              have hq291 := pk289
              unfold PK PS at hq291
              clear hq274
              have pj292 : PK w61 w283 := PK.tr pj275 (PK.fr hF286 (by decide) (by decide) pk272.2.2.2.1)
              have hq293 := pj292
              unfold PK PS at hq293
              clear hq276
              have ms294 : mu w283 < mu w := Nat.lt_of_le_of_lt (PK.fr hF286 (by decide) (by decide) pk272.2.2.2.1).2.1 ms277
              refine xg_t (xg_iinc (u := 2) (z := 3) (l1 := [(0, (2, 82)), (1, (0, kr)), (2, (0, mo))]) rfl rfl (by decide) rfl) ?_
              refine xg_t (xg_goto) ?_
              refine xg_t (xg_blq rfl) ?_
              refine xg_t (xg_iload (va := (0, 3)) rfl rfl) ?_
              refine xg_t (xg_const) ?_
              refine xg_t (xg_icF (u := 3) (v := 4) rfl xnm0 xnm0 (by decide)) ?_
              refine xg_t (xg_iload (va := (0, kr)) rfl rfl) ?_
              refine xg_t (xg_const) ?_
              refine xg_t (xg_icF (u := kr) (v := 4) rfl xnm0 xnm0 (xj_geF (by omega) (by omega))) ?_
              refine xg_t (xg_aload (va := (2, 82)) rfl rfl) ?_
              refine xg_t (xg_const) ?_
              refine xg_t (xg_const) ?_
              refine xg_t (xg_iload (va := (0, kr)) rfl rfl) ?_
              refine xg_t (xg_imul (u := 4) (v := kr) (z := 4 * kr) xnm0 xnm0 (by omega)) ?_
              refine xg_t (xg_iadd (u := 1) (v := 4 * kr) (z := 1 + (4 * kr)) xnm0 xnm0 (by omega)) ?_
              refine xg_t (xg_iload (va := (0, 3)) rfl rfl) ?_
              refine xg_t (xg_iadd (u := 1 + (4 * kr)) (v := 3) (z := (1 + (4 * kr)) + 3) xnm0 xnm0 (by omega)) ?_
              refine xg_t (xg_aload (va := (2, 82)) rfl rfl) ?_
              refine xg_t (xg_getf (va := (2, 113)) (hF286.get (by decide) (hF269.get (by decide) (hF252.get (by decide) h82_239))) rfl) ?_
              refine xg_t (xg_iload (va := (0, 3)) rfl rfl) ?_
              refine xg_ialdB (n := 3) (B := 4294967295) (((h113_242.fr hF252 (by decide)).fr hF269 (by decide)).fr hF286 (by decide)) (hb243) xnm0 (by first | decide | omega) (fun u295 hu296 he297 => ?_)
              have hl298 : fld w283 82 14 = fld w 82 14 := pk289.2.2.1
              have hl299 : fld w283 82 14 ≤ 2000 := by omega
              refine xg_cVv mX12_rulePuts (vs := [(0, (1 + (4 * kr)) + 3), (0, u295)]) (rest := []) (cn1 := 0) (sl1 := 0) rfl (mRulePuts (hI285) (by omega) (by omega) (by omega)) rfl (hF286.get (by decide) (hF269.get (by decide) (hF252.get (by decide) h82_239))) rfl rfl rfl rfl rfl rfl (fun w300 hq301 => ?_)
              obtain ⟨hI302, hF303, hx304⟩ := hq301
              have hx305 := hx304
              have pk306 : PK w w300 := PK.tr pk289 (PK.fr hF303 (by decide) (by decide) pk289.2.2.2.1)
              have ro307 : ∀ l, l < fld w 82 14 → l < 16 → rwv w300 112 (20 * l) = rwv w 112 (20 * l) := fun l hl h6 => ((hx305 _ (by omega)).2 (by omega)).trans (ro290 l hl h6)
              have hq308 := pk306
              unfold PK PS at hq308
              clear hq291
              have pj309 : PK w61 w300 := PK.tr pj292 (PK.fr hF303 (by decide) (by decide) pk289.2.2.2.1)
              have hq310 := pj309
              unfold PK PS at hq310
              clear hq293
              have ms311 : mu w300 < mu w := Nat.lt_of_le_of_lt (PK.fr hF303 (by decide) (by decide) pk289.2.2.2.1).2.1 ms294
              refine xg_t (xg_iinc (u := 3) (z := 4) (l1 := [(0, (2, 82)), (1, (0, kr)), (2, (0, mo))]) rfl rfl (by decide) rfl) ?_
              refine xg_t (xg_goto) ?_
              refine xg_t (xg_blq rfl) ?_
              refine xg_t (xg_iload (va := (0, 4)) rfl rfl) ?_
              refine xg_t (xg_const) ?_
              refine xg_t (xg_icT (u := 4) (v := 4) rfl xnm0 xnm0 (by decide)) ?_
              refine xg_t (xg_blq rfl) ?_
              refine xg_t (xg_iinc (u := kr) (z := kr + 1) (l1 := [(3, (0, 4)), (0, (2, 82)), (2, (0, mo))]) rfl rfl (by omega) rfl) ?_
              refine xg_t (xg_aload (va := (2, 82)) rfl rfl) ?_
              refine xg_t (xg_bip) ?_
              refine xg_cVi mX12_takes (vs := [(0, 51)]) (rest := []) (cn1 := 0) (sl1 := 0) rfl (mTakes (hI302) (by omega) pk306.2.2.2.1) rfl (hF303.get (by decide) (hF286.get (by decide) (hF269.get (by decide) (hF252.get (by decide) h82_239)))) rfl rfl rfl rfl rfl rfl (fun n316 w312 hq313 => ?_)
              obtain ⟨hn317, hI314, hF315⟩ := hq313
              clear hb210 hb212 hb214 hb216 hb218 hb220 hb222 hb224 hb226 hb228 hb232 hb234 hb236 hb238
              obtain ⟨hn318, hn319, hn320⟩ := hn317
              have pk321 : PK w w312 := PK.tr pk306 hn319
              have ro322 : ∀ l, l < fld w 82 14 → l < 16 → rwv w312 112 (20 * l) = rwv w 112 (20 * l) := fun l hl h6 => (rwv_fr hF315 (by decide)).trans (ro307 l hl h6)
              have hq323 := pk321
              unfold PK PS at hq323
              clear hq308
              have pj324 : PK w61 w312 := PK.tr pj309 hn319
              have hq325 := pj324
              unfold PK PS at hq325
              clear hq310
              have ms326 : mu w312 < mu w := Nat.lt_of_le_of_lt hn319.2.1 ms311
              have hu327 : n316 = 1 → mu w312 < mu w61 := fun h => Nat.lt_of_lt_of_le (hn320 h) pj309.2.1
              refine xg_t (xg_istore (l1 := [(1, (0, kr + 1)), (3, (0, 4)), (0, (2, 82))]) rfl rfl rfl) ?_
              refine xg_t (xg_goto) ?_
              refine xg_t (xg_drop (l1 := [(0, (2, 82)), (1, (0, kr + 1)), (2, (0, n316))]) (List.forall_mem_cons.mpr ⟨List.mem_cons_of_mem _ (List.mem_cons_of_mem _ (List.mem_cons_of_mem _ (List.mem_cons_self))), List.forall_mem_cons.mpr ⟨List.mem_cons_of_mem _ (List.mem_cons_self), List.forall_mem_cons.mpr ⟨List.mem_cons_self, fun _ h => absurd h List.not_mem_nil⟩⟩⟩)) ?_
              exact ih59 (kr + 1) n316 w312 (by omega) (by omega) (by omega) (hI314) (((((((hF63.tr (hF201.up (by decide))).tr (hF252.up (by decide))).tr (hF269.up (by decide))).tr (hF286.up (by decide))).tr (hF303.up (by decide))).tr (hF315.up (by decide)))) (⟨pk321, ro322, ms326, by omega, by omega, fun _ => by omega, fun h => by omega⟩)
      exact key58 _ 0 1 w44 (Nat.lt_succ_self _) (by omega) (by omega) (hI46) ((hF47.up (by decide))) (⟨pk53, ro54, ms57, by omega, by omega, fun _ => by omega, fun h => by omega⟩)
  · refine xg_t (xg_icF (u := f82_19) (v := 16) rfl xnm0 xnm0 (xj_ltF (by omega) (by omega))) ?_
    refine xg_t (xg_aload (va := (2, 82)) rfl rfl) ?_
    refine xg_t (xg_const) ?_
    refine xg_t (xg_aload (va := (2, 82)) rfl rfl) ?_
    refine xg_t (xg_getf (va := (0, f82_9)) h82_31 rfl) ?_
    have hn328 : f82_9 ≤ 4294967295 := hb10
    refine xg_cVv mX12_also (vs := [(0, 3), (0, f82_9)]) (rest := []) (cn1 := 0) (sl1 := 0) rfl (mAlso (hI) (by omega) (by omega) (by omega) (PK.rf hps).2.2.2.1) rfl h82_31 rfl rfl rfl rfl rfl rfl (fun w329 hq330 => ?_)
    obtain ⟨hI331, hF332, hx333⟩ := hq330
    obtain ⟨hv335, hv336⟩ := hx333
    have pk334 : PK w w329 := ⟨fun _ => hv335, Nat.le_of_eq (mu_fr hF332 (by decide)), fld_fr hF332 (by decide), Or.inr hv335, hv336⟩
    have pk337 : PK w w329 := PK.tr (PK.rf hps) pk334
    have ro338 : ∀ l, l < fld w 82 14 → l < 16 → rwv w329 112 (20 * l) = rwv w 112 (20 * l) := fun l hl h6 => (rwv_fr hF332 (by decide)).trans ((fun l _ _ => rfl) l hl h6)
    have hq339 := pk337
    unfold PK PS at hq339
    have fa340 : FA w329 ≠ 0 := hv335
    refine xg_t (xg_blq rfl) ?_
    refine xg_t (xg_const) ?_
    refine xg_t (xg_istore (l1 := [(0, (2, 82))]) rfl rfl rfl) ?_
    refine xg_t (xg_aload (va := (2, 82)) rfl rfl) ?_
    refine xg_t (xg_bip) ?_
    refine xg_cVi mX12_takes (vs := [(0, 50)]) (rest := []) (cn1 := 0) (sl1 := 0) rfl (mTakes (hI331) (by omega) pk337.2.2.2.1) rfl (hF332.get (by decide) h82_31) rfl rfl rfl rfl rfl rfl (fun n345 w341 hq342 => ?_)
    obtain ⟨hn346, hI343, hF344⟩ := hq342
    clear hb2 hb4 hb6 hb8 hb10 hb12 hb14 hb16 hb18 hb20 hb24 hb26 hb28 hb30
    obtain ⟨hn347, hn348, hn349⟩ := hn346
    have pk350 : PK w w341 := PK.tr pk337 hn348
    have ro351 : ∀ l, l < fld w 82 14 → l < 16 → rwv w341 112 (20 * l) = rwv w 112 (20 * l) := fun l hl h6 => (rwv_fr hF344 (by decide)).trans (ro338 l hl h6)
    have hq352 := pk350
    unfold PK PS at hq352
    clear hq339
    have fa353 : FA w341 ≠ 0 := hn348.1 fa340
    by_cases hc354 : n345 = 0
    · refine xg_t (xg_ifT (u := n345) rfl xnm0 (xj_eqT hc354)) ?_
      refine xg_t (xg_drop (l1 := [(0, (2, 82)), (1, (0, 0))]) (List.forall_mem_cons.mpr ⟨List.mem_cons_of_mem _ (List.mem_cons_self), List.forall_mem_cons.mpr ⟨List.mem_cons_self, fun _ h => absurd h List.not_mem_nil⟩⟩)) ?_
      refine (mARuleT (hI343) pk350.2.2.2.1 (by omega) (by omega) (by omega) (fun _ => by omega)).imp (fun φ h => ?_)
      obtain ⟨w', e1, e2, e3, e4, e5, e6, e7, e8⟩ := h
      refine ⟨w', e1, e2, (((hF332.up (by decide)).tr (hF344.up (by decide)))).tr (e3.up (by decide)), fun z => e4 (pk350.1 z), e5, ?_, ?_, pk350.2.2.2.2.tr e8⟩
      · have q1 := pk350.2.1
        have q2 := pk350.2.2.1
        rcases e6 with ⟨c1, c2, c3⟩ | ⟨c1, c2⟩
        · exact Or.inl ⟨c1, by omega, by omega⟩
        · exact Or.inr ⟨by omega, by omega⟩
      · rcases e7 with r | r
        · exact Or.inl r
        · refine Or.inr (fun hd => r ⟨by rw [pk350.2.2.1]; exact hd.1, fun l hl => ?_⟩)
          have q2 := pk350.2.2.1
          rw [ro351 l (by omega) (by have := hd.1; omega)]
          exact hd.2 l (by omega)
    · have ms355 : mu w341 < mu w := Nat.lt_of_lt_of_le (hn349 (by omega)) pk337.2.1
      refine xg_t (xg_ifF (u := n345) rfl xnm0 (xj_eqF hc354)) ?_
      refine xg_t (xg_const) ?_
      refine xg_t (xg_istore (l1 := [(1, (0, 0)), (0, (2, 82))]) rfl rfl rfl) ?_
      refine xg_t (xg_drop (l1 := [(0, (2, 82)), (1, (0, 0)), (2, (0, 1))]) (List.forall_mem_cons.mpr ⟨List.mem_cons_of_mem _ (List.mem_cons_of_mem _ (List.mem_cons_self)), List.forall_mem_cons.mpr ⟨List.mem_cons_of_mem _ (List.mem_cons_self), List.forall_mem_cons.mpr ⟨List.mem_cons_self, fun _ h => absurd h List.not_mem_nil⟩⟩⟩)) ?_
      have key356 : ∀ (m358 : Nat) (kr mo : Nat) (w359 : List (List xE)), 2 * mu w359 + mo < m358 → kr ≤ 1002 → mo ≤ 1 → xMnv w359 → xFr [82, 83, 112, 113] w w359 → (PK w w359 ∧ (∀ l, l < fld w 82 14 → l < 16 → rwv w359 112 (20 * l) = rwv w 112 (20 * l)) ∧ mu w359 < mu w ∧ (FA w359 ≠ 0 ∨ kr ≤ 4) ∧ kr + mu w359 ≤ 1002 ∧ (mo = 1 → kr + mu w359 ≤ 1001) ∧ (16 ≤ fld w 82 14 → FA w359 ≠ 0)) → xTo (d + 7) mX12_aRule (31, [], [(0, (2, 82)), (1, (0, kr)), (2, (0, mo))], [], (w359, bd, fc, 0, 0, rr)) (fun φ => ∃ w', xEnd 0 [] (w', bd, fc, 0, 0, rr) φ ∧ xMnv w' ∧ xFr [82, 83, 112, 113] w w' ∧ ((FA w ≠ 0 → FA w' ≠ 0) ∧ PS w' ∧ ((fld w' 82 10 = 1 ∧ mu w' ≤ mu w ∧ fld w' 82 14 = fld w 82 14) ∨ (mu w' < mu w ∧ fld w' 82 14 = fld w 82 14 + 1)) ∧ (FA w' ≠ 0 ∨ (RD w → RD w')) ∧ K83 w w')) := by
        intro m358
        induction m358 with
        | zero => intro kr mo w359 hz; exact absurd hz (Nat.not_lt_zero _)
        | succ m358 ih357 =>
          intro kr mo w359 hm365 hn362 hn363 hI360 hF361 he364
          obtain ⟨hz366, hz367, hz368, hz369, hz370, hz371, hz372⟩ := he364
          have hq373 := hz366
          unfold PK PS at hq373
          refine xoCh82 (xqc82 hI360 : cp82 (wget w359 82)) (fun f82_374 f82_376 f82_378 f82_380 f82_382 f82_384 f82_386 f82_388 f82_390 f82_392 f82_394 f82_395 f82_396 f82_398 f82_400 f82_402 h82_404 hb375 hb377 hb379 hb381 hb383 hb385 hb387 hb389 hb391 hb393 hb397 hb399 hb401 hb403 hb405 => ?_)
          refine xg_t (xg_blq rfl) ?_
          refine xg_t (xg_iload (va := (0, mo)) rfl rfl) ?_
          by_cases hc406 : mo = 0
          · refine xg_t (xg_ifT (u := mo) rfl xnm0 (xj_eqT hc406)) ?_
            refine xg_t (xg_blq rfl) ?_
            refine xg_t (xg_aload (va := (2, 82)) rfl rfl) ?_
            refine xg_t (xg_bip) ?_
            refine xg_cVv mX12_must (vs := [(0, 58)]) (rest := []) (cn1 := 0) (sl1 := 0) rfl (mMust (hI360) (by omega) hz366.2.2.2.1) rfl h82_404 rfl rfl rfl rfl rfl rfl (fun w407 hq408 => ?_)
            obtain ⟨hI409, hF410, hx411⟩ := hq408
            clear hb375 hb377 hb379 hb381 hb383 hb385 hb387 hb389 hb391 hb393 hb397 hb399 hb401 hb403
            have pk412 : PK w w407 := PK.tr hz366 hx411
            have ro413 : ∀ l, l < fld w 82 14 → l < 16 → rwv w407 112 (20 * l) = rwv w 112 (20 * l) := fun l hl h6 => (rwv_fr hF410 (by decide)).trans (hz367 l hl h6)
            have hq414 := pk412
            unfold PK PS at hq414
            clear hq373
            have pj415 : PK w359 w407 := PK.tr (PK.rf hz366.2.2.2.1) hx411
            have hq416 := pj415
            unfold PK PS at hq416
            have ms417 : mu w407 < mu w := Nat.lt_of_le_of_lt hx411.2.1 hz368
            refine xg_t (xg_drop (l1 := [(0, (2, 82)), (1, (0, kr))]) (List.forall_mem_cons.mpr ⟨List.mem_cons_self, List.forall_mem_cons.mpr ⟨List.mem_cons_of_mem _ (List.mem_cons_self), fun _ h => absurd h List.not_mem_nil⟩⟩)) ?_
            refine (mARuleT (hI409) pk412.2.2.2.1 (by omega) (by omega) (by omega) (fun _ => by omega)).imp (fun φ h => ?_)
            obtain ⟨w', e1, e2, e3, e4, e5, e6, e7, e8⟩ := h
            refine ⟨w', e1, e2, ((hF361.tr (hF410.up (by decide)))).tr (e3.up (by decide)), fun z => e4 (pk412.1 z), e5, ?_, ?_, pk412.2.2.2.2.tr e8⟩
            · have q1 := pk412.2.1
              have q2 := pk412.2.2.1
              rcases e6 with ⟨c1, c2, c3⟩ | ⟨c1, c2⟩
              · exact Or.inl ⟨c1, by omega, by omega⟩
              · exact Or.inr ⟨by omega, by omega⟩
            · rcases e7 with r | r
              · exact Or.inl r
              · refine Or.inr (fun hd => r ⟨by rw [pk412.2.2.1]; exact hd.1, fun l hl => ?_⟩)
                have q2 := pk412.2.2.1
                rw [ro413 l (by omega) (by have := hd.1; omega)]
                exact hd.2 l (by omega)
          · refine xg_t (xg_ifF (u := mo) rfl xnm0 (xj_eqF hc406)) ?_
            refine xg_t (xg_iload (va := (0, kr)) rfl rfl) ?_
            refine xg_t (xg_const) ?_
            by_cases hc418 : 3 < kr
            · refine xg_t (xg_icF (u := kr) (v := 3) rfl xnm0 xnm0 (xj_leF hc418 (by omega))) ?_
              refine xg_t (xg_aload (va := (2, 82)) rfl rfl) ?_
              refine xg_t (xg_const) ?_
              refine xg_t (xg_aload (va := (2, 82)) rfl rfl) ?_
              refine xg_t (xg_getf (va := (0, f82_382)) h82_404 rfl) ?_
              have hn419 : f82_382 ≤ 4294967295 := hb383
              refine xg_cVv mX12_also (vs := [(0, 3), (0, f82_382)]) (rest := []) (cn1 := 0) (sl1 := 0) rfl (mAlso (hI360) (by omega) (by omega) (by omega) hz366.2.2.2.1) rfl h82_404 rfl rfl rfl rfl rfl rfl (fun w420 hq421 => ?_)
              obtain ⟨hI422, hF423, hx424⟩ := hq421
              obtain ⟨hv426, hv427⟩ := hx424
              have pk425 : PK w359 w420 := ⟨fun _ => hv426, Nat.le_of_eq (mu_fr hF423 (by decide)), fld_fr hF423 (by decide), Or.inr hv426, hv427⟩
              have pk428 : PK w w420 := PK.tr hz366 pk425
              have ro429 : ∀ l, l < fld w 82 14 → l < 16 → rwv w420 112 (20 * l) = rwv w 112 (20 * l) := fun l hl h6 => (rwv_fr hF423 (by decide)).trans (hz367 l hl h6)
              have hq430 := pk428
              unfold PK PS at hq430
              clear hq373
              have pj431 : PK w359 w420 := PK.tr (PK.rf hz366.2.2.2.1) pk425
              have hq432 := pj431
              unfold PK PS at hq432
              have ms433 : mu w420 < mu w := Nat.lt_of_le_of_lt pk425.2.1 hz368
              have fa434 : FA w420 ≠ 0 := hv426
              refine xg_t (xg_blq rfl) ?_
              refine xg_t (xg_aload (va := (2, 82)) rfl rfl) ?_
              refine xg_cVv mX12_aTest (vs := []) (rest := []) (cn1 := 0) (sl1 := 0) rfl (mATest (hI422) pk428.2.2.2.1) rfl (hF423.get (by decide) h82_404) rfl rfl rfl rfl rfl rfl (fun w435 hq436 => ?_)
              obtain ⟨hI437, hF438, hx439⟩ := hq436
              clear hb375 hb377 hb379 hb381 hb383 hb385 hb387 hb389 hb391 hb393 hb397 hb399 hb401 hb403
              have pk440 : PK w w435 := PK.tr pk428 hx439
              have ro441 : ∀ l, l < fld w 82 14 → l < 16 → rwv w435 112 (20 * l) = rwv w 112 (20 * l) := fun l hl h6 => (rwv_fr hF438 (by decide)).trans (ro429 l hl h6)
              have hq442 := pk440
              unfold PK PS at hq442
              clear hq430
              have pj443 : PK w359 w435 := PK.tr pj431 hx439
              have hq444 := pj443
              unfold PK PS at hq444
              clear hq432
              have fa445 : FA w435 ≠ 0 := hx439.1 fa434
              have ms446 : mu w435 < mu w := Nat.lt_of_le_of_lt hx439.2.1 ms433
              refine xg_t (xg_const) ?_
              refine xg_t (xg_istore (l1 := [(0, (2, 82)), (1, (0, kr)), (2, (0, mo))]) rfl rfl rfl) ?_
              refine xg_t (xg_blq rfl) ?_
              refine xg_t (xg_iload (va := (0, 0)) rfl rfl) ?_
              refine xg_t (xg_const) ?_
              refine xg_t (xg_icF (u := 0) (v := 4) rfl xnm0 xnm0 (by decide)) ?_
              refine xg_t (xg_iload (va := (0, kr)) rfl rfl) ?_
              refine xg_t (xg_const) ?_
              refine xg_t (xg_icT (u := kr) (v := 4) rfl xnm0 xnm0 (xj_geT (by omega) (by omega))) ?_
              refine xg_t (xg_blq rfl) ?_
              refine xg_t (xg_iinc (u := kr) (z := kr + 1) (l1 := [(3, (0, 0)), (0, (2, 82)), (2, (0, mo))]) rfl rfl (by omega) rfl) ?_
              refine xg_t (xg_aload (va := (2, 82)) rfl rfl) ?_
              refine xg_t (xg_bip) ?_
              refine xoCh82 (xqc82 hI437 : cp82 (wget w435 82)) (fun f82_447 f82_449 f82_451 f82_453 f82_455 f82_457 f82_459 f82_461 f82_463 f82_465 f82_467 f82_468 f82_469 f82_471 f82_473 f82_475 h82_477 hb448 hb450 hb452 hb454 hb456 hb458 hb460 hb462 hb464 hb466 hb470 hb472 hb474 hb476 hb478 => ?_)
              refine xg_cVi mX12_takes (vs := [(0, 51)]) (rest := []) (cn1 := 0) (sl1 := 0) rfl (mTakes (hI437) (by omega) pk440.2.2.2.1) rfl h82_477 rfl rfl rfl rfl rfl rfl (fun n483 w479 hq480 => ?_)
              obtain ⟨hn484, hI481, hF482⟩ := hq480
              clear hb448 hb450 hb452 hb454 hb456 hb458 hb460 hb462 hb464 hb466 hb470 hb472 hb474 hb476
              obtain ⟨hn485, hn486, hn487⟩ := hn484
              have pk488 : PK w w479 := PK.tr pk440 hn486
              have ro489 : ∀ l, l < fld w 82 14 → l < 16 → rwv w479 112 (20 * l) = rwv w 112 (20 * l) := fun l hl h6 => (rwv_fr hF482 (by decide)).trans (ro441 l hl h6)
              have hq490 := pk488
              unfold PK PS at hq490
              clear hq442
              have pj491 : PK w359 w479 := PK.tr pj443 hn486
              have hq492 := pj491
              unfold PK PS at hq492
              clear hq444
              have fa493 : FA w479 ≠ 0 := hn486.1 fa445
              have ms494 : mu w479 < mu w := Nat.lt_of_le_of_lt hn486.2.1 ms446
              have hu495 : n483 = 1 → mu w479 < mu w359 := fun h => Nat.lt_of_lt_of_le (hn487 h) pj443.2.1
              refine xg_t (xg_istore (l1 := [(1, (0, kr + 1)), (3, (0, 0)), (0, (2, 82))]) rfl rfl rfl) ?_
              refine xg_t (xg_goto) ?_
              refine xg_t (xg_drop (l1 := [(0, (2, 82)), (1, (0, kr + 1)), (2, (0, n483))]) (List.forall_mem_cons.mpr ⟨List.mem_cons_of_mem _ (List.mem_cons_of_mem _ (List.mem_cons_of_mem _ (List.mem_cons_self))), List.forall_mem_cons.mpr ⟨List.mem_cons_of_mem _ (List.mem_cons_self), List.forall_mem_cons.mpr ⟨List.mem_cons_self, fun _ h => absurd h List.not_mem_nil⟩⟩⟩)) ?_
              exact ih357 (kr + 1) n483 w479 (by omega) (by omega) (by omega) (hI481) ((((hF361.tr (hF423.up (by decide))).tr (hF438.up (by decide))).tr (hF482.up (by decide)))) (⟨pk488, ro489, ms494, by omega, by omega, fun _ => by omega, fun h => by omega⟩)
            · refine xg_t (xg_icT (u := kr) (v := 3) rfl xnm0 xnm0 (xj_leT (by omega) (by omega))) ?_
              refine xg_t (xg_blq rfl) ?_
              refine xg_t (xg_aload (va := (2, 82)) rfl rfl) ?_
              refine xg_cVv mX12_aTest (vs := []) (rest := []) (cn1 := 0) (sl1 := 0) rfl (mATest (hI360) hz366.2.2.2.1) rfl h82_404 rfl rfl rfl rfl rfl rfl (fun w496 hq497 => ?_)
              obtain ⟨hI498, hF499, hx500⟩ := hq497
              clear hb375 hb377 hb379 hb381 hb383 hb385 hb387 hb389 hb391 hb393 hb397 hb399 hb401 hb403
              have pk501 : PK w w496 := PK.tr hz366 hx500
              have ro502 : ∀ l, l < fld w 82 14 → l < 16 → rwv w496 112 (20 * l) = rwv w 112 (20 * l) := fun l hl h6 => (rwv_fr hF499 (by decide)).trans (hz367 l hl h6)
              have hq503 := pk501
              unfold PK PS at hq503
              clear hq373
              have pj504 : PK w359 w496 := PK.tr (PK.rf hz366.2.2.2.1) hx500
              have hq505 := pj504
              unfold PK PS at hq505
              have ms506 : mu w496 < mu w := Nat.lt_of_le_of_lt hx500.2.1 hz368
              refine xg_t (xg_const) ?_
              refine xg_t (xg_istore (l1 := [(0, (2, 82)), (1, (0, kr)), (2, (0, mo))]) rfl rfl rfl) ?_
              refine xg_t (xg_blq rfl) ?_
              refine xg_t (xg_iload (va := (0, 0)) rfl rfl) ?_
              refine xg_t (xg_const) ?_
              refine xg_t (xg_icF (u := 0) (v := 4) rfl xnm0 xnm0 (by decide)) ?_
              refine xg_t (xg_iload (va := (0, kr)) rfl rfl) ?_
              refine xg_t (xg_const) ?_
              refine xg_t (xg_icF (u := kr) (v := 4) rfl xnm0 xnm0 (xj_geF (by omega) (by omega))) ?_
              refine xg_t (xg_aload (va := (2, 82)) rfl rfl) ?_
              refine xg_t (xg_const) ?_
              refine xg_t (xg_const) ?_
              refine xg_t (xg_iload (va := (0, kr)) rfl rfl) ?_
              refine xg_t (xg_imul (u := 4) (v := kr) (z := 4 * kr) xnm0 xnm0 (by omega)) ?_
              refine xg_t (xg_iadd (u := 1) (v := 4 * kr) (z := 1 + (4 * kr)) xnm0 xnm0 (by omega)) ?_
              refine xg_t (xg_iload (va := (0, 0)) rfl rfl) ?_
              refine xg_t (xg_iadd (u := 1 + (4 * kr)) (v := 0) (z := (1 + (4 * kr)) + 0) xnm0 xnm0 (by omega)) ?_
              refine xg_t (xg_aload (va := (2, 82)) rfl rfl) ?_
              refine xoCh82 (xqc82 hI498 : cp82 (wget w496 82)) (fun f82_507 f82_509 f82_511 f82_513 f82_515 f82_517 f82_519 f82_521 f82_523 f82_525 f82_527 f82_528 f82_529 f82_531 f82_533 f82_535 h82_537 hb508 hb510 hb512 hb514 hb516 hb518 hb520 hb522 hb524 hb526 hb530 hb532 hb534 hb536 hb538 => ?_)
              refine xg_t (xg_getf (va := (2, 113)) h82_537 rfl) ?_
              refine xg_t (xg_iload (va := (0, 0)) rfl rfl) ?_
              refine xoI (xqc113 hI498 : cpI 4 80 4294967295 (wget w496 113)) (fun g113_539 h113_540 hb541 => ?_)
              refine xg_ialdB (n := 0) (B := 4294967295) h113_540 (hb541) xnm0 (by first | decide | omega) (fun u542 hu543 he544 => ?_)
              have hl545 : fld w496 82 14 = fld w 82 14 := pk501.2.2.1
              have hl546 : fld w496 82 14 ≤ 2000 := by omega
              refine xg_cVv mX12_rulePuts (vs := [(0, (1 + (4 * kr)) + 0), (0, u542)]) (rest := []) (cn1 := 0) (sl1 := 0) rfl (mRulePuts (hI498) (by omega) (by omega) (by omega)) rfl h82_537 rfl rfl rfl rfl rfl rfl (fun w547 hq548 => ?_)
              obtain ⟨hI549, hF550, hx551⟩ := hq548
              have hx552 := hx551
              have pk553 : PK w w547 := PK.tr pk501 (PK.fr hF550 (by decide) (by decide) pk501.2.2.2.1)
              have ro554 : ∀ l, l < fld w 82 14 → l < 16 → rwv w547 112 (20 * l) = rwv w 112 (20 * l) := fun l hl h6 => ((hx552 _ (by omega)).2 (by omega)).trans (ro502 l hl h6)
              have hq555 := pk553
              unfold PK PS at hq555
              clear hq503
              have pj556 : PK w359 w547 := PK.tr pj504 (PK.fr hF550 (by decide) (by decide) pk501.2.2.2.1)
              have hq557 := pj556
              unfold PK PS at hq557
              clear hq505
              have ms558 : mu w547 < mu w := Nat.lt_of_le_of_lt (PK.fr hF550 (by decide) (by decide) pk501.2.2.2.1).2.1 ms506
              refine xg_t (xg_iinc (u := 0) (z := 1) (l1 := [(0, (2, 82)), (1, (0, kr)), (2, (0, mo))]) rfl rfl (by decide) rfl) ?_
              refine xg_t (xg_goto) ?_
              refine xg_t (xg_blq rfl) ?_
              refine xg_t (xg_iload (va := (0, 1)) rfl rfl) ?_
              refine xg_t (xg_const) ?_
              refine xg_t (xg_icF (u := 1) (v := 4) rfl xnm0 xnm0 (by decide)) ?_
              refine xg_t (xg_iload (va := (0, kr)) rfl rfl) ?_
              refine xg_t (xg_const) ?_
              refine xg_t (xg_icF (u := kr) (v := 4) rfl xnm0 xnm0 (xj_geF (by omega) (by omega))) ?_
              refine xg_t (xg_aload (va := (2, 82)) rfl rfl) ?_
              refine xg_t (xg_const) ?_
              refine xg_t (xg_const) ?_
              refine xg_t (xg_iload (va := (0, kr)) rfl rfl) ?_
              refine xg_t (xg_imul (u := 4) (v := kr) (z := 4 * kr) xnm0 xnm0 (by omega)) ?_
              refine xg_t (xg_iadd (u := 1) (v := 4 * kr) (z := 1 + (4 * kr)) xnm0 xnm0 (by omega)) ?_
              refine xg_t (xg_iload (va := (0, 1)) rfl rfl) ?_
              refine xg_t (xg_iadd (u := 1 + (4 * kr)) (v := 1) (z := (1 + (4 * kr)) + 1) xnm0 xnm0 (by omega)) ?_
              refine xg_t (xg_aload (va := (2, 82)) rfl rfl) ?_
              refine xg_t (xg_getf (va := (2, 113)) (hF550.get (by decide) h82_537) rfl) ?_
              refine xg_t (xg_iload (va := (0, 1)) rfl rfl) ?_
              refine xg_ialdB (n := 1) (B := 4294967295) (h113_540.fr hF550 (by decide)) (hb541) xnm0 (by first | decide | omega) (fun u559 hu560 he561 => ?_)
              have hl562 : fld w547 82 14 = fld w 82 14 := pk553.2.2.1
              have hl563 : fld w547 82 14 ≤ 2000 := by omega
              refine xg_cVv mX12_rulePuts (vs := [(0, (1 + (4 * kr)) + 1), (0, u559)]) (rest := []) (cn1 := 0) (sl1 := 0) rfl (mRulePuts (hI549) (by omega) (by omega) (by omega)) rfl (hF550.get (by decide) h82_537) rfl rfl rfl rfl rfl rfl (fun w564 hq565 => ?_)
              obtain ⟨hI566, hF567, hx568⟩ := hq565
              have hx569 := hx568
              have pk570 : PK w w564 := PK.tr pk553 (PK.fr hF567 (by decide) (by decide) pk553.2.2.2.1)
              have ro571 : ∀ l, l < fld w 82 14 → l < 16 → rwv w564 112 (20 * l) = rwv w 112 (20 * l) := fun l hl h6 => ((hx569 _ (by omega)).2 (by omega)).trans (ro554 l hl h6)
              have hq572 := pk570
              unfold PK PS at hq572
              clear hq555
              have pj573 : PK w359 w564 := PK.tr pj556 (PK.fr hF567 (by decide) (by decide) pk553.2.2.2.1)
              have hq574 := pj573
              unfold PK PS at hq574
              clear hq557
              have ms575 : mu w564 < mu w := Nat.lt_of_le_of_lt (PK.fr hF567 (by decide) (by decide) pk553.2.2.2.1).2.1 ms558
              refine xg_t (xg_iinc (u := 1) (z := 2) (l1 := [(0, (2, 82)), (1, (0, kr)), (2, (0, mo))]) rfl rfl (by decide) rfl) ?_
              refine xg_t (xg_goto) ?_
              refine xg_t (xg_blq rfl) ?_
              refine xg_t (xg_iload (va := (0, 2)) rfl rfl) ?_
              refine xg_t (xg_const) ?_
              refine xg_t (xg_icF (u := 2) (v := 4) rfl xnm0 xnm0 (by decide)) ?_
              refine xg_t (xg_iload (va := (0, kr)) rfl rfl) ?_
              refine xg_t (xg_const) ?_
              refine xg_t (xg_icF (u := kr) (v := 4) rfl xnm0 xnm0 (xj_geF (by omega) (by omega))) ?_
              refine xg_t (xg_aload (va := (2, 82)) rfl rfl) ?_
              refine xg_t (xg_const) ?_
              refine xg_t (xg_const) ?_
              refine xg_t (xg_iload (va := (0, kr)) rfl rfl) ?_
              refine xg_t (xg_imul (u := 4) (v := kr) (z := 4 * kr) xnm0 xnm0 (by omega)) ?_
              refine xg_t (xg_iadd (u := 1) (v := 4 * kr) (z := 1 + (4 * kr)) xnm0 xnm0 (by omega)) ?_
              refine xg_t (xg_iload (va := (0, 2)) rfl rfl) ?_
              refine xg_t (xg_iadd (u := 1 + (4 * kr)) (v := 2) (z := (1 + (4 * kr)) + 2) xnm0 xnm0 (by omega)) ?_
              refine xg_t (xg_aload (va := (2, 82)) rfl rfl) ?_
              refine xg_t (xg_getf (va := (2, 113)) (hF567.get (by decide) (hF550.get (by decide) h82_537)) rfl) ?_
              refine xg_t (xg_iload (va := (0, 2)) rfl rfl) ?_
              refine xg_ialdB (n := 2) (B := 4294967295) ((h113_540.fr hF550 (by decide)).fr hF567 (by decide)) (hb541) xnm0 (by first | decide | omega) (fun u576 hu577 he578 => ?_)
              have hl579 : fld w564 82 14 = fld w 82 14 := pk570.2.2.1
              have hl580 : fld w564 82 14 ≤ 2000 := by omega
              refine xg_cVv mX12_rulePuts (vs := [(0, (1 + (4 * kr)) + 2), (0, u576)]) (rest := []) (cn1 := 0) (sl1 := 0) rfl (mRulePuts (hI566) (by omega) (by omega) (by omega)) rfl (hF567.get (by decide) (hF550.get (by decide) h82_537)) rfl rfl rfl rfl rfl rfl (fun w581 hq582 => ?_)
              obtain ⟨hI583, hF584, hx585⟩ := hq582
              have hx586 := hx585
              have pk587 : PK w w581 := PK.tr pk570 (PK.fr hF584 (by decide) (by decide) pk570.2.2.2.1)
              have ro588 : ∀ l, l < fld w 82 14 → l < 16 → rwv w581 112 (20 * l) = rwv w 112 (20 * l) := fun l hl h6 => ((hx586 _ (by omega)).2 (by omega)).trans (ro571 l hl h6)
              have hq589 := pk587
              unfold PK PS at hq589
              clear hq572
              have pj590 : PK w359 w581 := PK.tr pj573 (PK.fr hF584 (by decide) (by decide) pk570.2.2.2.1)
              have hq591 := pj590
              unfold PK PS at hq591
              clear hq574
              have ms592 : mu w581 < mu w := Nat.lt_of_le_of_lt (PK.fr hF584 (by decide) (by decide) pk570.2.2.2.1).2.1 ms575
              refine xg_t (xg_iinc (u := 2) (z := 3) (l1 := [(0, (2, 82)), (1, (0, kr)), (2, (0, mo))]) rfl rfl (by decide) rfl) ?_
              refine xg_t (xg_goto) ?_
              refine xg_t (xg_blq rfl) ?_
              refine xg_t (xg_iload (va := (0, 3)) rfl rfl) ?_
              refine xg_t (xg_const) ?_
              refine xg_t (xg_icF (u := 3) (v := 4) rfl xnm0 xnm0 (by decide)) ?_
              refine xg_t (xg_iload (va := (0, kr)) rfl rfl) ?_
              refine xg_t (xg_const) ?_
              refine xg_t (xg_icF (u := kr) (v := 4) rfl xnm0 xnm0 (xj_geF (by omega) (by omega))) ?_
              refine xg_t (xg_aload (va := (2, 82)) rfl rfl) ?_
              refine xg_t (xg_const) ?_
              refine xg_t (xg_const) ?_
              refine xg_t (xg_iload (va := (0, kr)) rfl rfl) ?_
              refine xg_t (xg_imul (u := 4) (v := kr) (z := 4 * kr) xnm0 xnm0 (by omega)) ?_
              refine xg_t (xg_iadd (u := 1) (v := 4 * kr) (z := 1 + (4 * kr)) xnm0 xnm0 (by omega)) ?_
              refine xg_t (xg_iload (va := (0, 3)) rfl rfl) ?_
              refine xg_t (xg_iadd (u := 1 + (4 * kr)) (v := 3) (z := (1 + (4 * kr)) + 3) xnm0 xnm0 (by omega)) ?_
              refine xg_t (xg_aload (va := (2, 82)) rfl rfl) ?_
              refine xg_t (xg_getf (va := (2, 113)) (hF584.get (by decide) (hF567.get (by decide) (hF550.get (by decide) h82_537))) rfl) ?_
              refine xg_t (xg_iload (va := (0, 3)) rfl rfl) ?_
              refine xg_ialdB (n := 3) (B := 4294967295) (((h113_540.fr hF550 (by decide)).fr hF567 (by decide)).fr hF584 (by decide)) (hb541) xnm0 (by first | decide | omega) (fun u593 hu594 he595 => ?_)
              have hl596 : fld w581 82 14 = fld w 82 14 := pk587.2.2.1
              have hl597 : fld w581 82 14 ≤ 2000 := by omega
              refine xg_cVv mX12_rulePuts (vs := [(0, (1 + (4 * kr)) + 3), (0, u593)]) (rest := []) (cn1 := 0) (sl1 := 0) rfl (mRulePuts (hI583) (by omega) (by omega) (by omega)) rfl (hF584.get (by decide) (hF567.get (by decide) (hF550.get (by decide) h82_537))) rfl rfl rfl rfl rfl rfl (fun w598 hq599 => ?_)
              obtain ⟨hI600, hF601, hx602⟩ := hq599
              have hx603 := hx602
              have pk604 : PK w w598 := PK.tr pk587 (PK.fr hF601 (by decide) (by decide) pk587.2.2.2.1)
              have ro605 : ∀ l, l < fld w 82 14 → l < 16 → rwv w598 112 (20 * l) = rwv w 112 (20 * l) := fun l hl h6 => ((hx603 _ (by omega)).2 (by omega)).trans (ro588 l hl h6)
              have hq606 := pk604
              unfold PK PS at hq606
              clear hq589
              have pj607 : PK w359 w598 := PK.tr pj590 (PK.fr hF601 (by decide) (by decide) pk587.2.2.2.1)
              have hq608 := pj607
              unfold PK PS at hq608
              clear hq591
              have ms609 : mu w598 < mu w := Nat.lt_of_le_of_lt (PK.fr hF601 (by decide) (by decide) pk587.2.2.2.1).2.1 ms592
              refine xg_t (xg_iinc (u := 3) (z := 4) (l1 := [(0, (2, 82)), (1, (0, kr)), (2, (0, mo))]) rfl rfl (by decide) rfl) ?_
              refine xg_t (xg_goto) ?_
              refine xg_t (xg_blq rfl) ?_
              refine xg_t (xg_iload (va := (0, 4)) rfl rfl) ?_
              refine xg_t (xg_const) ?_
              refine xg_t (xg_icT (u := 4) (v := 4) rfl xnm0 xnm0 (by decide)) ?_
              refine xg_t (xg_blq rfl) ?_
              refine xg_t (xg_iinc (u := kr) (z := kr + 1) (l1 := [(3, (0, 4)), (0, (2, 82)), (2, (0, mo))]) rfl rfl (by omega) rfl) ?_
              refine xg_t (xg_aload (va := (2, 82)) rfl rfl) ?_
              refine xg_t (xg_bip) ?_
              refine xg_cVi mX12_takes (vs := [(0, 51)]) (rest := []) (cn1 := 0) (sl1 := 0) rfl (mTakes (hI600) (by omega) pk604.2.2.2.1) rfl (hF601.get (by decide) (hF584.get (by decide) (hF567.get (by decide) (hF550.get (by decide) h82_537)))) rfl rfl rfl rfl rfl rfl (fun n614 w610 hq611 => ?_)
              obtain ⟨hn615, hI612, hF613⟩ := hq611
              clear hb508 hb510 hb512 hb514 hb516 hb518 hb520 hb522 hb524 hb526 hb530 hb532 hb534 hb536
              obtain ⟨hn616, hn617, hn618⟩ := hn615
              have pk619 : PK w w610 := PK.tr pk604 hn617
              have ro620 : ∀ l, l < fld w 82 14 → l < 16 → rwv w610 112 (20 * l) = rwv w 112 (20 * l) := fun l hl h6 => (rwv_fr hF613 (by decide)).trans (ro605 l hl h6)
              have hq621 := pk619
              unfold PK PS at hq621
              clear hq606
              have pj622 : PK w359 w610 := PK.tr pj607 hn617
              have hq623 := pj622
              unfold PK PS at hq623
              clear hq608
              have ms624 : mu w610 < mu w := Nat.lt_of_le_of_lt hn617.2.1 ms609
              have hu625 : n614 = 1 → mu w610 < mu w359 := fun h => Nat.lt_of_lt_of_le (hn618 h) pj607.2.1
              refine xg_t (xg_istore (l1 := [(1, (0, kr + 1)), (3, (0, 4)), (0, (2, 82))]) rfl rfl rfl) ?_
              refine xg_t (xg_goto) ?_
              refine xg_t (xg_drop (l1 := [(0, (2, 82)), (1, (0, kr + 1)), (2, (0, n614))]) (List.forall_mem_cons.mpr ⟨List.mem_cons_of_mem _ (List.mem_cons_of_mem _ (List.mem_cons_of_mem _ (List.mem_cons_self))), List.forall_mem_cons.mpr ⟨List.mem_cons_of_mem _ (List.mem_cons_self), List.forall_mem_cons.mpr ⟨List.mem_cons_self, fun _ h => absurd h List.not_mem_nil⟩⟩⟩)) ?_
              exact ih357 (kr + 1) n614 w610 (by omega) (by omega) (by omega) (hI612) (((((((hF361.tr (hF499.up (by decide))).tr (hF550.up (by decide))).tr (hF567.up (by decide))).tr (hF584.up (by decide))).tr (hF601.up (by decide))).tr (hF613.up (by decide)))) (⟨pk619, ro620, ms624, by omega, by omega, fun _ => by omega, fun h => by omega⟩)
      exact key356 _ 0 1 w341 (Nat.lt_succ_self _) (by omega) (by omega) (hI343) (((hF332.up (by decide)).tr (hF344.up (by decide)))) (⟨pk350, ro351, ms355, by omega, by omega, fun _ => by omega, fun h => by omega⟩)
end XME
end
