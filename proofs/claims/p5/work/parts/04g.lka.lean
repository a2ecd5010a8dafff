theorem lk_0 : xLq RJ6 (3, 36, 1431655765, 0, 265) := ⟨by decide, _, rfl, ⟨rfl, by decide, xtc5 56 rfl rfl⟩⟩
theorem lk_1 : xLq RJ6 (3, 36, 858993459, 0, 266) := ⟨by decide, _, rfl, ⟨rfl, by decide, xtc5 57 rfl rfl⟩⟩
theorem lk_2 : xLq RJ6 (3, 36, 252645135, 0, 267) := ⟨by decide, _, rfl, ⟨rfl, by decide, xtc5 58 rfl rfl⟩⟩
theorem lk_3 : xLq RX0 (3, 1, 0, 0, 39) := ⟨by decide, _, rfl, ⟨rfl, (RX0, TX0, 11), rfl, by decide, xtc2 69 rfl rfl⟩⟩
theorem lk_4 : xLq RX0 (3, 1, 1, 0, 50) := ⟨by decide, _, rfl, ⟨rfl, (RX1, TX1, 10), rfl, by decide, xtc1 73 rfl rfl⟩⟩
theorem lk_5 : xLq RX0 (3, 1, 0, 1, 11) := ⟨by decide, _, rfl, ⟨rfl, (RX0, TX0, 11), rfl, by decide, xtc2 70 rfl rfl⟩⟩
theorem lk_6 : xLq RX0 (3, 13, 285, 40, 60) := ⟨by decide, _, rfl, ⟨rfl, mX5_get, rfl, xtc4 50 rfl rfl, xtc3 202 rfl rfl, xtc3 203 rfl rfl, (RX5, TX5, 4), rfl, rfl⟩⟩
theorem lk_7 : xLq RX0 (3, 1, 0, 5, 27) := ⟨by decide, _, rfl, ⟨rfl, (RX0, TX0, 11), rfl, by decide, xtc2 76 rfl rfl⟩⟩
theorem lk_8 : xLq RX0 (3, 1, 0, 3, 20) := ⟨by decide, _, rfl, ⟨rfl, (RX0, TX0, 11), rfl, by decide, xtc2 73 rfl rfl⟩⟩
theorem lk_9 : xLq RX0 (3, 1, 5, 3, 54) := ⟨by decide, _, rfl, ⟨rfl, (RX5, TX5, 4), rfl, by decide, xtc1 54 rfl rfl⟩⟩
theorem lk_10 : xLq RX0 (3, 13, 16, 0, 139) := ⟨by decide, _, rfl, ⟨rfl, mX0_restWear, rfl, xtc5 239 rfl rfl, xtc4 145 rfl rfl, xtc4 146 rfl rfl, (RX0, TX0, 11), rfl, rfl⟩⟩
theorem lk_11 : xLq RX0 (3, 1, 1, 2, 142) := ⟨by decide, _, rfl, ⟨rfl, (RX1, TX1, 10), rfl, by decide, xtc1 80 rfl rfl⟩⟩
theorem lk_12 : xLq RX0 (3, 13, 21, 0, 145) := ⟨by decide, _, rfl, ⟨rfl, mX0_wear, rfl, xtc6 0 rfl rfl, xtc4 152 rfl rfl, xtc4 153 rfl rfl, (RX0, TX0, 11), rfl, rfl⟩⟩
theorem lk_13 : xLq RX0 (3, 13, 10, 0, 149) := ⟨by decide, _, rfl, ⟨rfl, mX0_isWornOut, rfl, xtc6 1 rfl rfl, xtc4 176 rfl rfl, xtc4 177 rfl rfl, (RX0, TX0, 11), rfl, rfl⟩⟩
theorem lk_14 : xLq RX0 (3, 52, 1000, 0, 72) := ⟨by decide, _, rfl, ⟨rfl, xtc4 64 rfl rfl⟩⟩
theorem lk_15 : xLq RX0 (3, 1, 0, 6, 30) := ⟨by decide, _, rfl, ⟨rfl, (RX0, TX0, 11), rfl, by decide, xtc2 77 rfl rfl⟩⟩
theorem lk_16 : xLq RX0 (3, 75, 0, 0, 66) := ⟨by decide, _, rfl, ⟨rfl, xtc4 52 rfl rfl⟩⟩
theorem lk_17 : xLq RX0 (3, 13, 3, 0, 80) := ⟨by decide, _, rfl, ⟨rfl, mX0_borneBy, rfl, xtc4 90 rfl rfl, xtc4 92 rfl rfl, xtb 11 (by decide +kernel) rfl, (RX0, TX0, 11), rfl, rfl⟩⟩
theorem lk_18 : xLq RX0 (3, 1, 1, 1, 126) := ⟨by decide, _, rfl, ⟨rfl, (RX1, TX1, 10), rfl, by decide, xtc1 77 rfl rfl⟩⟩
theorem lk_19 : xLq RX0 (3, 1, 0, 10, 43) := ⟨by decide, _, rfl, ⟨rfl, (RX0, TX0, 11), rfl, by decide, xtc2 83 rfl rfl⟩⟩
theorem lk_20 : xLq RX0 (3, 13, 12, 0, 92) := ⟨by decide, _, rfl, ⟨rfl, mX0_layAsTold, rfl, xtc4 125 rfl rfl, xtc4 43 rfl rfl, xtc4 44 rfl rfl, (RX0, TX0, 11), rfl, rfl⟩⟩
theorem lk_21 : xLq RX0 (3, 13, 13, 0, 95) := ⟨by decide, _, rfl, ⟨rfl, mX0_leastRound, rfl, xtc4 126 rfl rfl, xtc4 99 rfl rfl, xtc4 100 rfl rfl, (RX0, TX0, 11), rfl, rfl⟩⟩
theorem lk_22 : xLq RX0 (3, 13, 20, 0, 99) := ⟨by decide, _, rfl, ⟨rfl, mX0_takeOrder, rfl, xtc4 127 rfl rfl, xtc4 129 rfl rfl, xtb 12 (by decide +kernel) rfl, (RX0, TX0, 11), rfl, rfl⟩⟩
theorem lk_23 : xLq RX0 (3, 13, 17, 0, 103) := ⟨by decide, _, rfl, ⟨rfl, mX0_stepOrder, rfl, xtc4 132 rfl rfl, xtc4 134 rfl rfl, xtb 13 (by decide +kernel) rfl, (RX0, TX0, 11), rfl, rfl⟩⟩
theorem lk_24 : xLq RX0 (3, 13, 11, 0, 47) := ⟨by decide, _, rfl, ⟨rfl, mX0_lay, rfl, xtc4 46 rfl rfl, xtc4 48 rfl rfl, xtb 10 (by decide +kernel) rfl, (RX0, TX0, 11), rfl, rfl⟩⟩
theorem lk_25 : xLq RX0 (3, 1, 0, 9, 107) := ⟨by decide, _, rfl, ⟨rfl, (RX0, TX0, 11), rfl, by decide, xtc2 81 rfl rfl⟩⟩
theorem lk_26 : xLq RX0 (3, 59, 0, 10, 43) := ⟨by decide, _, rfl, ⟨rfl, (RX0, TX0, 11), .boolean, rfl, by decide, xtc2 83 rfl rfl, rfl, (fun h => by cases h), by decide +kernel, rfl⟩⟩
theorem lk_27 : xLq RX0 (3, 25, 0, 0, 3) := ⟨by decide, _, rfl, ⟨rfl, xtc2 68 rfl rfl⟩⟩
theorem lk_28 : xLq RX0 (3, 61, 0, 1, 11) := ⟨by decide, _, rfl, ⟨rfl, (RX0, TX0, 11), .array .int, rfl, by decide, xtc2 70 rfl rfl, rfl, (fun _ => rfl), by decide +kernel, Or.inr ⟨_, rfl⟩⟩⟩
theorem lk_29 : xLq RX0 (3, 61, 0, 2, 17) := ⟨by decide, _, rfl, ⟨rfl, (RX0, TX0, 11), .array .int, rfl, by decide, xtc2 71 rfl rfl, rfl, (fun _ => rfl), by decide +kernel, Or.inr ⟨_, rfl⟩⟩⟩
theorem lk_30 : xLq RX0 (3, 61, 0, 3, 20) := ⟨by decide, _, rfl, ⟨rfl, (RX0, TX0, 11), .array .int, rfl, by decide, xtc2 73 rfl rfl, rfl, (fun _ => rfl), by decide +kernel, Or.inr ⟨_, rfl⟩⟩⟩
theorem lk_31 : xLq RX0 (3, 61, 0, 4, 23) := ⟨by decide, _, rfl, ⟨rfl, (RX0, TX0, 11), .array .long, rfl, by decide, xtc2 75 rfl rfl, rfl, (fun _ => rfl), by decide +kernel, Or.inr ⟨_, rfl⟩⟩⟩
theorem lk_32 : xLq RX0 (3, 61, 0, 5, 27) := ⟨by decide, _, rfl, ⟨rfl, (RX0, TX0, 11), .array .long, rfl, by decide, xtc2 76 rfl rfl, rfl, (fun _ => rfl), by decide +kernel, Or.inr ⟨_, rfl⟩⟩⟩
theorem lk_33 : xLq RX0 (3, 61, 0, 6, 30) := ⟨by decide, _, rfl, ⟨rfl, (RX0, TX0, 11), .array .long, rfl, by decide, xtc2 77 rfl rfl, rfl, (fun _ => rfl), by decide +kernel, Or.inr ⟨_, rfl⟩⟩⟩
theorem lk_34 : xLq RX0 (3, 61, 0, 7, 33) := ⟨by decide, _, rfl, ⟨rfl, (RX0, TX0, 11), .array .long, rfl, by decide, xtc2 78 rfl rfl, rfl, (fun _ => rfl), by decide +kernel, Or.inr ⟨_, rfl⟩⟩⟩
theorem lk_35 : xLq RX0 (3, 61, 0, 8, 36) := ⟨by decide, _, rfl, ⟨rfl, (RX0, TX0, 11), .array .int, rfl, by decide, xtc2 79 rfl rfl, rfl, (fun _ => rfl), by decide +kernel, Or.inr ⟨_, rfl⟩⟩⟩
theorem lk_36 : xLq RX0 (3, 61, 0, 0, 39) := ⟨by decide, _, rfl, ⟨rfl, (RX0, TX0, 11), .object "BentScreens$Film", rfl, by decide, xtc2 69 rfl rfl, rfl, (fun _ => rfl), by decide +kernel, Or.inl ⟨_, rfl⟩⟩⟩
theorem lk_37 : xLq RX0 (3, 13, 6, 0, 129) := ⟨by decide, _, rfl, ⟨rfl, mX0_commonLife, rfl, xtc4 159 rfl rfl, xtc4 161 rfl rfl, xtb 15 (by decide +kernel) rfl, (RX0, TX0, 11), rfl, rfl⟩⟩
theorem lk_38 : xLq RX0 (3, 13, 22, 0, 133) := ⟨by decide, _, rfl, ⟨rfl, mX0_wholeLives, rfl, xtc4 163 rfl rfl, xtc4 165 rfl rfl, xtb 16 (by decide +kernel) rfl, (RX0, TX0, 11), rfl, rfl⟩⟩
theorem lk_39 : xLq RX0 (3, 13, 15, 0, 136) := ⟨by decide, _, rfl, ⟨rfl, mX0_partLives, rfl, xtc4 167 rfl rfl, xtc4 169 rfl rfl, xtb 17 (by decide +kernel) rfl, (RX0, TX0, 11), rfl, rfl⟩⟩
theorem lk_40 : xLq RX0 (3, 1, 0, 4, 23) := ⟨by decide, _, rfl, ⟨rfl, (RX0, TX0, 11), rfl, by decide, xtc2 75 rfl rfl⟩⟩
theorem lk_41 : xLq RX0 (3, 52, 2, 0, 64) := ⟨by decide, _, rfl, ⟨rfl, xtc4 51 rfl rfl⟩⟩
theorem lk_42 : xLq RX0 (3, 1, 0, 2, 17) := ⟨by decide, _, rfl, ⟨rfl, (RX0, TX0, 11), rfl, by decide, xtc2 71 rfl rfl⟩⟩
theorem lk_43 : xLq RX0 (3, 13, 55, 91, 74) := ⟨by decide, _, rfl, ⟨rfl, mX11_divide, rfl, "BentScreens", List.mem_of_getElem? (i := 910) (by decide +kernel), xtc4 66 rfl rfl⟩⟩
theorem lk_44 : xLq RX0 (3, 76, 0, 0, 84) := ⟨by decide, _, rfl, ⟨rfl, xtc4 102 rfl rfl⟩⟩
theorem lk_45 : xLq RX0 (3, 52, 10000, 0, 87) := ⟨by decide, _, rfl, ⟨rfl, xtc4 105 rfl rfl⟩⟩
theorem lk_46 : xLq RX0 (3, 77, 0, 0, 89) := ⟨by decide, _, rfl, ⟨rfl, xtc4 106 rfl rfl⟩⟩
theorem lk_47 : xLq RX0 (3, 1, 0, 7, 33) := ⟨by decide, _, rfl, ⟨rfl, (RX0, TX0, 11), rfl, by decide, xtc2 78 rfl rfl⟩⟩
theorem lk_48 : xLq RX0 (3, 13, 2, 2, 120) := ⟨by decide, _, rfl, ⟨rfl, mJ7_fill_d0a16, rfl, xtc4 148 rfl rfl, xtc4 149 rfl rfl⟩⟩
theorem lk_49 : xLq RX0 (3, 13, 19, 0, 116) := ⟨by decide, _, rfl, ⟨rfl, mX0_swapPlaces, rfl, xtc4 136 rfl rfl, xtc4 138 rfl rfl, xtb 14 (by decide +kernel) rfl, (RX0, TX0, 11), rfl, rfl⟩⟩
theorem lk_50 : xLq RX0 (3, 52, 1000000, 0, 78) := ⟨by decide, _, rfl, ⟨rfl, xtc4 81 rfl rfl⟩⟩
theorem lk_51 : xLq RX0 (3, 14, 0, 9, 107) := ⟨by decide, _, rfl, ⟨rfl, (RX0, TX0, 11), .int, rfl, by decide, xtc2 81 rfl rfl, rfl, (fun h => by cases h), by decide +kernel, rfl⟩⟩
theorem lk_52 : xLq RX0 (3, 1, 0, 8, 36) := ⟨by decide, _, rfl, ⟨rfl, (RX0, TX0, 11), rfl, by decide, xtc2 79 rfl rfl⟩⟩
theorem lk_53 : xLq RX0 (3, 58, 0, 0, 110) := ⟨by decide, _, rfl, ⟨rfl, xtc4 131 rfl rfl⟩⟩
theorem lk_54 : xLq RX10 (3, 13, 28, 80, 100) := ⟨by decide, _, rfl, ⟨rfl, mX10_explore, rfl, xtc5 1 rfl rfl, xtc5 3 rfl rfl, xtb 23 (by decide +kernel) rfl, (RX10, TX10, 13), rfl, rfl⟩⟩
theorem lk_55 : xLq RX10 (3, 1, 10, 7, 33) := ⟨by decide, _, rfl, ⟨rfl, (RX10, TX10, 13), rfl, by decide, xtc2 121 rfl rfl⟩⟩
theorem lk_56 : xLq RX10 (3, 13, 32, 80, 103) := ⟨by decide, _, rfl, ⟨rfl, mX10_isReached, rfl, xtc5 9 rfl rfl, xtc5 11 rfl rfl, xtb 25 (by decide +kernel) rfl, (RX10, TX10, 13), rfl, rfl⟩⟩
theorem lk_57 : xLq RX10 (3, 1, 10, 8, 36) := ⟨by decide, _, rfl, ⟨rfl, (RX10, TX10, 13), rfl, by decide, xtc2 123 rfl rfl⟩⟩
theorem lk_58 : xLq RX10 (3, 1, 10, 3, 20) := ⟨by decide, _, rfl, ⟨rfl, (RX10, TX10, 13), rfl, by decide, xtc2 117 rfl rfl⟩⟩
theorem lk_59 : xLq RX10 (3, 13, 36, 82, 107) := ⟨by decide, _, rfl, ⟨rfl, mX10_turnFlow, rfl, xtc5 13 rfl rfl, xtc5 14 rfl rfl⟩⟩
theorem lk_60 : xLq RX10 (3, 1, 10, 4, 24) := ⟨by decide, _, rfl, ⟨rfl, (RX10, TX10, 13), rfl, by decide, xtc2 118 rfl rfl⟩⟩
theorem lk_61 : xLq RX10 (3, 1, 10, 5, 27) := ⟨by decide, _, rfl, ⟨rfl, (RX10, TX10, 13), rfl, by decide, xtc2 119 rfl rfl⟩⟩
theorem lk_62 : xLq RX10 (3, 1, 10, 0, 42) := ⟨by decide, _, rfl, ⟨rfl, (RX10, TX10, 13), rfl, by decide, xtc2 114 rfl rfl⟩⟩
theorem lk_63 : xLq RX10 (3, 1, 9, 4, 56) := ⟨by decide, _, rfl, ⟨rfl, (RX9, TX9, 14), rfl, by decide, xtc1 144 rfl rfl⟩⟩
theorem lk_64 : xLq RX10 (3, 1, 1, 8, 66) := ⟨by decide, _, rfl, ⟨rfl, (RX1, TX1, 10), rfl, by decide, xtc1 100 rfl rfl⟩⟩
theorem lk_65 : xLq RX10 (3, 1, 1, 7, 62) := ⟨by decide, _, rfl, ⟨rfl, (RX1, TX1, 10), rfl, by decide, xtc1 95 rfl rfl⟩⟩
theorem lk_66 : xLq RX10 (3, 13, 27, 80, 118) := ⟨by decide, _, rfl, ⟨rfl, mX10_cuts, rfl, xtc5 28 rfl rfl, xtc5 29 rfl rfl, xtc5 30 rfl rfl, (RX10, TX10, 13), rfl, rfl⟩⟩
theorem lk_67 : xLq RX10 (3, 13, 70, 91, 83) := ⟨by decide, _, rfl, ⟨rfl, mX11_isIn, rfl, "BentScreens", List.mem_of_getElem? (i := 1074) (by decide +kernel), xtc3 210 rfl rfl⟩⟩
theorem lk_68 : xLq RX10 (3, 1, 10, 1, 11) := ⟨by decide, _, rfl, ⟨rfl, (RX10, TX10, 13), rfl, by decide, xtc2 115 rfl rfl⟩⟩
theorem lk_69 : xLq RX10 (3, 1, 10, 2, 17) := ⟨by decide, _, rfl, ⟨rfl, (RX10, TX10, 13), rfl, by decide, xtc2 116 rfl rfl⟩⟩
theorem lk_70 : xLq RX10 (3, 13, 1, 2, 87) := ⟨by decide, _, rfl, ⟨rfl, mJ7_fill_53178, rfl, xtc4 234 rfl rfl, xtc4 235 rfl rfl⟩⟩
theorem lk_71 : xLq RX10 (3, 14, 10, 10, 111) := ⟨by decide, _, rfl, ⟨rfl, (RX10, TX10, 13), .int, rfl, by decide, xtc2 125 rfl rfl, rfl, (fun h => by cases h), by decide +kernel, rfl⟩⟩
theorem lk_72 : xLq RX10 (3, 13, 34, 80, 114) := ⟨by decide, _, rfl, ⟨rfl, mX10_reach, rfl, xtc5 5 rfl rfl, xtc5 7 rfl rfl, xtb 24 (by decide +kernel) rfl, (RX10, TX10, 13), rfl, rfl⟩⟩
theorem lk_73 : xLq RX10 (3, 1, 10, 10, 111) := ⟨by decide, _, rfl, ⟨rfl, (RX10, TX10, 13), rfl, by decide, xtc2 125 rfl rfl⟩⟩
theorem lk_74 : xLq RX10 (3, 1, 10, 9, 39) := ⟨by decide, _, rfl, ⟨rfl, (RX10, TX10, 13), rfl, by decide, xtc2 124 rfl rfl⟩⟩
theorem lk_75 : xLq RX10 (3, 1, 10, 6, 30) := ⟨by decide, _, rfl, ⟨rfl, (RX10, TX10, 13), rfl, by decide, xtc2 120 rfl rfl⟩⟩
theorem lk_76 : xLq RX10 (3, 14, 10, 11, 93) := ⟨by decide, _, rfl, ⟨rfl, (RX10, TX10, 13), .int, rfl, by decide, xtc2 126 rfl rfl, rfl, (fun h => by cases h), by decide +kernel, rfl⟩⟩
theorem lk_77 : xLq RX10 (3, 13, 25, 80, 96) := ⟨by decide, _, rfl, ⟨rfl, mX10_addWay, rfl, xtc4 237 rfl rfl, xtc4 239 rfl rfl, xtb 22 (by decide +kernel) rfl, (RX10, TX10, 13), rfl, rfl⟩⟩
theorem lk_78 : xLq RX10 (3, 1, 10, 11, 93) := ⟨by decide, _, rfl, ⟨rfl, (RX10, TX10, 13), rfl, by decide, xtc2 126 rfl rfl⟩⟩
theorem lk_79 : xLq RX10 (3, 59, 10, 12, 46) := ⟨by decide, _, rfl, ⟨rfl, (RX10, TX10, 13), .boolean, rfl, by decide, xtc2 128 rfl rfl, rfl, (fun h => by cases h), by decide +kernel, rfl⟩⟩
theorem lk_80 : xLq RX10 (3, 25, 0, 0, 3) := ⟨by decide, _, rfl, ⟨rfl, xtc2 113 rfl rfl⟩⟩
theorem lk_81 : xLq RX10 (3, 61, 10, 1, 11) := ⟨by decide, _, rfl, ⟨rfl, (RX10, TX10, 13), .array .boolean, rfl, by decide, xtc2 115 rfl rfl, rfl, (fun _ => rfl), by decide +kernel, Or.inr ⟨_, rfl⟩⟩⟩
theorem lk_82 : xLq RX10 (3, 61, 10, 2, 17) := ⟨by decide, _, rfl, ⟨rfl, (RX10, TX10, 13), .array .boolean, rfl, by decide, xtc2 116 rfl rfl, rfl, (fun _ => rfl), by decide +kernel, Or.inr ⟨_, rfl⟩⟩⟩
theorem lk_83 : xLq RX10 (3, 61, 10, 3, 20) := ⟨by decide, _, rfl, ⟨rfl, (RX10, TX10, 13), .array .int, rfl, by decide, xtc2 117 rfl rfl, rfl, (fun _ => rfl), by decide +kernel, Or.inr ⟨_, rfl⟩⟩⟩
theorem lk_84 : xLq RX10 (3, 61, 10, 4, 24) := ⟨by decide, _, rfl, ⟨rfl, (RX10, TX10, 13), .array .int, rfl, by decide, xtc2 118 rfl rfl, rfl, (fun _ => rfl), by decide +kernel, Or.inr ⟨_, rfl⟩⟩⟩
theorem lk_85 : xLq RX10 (3, 61, 10, 5, 27) := ⟨by decide, _, rfl, ⟨rfl, (RX10, TX10, 13), .array .boolean, rfl, by decide, xtc2 119 rfl rfl, rfl, (fun _ => rfl), by decide +kernel, Or.inr ⟨_, rfl⟩⟩⟩
theorem lk_86 : xLq RX10 (3, 61, 10, 6, 30) := ⟨by decide, _, rfl, ⟨rfl, (RX10, TX10, 13), .array .boolean, rfl, by decide, xtc2 120 rfl rfl, rfl, (fun _ => rfl), by decide +kernel, Or.inr ⟨_, rfl⟩⟩⟩
theorem lk_87 : xLq RX10 (3, 61, 10, 7, 33) := ⟨by decide, _, rfl, ⟨rfl, (RX10, TX10, 13), .array .boolean, rfl, by decide, xtc2 121 rfl rfl, rfl, (fun _ => rfl), by decide +kernel, Or.inr ⟨_, rfl⟩⟩⟩
theorem lk_88 : xLq RX10 (3, 61, 10, 8, 36) := ⟨by decide, _, rfl, ⟨rfl, (RX10, TX10, 13), .array .int, rfl, by decide, xtc2 123 rfl rfl, rfl, (fun _ => rfl), by decide +kernel, Or.inr ⟨_, rfl⟩⟩⟩
theorem lk_89 : xLq RX10 (3, 61, 10, 9, 39) := ⟨by decide, _, rfl, ⟨rfl, (RX10, TX10, 13), .array .int, rfl, by decide, xtc2 124 rfl rfl, rfl, (fun _ => rfl), by decide +kernel, Or.inr ⟨_, rfl⟩⟩⟩
theorem lk_90 : xLq RX10 (3, 61, 10, 0, 42) := ⟨by decide, _, rfl, ⟨rfl, (RX10, TX10, 13), .object "BentScreens$Told", rfl, by decide, xtc2 114 rfl rfl, rfl, (fun _ => rfl), by decide +kernel, Or.inl ⟨_, rfl⟩⟩⟩
theorem lk_91 : xLq RX10 (3, 13, 323, 72, 69) := ⟨by decide, _, rfl, ⟨rfl, mX9_cracksInView, rfl, xtc4 227 rfl rfl, xtc4 212 rfl rfl, xtc4 213 rfl rfl, (RX9, TX9, 14), rfl, rfl⟩⟩
theorem lk_92 : xLq RX10 (3, 1, 9, 5, 73) := ⟨by decide, _, rfl, ⟨rfl, (RX9, TX9, 14), rfl, by decide, xtc1 148 rfl rfl⟩⟩
theorem lk_93 : xLq RX10 (3, 13, 285, 40, 77) := ⟨by decide, _, rfl, ⟨rfl, mX5_get, rfl, xtc4 228 rfl rfl, xtc3 202 rfl rfl, xtc3 203 rfl rfl, (RX5, TX5, 4), rfl, rfl⟩⟩
theorem lk_94 : xLq RX10 (3, 1, 10, 12, 46) := ⟨by decide, _, rfl, ⟨rfl, (RX10, TX10, 13), rfl, by decide, xtc2 128 rfl rfl⟩⟩
theorem lk_95 : xLq RX10 (3, 13, 33, 80, 50) := ⟨by decide, _, rfl, ⟨rfl, mX10_layNet, rfl, xtc4 223 rfl rfl, xtc4 225 rfl rfl, xtb 20 (by decide +kernel) rfl, (RX10, TX10, 13), rfl, rfl⟩⟩
theorem lk_96 : xLq RX10 (3, 13, 29, 80, 53) := ⟨by decide, _, rfl, ⟨rfl, mX10_findWays, rfl, xtc4 230 rfl rfl, xtc4 232 rfl rfl, xtb 21 (by decide +kernel) rfl, (RX10, TX10, 13), rfl, rfl⟩⟩
theorem lk_97 : xLq RX11 (3, 13, 70, 90, 238) := ⟨by decide, _, rfl, ⟨rfl, mX11_isIn, rfl, xtc4 75 rfl rfl, xtc3 210 rfl rfl⟩⟩
theorem lk_98 : xLq RX11 (3, 1, 11, 1, 16) := ⟨by decide, _, rfl, ⟨rfl, (RX11, TX11, 11), rfl, by decide, xtc3 16 rfl rfl⟩⟩
theorem lk_99 : xLq RX11 (3, 1, 11, 0, 10) := ⟨by decide, _, rfl, ⟨rfl, (RX11, TX11, 11), rfl, by decide, xtc3 15 rfl rfl⟩⟩
theorem lk_100 : xLq RX11 (3, 13, 322, 72, 378) := ⟨by decide, _, rfl, ⟨rfl, mX9_copy, rfl, xtc6 196 rfl rfl, xtc6 197 rfl rfl, xtc6 198 rfl rfl, (RX9, TX9, 14), rfl, rfl⟩⟩
theorem lk_101 : xLq RX11 (3, 13, 61, 88, 103) := ⟨by decide, _, rfl, ⟨rfl, mX11_forgetFilm, rfl, xtc4 9 rfl rfl, xtc4 11 rfl rfl, xtb 9 (by decide +kernel) rfl, (RX11, TX11, 11), rfl, rfl⟩⟩
theorem lk_102 : xLq RX11 (3, 1, 11, 8, 79) := ⟨by decide, _, rfl, ⟨rfl, (RX11, TX11, 11), rfl, by decide, xtc3 23 rfl rfl⟩⟩
theorem lk_103 : xLq RX11 (3, 13, 272, 32, 326) := ⟨by decide, _, rfl, ⟨rfl, mX4_forget, rfl, xtc6 21 rfl rfl, xtc6 22 rfl rfl, xtc6 23 rfl rfl, (RX4, TX4, 12), rfl, rfl⟩⟩
theorem lk_104 : xLq RX11 (3, 13, 80, 88, 361) := ⟨by decide, _, rfl, ⟨rfl, mX11_measureAll, rfl, xtc6 160 rfl rfl, xtc6 162 rfl rfl, xtb 53 (by decide +kernel) rfl, (RX11, TX11, 11), rfl, rfl⟩⟩
theorem lk_105 : xLq RX11 (3, 13, 72, 88, 364) := ⟨by decide, _, rfl, ⟨rfl, mX11_judgeLines, rfl, xtc6 170 rfl rfl, xtc6 172 rfl rfl, xtb 54 (by decide +kernel) rfl, (RX11, TX11, 11), rfl, rfl⟩⟩
theorem lk_106 : xLq RX11 (3, 1, 9, 12, 367) := ⟨by decide, _, rfl, ⟨rfl, (RX9, TX9, 14), rfl, by decide, xtc1 167 rfl rfl⟩⟩
theorem lk_107 : xLq RX11 (3, 1, 5, 3, 151) := ⟨by decide, _, rfl, ⟨rfl, (RX5, TX5, 4), rfl, by decide, xtc1 60 rfl rfl⟩⟩
theorem lk_108 : xLq RX11 (3, 1, 11, 10, 87) := ⟨by decide, _, rfl, ⟨rfl, (RX11, TX11, 11), rfl, by decide, xtc3 25 rfl rfl⟩⟩
theorem lk_109 : xLq RX11 (3, 13, 285, 40, 132) := ⟨by decide, _, rfl, ⟨rfl, mX5_get, rfl, xtc4 55 rfl rfl, xtc3 202 rfl rfl, xtc3 203 rfl rfl, (RX5, TX5, 4), rfl, rfl⟩⟩
theorem lk_110 : xLq RX11 (3, 1, 9, 4, 38) := ⟨by decide, _, rfl, ⟨rfl, (RX9, TX9, 14), rfl, by decide, xtc1 142 rfl rfl⟩⟩
theorem lk_111 : xLq RX11 (3, 1, 1, 0, 112) := ⟨by decide, _, rfl, ⟨rfl, (RX1, TX1, 10), rfl, by decide, xtc1 74 rfl rfl⟩⟩
theorem lk_112 : xLq RX11 (3, 13, 287, 40, 117) := ⟨by decide, _, rfl, ⟨rfl, mX5_has, rfl, xtc4 41 rfl rfl, xtc3 226 rfl rfl, xtc3 227 rfl rfl, (RX5, TX5, 4), rfl, rfl⟩⟩
theorem lk_113 : xLq RX11 (3, 13, 71, 90, 140) := ⟨by decide, _, rfl, ⟨rfl, mX11_isRound, rfl, xtc4 72 rfl rfl, xtc4 73 rfl rfl⟩⟩
theorem lk_114 : xLq RX11 (3, 1, 11, 4, 45) := ⟨by decide, _, rfl, ⟨rfl, (RX11, TX11, 11), rfl, by decide, xtc3 19 rfl rfl⟩⟩
theorem lk_115 : xLq RX11 (3, 13, 12, 0, 123) := ⟨by decide, _, rfl, ⟨rfl, mX0_layAsTold, rfl, xtc4 42 rfl rfl, xtc4 43 rfl rfl, xtc4 44 rfl rfl, (RX0, TX0, 11), rfl, rfl⟩⟩
theorem lk_116 : xLq RX11 (3, 13, 5, 0, 147) := ⟨by decide, _, rfl, ⟨rfl, mX0_canBear, rfl, xtc4 86 rfl rfl, xtc4 87 rfl rfl, xtc4 88 rfl rfl, (RX0, TX0, 11), rfl, rfl⟩⟩
theorem lk_117 : xLq RX11 (3, 1, 9, 10, 316) := ⟨by decide, _, rfl, ⟨rfl, (RX9, TX9, 14), rfl, by decide, xtc1 162 rfl rfl⟩⟩
theorem lk_118 : xLq RX11 (3, 13, 68, 88, 319) := ⟨by decide, _, rfl, ⟨rfl, mX11_isBroken, rfl, xtc5 230 rfl rfl, xtc5 232 rfl rfl, xtb 42 (by decide +kernel) rfl, (RX11, TX11, 11), rfl, rfl⟩⟩
theorem lk_119 : xLq RX11 (3, 52, 1000, 0, 394) := ⟨by decide, _, rfl, ⟨rfl, xtc6 10 rfl rfl⟩⟩
theorem lk_120 : xLq RX11 (3, 13, 55, 90, 396) := ⟨by decide, _, rfl, ⟨rfl, mX11_divide, rfl, xtc6 11 rfl rfl, xtc4 66 rfl rfl⟩⟩
theorem lk_121 : xLq RX11 (3, 1, 9, 5, 195) := ⟨by decide, _, rfl, ⟨rfl, (RX9, TX9, 14), rfl, by decide, xtc1 149 rfl rfl⟩⟩
theorem lk_122 : xLq RX11 (3, 13, 290, 40, 212) := ⟨by decide, _, rfl, ⟨rfl, mX5_put, rfl, xtc4 206 rfl rfl, xtc3 222 rfl rfl, xtc3 223 rfl rfl, (RX5, TX5, 4), rfl, rfl⟩⟩
theorem lk_123 : xLq RX11 (3, 1, 9, 8, 252) := ⟨by decide, _, rfl, ⟨rfl, (RX9, TX9, 14), rfl, by decide, xtc1 157 rfl rfl⟩⟩
theorem lk_124 : xLq RX11 (3, 1, 9, 6, 186) := ⟨by decide, _, rfl, ⟨rfl, (RX9, TX9, 14), rfl, by decide, xtc1 151 rfl rfl⟩⟩
theorem lk_125 : xLq RX11 (3, 1, 9, 7, 189) := ⟨by decide, _, rfl, ⟨rfl, (RX9, TX9, 14), rfl, by decide, xtc1 153 rfl rfl⟩⟩
theorem lk_126 : xLq RX11 (3, 1, 9, 9, 273) := ⟨by decide, _, rfl, ⟨rfl, (RX9, TX9, 14), rfl, by decide, xtc1 160 rfl rfl⟩⟩
theorem lk_127 : xLq RX11 (3, 1, 9, 11, 72) := ⟨by decide, _, rfl, ⟨rfl, (RX9, TX9, 14), rfl, by decide, xtc1 164 rfl rfl⟩⟩
theorem lk_128 : xLq RX11 (3, 13, 323, 72, 216) := ⟨by decide, _, rfl, ⟨rfl, mX9_cracksInView, rfl, xtc4 211 rfl rfl, xtc4 212 rfl rfl, xtc4 213 rfl rfl, (RX9, TX9, 14), rfl, rfl⟩⟩
theorem lk_129 : xLq RX11 (3, 13, 46, 88, 375) := ⟨by decide, _, rfl, ⟨rfl, mX11_countOfFilm, rfl, xtc6 187 rfl rfl, xtc6 189 rfl rfl, xtb 56 (by decide +kernel) rfl, (RX11, TX11, 11), rfl, rfl⟩⟩
theorem lk_130 : xLq RX11 (3, 1, 1, 7, 225) := ⟨by decide, _, rfl, ⟨rfl, (RX1, TX1, 10), rfl, by decide, xtc1 98 rfl rfl⟩⟩
theorem lk_131 : xLq RX11 (3, 1, 1, 8, 255) := ⟨by decide, _, rfl, ⟨rfl, (RX1, TX1, 10), rfl, by decide, xtc1 103 rfl rfl⟩⟩
theorem lk_132 : xLq RX11 (3, 13, 69, 88, 288) := ⟨by decide, _, rfl, ⟨rfl, mX11_isDark, rfl, xtc5 123 rfl rfl, xtc5 125 rfl rfl, xtb 32 (by decide +kernel) rfl, (RX11, TX11, 11), rfl, rfl⟩⟩
theorem lk_133 : xLq RX11 (3, 1, 1, 5, 297) := ⟨by decide, _, rfl, ⟨rfl, (RX1, TX1, 10), rfl, by decide, xtc1 89 rfl rfl⟩⟩
theorem lk_134 : xLq RX11 (3, 1, 1, 6, 300) := ⟨by decide, _, rfl, ⟨rfl, (RX1, TX1, 10), rfl, by decide, xtc1 93 rfl rfl⟩⟩
theorem lk_135 : xLq RX11 (3, 1, 1, 9, 412) := ⟨by decide, _, rfl, ⟨rfl, (RX1, TX1, 10), rfl, by decide, xtc1 106 rfl rfl⟩⟩
theorem lk_136 : xLq RX11 (3, 13, 243, 8, 415) := ⟨by decide, _, rfl, ⟨rfl, mX1_rowsOf, rfl, xtc6 191 rfl rfl, xtc3 190 rfl rfl, xtc3 191 rfl rfl, (RX1, TX1, 10), rfl, rfl⟩⟩
theorem lk_137 : xLq RX11 (3, 13, 289, 40, 198) := ⟨by decide, _, rfl, ⟨rfl, mX5_isFull, rfl, xtc4 191 rfl rfl, xtc3 194 rfl rfl, xtc3 195 rfl rfl, (RX5, TX5, 4), rfl, rfl⟩⟩
theorem lk_138 : xLq RX11 (3, 13, 63, 88, 201) := ⟨by decide, _, rfl, ⟨rfl, mX11_hasPart, rfl, xtc4 192 rfl rfl, xtc4 194 rfl rfl, xtb 18 (by decide +kernel) rfl, (RX11, TX11, 11), rfl, rfl⟩⟩
theorem lk_139 : xLq RX11 (3, 13, 324, 72, 205) := ⟨by decide, _, rfl, ⟨rfl, mX9_findCrack, rfl, xtc4 200 rfl rfl, xtc4 201 rfl rfl, xtc4 202 rfl rfl, (RX9, TX9, 14), rfl, rfl⟩⟩
theorem lk_140 : xLq RX11 (3, 13, 286, 40, 209) := ⟨by decide, _, rfl, ⟨rfl, mX5_grow, rfl, xtc4 205 rfl rfl, xtc3 217 rfl rfl, xtc3 218 rfl rfl, (RX5, TX5, 4), rfl, rfl⟩⟩
theorem lk_141 : xLq RX11 (3, 1, 11, 5, 52) := ⟨by decide, _, rfl, ⟨rfl, (RX11, TX11, 11), rfl, by decide, xtc3 20 rfl rfl⟩⟩
theorem lk_142 : xLq RX11 (3, 13, 30, 80, 192) := ⟨by decide, _, rfl, ⟨rfl, mX10_forget, rfl, xtc4 17 rfl rfl, xtc4 18 rfl rfl, xtc4 19 rfl rfl, (RX10, TX10, 13), rfl, rfl⟩⟩
theorem lk_143 : xLq RX11 (3, 1, 1, 2, 169) := ⟨by decide, _, rfl, ⟨rfl, (RX1, TX1, 10), rfl, by decide, xtc1 79 rfl rfl⟩⟩
theorem lk_144 : xLq RX11 (3, 13, 16, 0, 172) := ⟨by decide, _, rfl, ⟨rfl, mX0_restWear, rfl, xtc4 144 rfl rfl, xtc4 145 rfl rfl, xtc4 146 rfl rfl, (RX0, TX0, 11), rfl, rfl⟩⟩
theorem lk_145 : xLq RX11 (3, 13, 21, 0, 175) := ⟨by decide, _, rfl, ⟨rfl, mX0_wear, rfl, xtc4 151 rfl rfl, xtc4 152 rfl rfl, xtc4 153 rfl rfl, (RX0, TX0, 11), rfl, rfl⟩⟩
theorem lk_146 : xLq RX11 (3, 13, 10, 0, 182) := ⟨by decide, _, rfl, ⟨rfl, mX0_isWornOut, rfl, xtc4 175 rfl rfl, xtc4 176 rfl rfl, xtc4 177 rfl rfl, (RX0, TX0, 11), rfl, rfl⟩⟩
theorem lk_147 : xLq RX11 (3, 13, 35, 80, 219) := ⟨by decide, _, rfl, ⟨rfl, mX10_refresh, rfl, xtc4 219 rfl rfl, xtc4 220 rfl rfl, xtc4 221 rfl rfl, (RX10, TX10, 13), rfl, rfl⟩⟩
theorem lk_148 : xLq RX11 (3, 1, 10, 11, 222) := ⟨by decide, _, rfl, ⟨rfl, (RX10, TX10, 13), rfl, by decide, xtc2 127 rfl rfl⟩⟩
theorem lk_149 : xLq RX11 (3, 13, 26, 80, 231) := ⟨by decide, _, rfl, ⟨rfl, mX10_countCut, rfl, xtc5 24 rfl rfl, xtc5 25 rfl rfl, xtc5 26 rfl rfl, (RX10, TX10, 13), rfl, rfl⟩⟩
theorem lk_150 : xLq RX11 (3, 13, 64, 88, 261) := ⟨by decide, _, rfl, ⟨rfl, mX11_hasPoint, rfl, xtc4 196 rfl rfl, xtc4 198 rfl rfl, xtb 19 (by decide +kernel) rfl, (RX11, TX11, 11), rfl, rfl⟩⟩
theorem lk_151 : xLq RX11 (3, 1, 11, 6, 59) := ⟨by decide, _, rfl, ⟨rfl, (RX11, TX11, 11), rfl, by decide, xtc3 21 rfl rfl⟩⟩
theorem lk_152 : xLq RX11 (3, 13, 266, 24, 279) := ⟨by decide, _, rfl, ⟨rfl, mX3_refreshDamp, rfl, xtc5 102 rfl rfl, xtc5 103 rfl rfl, xtc5 104 rfl rfl, (RX3, TX3, 6), rfl, rfl⟩⟩
theorem lk_153 : xLq RX11 (3, 1, 3, 2, 282) := ⟨by decide, _, rfl, ⟨rfl, (RX3, TX3, 6), rfl, by decide, xtc2 166 rfl rfl⟩⟩
theorem lk_154 : xLq RX11 (3, 13, 92, 88, 285) := ⟨by decide, _, rfl, ⟨rfl, mX11_refreshLamps, rfl, xtc5 119 rfl rfl, xtc5 121 rfl rfl, xtb 31 (by decide +kernel) rfl, (RX11, TX11, 11), rfl, rfl⟩⟩
theorem lk_155 : xLq RX11 (3, 13, 45, 88, 291) := ⟨by decide, _, rfl, ⟨rfl, mX11_countDark, rfl, xtc5 135 rfl rfl, xtc5 137 rfl rfl, xtb 33 (by decide +kernel) rfl, (RX11, TX11, 11), rfl, rfl⟩⟩
theorem lk_156 : xLq RX11 (3, 14, 9, 6, 186) := ⟨by decide, _, rfl, ⟨rfl, (RX9, TX9, 14), .int, rfl, by decide, xtc1 151 rfl rfl, rfl, (fun h => by cases h), by decide +kernel, rfl⟩⟩
theorem lk_157 : xLq RX11 (3, 1, 9, 1, 91) := ⟨by decide, _, rfl, ⟨rfl, (RX9, TX9, 14), rfl, by decide, xtc1 133 rfl rfl⟩⟩
theorem lk_158 : xLq RX11 (3, 14, 9, 1, 91) := ⟨by decide, _, rfl, ⟨rfl, (RX9, TX9, 14), .int, rfl, by decide, xtc1 133 rfl rfl, rfl, (fun h => by cases h), by decide +kernel, rfl⟩⟩
theorem lk_159 : xLq RX11 (3, 1, 9, 2, 106) := ⟨by decide, _, rfl, ⟨rfl, (RX9, TX9, 14), rfl, by decide, xtc1 138 rfl rfl⟩⟩
theorem lk_160 : xLq RX11 (3, 1, 9, 3, 109) := ⟨by decide, _, rfl, ⟨rfl, (RX9, TX9, 14), rfl, by decide, xtc1 140 rfl rfl⟩⟩
theorem lk_161 : xLq RX11 (3, 1, 10, 7, 228) := ⟨by decide, _, rfl, ⟨rfl, (RX10, TX10, 13), rfl, by decide, xtc2 122 rfl rfl⟩⟩
theorem lk_162 : xLq RX11 (3, 13, 321, 72, 95) := ⟨by decide, _, rfl, ⟨rfl, mX9_append, rfl, xtc3 53 rfl rfl, xtc3 54 rfl rfl, xtc3 55 rfl rfl, (RX9, TX9, 14), rfl, rfl⟩⟩
theorem lk_163 : xLq RX11 (3, 1, 11, 2, 25) := ⟨by decide, _, rfl, ⟨rfl, (RX11, TX11, 11), rfl, by decide, xtc3 17 rfl rfl⟩⟩
theorem lk_164 : xLq RX11 (3, 13, 250, 16, 99) := ⟨by decide, _, rfl, ⟨rfl, mX2_readFilm, rfl, xtc3 65 rfl rfl, xtc3 66 rfl rfl, xtc3 67 rfl rfl, (RX2, TX2, 11), rfl, rfl⟩⟩
theorem lk_165 : xLq RX11 (3, 13, 8, 0, 381) := ⟨by decide, _, rfl, ⟨rfl, mX0_forgetOrder, rfl, xtc4 13 rfl rfl, xtc4 14 rfl rfl, xtc4 15 rfl rfl, (RX0, TX0, 11), rfl, rfl⟩⟩
theorem lk_166 : xLq RX11 (3, 13, 259, 24, 258) := ⟨by decide, _, rfl, ⟨rfl, mX3_forgetAges, rfl, xtc4 21 rfl rfl, xtc4 22 rfl rfl, xtc4 23 rfl rfl, (RX3, TX3, 6), rfl, rfl⟩⟩
theorem lk_167 : xLq RX11 (3, 13, 260, 24, 276) := ⟨by decide, _, rfl, ⟨rfl, mX3_forgetDamp, rfl, xtc4 25 rfl rfl, xtc4 26 rfl rfl, xtc4 27 rfl rfl, (RX3, TX3, 6), rfl, rfl⟩⟩
theorem lk_168 : xLq RX11 (3, 1, 11, 7, 66) := ⟨by decide, _, rfl, ⟨rfl, (RX11, TX11, 11), rfl, by decide, xtc3 22 rfl rfl⟩⟩
theorem lk_169 : xLq RX11 (3, 13, 300, 56, 384) := ⟨by decide, _, rfl, ⟨rfl, mX7_forget, rfl, xtc4 29 rfl rfl, xtc4 30 rfl rfl, xtc4 31 rfl rfl, (RX7, TX7, 5), rfl, rfl⟩⟩
theorem lk_170 : xLq RX11 (3, 24, 9, 0, 7) := ⟨by decide, _, rfl, ⟨rfl, (RX9, TX9, 14), rfl, xtc1 30 rfl rfl, xtc1 31 rfl rfl, xtc1 2 rfl rfl⟩⟩
theorem lk_171 : xLq RX11 (3, 13, 325, 77, 9) := ⟨by decide, _, rfl, ⟨rfl, mX9_init, rfl, "BentScreens", List.mem_of_getElem? (i := 157) (by decide +kernel), rfl, rfl, rfl, xtc1 33 rfl rfl⟩⟩
theorem lk_172 : xLq RX11 (3, 13, 27, 80, 234) := ⟨by decide, _, rfl, ⟨rfl, mX10_cuts, rfl, xtc5 36 rfl rfl, xtc5 29 rfl rfl, xtc5 30 rfl rfl, (RX10, TX10, 13), rfl, rfl⟩⟩
theorem lk_173 : xLq RX11 (3, 25, 0, 0, 1) := ⟨by decide, _, rfl, ⟨rfl, xtc1 27 rfl rfl⟩⟩
theorem lk_174 : xLq RX11 (3, 61, 11, 0, 10) := ⟨by decide, _, rfl, ⟨rfl, (RX11, TX11, 11), .object "BentScreens$Told", rfl, by decide, xtc3 15 rfl rfl, rfl, (fun _ => rfl), by decide +kernel, Or.inl ⟨_, rfl⟩⟩⟩
theorem lk_175 : xLq RX11 (3, 46, 0, 0, 7) := ⟨by decide, _, rfl, ⟨rfl, xtc1 30 rfl rfl⟩⟩
theorem lk_176 : xLq RX11 (3, 61, 11, 1, 16) := ⟨by decide, _, rfl, ⟨rfl, (RX11, TX11, 11), .array (.object "BentScreens$Told"), rfl, by decide, xtc3 16 rfl rfl, rfl, (fun _ => rfl), by decide +kernel, Or.inr ⟨_, rfl⟩⟩⟩
theorem lk_177 : xLq RX11 (3, 24, 2, 0, 20) := ⟨by decide, _, rfl, ⟨rfl, (RX2, TX2, 11), rfl, xtc1 201 rfl rfl, xtc1 202 rfl rfl, xtc1 5 rfl rfl⟩⟩
theorem lk_178 : xLq RX11 (3, 13, 246, 20, 22) := ⟨by decide, _, rfl, ⟨rfl, mX2_init, rfl, xtc1 203 rfl rfl, rfl, rfl, rfl, xtc1 204 rfl rfl⟩⟩
theorem lk_179 : xLq RX11 (3, 61, 11, 2, 25) := ⟨by decide, _, rfl, ⟨rfl, (RX11, TX11, 11), .object "BentScreens$FilmText", rfl, by decide, xtc3 17 rfl rfl, rfl, (fun _ => rfl), by decide +kernel, Or.inl ⟨_, rfl⟩⟩⟩
theorem lk_180 : xLq RX11 (3, 24, 6, 0, 29) := ⟨by decide, _, rfl, ⟨rfl, (RX6, TX6, 6), rfl, xtc2 34 rfl rfl, xtc2 35 rfl rfl, xtc1 7 rfl rfl⟩⟩
theorem lk_181 : xLq RX11 (3, 13, 291, 52, 31) := ⟨by decide, _, rfl, ⟨rfl, mX6_init, rfl, xtc2 36 rfl rfl, rfl, rfl, rfl, xtc2 37 rfl rfl⟩⟩
theorem lk_182 : xLq RX11 (3, 61, 11, 3, 32) := ⟨by decide, _, rfl, ⟨rfl, (RX11, TX11, 11), .object "BentScreens$RulesText", rfl, by decide, xtc3 18 rfl rfl, rfl, (fun _ => rfl), by decide +kernel, Or.inl ⟨_, rfl⟩⟩⟩
theorem lk_183 : xLq RX11 (3, 24, 0, 0, 36) := ⟨by decide, _, rfl, ⟨rfl, (RX0, TX0, 11), rfl, xtc2 63 rfl rfl, xtc2 64 rfl rfl, xtc1 8 rfl rfl⟩⟩
theorem lk_184 : xLq RX11 (3, 13, 9, 4, 42) := ⟨by decide, _, rfl, ⟨rfl, mX0_init, rfl, xtc2 65 rfl rfl, rfl, rfl, rfl, xtc2 66 rfl rfl⟩⟩
theorem lk_185 : xLq RX11 (3, 61, 11, 4, 45) := ⟨by decide, _, rfl, ⟨rfl, (RX11, TX11, 11), .object "BentScreens$Bend", rfl, by decide, xtc3 19 rfl rfl, rfl, (fun _ => rfl), by decide +kernel, Or.inl ⟨_, rfl⟩⟩⟩
theorem lk_186 : xLq RX11 (3, 24, 10, 0, 49) := ⟨by decide, _, rfl, ⟨rfl, (RX10, TX10, 13), rfl, xtc2 108 rfl rfl, xtc2 109 rfl rfl, xtc1 9 rfl rfl⟩⟩
theorem lk_187 : xLq RX11 (3, 13, 31, 84, 51) := ⟨by decide, _, rfl, ⟨rfl, mX10_init, rfl, xtc2 110 rfl rfl, rfl, rfl, rfl, xtc2 111 rfl rfl⟩⟩
theorem lk_188 : xLq RX11 (3, 61, 11, 5, 52) := ⟨by decide, _, rfl, ⟨rfl, (RX11, TX11, 11), .object "BentScreens$Ways", rfl, by decide, xtc3 20 rfl rfl, rfl, (fun _ => rfl), by decide +kernel, Or.inl ⟨_, rfl⟩⟩⟩
theorem lk_189 : xLq RX11 (3, 24, 3, 0, 56) := ⟨by decide, _, rfl, ⟨rfl, (RX3, TX3, 6), rfl, xtc2 157 rfl rfl, xtc2 158 rfl rfl, xtc1 10 rfl rfl⟩⟩
theorem lk_190 : xLq RX11 (3, 13, 261, 28, 58) := ⟨by decide, _, rfl, ⟨rfl, mX3_init, rfl, xtc2 159 rfl rfl, rfl, rfl, rfl, xtc2 160 rfl rfl⟩⟩
theorem lk_191 : xLq RX11 (3, 61, 11, 6, 59) := ⟨by decide, _, rfl, ⟨rfl, (RX11, TX11, 11), .object "BentScreens$Lamps", rfl, by decide, xtc3 21 rfl rfl, rfl, (fun _ => rfl), by decide +kernel, Or.inl ⟨_, rfl⟩⟩⟩
theorem lk_192 : xLq RX11 (3, 24, 7, 0, 63) := ⟨by decide, _, rfl, ⟨rfl, (RX7, TX7, 5), rfl, xtc2 183 rfl rfl, xtc2 184 rfl rfl, xtc1 11 rfl rfl⟩⟩
theorem lk_193 : xLq RX11 (3, 13, 302, 60, 65) := ⟨by decide, _, rfl, ⟨rfl, mX7_init, rfl, xtc2 185 rfl rfl, rfl, rfl, rfl, xtc2 186 rfl rfl⟩⟩
theorem lk_194 : xLq RX11 (3, 61, 11, 7, 66) := ⟨by decide, _, rfl, ⟨rfl, (RX11, TX11, 11), .object "BentScreens$Sheet", rfl, by decide, xtc3 22 rfl rfl, rfl, (fun _ => rfl), by decide +kernel, Or.inl ⟨_, rfl⟩⟩⟩
theorem lk_195 : xLq RX11 (3, 24, 4, 0, 70) := ⟨by decide, _, rfl, ⟨rfl, (RX4, TX4, 12), rfl, xtc2 208 rfl rfl, xtc2 209 rfl rfl, xtc1 12 rfl rfl⟩⟩
theorem lk_196 : xLq RX11 (3, 13, 273, 36, 76) := ⟨by decide, _, rfl, ⟨rfl, mX4_init, rfl, xtc2 210 rfl rfl, rfl, rfl, rfl, xtc2 211 rfl rfl⟩⟩
theorem lk_197 : xLq RX11 (3, 61, 11, 8, 79) := ⟨by decide, _, rfl, ⟨rfl, (RX11, TX11, 11), .object "BentScreens$Laws", rfl, by decide, xtc3 23 rfl rfl, rfl, (fun _ => rfl), by decide +kernel, Or.inl ⟨_, rfl⟩⟩⟩
theorem lk_198 : xLq RX11 (3, 61, 11, 9, 83) := ⟨by decide, _, rfl, ⟨rfl, (RX11, TX11, 11), .array .int, rfl, by decide, xtc3 24 rfl rfl, rfl, (fun _ => rfl), by decide +kernel, Or.inr ⟨_, rfl⟩⟩⟩
theorem lk_199 : xLq RX11 (3, 61, 11, 10, 87) := ⟨by decide, _, rfl, ⟨rfl, (RX11, TX11, 11), .array .boolean, rfl, by decide, xtc3 25 rfl rfl, rfl, (fun _ => rfl), by decide +kernel, Or.inr ⟨_, rfl⟩⟩⟩
theorem lk_200 : xLq RX11 (3, 52, 365, 0, 388) := ⟨by decide, _, rfl, ⟨rfl, xtc5 234 rfl rfl⟩⟩
theorem lk_201 : xLq RX11 (3, 13, 4, 0, 390) := ⟨by decide, _, rfl, ⟨rfl, mX0_breaksBehind, rfl, xtc5 235 rfl rfl, xtc5 236 rfl rfl, xtc5 237 rfl rfl, (RX0, TX0, 11), rfl, rfl⟩⟩
theorem lk_202 : xLq RX11 (3, 13, 263, 24, 267) := ⟨by decide, _, rfl, ⟨rfl, mX3_leftOf, rfl, xtc5 81 rfl rfl, xtc5 82 rfl rfl, xtc5 83 rfl rfl, (RX3, TX3, 6), rfl, rfl⟩⟩
theorem lk_203 : xLq RX11 (3, 13, 262, 24, 385) := ⟨by decide, _, rfl, ⟨rfl, mX3_isDamp, rfl, xtc5 127 rfl rfl, xtc5 128 rfl rfl, xtc5 129 rfl rfl, (RX3, TX3, 6), rfl, rfl⟩⟩
theorem lk_204 : xLq RX11 (3, 1, 9, 13, 406) := ⟨by decide, _, rfl, ⟨rfl, (RX9, TX9, 14), rfl, by decide, xtc1 170 rfl rfl⟩⟩
theorem lk_205 : xLq RX11 (3, 13, 99, 88, 409) := ⟨by decide, _, rfl, ⟨rfl, mX11_testHolds, rfl, xtc6 174 rfl rfl, xtc6 176 rfl rfl, xtb 55 (by decide +kernel) rfl, (RX11, TX11, 11), rfl, rfl⟩⟩
theorem lk_206 : xLq RX11 (3, 13, 276, 32, 327) := ⟨by decide, _, rfl, ⟨rfl, mX4_refresh, rfl, xtc6 29 rfl rfl, xtc6 30 rfl rfl, xtc6 31 rfl rfl, (RX4, TX4, 12), rfl, rfl⟩⟩
theorem lk_207 : xLq RX11 (3, 1, 4, 4, 328) := ⟨by decide, _, rfl, ⟨rfl, (RX4, TX4, 12), rfl, by decide, xtc2 219 rfl rfl⟩⟩
theorem lk_208 : xLq RX11 (3, 13, 265, 24, 264) := ⟨by decide, _, rfl, ⟨rfl, mX3_refreshAges, rfl, xtc5 67 rfl rfl, xtc5 68 rfl rfl, xtc5 69 rfl rfl, (RX3, TX3, 6), rfl, rfl⟩⟩
theorem lk_209 : xLq RX11 (3, 13, 268, 24, 294) := ⟨by decide, _, rfl, ⟨rfl, mX3_roundsWith, rfl, xtc5 143 rfl rfl, xtc5 144 rfl rfl, xtc5 145 rfl rfl, (RX3, TX3, 6), rfl, rfl⟩⟩
theorem lk_210 : xLq RX11 (3, 13, 274, 32, 331) := ⟨by decide, _, rfl, ⟨rfl, mX4_keptAt, rfl, xtc6 48 rfl rfl, xtc6 49 rfl rfl, xtc6 50 rfl rfl, (RX4, TX4, 12), rfl, rfl⟩⟩
theorem lk_211 : xLq RX11 (3, 1, 0, 2, 126) := ⟨by decide, _, rfl, ⟨rfl, (RX0, TX0, 11), rfl, by decide, xtc2 72 rfl rfl⟩⟩
theorem lk_212 : xLq RX11 (3, 1, 0, 3, 129) := ⟨by decide, _, rfl, ⟨rfl, (RX0, TX0, 11), rfl, by decide, xtc2 74 rfl rfl⟩⟩
theorem lk_213 : xLq RX11 (3, 13, 13, 0, 154) := ⟨by decide, _, rfl, ⟨rfl, mX0_leastRound, rfl, xtc4 98 rfl rfl, xtc4 99 rfl rfl, xtc4 100 rfl rfl, (RX0, TX0, 11), rfl, rfl⟩⟩
theorem lk_214 : xLq RX11 (3, 13, 308, 56, 303) := ⟨by decide, _, rfl, ⟨rfl, mX7_refreshWorth, rfl, xtc5 163 rfl rfl, xtc5 164 rfl rfl, xtc5 165 rfl rfl, (RX7, TX7, 5), rfl, rfl⟩⟩
theorem lk_215 : xLq RX11 (3, 1, 11, 9, 83) := ⟨by decide, _, rfl, ⟨rfl, (RX11, TX11, 11), rfl, by decide, xtc3 24 rfl rfl⟩⟩
theorem lk_216 : xLq RX11 (3, 13, 244, 8, 400) := ⟨by decide, _, rfl, ⟨rfl, mX1_slidesAnywhere, rfl, xtc6 164 rfl rfl, xtc6 165 rfl rfl, xtc6 166 rfl rfl, (RX1, TX1, 10), rfl, rfl⟩⟩
theorem lk_217 : xLq RX11 (3, 13, 310, 56, 306) := ⟨by decide, _, rfl, ⟨rfl, mX7_worthOf, rfl, xtc5 194 rfl rfl, xtc5 195 rfl rfl, xtc5 196 rfl rfl, (RX7, TX7, 5), rfl, rfl⟩⟩
theorem lk_218 : xLq RX11 (3, 63, 0, 0, 403) := ⟨by decide, _, rfl, ⟨rfl, xtc6 169 rfl rfl⟩⟩
theorem lk_219 : xLq RX11 (3, 13, 49, 88, 241) := ⟨by decide, _, rfl, ⟨rfl, mX11_cracksToMend, rfl, xtc5 45 rfl rfl, xtc5 47 rfl rfl, xtb 26 (by decide +kernel) rfl, (RX11, TX11, 11), rfl, rfl⟩⟩
theorem lk_220 : xLq RX11 (3, 13, 43, 88, 244) := ⟨by decide, _, rfl, ⟨rfl, mX11_costOf, rfl, xtc5 49 rfl rfl, xtc5 51 rfl rfl, xtb 27 (by decide +kernel) rfl, (RX11, TX11, 11), rfl, rfl⟩⟩
theorem lk_221 : xLq RX11 (3, 13, 0, 2, 247) := ⟨by decide, _, rfl, ⟨rfl, mJ6_bitCount_0f7a4, rfl, xtc5 53 rfl rfl, xtc5 54 rfl rfl⟩⟩
theorem lk_222 : xLq RX11 (3, 13, 14, 0, 136) := ⟨by decide, _, rfl, ⟨rfl, mX0_neutralThousandths, rfl, xtc4 60 rfl rfl, xtc4 61 rfl rfl, xtc4 62 rfl rfl, (RX0, TX0, 11), rfl, rfl⟩⟩
theorem lk_223 : xLq RX11 (3, 13, 277, 32, 346) := ⟨by decide, _, rfl, ⟨rfl, mX4_refreshNext, rfl, xtc6 88 rfl rfl, xtc6 89 rfl rfl, xtc6 90 rfl rfl, (RX4, TX4, 12), rfl, rfl⟩⟩
theorem lk_224 : xLq RX11 (3, 1, 4, 6, 349) := ⟨by decide, _, rfl, ⟨rfl, (RX4, TX4, 12), rfl, by decide, xtc2 222 rfl rfl⟩⟩
theorem lk_225 : xLq RX11 (3, 1, 4, 7, 352) := ⟨by decide, _, rfl, ⟨rfl, (RX4, TX4, 12), rfl, by decide, xtc2 224 rfl rfl⟩⟩
theorem lk_226 : xLq RX11 (3, 1, 4, 8, 355) := ⟨by decide, _, rfl, ⟨rfl, (RX4, TX4, 12), rfl, by decide, xtc2 226 rfl rfl⟩⟩
theorem lk_227 : xLq RX11 (3, 13, 7, 0, 160) := ⟨by decide, _, rfl, ⟨rfl, mX0_findOrder, rfl, xtc4 121 rfl rfl, xtc4 122 rfl rfl, xtc4 123 rfl rfl, (RX0, TX0, 11), rfl, rfl⟩⟩
theorem lk_228 : xLq RX11 (3, 1, 0, 9, 163) := ⟨by decide, _, rfl, ⟨rfl, (RX0, TX0, 11), rfl, by decide, xtc2 82 rfl rfl⟩⟩
theorem lk_229 : xLq RX11 (3, 1, 0, 8, 166) := ⟨by decide, _, rfl, ⟨rfl, (RX0, TX0, 11), rfl, by decide, xtc2 80 rfl rfl⟩⟩
theorem lk_230 : xLq RX11 (3, 13, 307, 56, 310) := ⟨by decide, _, rfl, ⟨rfl, mX7_refreshPlan, rfl, xtc5 202 rfl rfl, xtc5 203 rfl rfl, xtc5 204 rfl rfl, (RX7, TX7, 5), rfl, rfl⟩⟩
theorem lk_231 : xLq RX11 (3, 1, 7, 2, 313) := ⟨by decide, _, rfl, ⟨rfl, (RX7, TX7, 5), rfl, by decide, xtc2 194 rfl rfl⟩⟩
theorem lk_232 : xLq RX11 (3, 62, 0, 0, 370) := ⟨by decide, _, rfl, ⟨rfl, xtc6 182 rfl rfl⟩⟩
theorem lk_233 : xLq RX11 (3, 13, 41, 88, 322) := ⟨by decide, _, rfl, ⟨rfl, mX11_brokenShare, rfl, xtc6 6 rfl rfl, xtc6 8 rfl rfl, xtb 43 (by decide +kernel) rfl, (RX11, TX11, 11), rfl, rfl⟩⟩
theorem lk_234 : xLq RX11 (3, 13, 278, 32, 340) := ⟨by decide, _, rfl, ⟨rfl, mX4_refreshQuarrel, rfl, xtc6 71 rfl rfl, xtc6 72 rfl rfl, xtc6 73 rfl rfl, (RX4, TX4, 12), rfl, rfl⟩⟩
theorem lk_235 : xLq RX11 (3, 13, 275, 32, 343) := ⟨by decide, _, rfl, ⟨rfl, mX4_quarrelAt, rfl, xtc6 80 rfl rfl, xtc6 81 rfl rfl, xtc6 82 rfl rfl, (RX4, TX4, 12), rfl, rfl⟩⟩
theorem lk_236 : xLq RX11 (3, 1, 11, 3, 32) := ⟨by decide, _, rfl, ⟨rfl, (RX11, TX11, 11), rfl, by decide, xtc3 18 rfl rfl⟩⟩
theorem lk_237 : xLq RX11 (3, 13, 295, 48, 358) := ⟨by decide, _, rfl, ⟨rfl, mX6_readRules, rfl, xtc6 101 rfl rfl, xtc6 102 rfl rfl, xtc6 103 rfl rfl, (RX6, TX6, 6), rfl, rfl⟩⟩
theorem lk_238 : xLq RX11 (3, 13, 279, 32, 334) := ⟨by decide, _, rfl, ⟨rfl, mX4_spanEnd, rfl, xtc6 56 rfl rfl, xtc6 57 rfl rfl, xtc6 58 rfl rfl, (RX4, TX4, 12), rfl, rfl⟩⟩
theorem lk_239 : xLq RX11 (3, 13, 280, 32, 337) := ⟨by decide, _, rfl, ⟨rfl, mX4_spanStart, rfl, xtc6 61 rfl rfl, xtc6 62 rfl rfl, xtc6 63 rfl rfl, (RX4, TX4, 12), rfl, rfl⟩⟩
theorem lk_240 : xLq RX11 (2, 35, 2294967296, 0, 143) := ⟨by decide, _, rfl, ⟨rfl, by decide, xtc4 76 rfl rfl⟩⟩
theorem lk_241 : xLq RX11 (3, 13, 18, 0, 144) := ⟨by decide, _, rfl, ⟨rfl, mX0_stretchMillionths, rfl, xtc4 77 rfl rfl, xtc4 78 rfl rfl, xtc4 79 rfl rfl, (RX0, TX0, 11), rfl, rfl⟩⟩
theorem lk_242 : xLq RX11 (3, 36, 999999, 0, 325) := ⟨by decide, _, rfl, ⟨rfl, by decide, xtc6 20 rfl rfl⟩⟩
theorem lk_243 : xLq RX11 (3, 13, 23, 0, 179) := ⟨by decide, _, rfl, ⟨rfl, mX0_wornThousandths, rfl, xtc4 155 rfl rfl, xtc4 156 rfl rfl, xtc4 157 rfl rfl, (RX0, TX0, 11), rfl, rfl⟩⟩
theorem lk_244 : xLq RX11 (3, 13, 264, 24, 270) := ⟨by decide, _, rfl, ⟨rfl, mX3_leftSpread, rfl, xtc5 89 rfl rfl, xtc5 90 rfl rfl, xtc5 91 rfl rfl, (RX3, TX3, 6), rfl, rfl⟩⟩
theorem lk_245 : xLq RX11 (3, 14, 9, 7, 189) := ⟨by decide, _, rfl, ⟨rfl, (RX9, TX9, 14), .int, rfl, by decide, xtc1 153 rfl rfl, rfl, (fun h => by cases h), by decide +kernel, rfl⟩⟩
theorem lk_246 : xLq RX11 (3, 14, 9, 9, 273) := ⟨by decide, _, rfl, ⟨rfl, (RX9, TX9, 14), .int, rfl, by decide, xtc1 160 rfl rfl, rfl, (fun h => by cases h), by decide +kernel, rfl⟩⟩
theorem lk_247 : xLq RX11 (3, 13, 24, 0, 157) := ⟨by decide, _, rfl, ⟨rfl, mX0_worstPlace, rfl, xtc4 113 rfl rfl, xtc4 114 rfl rfl, xtc4 115 rfl rfl, (RX0, TX0, 11), rfl, rfl⟩⟩
theorem lk_248 : xLq RX12 (3, 13, 199, 96, 196) := ⟨by decide, _, rfl, ⟨rfl, mX12_numbered, rfl, xtc7 193 rfl rfl, xtc7 195 rfl rfl, xtb 65 (by decide +kernel) rfl, (RX12, TX12, 47), rfl, rfl⟩⟩
theorem lk_249 : xLq RX12 (3, 13, 211, 96, 200) := ⟨by decide, _, rfl, ⟨rfl, mX12_puts, rfl, xtc7 197 rfl rfl, xtc7 199 rfl rfl, xtb 66 (by decide +kernel) rfl, (RX12, TX12, 47), rfl, rfl⟩⟩
theorem lk_250 : xLq RX12 (3, 1, 12, 10, 180) := ⟨by decide, _, rfl, ⟨rfl, (RX12, TX12, 47), rfl, by decide, xtc6 223 rfl rfl⟩⟩
theorem lk_251 : xLq RX12 (3, 1, 12, 7, 151) := ⟨by decide, _, rfl, ⟨rfl, (RX12, TX12, 47), rfl, by decide, xtc6 220 rfl rfl⟩⟩
theorem lk_252 : xLq RX12 (3, 1, 12, 9, 165) := ⟨by decide, _, rfl, ⟨rfl, (RX12, TX12, 47), rfl, by decide, xtc6 222 rfl rfl⟩⟩
theorem lk_253 : xLq RX12 (3, 13, 140, 96, 183) := ⟨by decide, _, rfl, ⟨rfl, mX12_ends, rfl, xtc7 178 rfl rfl, xtc7 180 rfl rfl, xtb 62 (by decide +kernel) rfl, (RX12, TX12, 47), rfl, rfl⟩⟩
theorem lk_254 : xLq RX12 (3, 13, 110, 96, 190) := ⟨by decide, _, rfl, ⟨rfl, mX12_advance, rfl, xtc7 131 rfl rfl, xtc7 133 rfl rfl, xtb 58 (by decide +kernel) rfl, (RX12, TX12, 47), rfl, rfl⟩⟩
theorem lk_255 : xLq RX12 (3, 1, 12, 6, 148) := ⟨by decide, _, rfl, ⟨rfl, (RX12, TX12, 47), rfl, by decide, xtc6 219 rfl rfl⟩⟩
theorem lk_256 : xLq RX12 (3, 13, 161, 98, 105) := ⟨by decide, _, rfl, ⟨rfl, mX12_isIn, rfl, xtc7 175 rfl rfl, xtc7 176 rfl rfl⟩⟩
theorem lk_257 : xLq RX12 (3, 1, 12, 11, 17) := ⟨by decide, _, rfl, ⟨rfl, (RX12, TX12, 47), rfl, by decide, xtc6 224 rfl rfl⟩⟩
theorem lk_258 : xLq RX12 (3, 13, 194, 98, 193) := ⟨by decide, _, rfl, ⟨rfl, mX12_mostOf, rfl, xtc7 182 rfl rfl, xtc7 183 rfl rfl⟩⟩
theorem lk_259 : xLq RX12 (3, 13, 115, 96, 186) := ⟨by decide, _, rfl, ⟨rfl, mX12_also, rfl, xtc7 185 rfl rfl, xtc7 187 rfl rfl, xtb 63 (by decide +kernel) rfl, (RX12, TX12, 47), rfl, rfl⟩⟩
theorem lk_260 : xLq RX12 (3, 13, 106, 96, 204) := ⟨by decide, _, rfl, ⟨rfl, mX12_aLayer, rfl, xtc7 189 rfl rfl, xtc7 191 rfl rfl, xtb 64 (by decide +kernel) rfl, (RX12, TX12, 47), rfl, rfl⟩⟩
theorem lk_261 : xLq RX12 (3, 13, 167, 96, 208) := ⟨by decide, _, rfl, ⟨rfl, mX12_isLifeTold, rfl, xtc7 201 rfl rfl, xtc7 203 rfl rfl, xtb 67 (by decide +kernel) rfl, (RX12, TX12, 47), rfl, rfl⟩⟩
theorem lk_262 : xLq RX12 (3, 1, 12, 13, 23) := ⟨by decide, _, rfl, ⟨rfl, (RX12, TX12, 47), rfl, by decide, xtc6 226 rfl rfl⟩⟩
theorem lk_263 : xLq RX12 (3, 1, 12, 14, 212) := ⟨by decide, _, rfl, ⟨rfl, (RX12, TX12, 47), rfl, by decide, xtc6 227 rfl rfl⟩⟩
theorem lk_264 : xLq RX12 (3, 14, 12, 14, 212) := ⟨by decide, _, rfl, ⟨rfl, (RX12, TX12, 47), .int, rfl, by decide, xtc6 227 rfl rfl, rfl, (fun h => by cases h), by decide +kernel, rfl⟩⟩
theorem lk_265 : xLq RX12 (3, 13, 227, 96, 415) := ⟨by decide, _, rfl, ⟨rfl, mX12_takes, rfl, xtc9 112 rfl rfl, xtc9 114 rfl rfl, xtb 117 (by decide +kernel) rfl, (RX12, TX12, 47), rfl, rfl⟩⟩
theorem lk_266 : xLq RX12 (3, 13, 109, 96, 421) := ⟨by decide, _, rfl, ⟨rfl, mX12_aTest, rfl, xtc9 116 rfl rfl, xtc9 118 rfl rfl, xtb 118 (by decide +kernel) rfl, (RX12, TX12, 47), rfl, rfl⟩⟩
theorem lk_267 : xLq RX12 (3, 1, 12, 46, 102) := ⟨by decide, _, rfl, ⟨rfl, (RX12, TX12, 47), rfl, by decide, xtc7 19 rfl rfl⟩⟩
theorem lk_268 : xLq RX12 (3, 13, 214, 96, 424) := ⟨by decide, _, rfl, ⟨rfl, mX12_rulePuts, rfl, xtc9 124 rfl rfl, xtc9 126 rfl rfl, xtb 120 (by decide +kernel) rfl, (RX12, TX12, 47), rfl, rfl⟩⟩
theorem lk_269 : xLq RX12 (3, 13, 195, 96, 427) := ⟨by decide, _, rfl, ⟨rfl, mX12_must, rfl, xtc9 128 rfl rfl, xtc9 130 rfl rfl, xtb 121 (by decide +kernel) rfl, (RX12, TX12, 47), rfl, rfl⟩⟩
theorem lk_270 : xLq RX12 (3, 13, 198, 96, 418) := ⟨by decide, _, rfl, ⟨rfl, mX12_numberNow, rfl, xtc9 120 rfl rfl, xtc9 122 rfl rfl, xtb 119 (by decide +kernel) rfl, (RX12, TX12, 47), rfl, rfl⟩⟩
theorem lk_271 : xLq RX12 (3, 1, 12, 3, 174) := ⟨by decide, _, rfl, ⟨rfl, (RX12, TX12, 47), rfl, by decide, xtc6 216 rfl rfl⟩⟩
theorem lk_272 : xLq RX12 (3, 1, 12, 5, 141) := ⟨by decide, _, rfl, ⟨rfl, (RX12, TX12, 47), rfl, by decide, xtc6 218 rfl rfl⟩⟩
theorem lk_273 : xLq RX12 (3, 13, 125, 96, 144) := ⟨by decide, _, rfl, ⟨rfl, mX12_byteAt, rfl, xtc7 135 rfl rfl, xtc7 137 rfl rfl, xtb 59 (by decide +kernel) rfl, (RX12, TX12, 47), rfl, rfl⟩⟩
theorem lk_274 : xLq RX12 (3, 14, 12, 5, 141) := ⟨by decide, _, rfl, ⟨rfl, (RX12, TX12, 47), .int, rfl, by decide, xtc6 218 rfl rfl, rfl, (fun h => by cases h), by decide +kernel, rfl⟩⟩
theorem lk_275 : xLq RX12 (3, 14, 12, 6, 148) := ⟨by decide, _, rfl, ⟨rfl, (RX12, TX12, 47), .int, rfl, by decide, xtc6 219 rfl rfl, rfl, (fun h => by cases h), by decide +kernel, rfl⟩⟩
theorem lk_276 : xLq RX12 (3, 14, 12, 7, 151) := ⟨by decide, _, rfl, ⟨rfl, (RX12, TX12, 47), .int, rfl, by decide, xtc6 220 rfl rfl, rfl, (fun h => by cases h), by decide +kernel, rfl⟩⟩
theorem lk_277 : xLq RX12 (3, 13, 166, 98, 154) := ⟨by decide, _, rfl, ⟨rfl, mX12_isLetter, rfl, xtc7 139 rfl rfl, xtc7 140 rfl rfl⟩⟩
theorem lk_278 : xLq RX12 (3, 52, 32, 0, 113) := ⟨by decide, _, rfl, ⟨rfl, xtc7 142 rfl rfl⟩⟩
theorem lk_279 : xLq RX12 (3, 52, 96, 0, 115) := ⟨by decide, _, rfl, ⟨rfl, xtc7 143 rfl rfl⟩⟩
theorem lk_280 : xLq RX12 (3, 1, 12, 2, 137) := ⟨by decide, _, rfl, ⟨rfl, (RX12, TX12, 47), rfl, by decide, xtc6 215 rfl rfl⟩⟩
theorem lk_281 : xLq RX12 (3, 13, 215, 98, 158) := ⟨by decide, _, rfl, ⟨rfl, mX12_ruleWordOf, rfl, xtc7 144 rfl rfl, xtc7 145 rfl rfl⟩⟩
theorem lk_282 : xLq RX12 (3, 13, 238, 98, 162) := ⟨by decide, _, rfl, ⟨rfl, mX12_wordOf, rfl, xtc7 161 rfl rfl, xtc7 162 rfl rfl⟩⟩
theorem lk_283 : xLq RX12 (3, 14, 12, 9, 165) := ⟨by decide, _, rfl, ⟨rfl, (RX12, TX12, 47), .int, rfl, by decide, xtc6 222 rfl rfl, rfl, (fun h => by cases h), by decide +kernel, rfl⟩⟩
theorem lk_284 : xLq RX12 (3, 13, 159, 98, 168) := ⟨by decide, _, rfl, ⟨rfl, mX12_isDigit, rfl, xtc7 164 rfl rfl, xtc7 165 rfl rfl⟩⟩
theorem lk_285 : xLq RX12 (3, 14, 12, 8, 171) := ⟨by decide, _, rfl, ⟨rfl, (RX12, TX12, 47), .int, rfl, by decide, xtc6 221 rfl rfl, rfl, (fun h => by cases h), by decide +kernel, rfl⟩⟩
theorem lk_286 : xLq RX12 (3, 1, 12, 8, 171) := ⟨by decide, _, rfl, ⟨rfl, (RX12, TX12, 47), rfl, by decide, xtc6 221 rfl rfl⟩⟩
theorem lk_287 : xLq RX12 (3, 14, 12, 3, 174) := ⟨by decide, _, rfl, ⟨rfl, (RX12, TX12, 47), .int, rfl, by decide, xtc6 216 rfl rfl, rfl, (fun h => by cases h), by decide +kernel, rfl⟩⟩
theorem lk_288 : xLq RX12 (3, 13, 172, 96, 177) := ⟨by decide, _, rfl, ⟨rfl, mX12_isSignByte, rfl, xtc7 167 rfl rfl, xtc7 169 rfl rfl, xtb 60 (by decide +kernel) rfl, (RX12, TX12, 47), rfl, rfl⟩⟩
theorem lk_289 : xLq RX12 (3, 1, 12, 1, 13) := ⟨by decide, _, rfl, ⟨rfl, (RX12, TX12, 47), rfl, by decide, xtc6 214 rfl rfl⟩⟩
theorem lk_290 : xLq RX12 (3, 1, 12, 0, 7) := ⟨by decide, _, rfl, ⟨rfl, (RX12, TX12, 47), rfl, by decide, xtc6 213 rfl rfl⟩⟩
theorem lk_291 : xLq RX12 (3, 1, 12, 34, 72) := ⟨by decide, _, rfl, ⟨rfl, (RX12, TX12, 47), rfl, by decide, xtc7 7 rfl rfl⟩⟩
theorem lk_292 : xLq RX12 (3, 13, 155, 96, 235) := ⟨by decide, _, rfl, ⟨rfl, mX12_inOrder, rfl, xtc7 221 rfl rfl, xtc7 223 rfl rfl, xtb 70 (by decide +kernel) rfl, (RX12, TX12, 47), rfl, rfl⟩⟩
theorem lk_293 : xLq RX12 (3, 13, 122, 96, 238) := ⟨by decide, _, rfl, ⟨rfl, mX12_blocks, rfl, xtc7 225 rfl rfl, xtc7 227 rfl rfl, xtb 71 (by decide +kernel) rfl, (RX12, TX12, 47), rfl, rfl⟩⟩
theorem lk_294 : xLq RX12 (3, 13, 222, 96, 433) := ⟨by decide, _, rfl, ⟨rfl, mX12_slides, rfl, xtc9 144 rfl rfl, xtc9 146 rfl rfl, xtb 124 (by decide +kernel) rfl, (RX12, TX12, 47), rfl, rfl⟩⟩
theorem lk_295 : xLq RX12 (3, 13, 130, 96, 376) := ⟨by decide, _, rfl, ⟨rfl, mX12_cracksSeen, rfl, xtc9 8 rfl rfl, xtc9 10 rfl rfl, xtb 106 (by decide +kernel) rfl, (RX12, TX12, 47), rfl, rfl⟩⟩
theorem lk_296 : xLq RX12 (3, 13, 184, 96, 436) := ⟨by decide, _, rfl, ⟨rfl, mX12_least, rfl, xtc9 148 rfl rfl, xtc8 17 rfl rfl, xtc8 18 rfl rfl, (RX12, TX12, 47), rfl, rfl⟩⟩
theorem lk_297 : xLq RX12 (3, 13, 193, 96, 439) := ⟨by decide, _, rfl, ⟨rfl, mX12_most, rfl, xtc9 149 rfl rfl, xtc8 86 rfl rfl, xtc8 87 rfl rfl, (RX12, TX12, 47), rfl, rfl⟩⟩
theorem lk_298 : xLq RX12 (3, 13, 137, 96, 442) := ⟨by decide, _, rfl, ⟨rfl, mX12_darks, rfl, xtc9 150 rfl rfl, xtc8 194 rfl rfl, xtc8 195 rfl rfl, (RX12, TX12, 47), rfl, rfl⟩⟩
theorem lk_299 : xLq RX12 (3, 13, 233, 96, 445) := ⟨by decide, _, rfl, ⟨rfl, mX12_value, rfl, xtc9 151 rfl rfl, xtc8 198 rfl rfl, xtc8 199 rfl rfl, (RX12, TX12, 47), rfl, rfl⟩⟩
theorem lk_300 : xLq RX12 (3, 13, 190, 96, 409) := ⟨by decide, _, rfl, ⟨rfl, mX12_manyKept, rfl, xtc9 65 rfl rfl, xtc9 67 rfl rfl, xtb 111 (by decide +kernel) rfl, (RX12, TX12, 47), rfl, rfl⟩⟩
theorem lk_301 : xLq RX12 (3, 13, 152, 96, 450) := ⟨by decide, _, rfl, ⟨rfl, mX12_holds, rfl, xtc9 136 rfl rfl, xtc9 138 rfl rfl, xtb 122 (by decide +kernel) rfl, (RX12, TX12, 47), rfl, rfl⟩⟩
theorem lk_302 : xLq RX12 (3, 13, 168, 96, 241) := ⟨by decide, _, rfl, ⟨rfl, mX12_isOf, rfl, xtc7 213 rfl rfl, xtc7 215 rfl rfl, xtb 68 (by decide +kernel) rfl, (RX12, TX12, 47), rfl, rfl⟩⟩
theorem lk_303 : xLq RX12 (3, 13, 171, 96, 247) := ⟨by decide, _, rfl, ⟨rfl, mX12_isRound, rfl, xtc8 6 rfl rfl, xtc8 8 rfl rfl, xtb 73 (by decide +kernel) rfl, (RX12, TX12, 47), rfl, rfl⟩⟩
theorem lk_304 : xLq RX12 (3, 13, 116, 96, 244) := ⟨by decide, _, rfl, ⟨rfl, mX12_asTold, rfl, xtc7 217 rfl rfl, xtc7 219 rfl rfl, xtb 69 (by decide +kernel) rfl, (RX12, TX12, 47), rfl, rfl⟩⟩
theorem lk_305 : xLq RX12 (3, 52, 1000, 0, 231) := ⟨by decide, _, rfl, ⟨rfl, xtc8 1 rfl rfl⟩⟩
theorem lk_306 : xLq RX12 (3, 1, 12, 21, 45) := ⟨by decide, _, rfl, ⟨rfl, (RX12, TX12, 47), rfl, by decide, xtc6 234 rfl rfl⟩⟩
theorem lk_307 : xLq RX12 (3, 13, 221, 98, 227) := ⟨by decide, _, rfl, ⟨rfl, mX12_size0, rfl, xtc7 234 rfl rfl, xtc7 235 rfl rfl⟩⟩
theorem lk_308 : xLq RX12 (3, 13, 181, 96, 222) := ⟨by decide, _, rfl, ⟨rfl, mX12_layerOf, rfl, xtc7 229 rfl rfl, xtc7 231 rfl rfl, xtb 72 (by decide +kernel) rfl, (RX12, TX12, 47), rfl, rfl⟩⟩
theorem lk_309 : xLq RX12 (3, 1, 12, 20, 42) := ⟨by decide, _, rfl, ⟨rfl, (RX12, TX12, 47), rfl, by decide, xtc6 233 rfl rfl⟩⟩
theorem lk_310 : xLq RX12 (3, 59, 12, 2, 137) := ⟨by decide, _, rfl, ⟨rfl, (RX12, TX12, 47), .boolean, rfl, by decide, xtc6 215 rfl rfl, rfl, (fun h => by cases h), by decide +kernel, rfl⟩⟩
theorem lk_311 : xLq RX12 (3, 14, 12, 4, 109) := ⟨by decide, _, rfl, ⟨rfl, (RX12, TX12, 47), .int, rfl, by decide, xtc6 217 rfl rfl, rfl, (fun h => by cases h), by decide +kernel, rfl⟩⟩
theorem lk_312 : xLq RX12 (3, 59, 12, 10, 180) := ⟨by decide, _, rfl, ⟨rfl, (RX12, TX12, 47), .boolean, rfl, by decide, xtc6 223 rfl rfl, rfl, (fun h => by cases h), by decide +kernel, rfl⟩⟩
theorem lk_313 : xLq RX12 (3, 1, 12, 18, 35) := ⟨by decide, _, rfl, ⟨rfl, (RX12, TX12, 47), rfl, by decide, xtc6 231 rfl rfl⟩⟩
theorem lk_314 : xLq RX12 (3, 1, 12, 17, 32) := ⟨by decide, _, rfl, ⟨rfl, (RX12, TX12, 47), rfl, by decide, xtc6 230 rfl rfl⟩⟩
theorem lk_315 : xLq RX12 (3, 1, 12, 19, 38) := ⟨by decide, _, rfl, ⟨rfl, (RX12, TX12, 47), rfl, by decide, xtc6 232 rfl rfl⟩⟩
theorem lk_316 : xLq RX12 (3, 52, 2, 0, 225) := ⟨by decide, _, rfl, ⟨rfl, xtc7 233 rfl rfl⟩⟩
theorem lk_317 : xLq RX12 (3, 13, 231, 96, 273) := ⟨by decide, _, rfl, ⟨rfl, mX12_tires, rfl, xtc8 45 rfl rfl, xtc8 47 rfl rfl, xtb 77 (by decide +kernel) rfl, (RX12, TX12, 47), rfl, rfl⟩⟩
theorem lk_318 : xLq RX12 (3, 13, 188, 96, 270) := ⟨by decide, _, rfl, ⟨rfl, mX12_lifeOf, rfl, xtc8 49 rfl rfl, xtc8 51 rfl rfl, xtb 78 (by decide +kernel) rfl, (RX12, TX12, 47), rfl, rfl⟩⟩
theorem lk_319 : xLq RX12 (3, 1, 12, 22, 267) := ⟨by decide, _, rfl, ⟨rfl, (RX12, TX12, 47), rfl, by decide, xtc6 235 rfl rfl⟩⟩
theorem lk_320 : xLq RX12 (3, 1, 12, 23, 263) := ⟨by decide, _, rfl, ⟨rfl, (RX12, TX12, 47), rfl, by decide, xtc6 236 rfl rfl⟩⟩
theorem lk_321 : xLq RX12 (3, 52, 365, 0, 385) := ⟨by decide, _, rfl, ⟨rfl, xtc9 31 rfl rfl⟩⟩
theorem lk_322 : xLq RX12 (3, 71, 12, 22, 267) := ⟨by decide, _, rfl, ⟨rfl, (RX12, TX12, 47), .long, rfl, by decide, xtc6 235 rfl rfl, rfl, (fun h => by cases h), by decide +kernel, rfl⟩⟩
theorem lk_323 : xLq RX12 (3, 13, 123, 96, 387) := ⟨by decide, _, rfl, ⟨rfl, mX12_breaks, rfl, xtc9 27 rfl rfl, xtc9 29 rfl rfl, xtb 108 (by decide +kernel) rfl, (RX12, TX12, 47), rfl, rfl⟩⟩
theorem lk_324 : xLq RX12 (3, 1, 12, 4, 109) := ⟨by decide, _, rfl, ⟨rfl, (RX12, TX12, 47), rfl, by decide, xtc6 217 rfl rfl⟩⟩
theorem lk_325 : xLq RX12 (3, 13, 173, 96, 279) := ⟨by decide, _, rfl, ⟨rfl, mX12_isThere, rfl, xtc8 69 rfl rfl, xtc8 71 rfl rfl, xtb 79 (by decide +kernel) rfl, (RX12, TX12, 47), rfl, rfl⟩⟩
theorem lk_326 : xLq RX12 (3, 13, 157, 96, 283) := ⟨by decide, _, rfl, ⟨rfl, mX12_isCracked, rfl, xtc8 73 rfl rfl, xtc8 75 rfl rfl, xtb 80 (by decide +kernel) rfl, (RX12, TX12, 47), rfl, rfl⟩⟩
theorem lk_327 : xLq RX12 (3, 13, 132, 96, 317) := ⟨by decide, _, rfl, ⟨rfl, mX12_cuts, rfl, xtc8 125 rfl rfl, xtc8 127 rfl rfl, xtb 89 (by decide +kernel) rfl, (RX12, TX12, 47), rfl, rfl⟩⟩
theorem lk_328 : xLq RX12 (3, 13, 162, 96, 320) := ⟨by decide, _, rfl, ⟨rfl, mX12_isInCut, rfl, xtc8 129 rfl rfl, xtc8 131 rfl rfl, xtb 90 (by decide +kernel) rfl, (RX12, TX12, 47), rfl, rfl⟩⟩
theorem lk_329 : xLq RX12 (3, 13, 189, 96, 302) := ⟨by decide, _, rfl, ⟨rfl, mX12_looks, rfl, xtc8 89 rfl rfl, xtc8 91 rfl rfl, xtb 82 (by decide +kernel) rfl, (RX12, TX12, 47), rfl, rfl⟩⟩
theorem lk_330 : xLq RX12 (3, 13, 113, 96, 305) := ⟨by decide, _, rfl, ⟨rfl, mX12_allRows, rfl, xtc8 93 rfl rfl, xtc8 95 rfl rfl, xtb 83 (by decide +kernel) rfl, (RX12, TX12, 47), rfl, rfl⟩⟩
theorem lk_331 : xLq RX12 (3, 13, 147, 96, 308) := ⟨by decide, _, rfl, ⟨rfl, mX12_flows, rfl, xtc8 97 rfl rfl, xtc8 99 rfl rfl, xtb 84 (by decide +kernel) rfl, (RX12, TX12, 47), rfl, rfl⟩⟩
theorem lk_332 : xLq RX12 (3, 13, 224, 96, 296) := ⟨by decide, _, rfl, ⟨rfl, mX12_spreads, rfl, xtc8 101 rfl rfl, xtc8 103 rfl rfl, xtb 85 (by decide +kernel) rfl, (RX12, TX12, 47), rfl, rfl⟩⟩
theorem lk_333 : xLq RX12 (3, 13, 169, 96, 323) := ⟨by decide, _, rfl, ⟨rfl, mX12_isPoint, rfl, xtc8 149 rfl rfl, xtc8 151 rfl rfl, xtb 92 (by decide +kernel) rfl, (RX12, TX12, 47), rfl, rfl⟩⟩
theorem lk_334 : xLq RX12 (3, 13, 134, 96, 335) := ⟨by decide, _, rfl, ⟨rfl, mX12_damps, rfl, xtc8 173 rfl rfl, xtc8 175 rfl rfl, xtb 95 (by decide +kernel) rfl, (RX12, TX12, 47), rfl, rfl⟩⟩
theorem lk_335 : xLq RX12 (3, 1, 12, 35, 75) := ⟨by decide, _, rfl, ⟨rfl, (RX12, TX12, 47), rfl, by decide, xtc7 8 rfl rfl⟩⟩
theorem lk_336 : xLq RX12 (3, 1, 12, 36, 78) := ⟨by decide, _, rfl, ⟨rfl, (RX12, TX12, 47), rfl, by decide, xtc7 9 rfl rfl⟩⟩
theorem lk_337 : xLq RX12 (3, 13, 237, 96, 332) := ⟨by decide, _, rfl, ⟨rfl, mX12_wetAt, rfl, xtc8 177 rfl rfl, xtc8 179 rfl rfl, xtb 96 (by decide +kernel) rfl, (RX12, TX12, 47), rfl, rfl⟩⟩
theorem lk_338 : xLq RX12 (3, 13, 136, 96, 338) := ⟨by decide, _, rfl, ⟨rfl, mX12_darkens, rfl, xtc8 185 rfl rfl, xtc8 187 rfl rfl, xtb 97 (by decide +kernel) rfl, (RX12, TX12, 47), rfl, rfl⟩⟩
theorem lk_339 : xLq RX12 (3, 13, 158, 96, 341) := ⟨by decide, _, rfl, ⟨rfl, mX12_isDark, rfl, xtc8 189 rfl rfl, xtc8 191 rfl rfl, xtb 98 (by decide +kernel) rfl, (RX12, TX12, 47), rfl, rfl⟩⟩
theorem lk_340 : xLq RX12 (3, 13, 112, 96, 326) := ⟨by decide, _, rfl, ⟨rfl, mX12_ages, rfl, xtc8 153 rfl rfl, xtc8 155 rfl rfl, xtb 93 (by decide +kernel) rfl, (RX12, TX12, 47), rfl, rfl⟩⟩
theorem lk_341 : xLq RX12 (3, 13, 143, 96, 311) := ⟨by decide, _, rfl, ⟨rfl, mX12_fedRows, rfl, xtc8 117 rfl rfl, xtc8 119 rfl rfl, xtb 88 (by decide +kernel) rfl, (RX12, TX12, 47), rfl, rfl⟩⟩
theorem lk_342 : xLq RX12 (3, 13, 121, 96, 215) := ⟨by decide, _, rfl, ⟨rfl, mX12_begins, rfl, xtc7 127 rfl rfl, xtc7 129 rfl rfl, xtb 57 (by decide +kernel) rfl, (RX12, TX12, 47), rfl, rfl⟩⟩
theorem lk_343 : xLq RX12 (3, 1, 12, 12, 20) := ⟨by decide, _, rfl, ⟨rfl, (RX12, TX12, 47), rfl, by decide, xtc6 225 rfl rfl⟩⟩
theorem lk_344 : xLq RX12 (3, 13, 107, 96, 219) := ⟨by decide, _, rfl, ⟨rfl, mX12_aLine, rfl, xtc7 171 rfl rfl, xtc7 173 rfl rfl, xtb 61 (by decide +kernel) rfl, (RX12, TX12, 47), rfl, rfl⟩⟩
theorem lk_345 : xLq RX12 (3, 13, 148, 98, 121) := ⟨by decide, _, rfl, ⟨rfl, mX12_four, rfl, xtc7 157 rfl rfl, xtc7 158 rfl rfl⟩⟩
theorem lk_346 : xLq RX12 (3, 1, 12, 25, 48) := ⟨by decide, _, rfl, ⟨rfl, (RX12, TX12, 47), rfl, by decide, xtc6 238 rfl rfl⟩⟩
theorem lk_347 : xLq RX12 (3, 1, 12, 26, 51) := ⟨by decide, _, rfl, ⟨rfl, (RX12, TX12, 47), rfl, by decide, xtc6 239 rfl rfl⟩⟩
theorem lk_348 : xLq RX12 (3, 1, 12, 27, 54) := ⟨by decide, _, rfl, ⟨rfl, (RX12, TX12, 47), rfl, by decide, xtc7 0 rfl rfl⟩⟩
theorem lk_349 : xLq RX12 (3, 1, 12, 28, 57) := ⟨by decide, _, rfl, ⟨rfl, (RX12, TX12, 47), rfl, by decide, xtc7 1 rfl rfl⟩⟩
theorem lk_350 : xLq RX12 (3, 1, 12, 32, 69) := ⟨by decide, _, rfl, ⟨rfl, (RX12, TX12, 47), rfl, by decide, xtc7 5 rfl rfl⟩⟩
theorem lk_351 : xLq RX12 (3, 13, 149, 96, 299) := ⟨by decide, _, rfl, ⟨rfl, mX12_goesBack, rfl, xtc8 109 rfl rfl, xtc8 111 rfl rfl, xtb 87 (by decide +kernel) rfl, (RX12, TX12, 47), rfl, rfl⟩⟩
theorem lk_352 : xLq RX12 (3, 13, 229, 98, 117) := ⟨by decide, _, rfl, ⟨rfl, mX12_three, rfl, xtc7 147 rfl rfl, xtc7 148 rfl rfl⟩⟩
theorem lk_353 : xLq RX12 (3, 13, 117, 96, 447) := ⟨by decide, _, rfl, ⟨rfl, mX12_asked, rfl, xtc9 140 rfl rfl, xtc9 142 rfl rfl, xtb 123 (by decide +kernel) rfl, (RX12, TX12, 47), rfl, rfl⟩⟩
theorem lk_354 : xLq RX12 (3, 1, 12, 15, 26) := ⟨by decide, _, rfl, ⟨rfl, (RX12, TX12, 47), rfl, by decide, xtc6 228 rfl rfl⟩⟩
theorem lk_355 : xLq RX12 (3, 25, 0, 0, 1) := ⟨by decide, _, rfl, ⟨rfl, xtc6 212 rfl rfl⟩⟩
theorem lk_356 : xLq RX12 (3, 61, 12, 0, 7) := ⟨by decide, _, rfl, ⟨rfl, (RX12, TX12, 47), .array .int, rfl, by decide, xtc6 213 rfl rfl, rfl, (fun _ => rfl), by decide +kernel, Or.inr ⟨_, rfl⟩⟩⟩
theorem lk_357 : xLq RX12 (3, 61, 12, 1, 13) := ⟨by decide, _, rfl, ⟨rfl, (RX12, TX12, 47), .array .boolean, rfl, by decide, xtc6 214 rfl rfl, rfl, (fun _ => rfl), by decide +kernel, Or.inr ⟨_, rfl⟩⟩⟩
theorem lk_358 : xLq RX12 (3, 61, 12, 11, 17) := ⟨by decide, _, rfl, ⟨rfl, (RX12, TX12, 47), .array .int, rfl, by decide, xtc6 224 rfl rfl, rfl, (fun _ => rfl), by decide +kernel, Or.inr ⟨_, rfl⟩⟩⟩
theorem lk_359 : xLq RX12 (3, 61, 12, 12, 20) := ⟨by decide, _, rfl, ⟨rfl, (RX12, TX12, 47), .array .int, rfl, by decide, xtc6 225 rfl rfl, rfl, (fun _ => rfl), by decide +kernel, Or.inr ⟨_, rfl⟩⟩⟩
theorem lk_360 : xLq RX12 (3, 61, 12, 13, 23) := ⟨by decide, _, rfl, ⟨rfl, (RX12, TX12, 47), .array .int, rfl, by decide, xtc6 226 rfl rfl, rfl, (fun _ => rfl), by decide +kernel, Or.inr ⟨_, rfl⟩⟩⟩
theorem lk_361 : xLq RX12 (3, 61, 12, 15, 26) := ⟨by decide, _, rfl, ⟨rfl, (RX12, TX12, 47), .array .int, rfl, by decide, xtc6 228 rfl rfl, rfl, (fun _ => rfl), by decide +kernel, Or.inr ⟨_, rfl⟩⟩⟩
theorem lk_362 : xLq RX12 (3, 61, 12, 16, 29) := ⟨by decide, _, rfl, ⟨rfl, (RX12, TX12, 47), .array .int, rfl, by decide, xtc6 229 rfl rfl, rfl, (fun _ => rfl), by decide +kernel, Or.inr ⟨_, rfl⟩⟩⟩
theorem lk_363 : xLq RX12 (3, 61, 12, 17, 32) := ⟨by decide, _, rfl, ⟨rfl, (RX12, TX12, 47), .array .int, rfl, by decide, xtc6 230 rfl rfl, rfl, (fun _ => rfl), by decide +kernel, Or.inr ⟨_, rfl⟩⟩⟩
theorem lk_364 : xLq RX12 (3, 61, 12, 18, 35) := ⟨by decide, _, rfl, ⟨rfl, (RX12, TX12, 47), .array .int, rfl, by decide, xtc6 231 rfl rfl, rfl, (fun _ => rfl), by decide +kernel, Or.inr ⟨_, rfl⟩⟩⟩
theorem lk_365 : xLq RX12 (3, 61, 12, 19, 38) := ⟨by decide, _, rfl, ⟨rfl, (RX12, TX12, 47), .array .long, rfl, by decide, xtc6 232 rfl rfl, rfl, (fun _ => rfl), by decide +kernel, Or.inr ⟨_, rfl⟩⟩⟩
theorem lk_366 : xLq RX12 (3, 61, 12, 20, 42) := ⟨by decide, _, rfl, ⟨rfl, (RX12, TX12, 47), .array .long, rfl, by decide, xtc6 233 rfl rfl, rfl, (fun _ => rfl), by decide +kernel, Or.inr ⟨_, rfl⟩⟩⟩
theorem lk_367 : xLq RX12 (3, 61, 12, 21, 45) := ⟨by decide, _, rfl, ⟨rfl, (RX12, TX12, 47), .array .long, rfl, by decide, xtc6 234 rfl rfl, rfl, (fun _ => rfl), by decide +kernel, Or.inr ⟨_, rfl⟩⟩⟩
theorem lk_368 : xLq RX12 (3, 61, 12, 25, 48) := ⟨by decide, _, rfl, ⟨rfl, (RX12, TX12, 47), .array .int, rfl, by decide, xtc6 238 rfl rfl, rfl, (fun _ => rfl), by decide +kernel, Or.inr ⟨_, rfl⟩⟩⟩
theorem lk_369 : xLq RX12 (3, 61, 12, 26, 51) := ⟨by decide, _, rfl, ⟨rfl, (RX12, TX12, 47), .array .int, rfl, by decide, xtc6 239 rfl rfl, rfl, (fun _ => rfl), by decide +kernel, Or.inr ⟨_, rfl⟩⟩⟩
theorem lk_370 : xLq RX12 (3, 61, 12, 27, 54) := ⟨by decide, _, rfl, ⟨rfl, (RX12, TX12, 47), .array .int, rfl, by decide, xtc7 0 rfl rfl, rfl, (fun _ => rfl), by decide +kernel, Or.inr ⟨_, rfl⟩⟩⟩
theorem lk_371 : xLq RX12 (3, 61, 12, 28, 57) := ⟨by decide, _, rfl, ⟨rfl, (RX12, TX12, 47), .array .int, rfl, by decide, xtc7 1 rfl rfl, rfl, (fun _ => rfl), by decide +kernel, Or.inr ⟨_, rfl⟩⟩⟩
theorem lk_372 : xLq RX12 (3, 61, 12, 29, 60) := ⟨by decide, _, rfl, ⟨rfl, (RX12, TX12, 47), .array .boolean, rfl, by decide, xtc7 2 rfl rfl, rfl, (fun _ => rfl), by decide +kernel, Or.inr ⟨_, rfl⟩⟩⟩
theorem lk_373 : xLq RX12 (3, 61, 12, 30, 63) := ⟨by decide, _, rfl, ⟨rfl, (RX12, TX12, 47), .array .boolean, rfl, by decide, xtc7 3 rfl rfl, rfl, (fun _ => rfl), by decide +kernel, Or.inr ⟨_, rfl⟩⟩⟩
theorem lk_374 : xLq RX12 (3, 61, 12, 31, 66) := ⟨by decide, _, rfl, ⟨rfl, (RX12, TX12, 47), .array .int, rfl, by decide, xtc7 4 rfl rfl, rfl, (fun _ => rfl), by decide +kernel, Or.inr ⟨_, rfl⟩⟩⟩
theorem lk_375 : xLq RX12 (3, 61, 12, 32, 69) := ⟨by decide, _, rfl, ⟨rfl, (RX12, TX12, 47), .array .int, rfl, by decide, xtc7 5 rfl rfl, rfl, (fun _ => rfl), by decide +kernel, Or.inr ⟨_, rfl⟩⟩⟩
theorem lk_376 : xLq RX12 (3, 61, 12, 34, 72) := ⟨by decide, _, rfl, ⟨rfl, (RX12, TX12, 47), .array .int, rfl, by decide, xtc7 7 rfl rfl, rfl, (fun _ => rfl), by decide +kernel, Or.inr ⟨_, rfl⟩⟩⟩
theorem lk_377 : xLq RX12 (3, 61, 12, 35, 75) := ⟨by decide, _, rfl, ⟨rfl, (RX12, TX12, 47), .array .int, rfl, by decide, xtc7 8 rfl rfl, rfl, (fun _ => rfl), by decide +kernel, Or.inr ⟨_, rfl⟩⟩⟩
theorem lk_378 : xLq RX12 (3, 61, 12, 36, 78) := ⟨by decide, _, rfl, ⟨rfl, (RX12, TX12, 47), .array .int, rfl, by decide, xtc7 9 rfl rfl, rfl, (fun _ => rfl), by decide +kernel, Or.inr ⟨_, rfl⟩⟩⟩
theorem lk_379 : xLq RX12 (3, 61, 12, 37, 81) := ⟨by decide, _, rfl, ⟨rfl, (RX12, TX12, 47), .array .int, rfl, by decide, xtc7 10 rfl rfl, rfl, (fun _ => rfl), by decide +kernel, Or.inr ⟨_, rfl⟩⟩⟩
