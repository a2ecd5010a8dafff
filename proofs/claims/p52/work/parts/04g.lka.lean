theorem lk_0 : xLq RJ6 (3, 36, 1431655765, 0, 265) := ⟨by decide, _, rfl, ⟨rfl, by decide, xtb 1141 (by decide +kernel) rfl⟩⟩
theorem lk_1 : xLq RJ6 (3, 36, 858993459, 0, 266) := ⟨by decide, _, rfl, ⟨rfl, by decide, xtb 1142 (by decide +kernel) rfl⟩⟩
theorem lk_2 : xLq RJ6 (3, 36, 252645135, 0, 267) := ⟨by decide, _, rfl, ⟨rfl, by decide, xtb 1143 (by decide +kernel) rfl⟩⟩
theorem lk_3 : xLq RX0 (3, 1, 0, 0, 39) := ⟨by decide, _, rfl, ⟨rfl, (RX0, TX0, 11), rfl, by decide, xtb 434 (by decide +kernel) rfl⟩⟩
theorem lk_4 : xLq RX0 (3, 1, 1, 0, 50) := ⟨by decide, _, rfl, ⟨rfl, (RX1, TX1, 10), rfl, by decide, xtb 198 (by decide +kernel) rfl⟩⟩
theorem lk_5 : xLq RX0 (3, 1, 0, 1, 11) := ⟨by decide, _, rfl, ⟨rfl, (RX0, TX0, 11), rfl, by decide, xtb 435 (by decide +kernel) rfl⟩⟩
theorem lk_6 : xLq RX0 (3, 13, 285, 40, 60) := ⟨by decide, _, rfl, ⟨rfl, mX5_get, rfl, xtb 895 (by decide +kernel) rfl, xtb 807 (by decide +kernel) rfl, xtb 808 (by decide +kernel) rfl, (RX5, TX5, 4), rfl, rfl⟩⟩
theorem lk_7 : xLq RX0 (3, 1, 0, 5, 27) := ⟨by decide, _, rfl, ⟨rfl, (RX0, TX0, 11), rfl, by decide, xtb 441 (by decide +kernel) rfl⟩⟩
theorem lk_8 : xLq RX0 (3, 1, 0, 3, 20) := ⟨by decide, _, rfl, ⟨rfl, (RX0, TX0, 11), rfl, by decide, xtb 438 (by decide +kernel) rfl⟩⟩
theorem lk_9 : xLq RX0 (3, 1, 5, 3, 54) := ⟨by decide, _, rfl, ⟨rfl, (RX5, TX5, 4), rfl, by decide, xtb 179 (by decide +kernel) rfl⟩⟩
theorem lk_10 : xLq RX0 (3, 13, 16, 0, 139) := ⟨by decide, _, rfl, ⟨rfl, mX0_restWear, rfl, xtb 1324 (by decide +kernel) rfl, xtb 990 (by decide +kernel) rfl, xtb 991 (by decide +kernel) rfl, (RX0, TX0, 11), rfl, rfl⟩⟩
theorem lk_11 : xLq RX0 (3, 1, 1, 2, 142) := ⟨by decide, _, rfl, ⟨rfl, (RX1, TX1, 10), rfl, by decide, xtb 205 (by decide +kernel) rfl⟩⟩
theorem lk_12 : xLq RX0 (3, 13, 21, 0, 145) := ⟨by decide, _, rfl, ⟨rfl, mX0_wear, rfl, xtb 1325 (by decide +kernel) rfl, xtb 997 (by decide +kernel) rfl, xtb 998 (by decide +kernel) rfl, (RX0, TX0, 11), rfl, rfl⟩⟩
theorem lk_13 : xLq RX0 (3, 13, 10, 0, 149) := ⟨by decide, _, rfl, ⟨rfl, mX0_isWornOut, rfl, xtb 1326 (by decide +kernel) rfl, xtb 1021 (by decide +kernel) rfl, xtb 1022 (by decide +kernel) rfl, (RX0, TX0, 11), rfl, rfl⟩⟩
theorem lk_14 : xLq RX0 (3, 52, 1000, 0, 72) := ⟨by decide, _, rfl, ⟨rfl, xtb 909 (by decide +kernel) rfl⟩⟩
theorem lk_15 : xLq RX0 (3, 1, 0, 6, 30) := ⟨by decide, _, rfl, ⟨rfl, (RX0, TX0, 11), rfl, by decide, xtb 442 (by decide +kernel) rfl⟩⟩
theorem lk_16 : xLq RX0 (3, 75, 0, 0, 66) := ⟨by decide, _, rfl, ⟨rfl, xtb 897 (by decide +kernel) rfl⟩⟩
theorem lk_17 : xLq RX0 (3, 13, 3, 0, 80) := ⟨by decide, _, rfl, ⟨rfl, mX0_borneBy, rfl, xtb 935 (by decide +kernel) rfl, xtb 937 (by decide +kernel) rfl, xtb 11 (by decide +kernel) rfl, (RX0, TX0, 11), rfl, rfl⟩⟩
theorem lk_18 : xLq RX0 (3, 1, 1, 1, 126) := ⟨by decide, _, rfl, ⟨rfl, (RX1, TX1, 10), rfl, by decide, xtb 202 (by decide +kernel) rfl⟩⟩
theorem lk_19 : xLq RX0 (3, 1, 0, 10, 43) := ⟨by decide, _, rfl, ⟨rfl, (RX0, TX0, 11), rfl, by decide, xtb 448 (by decide +kernel) rfl⟩⟩
theorem lk_20 : xLq RX0 (3, 13, 12, 0, 92) := ⟨by decide, _, rfl, ⟨rfl, mX0_layAsTold, rfl, xtb 970 (by decide +kernel) rfl, xtb 888 (by decide +kernel) rfl, xtb 889 (by decide +kernel) rfl, (RX0, TX0, 11), rfl, rfl⟩⟩
theorem lk_21 : xLq RX0 (3, 13, 13, 0, 95) := ⟨by decide, _, rfl, ⟨rfl, mX0_leastRound, rfl, xtb 971 (by decide +kernel) rfl, xtb 944 (by decide +kernel) rfl, xtb 945 (by decide +kernel) rfl, (RX0, TX0, 11), rfl, rfl⟩⟩
theorem lk_22 : xLq RX0 (3, 13, 20, 0, 99) := ⟨by decide, _, rfl, ⟨rfl, mX0_takeOrder, rfl, xtb 972 (by decide +kernel) rfl, xtb 974 (by decide +kernel) rfl, xtb 12 (by decide +kernel) rfl, (RX0, TX0, 11), rfl, rfl⟩⟩
theorem lk_23 : xLq RX0 (3, 13, 17, 0, 103) := ⟨by decide, _, rfl, ⟨rfl, mX0_stepOrder, rfl, xtb 977 (by decide +kernel) rfl, xtb 979 (by decide +kernel) rfl, xtb 13 (by decide +kernel) rfl, (RX0, TX0, 11), rfl, rfl⟩⟩
theorem lk_24 : xLq RX0 (3, 13, 11, 0, 47) := ⟨by decide, _, rfl, ⟨rfl, mX0_lay, rfl, xtb 891 (by decide +kernel) rfl, xtb 893 (by decide +kernel) rfl, xtb 10 (by decide +kernel) rfl, (RX0, TX0, 11), rfl, rfl⟩⟩
theorem lk_25 : xLq RX0 (3, 1, 0, 9, 107) := ⟨by decide, _, rfl, ⟨rfl, (RX0, TX0, 11), rfl, by decide, xtb 446 (by decide +kernel) rfl⟩⟩
theorem lk_26 : xLq RX0 (3, 59, 0, 10, 43) := ⟨by decide, _, rfl, ⟨rfl, (RX0, TX0, 11), .boolean, rfl, by decide, xtb 448 (by decide +kernel) rfl, rfl, (fun h => by cases h), by decide +kernel, rfl⟩⟩
theorem lk_27 : xLq RX0 (3, 25, 0, 0, 3) := ⟨by decide, _, rfl, ⟨rfl, xtb 433 (by decide +kernel) rfl⟩⟩
theorem lk_28 : xLq RX0 (3, 61, 0, 1, 11) := ⟨by decide, _, rfl, ⟨rfl, (RX0, TX0, 11), .array .int, rfl, by decide, xtb 435 (by decide +kernel) rfl, rfl, (fun _ => rfl), by decide +kernel, Or.inr ⟨_, rfl⟩⟩⟩
theorem lk_29 : xLq RX0 (3, 61, 0, 2, 17) := ⟨by decide, _, rfl, ⟨rfl, (RX0, TX0, 11), .array .int, rfl, by decide, xtb 436 (by decide +kernel) rfl, rfl, (fun _ => rfl), by decide +kernel, Or.inr ⟨_, rfl⟩⟩⟩
theorem lk_30 : xLq RX0 (3, 61, 0, 3, 20) := ⟨by decide, _, rfl, ⟨rfl, (RX0, TX0, 11), .array .int, rfl, by decide, xtb 438 (by decide +kernel) rfl, rfl, (fun _ => rfl), by decide +kernel, Or.inr ⟨_, rfl⟩⟩⟩
theorem lk_31 : xLq RX0 (3, 61, 0, 4, 23) := ⟨by decide, _, rfl, ⟨rfl, (RX0, TX0, 11), .array .long, rfl, by decide, xtb 440 (by decide +kernel) rfl, rfl, (fun _ => rfl), by decide +kernel, Or.inr ⟨_, rfl⟩⟩⟩
theorem lk_32 : xLq RX0 (3, 61, 0, 5, 27) := ⟨by decide, _, rfl, ⟨rfl, (RX0, TX0, 11), .array .long, rfl, by decide, xtb 441 (by decide +kernel) rfl, rfl, (fun _ => rfl), by decide +kernel, Or.inr ⟨_, rfl⟩⟩⟩
theorem lk_33 : xLq RX0 (3, 61, 0, 6, 30) := ⟨by decide, _, rfl, ⟨rfl, (RX0, TX0, 11), .array .long, rfl, by decide, xtb 442 (by decide +kernel) rfl, rfl, (fun _ => rfl), by decide +kernel, Or.inr ⟨_, rfl⟩⟩⟩
theorem lk_34 : xLq RX0 (3, 61, 0, 7, 33) := ⟨by decide, _, rfl, ⟨rfl, (RX0, TX0, 11), .array .long, rfl, by decide, xtb 443 (by decide +kernel) rfl, rfl, (fun _ => rfl), by decide +kernel, Or.inr ⟨_, rfl⟩⟩⟩
theorem lk_35 : xLq RX0 (3, 61, 0, 8, 36) := ⟨by decide, _, rfl, ⟨rfl, (RX0, TX0, 11), .array .int, rfl, by decide, xtb 444 (by decide +kernel) rfl, rfl, (fun _ => rfl), by decide +kernel, Or.inr ⟨_, rfl⟩⟩⟩
theorem lk_36 : xLq RX0 (3, 61, 0, 0, 39) := ⟨by decide, _, rfl, ⟨rfl, (RX0, TX0, 11), .object "BentScreens$Film", rfl, by decide, xtb 434 (by decide +kernel) rfl, rfl, (fun _ => rfl), by decide +kernel, Or.inl ⟨_, rfl⟩⟩⟩
theorem lk_37 : xLq RX0 (3, 13, 6, 0, 129) := ⟨by decide, _, rfl, ⟨rfl, mX0_commonLife, rfl, xtb 1004 (by decide +kernel) rfl, xtb 1006 (by decide +kernel) rfl, xtb 15 (by decide +kernel) rfl, (RX0, TX0, 11), rfl, rfl⟩⟩
theorem lk_38 : xLq RX0 (3, 13, 22, 0, 133) := ⟨by decide, _, rfl, ⟨rfl, mX0_wholeLives, rfl, xtb 1008 (by decide +kernel) rfl, xtb 1010 (by decide +kernel) rfl, xtb 16 (by decide +kernel) rfl, (RX0, TX0, 11), rfl, rfl⟩⟩
theorem lk_39 : xLq RX0 (3, 13, 15, 0, 136) := ⟨by decide, _, rfl, ⟨rfl, mX0_partLives, rfl, xtb 1012 (by decide +kernel) rfl, xtb 1014 (by decide +kernel) rfl, xtb 17 (by decide +kernel) rfl, (RX0, TX0, 11), rfl, rfl⟩⟩
theorem lk_40 : xLq RX0 (3, 1, 0, 4, 23) := ⟨by decide, _, rfl, ⟨rfl, (RX0, TX0, 11), rfl, by decide, xtb 440 (by decide +kernel) rfl⟩⟩
theorem lk_41 : xLq RX0 (3, 52, 2, 0, 64) := ⟨by decide, _, rfl, ⟨rfl, xtb 896 (by decide +kernel) rfl⟩⟩
theorem lk_42 : xLq RX0 (3, 1, 0, 2, 17) := ⟨by decide, _, rfl, ⟨rfl, (RX0, TX0, 11), rfl, by decide, xtb 436 (by decide +kernel) rfl⟩⟩
theorem lk_43 : xLq RX0 (3, 13, 55, 91, 74) := ⟨by decide, _, rfl, ⟨rfl, mX11_divide, rfl, "BentScreens", List.mem_of_getElem? (i := 910) (by decide +kernel), xtb 911 (by decide +kernel) rfl⟩⟩
theorem lk_44 : xLq RX0 (3, 76, 0, 0, 84) := ⟨by decide, _, rfl, ⟨rfl, xtb 947 (by decide +kernel) rfl⟩⟩
theorem lk_45 : xLq RX0 (3, 52, 10000, 0, 87) := ⟨by decide, _, rfl, ⟨rfl, xtb 950 (by decide +kernel) rfl⟩⟩
theorem lk_46 : xLq RX0 (3, 77, 0, 0, 89) := ⟨by decide, _, rfl, ⟨rfl, xtb 951 (by decide +kernel) rfl⟩⟩
theorem lk_47 : xLq RX0 (3, 1, 0, 7, 33) := ⟨by decide, _, rfl, ⟨rfl, (RX0, TX0, 11), rfl, by decide, xtb 443 (by decide +kernel) rfl⟩⟩
theorem lk_48 : xLq RX0 (3, 13, 2, 2, 120) := ⟨by decide, _, rfl, ⟨rfl, mJ7_fill_d0a16, rfl, xtb 993 (by decide +kernel) rfl, xtb 994 (by decide +kernel) rfl⟩⟩
theorem lk_49 : xLq RX0 (3, 13, 19, 0, 116) := ⟨by decide, _, rfl, ⟨rfl, mX0_swapPlaces, rfl, xtb 981 (by decide +kernel) rfl, xtb 983 (by decide +kernel) rfl, xtb 14 (by decide +kernel) rfl, (RX0, TX0, 11), rfl, rfl⟩⟩
theorem lk_50 : xLq RX0 (3, 52, 1000000, 0, 78) := ⟨by decide, _, rfl, ⟨rfl, xtb 926 (by decide +kernel) rfl⟩⟩
theorem lk_51 : xLq RX0 (3, 14, 0, 9, 107) := ⟨by decide, _, rfl, ⟨rfl, (RX0, TX0, 11), .int, rfl, by decide, xtb 446 (by decide +kernel) rfl, rfl, (fun h => by cases h), by decide +kernel, rfl⟩⟩
theorem lk_52 : xLq RX0 (3, 1, 0, 8, 36) := ⟨by decide, _, rfl, ⟨rfl, (RX0, TX0, 11), rfl, by decide, xtb 444 (by decide +kernel) rfl⟩⟩
theorem lk_53 : xLq RX0 (3, 58, 0, 0, 110) := ⟨by decide, _, rfl, ⟨rfl, xtb 976 (by decide +kernel) rfl⟩⟩
theorem lk_54 : xLq RX10 (3, 13, 28, 80, 100) := ⟨by decide, _, rfl, ⟨rfl, mX10_explore, rfl, xtb 1086 (by decide +kernel) rfl, xtb 1088 (by decide +kernel) rfl, xtb 23 (by decide +kernel) rfl, (RX10, TX10, 13), rfl, rfl⟩⟩
theorem lk_55 : xLq RX10 (3, 1, 10, 7, 33) := ⟨by decide, _, rfl, ⟨rfl, (RX10, TX10, 13), rfl, by decide, xtb 486 (by decide +kernel) rfl⟩⟩
theorem lk_56 : xLq RX10 (3, 13, 32, 80, 103) := ⟨by decide, _, rfl, ⟨rfl, mX10_isReached, rfl, xtb 1094 (by decide +kernel) rfl, xtb 1096 (by decide +kernel) rfl, xtb 25 (by decide +kernel) rfl, (RX10, TX10, 13), rfl, rfl⟩⟩
theorem lk_57 : xLq RX10 (3, 1, 10, 8, 36) := ⟨by decide, _, rfl, ⟨rfl, (RX10, TX10, 13), rfl, by decide, xtb 488 (by decide +kernel) rfl⟩⟩
theorem lk_58 : xLq RX10 (3, 1, 10, 3, 20) := ⟨by decide, _, rfl, ⟨rfl, (RX10, TX10, 13), rfl, by decide, xtb 482 (by decide +kernel) rfl⟩⟩
theorem lk_59 : xLq RX10 (3, 13, 36, 82, 107) := ⟨by decide, _, rfl, ⟨rfl, mX10_turnFlow, rfl, xtb 1098 (by decide +kernel) rfl, xtb 1099 (by decide +kernel) rfl⟩⟩
theorem lk_60 : xLq RX10 (3, 1, 10, 4, 24) := ⟨by decide, _, rfl, ⟨rfl, (RX10, TX10, 13), rfl, by decide, xtb 483 (by decide +kernel) rfl⟩⟩
theorem lk_61 : xLq RX10 (3, 1, 10, 5, 27) := ⟨by decide, _, rfl, ⟨rfl, (RX10, TX10, 13), rfl, by decide, xtb 484 (by decide +kernel) rfl⟩⟩
theorem lk_62 : xLq RX10 (3, 1, 10, 0, 42) := ⟨by decide, _, rfl, ⟨rfl, (RX10, TX10, 13), rfl, by decide, xtb 479 (by decide +kernel) rfl⟩⟩
theorem lk_63 : xLq RX10 (3, 1, 9, 4, 56) := ⟨by decide, _, rfl, ⟨rfl, (RX9, TX9, 14), rfl, by decide, xtb 269 (by decide +kernel) rfl⟩⟩
theorem lk_64 : xLq RX10 (3, 1, 1, 8, 66) := ⟨by decide, _, rfl, ⟨rfl, (RX1, TX1, 10), rfl, by decide, xtb 225 (by decide +kernel) rfl⟩⟩
theorem lk_65 : xLq RX10 (3, 1, 1, 7, 62) := ⟨by decide, _, rfl, ⟨rfl, (RX1, TX1, 10), rfl, by decide, xtb 220 (by decide +kernel) rfl⟩⟩
theorem lk_66 : xLq RX10 (3, 13, 27, 80, 118) := ⟨by decide, _, rfl, ⟨rfl, mX10_cuts, rfl, xtb 1113 (by decide +kernel) rfl, xtb 1114 (by decide +kernel) rfl, xtb 1115 (by decide +kernel) rfl, (RX10, TX10, 13), rfl, rfl⟩⟩
theorem lk_67 : xLq RX10 (3, 13, 70, 91, 83) := ⟨by decide, _, rfl, ⟨rfl, mX11_isIn, rfl, "BentScreens", List.mem_of_getElem? (i := 1074) (by decide +kernel), xtb 815 (by decide +kernel) rfl⟩⟩
theorem lk_68 : xLq RX10 (3, 1, 10, 1, 11) := ⟨by decide, _, rfl, ⟨rfl, (RX10, TX10, 13), rfl, by decide, xtb 480 (by decide +kernel) rfl⟩⟩
theorem lk_69 : xLq RX10 (3, 1, 10, 2, 17) := ⟨by decide, _, rfl, ⟨rfl, (RX10, TX10, 13), rfl, by decide, xtb 481 (by decide +kernel) rfl⟩⟩
theorem lk_70 : xLq RX10 (3, 13, 1, 2, 87) := ⟨by decide, _, rfl, ⟨rfl, mJ7_fill_53178, rfl, xtb 1079 (by decide +kernel) rfl, xtb 1080 (by decide +kernel) rfl⟩⟩
theorem lk_71 : xLq RX10 (3, 14, 10, 10, 111) := ⟨by decide, _, rfl, ⟨rfl, (RX10, TX10, 13), .int, rfl, by decide, xtb 490 (by decide +kernel) rfl, rfl, (fun h => by cases h), by decide +kernel, rfl⟩⟩
theorem lk_72 : xLq RX10 (3, 13, 34, 80, 114) := ⟨by decide, _, rfl, ⟨rfl, mX10_reach, rfl, xtb 1090 (by decide +kernel) rfl, xtb 1092 (by decide +kernel) rfl, xtb 24 (by decide +kernel) rfl, (RX10, TX10, 13), rfl, rfl⟩⟩
theorem lk_73 : xLq RX10 (3, 1, 10, 10, 111) := ⟨by decide, _, rfl, ⟨rfl, (RX10, TX10, 13), rfl, by decide, xtb 490 (by decide +kernel) rfl⟩⟩
theorem lk_74 : xLq RX10 (3, 1, 10, 9, 39) := ⟨by decide, _, rfl, ⟨rfl, (RX10, TX10, 13), rfl, by decide, xtb 489 (by decide +kernel) rfl⟩⟩
theorem lk_75 : xLq RX10 (3, 1, 10, 6, 30) := ⟨by decide, _, rfl, ⟨rfl, (RX10, TX10, 13), rfl, by decide, xtb 485 (by decide +kernel) rfl⟩⟩
theorem lk_76 : xLq RX10 (3, 14, 10, 11, 93) := ⟨by decide, _, rfl, ⟨rfl, (RX10, TX10, 13), .int, rfl, by decide, xtb 491 (by decide +kernel) rfl, rfl, (fun h => by cases h), by decide +kernel, rfl⟩⟩
theorem lk_77 : xLq RX10 (3, 13, 25, 80, 96) := ⟨by decide, _, rfl, ⟨rfl, mX10_addWay, rfl, xtb 1082 (by decide +kernel) rfl, xtb 1084 (by decide +kernel) rfl, xtb 22 (by decide +kernel) rfl, (RX10, TX10, 13), rfl, rfl⟩⟩
theorem lk_78 : xLq RX10 (3, 1, 10, 11, 93) := ⟨by decide, _, rfl, ⟨rfl, (RX10, TX10, 13), rfl, by decide, xtb 491 (by decide +kernel) rfl⟩⟩
theorem lk_79 : xLq RX10 (3, 59, 10, 12, 46) := ⟨by decide, _, rfl, ⟨rfl, (RX10, TX10, 13), .boolean, rfl, by decide, xtb 493 (by decide +kernel) rfl, rfl, (fun h => by cases h), by decide +kernel, rfl⟩⟩
theorem lk_80 : xLq RX10 (3, 25, 0, 0, 3) := ⟨by decide, _, rfl, ⟨rfl, xtb 478 (by decide +kernel) rfl⟩⟩
theorem lk_81 : xLq RX10 (3, 61, 10, 1, 11) := ⟨by decide, _, rfl, ⟨rfl, (RX10, TX10, 13), .array .boolean, rfl, by decide, xtb 480 (by decide +kernel) rfl, rfl, (fun _ => rfl), by decide +kernel, Or.inr ⟨_, rfl⟩⟩⟩
theorem lk_82 : xLq RX10 (3, 61, 10, 2, 17) := ⟨by decide, _, rfl, ⟨rfl, (RX10, TX10, 13), .array .boolean, rfl, by decide, xtb 481 (by decide +kernel) rfl, rfl, (fun _ => rfl), by decide +kernel, Or.inr ⟨_, rfl⟩⟩⟩
theorem lk_83 : xLq RX10 (3, 61, 10, 3, 20) := ⟨by decide, _, rfl, ⟨rfl, (RX10, TX10, 13), .array .int, rfl, by decide, xtb 482 (by decide +kernel) rfl, rfl, (fun _ => rfl), by decide +kernel, Or.inr ⟨_, rfl⟩⟩⟩
theorem lk_84 : xLq RX10 (3, 61, 10, 4, 24) := ⟨by decide, _, rfl, ⟨rfl, (RX10, TX10, 13), .array .int, rfl, by decide, xtb 483 (by decide +kernel) rfl, rfl, (fun _ => rfl), by decide +kernel, Or.inr ⟨_, rfl⟩⟩⟩
theorem lk_85 : xLq RX10 (3, 61, 10, 5, 27) := ⟨by decide, _, rfl, ⟨rfl, (RX10, TX10, 13), .array .boolean, rfl, by decide, xtb 484 (by decide +kernel) rfl, rfl, (fun _ => rfl), by decide +kernel, Or.inr ⟨_, rfl⟩⟩⟩
theorem lk_86 : xLq RX10 (3, 61, 10, 6, 30) := ⟨by decide, _, rfl, ⟨rfl, (RX10, TX10, 13), .array .boolean, rfl, by decide, xtb 485 (by decide +kernel) rfl, rfl, (fun _ => rfl), by decide +kernel, Or.inr ⟨_, rfl⟩⟩⟩
theorem lk_87 : xLq RX10 (3, 61, 10, 7, 33) := ⟨by decide, _, rfl, ⟨rfl, (RX10, TX10, 13), .array .boolean, rfl, by decide, xtb 486 (by decide +kernel) rfl, rfl, (fun _ => rfl), by decide +kernel, Or.inr ⟨_, rfl⟩⟩⟩
theorem lk_88 : xLq RX10 (3, 61, 10, 8, 36) := ⟨by decide, _, rfl, ⟨rfl, (RX10, TX10, 13), .array .int, rfl, by decide, xtb 488 (by decide +kernel) rfl, rfl, (fun _ => rfl), by decide +kernel, Or.inr ⟨_, rfl⟩⟩⟩
theorem lk_89 : xLq RX10 (3, 61, 10, 9, 39) := ⟨by decide, _, rfl, ⟨rfl, (RX10, TX10, 13), .array .int, rfl, by decide, xtb 489 (by decide +kernel) rfl, rfl, (fun _ => rfl), by decide +kernel, Or.inr ⟨_, rfl⟩⟩⟩
theorem lk_90 : xLq RX10 (3, 61, 10, 0, 42) := ⟨by decide, _, rfl, ⟨rfl, (RX10, TX10, 13), .object "BentScreens$Told", rfl, by decide, xtb 479 (by decide +kernel) rfl, rfl, (fun _ => rfl), by decide +kernel, Or.inl ⟨_, rfl⟩⟩⟩
theorem lk_91 : xLq RX10 (3, 13, 323, 72, 69) := ⟨by decide, _, rfl, ⟨rfl, mX9_cracksInView, rfl, xtb 1072 (by decide +kernel) rfl, xtb 1057 (by decide +kernel) rfl, xtb 1058 (by decide +kernel) rfl, (RX9, TX9, 14), rfl, rfl⟩⟩
theorem lk_92 : xLq RX10 (3, 1, 9, 5, 73) := ⟨by decide, _, rfl, ⟨rfl, (RX9, TX9, 14), rfl, by decide, xtb 273 (by decide +kernel) rfl⟩⟩
theorem lk_93 : xLq RX10 (3, 13, 285, 40, 77) := ⟨by decide, _, rfl, ⟨rfl, mX5_get, rfl, xtb 1073 (by decide +kernel) rfl, xtb 807 (by decide +kernel) rfl, xtb 808 (by decide +kernel) rfl, (RX5, TX5, 4), rfl, rfl⟩⟩
theorem lk_94 : xLq RX10 (3, 1, 10, 12, 46) := ⟨by decide, _, rfl, ⟨rfl, (RX10, TX10, 13), rfl, by decide, xtb 493 (by decide +kernel) rfl⟩⟩
theorem lk_95 : xLq RX10 (3, 13, 33, 80, 50) := ⟨by decide, _, rfl, ⟨rfl, mX10_layNet, rfl, xtb 1068 (by decide +kernel) rfl, xtb 1070 (by decide +kernel) rfl, xtb 20 (by decide +kernel) rfl, (RX10, TX10, 13), rfl, rfl⟩⟩
theorem lk_96 : xLq RX10 (3, 13, 29, 80, 53) := ⟨by decide, _, rfl, ⟨rfl, mX10_findWays, rfl, xtb 1075 (by decide +kernel) rfl, xtb 1077 (by decide +kernel) rfl, xtb 21 (by decide +kernel) rfl, (RX10, TX10, 13), rfl, rfl⟩⟩
theorem lk_97 : xLq RX11 (3, 13, 70, 90, 238) := ⟨by decide, _, rfl, ⟨rfl, mX11_isIn, rfl, xtb 920 (by decide +kernel) rfl, xtb 815 (by decide +kernel) rfl⟩⟩
theorem lk_98 : xLq RX11 (3, 1, 11, 1, 16) := ⟨by decide, _, rfl, ⟨rfl, (RX11, TX11, 11), rfl, by decide, xtb 621 (by decide +kernel) rfl⟩⟩
theorem lk_99 : xLq RX11 (3, 1, 11, 0, 10) := ⟨by decide, _, rfl, ⟨rfl, (RX11, TX11, 11), rfl, by decide, xtb 620 (by decide +kernel) rfl⟩⟩
theorem lk_100 : xLq RX11 (3, 13, 322, 72, 378) := ⟨by decide, _, rfl, ⟨rfl, mX9_copy, rfl, xtb 1521 (by decide +kernel) rfl, xtb 1522 (by decide +kernel) rfl, xtb 1523 (by decide +kernel) rfl, (RX9, TX9, 14), rfl, rfl⟩⟩
theorem lk_101 : xLq RX11 (3, 13, 61, 88, 103) := ⟨by decide, _, rfl, ⟨rfl, mX11_forgetFilm, rfl, xtb 854 (by decide +kernel) rfl, xtb 856 (by decide +kernel) rfl, xtb 9 (by decide +kernel) rfl, (RX11, TX11, 11), rfl, rfl⟩⟩
theorem lk_102 : xLq RX11 (3, 1, 11, 8, 79) := ⟨by decide, _, rfl, ⟨rfl, (RX11, TX11, 11), rfl, by decide, xtb 628 (by decide +kernel) rfl⟩⟩
theorem lk_103 : xLq RX11 (3, 13, 272, 32, 326) := ⟨by decide, _, rfl, ⟨rfl, mX4_forget, rfl, xtb 1346 (by decide +kernel) rfl, xtb 1347 (by decide +kernel) rfl, xtb 1348 (by decide +kernel) rfl, (RX4, TX4, 12), rfl, rfl⟩⟩
theorem lk_104 : xLq RX11 (3, 13, 80, 88, 361) := ⟨by decide, _, rfl, ⟨rfl, mX11_measureAll, rfl, xtb 1485 (by decide +kernel) rfl, xtb 1487 (by decide +kernel) rfl, xtb 53 (by decide +kernel) rfl, (RX11, TX11, 11), rfl, rfl⟩⟩
theorem lk_105 : xLq RX11 (3, 13, 72, 88, 364) := ⟨by decide, _, rfl, ⟨rfl, mX11_judgeLines, rfl, xtb 1495 (by decide +kernel) rfl, xtb 1497 (by decide +kernel) rfl, xtb 54 (by decide +kernel) rfl, (RX11, TX11, 11), rfl, rfl⟩⟩
theorem lk_106 : xLq RX11 (3, 1, 9, 12, 367) := ⟨by decide, _, rfl, ⟨rfl, (RX9, TX9, 14), rfl, by decide, xtb 292 (by decide +kernel) rfl⟩⟩
theorem lk_107 : xLq RX11 (3, 1, 5, 3, 151) := ⟨by decide, _, rfl, ⟨rfl, (RX5, TX5, 4), rfl, by decide, xtb 185 (by decide +kernel) rfl⟩⟩
theorem lk_108 : xLq RX11 (3, 1, 11, 10, 87) := ⟨by decide, _, rfl, ⟨rfl, (RX11, TX11, 11), rfl, by decide, xtb 630 (by decide +kernel) rfl⟩⟩
theorem lk_109 : xLq RX11 (3, 13, 285, 40, 132) := ⟨by decide, _, rfl, ⟨rfl, mX5_get, rfl, xtb 900 (by decide +kernel) rfl, xtb 807 (by decide +kernel) rfl, xtb 808 (by decide +kernel) rfl, (RX5, TX5, 4), rfl, rfl⟩⟩
theorem lk_110 : xLq RX11 (3, 1, 9, 4, 38) := ⟨by decide, _, rfl, ⟨rfl, (RX9, TX9, 14), rfl, by decide, xtb 267 (by decide +kernel) rfl⟩⟩
theorem lk_111 : xLq RX11 (3, 1, 1, 0, 112) := ⟨by decide, _, rfl, ⟨rfl, (RX1, TX1, 10), rfl, by decide, xtb 199 (by decide +kernel) rfl⟩⟩
theorem lk_112 : xLq RX11 (3, 13, 287, 40, 117) := ⟨by decide, _, rfl, ⟨rfl, mX5_has, rfl, xtb 886 (by decide +kernel) rfl, xtb 831 (by decide +kernel) rfl, xtb 832 (by decide +kernel) rfl, (RX5, TX5, 4), rfl, rfl⟩⟩
theorem lk_113 : xLq RX11 (3, 13, 71, 90, 140) := ⟨by decide, _, rfl, ⟨rfl, mX11_isRound, rfl, xtb 917 (by decide +kernel) rfl, xtb 918 (by decide +kernel) rfl⟩⟩
theorem lk_114 : xLq RX11 (3, 1, 11, 4, 45) := ⟨by decide, _, rfl, ⟨rfl, (RX11, TX11, 11), rfl, by decide, xtb 624 (by decide +kernel) rfl⟩⟩
theorem lk_115 : xLq RX11 (3, 13, 12, 0, 123) := ⟨by decide, _, rfl, ⟨rfl, mX0_layAsTold, rfl, xtb 887 (by decide +kernel) rfl, xtb 888 (by decide +kernel) rfl, xtb 889 (by decide +kernel) rfl, (RX0, TX0, 11), rfl, rfl⟩⟩
theorem lk_116 : xLq RX11 (3, 13, 5, 0, 147) := ⟨by decide, _, rfl, ⟨rfl, mX0_canBear, rfl, xtb 931 (by decide +kernel) rfl, xtb 932 (by decide +kernel) rfl, xtb 933 (by decide +kernel) rfl, (RX0, TX0, 11), rfl, rfl⟩⟩
theorem lk_117 : xLq RX11 (3, 1, 9, 10, 316) := ⟨by decide, _, rfl, ⟨rfl, (RX9, TX9, 14), rfl, by decide, xtb 287 (by decide +kernel) rfl⟩⟩
theorem lk_118 : xLq RX11 (3, 13, 68, 88, 319) := ⟨by decide, _, rfl, ⟨rfl, mX11_isBroken, rfl, xtb 1315 (by decide +kernel) rfl, xtb 1317 (by decide +kernel) rfl, xtb 42 (by decide +kernel) rfl, (RX11, TX11, 11), rfl, rfl⟩⟩
theorem lk_119 : xLq RX11 (3, 52, 1000, 0, 394) := ⟨by decide, _, rfl, ⟨rfl, xtb 1335 (by decide +kernel) rfl⟩⟩
theorem lk_120 : xLq RX11 (3, 13, 55, 90, 396) := ⟨by decide, _, rfl, ⟨rfl, mX11_divide, rfl, xtb 1336 (by decide +kernel) rfl, xtb 911 (by decide +kernel) rfl⟩⟩
theorem lk_121 : xLq RX11 (3, 1, 9, 5, 195) := ⟨by decide, _, rfl, ⟨rfl, (RX9, TX9, 14), rfl, by decide, xtb 274 (by decide +kernel) rfl⟩⟩
theorem lk_122 : xLq RX11 (3, 13, 290, 40, 212) := ⟨by decide, _, rfl, ⟨rfl, mX5_put, rfl, xtb 1051 (by decide +kernel) rfl, xtb 827 (by decide +kernel) rfl, xtb 828 (by decide +kernel) rfl, (RX5, TX5, 4), rfl, rfl⟩⟩
theorem lk_123 : xLq RX11 (3, 1, 9, 8, 252) := ⟨by decide, _, rfl, ⟨rfl, (RX9, TX9, 14), rfl, by decide, xtb 282 (by decide +kernel) rfl⟩⟩
theorem lk_124 : xLq RX11 (3, 1, 9, 6, 186) := ⟨by decide, _, rfl, ⟨rfl, (RX9, TX9, 14), rfl, by decide, xtb 276 (by decide +kernel) rfl⟩⟩
theorem lk_125 : xLq RX11 (3, 1, 9, 7, 189) := ⟨by decide, _, rfl, ⟨rfl, (RX9, TX9, 14), rfl, by decide, xtb 278 (by decide +kernel) rfl⟩⟩
theorem lk_126 : xLq RX11 (3, 1, 9, 9, 273) := ⟨by decide, _, rfl, ⟨rfl, (RX9, TX9, 14), rfl, by decide, xtb 285 (by decide +kernel) rfl⟩⟩
theorem lk_127 : xLq RX11 (3, 1, 9, 11, 72) := ⟨by decide, _, rfl, ⟨rfl, (RX9, TX9, 14), rfl, by decide, xtb 289 (by decide +kernel) rfl⟩⟩
theorem lk_128 : xLq RX11 (3, 13, 323, 72, 216) := ⟨by decide, _, rfl, ⟨rfl, mX9_cracksInView, rfl, xtb 1056 (by decide +kernel) rfl, xtb 1057 (by decide +kernel) rfl, xtb 1058 (by decide +kernel) rfl, (RX9, TX9, 14), rfl, rfl⟩⟩
theorem lk_129 : xLq RX11 (3, 13, 46, 88, 375) := ⟨by decide, _, rfl, ⟨rfl, mX11_countOfFilm, rfl, xtb 1512 (by decide +kernel) rfl, xtb 1514 (by decide +kernel) rfl, xtb 56 (by decide +kernel) rfl, (RX11, TX11, 11), rfl, rfl⟩⟩
theorem lk_130 : xLq RX11 (3, 1, 1, 7, 225) := ⟨by decide, _, rfl, ⟨rfl, (RX1, TX1, 10), rfl, by decide, xtb 223 (by decide +kernel) rfl⟩⟩
theorem lk_131 : xLq RX11 (3, 1, 1, 8, 255) := ⟨by decide, _, rfl, ⟨rfl, (RX1, TX1, 10), rfl, by decide, xtb 228 (by decide +kernel) rfl⟩⟩
theorem lk_132 : xLq RX11 (3, 13, 69, 88, 288) := ⟨by decide, _, rfl, ⟨rfl, mX11_isDark, rfl, xtb 1208 (by decide +kernel) rfl, xtb 1210 (by decide +kernel) rfl, xtb 32 (by decide +kernel) rfl, (RX11, TX11, 11), rfl, rfl⟩⟩
theorem lk_133 : xLq RX11 (3, 1, 1, 5, 297) := ⟨by decide, _, rfl, ⟨rfl, (RX1, TX1, 10), rfl, by decide, xtb 214 (by decide +kernel) rfl⟩⟩
theorem lk_134 : xLq RX11 (3, 1, 1, 6, 300) := ⟨by decide, _, rfl, ⟨rfl, (RX1, TX1, 10), rfl, by decide, xtb 218 (by decide +kernel) rfl⟩⟩
theorem lk_135 : xLq RX11 (3, 1, 1, 9, 412) := ⟨by decide, _, rfl, ⟨rfl, (RX1, TX1, 10), rfl, by decide, xtb 231 (by decide +kernel) rfl⟩⟩
theorem lk_136 : xLq RX11 (3, 13, 243, 8, 415) := ⟨by decide, _, rfl, ⟨rfl, mX1_rowsOf, rfl, xtb 1516 (by decide +kernel) rfl, xtb 795 (by decide +kernel) rfl, xtb 796 (by decide +kernel) rfl, (RX1, TX1, 10), rfl, rfl⟩⟩
theorem lk_137 : xLq RX11 (3, 13, 289, 40, 198) := ⟨by decide, _, rfl, ⟨rfl, mX5_isFull, rfl, xtb 1036 (by decide +kernel) rfl, xtb 799 (by decide +kernel) rfl, xtb 800 (by decide +kernel) rfl, (RX5, TX5, 4), rfl, rfl⟩⟩
theorem lk_138 : xLq RX11 (3, 13, 63, 88, 201) := ⟨by decide, _, rfl, ⟨rfl, mX11_hasPart, rfl, xtb 1037 (by decide +kernel) rfl, xtb 1039 (by decide +kernel) rfl, xtb 18 (by decide +kernel) rfl, (RX11, TX11, 11), rfl, rfl⟩⟩
theorem lk_139 : xLq RX11 (3, 13, 324, 72, 205) := ⟨by decide, _, rfl, ⟨rfl, mX9_findCrack, rfl, xtb 1045 (by decide +kernel) rfl, xtb 1046 (by decide +kernel) rfl, xtb 1047 (by decide +kernel) rfl, (RX9, TX9, 14), rfl, rfl⟩⟩
theorem lk_140 : xLq RX11 (3, 13, 286, 40, 209) := ⟨by decide, _, rfl, ⟨rfl, mX5_grow, rfl, xtb 1050 (by decide +kernel) rfl, xtb 822 (by decide +kernel) rfl, xtb 823 (by decide +kernel) rfl, (RX5, TX5, 4), rfl, rfl⟩⟩
theorem lk_141 : xLq RX11 (3, 1, 11, 5, 52) := ⟨by decide, _, rfl, ⟨rfl, (RX11, TX11, 11), rfl, by decide, xtb 625 (by decide +kernel) rfl⟩⟩
theorem lk_142 : xLq RX11 (3, 13, 30, 80, 192) := ⟨by decide, _, rfl, ⟨rfl, mX10_forget, rfl, xtb 862 (by decide +kernel) rfl, xtb 863 (by decide +kernel) rfl, xtb 864 (by decide +kernel) rfl, (RX10, TX10, 13), rfl, rfl⟩⟩
theorem lk_143 : xLq RX11 (3, 1, 1, 2, 169) := ⟨by decide, _, rfl, ⟨rfl, (RX1, TX1, 10), rfl, by decide, xtb 204 (by decide +kernel) rfl⟩⟩
theorem lk_144 : xLq RX11 (3, 13, 16, 0, 172) := ⟨by decide, _, rfl, ⟨rfl, mX0_restWear, rfl, xtb 989 (by decide +kernel) rfl, xtb 990 (by decide +kernel) rfl, xtb 991 (by decide +kernel) rfl, (RX0, TX0, 11), rfl, rfl⟩⟩
theorem lk_145 : xLq RX11 (3, 13, 21, 0, 175) := ⟨by decide, _, rfl, ⟨rfl, mX0_wear, rfl, xtb 996 (by decide +kernel) rfl, xtb 997 (by decide +kernel) rfl, xtb 998 (by decide +kernel) rfl, (RX0, TX0, 11), rfl, rfl⟩⟩
theorem lk_146 : xLq RX11 (3, 13, 10, 0, 182) := ⟨by decide, _, rfl, ⟨rfl, mX0_isWornOut, rfl, xtb 1020 (by decide +kernel) rfl, xtb 1021 (by decide +kernel) rfl, xtb 1022 (by decide +kernel) rfl, (RX0, TX0, 11), rfl, rfl⟩⟩
theorem lk_147 : xLq RX11 (3, 13, 35, 80, 219) := ⟨by decide, _, rfl, ⟨rfl, mX10_refresh, rfl, xtb 1064 (by decide +kernel) rfl, xtb 1065 (by decide +kernel) rfl, xtb 1066 (by decide +kernel) rfl, (RX10, TX10, 13), rfl, rfl⟩⟩
theorem lk_148 : xLq RX11 (3, 1, 10, 11, 222) := ⟨by decide, _, rfl, ⟨rfl, (RX10, TX10, 13), rfl, by decide, xtb 492 (by decide +kernel) rfl⟩⟩
theorem lk_149 : xLq RX11 (3, 13, 26, 80, 231) := ⟨by decide, _, rfl, ⟨rfl, mX10_countCut, rfl, xtb 1109 (by decide +kernel) rfl, xtb 1110 (by decide +kernel) rfl, xtb 1111 (by decide +kernel) rfl, (RX10, TX10, 13), rfl, rfl⟩⟩
theorem lk_150 : xLq RX11 (3, 13, 64, 88, 261) := ⟨by decide, _, rfl, ⟨rfl, mX11_hasPoint, rfl, xtb 1041 (by decide +kernel) rfl, xtb 1043 (by decide +kernel) rfl, xtb 19 (by decide +kernel) rfl, (RX11, TX11, 11), rfl, rfl⟩⟩
theorem lk_151 : xLq RX11 (3, 1, 11, 6, 59) := ⟨by decide, _, rfl, ⟨rfl, (RX11, TX11, 11), rfl, by decide, xtb 626 (by decide +kernel) rfl⟩⟩
theorem lk_152 : xLq RX11 (3, 13, 266, 24, 279) := ⟨by decide, _, rfl, ⟨rfl, mX3_refreshDamp, rfl, xtb 1187 (by decide +kernel) rfl, xtb 1188 (by decide +kernel) rfl, xtb 1189 (by decide +kernel) rfl, (RX3, TX3, 6), rfl, rfl⟩⟩
theorem lk_153 : xLq RX11 (3, 1, 3, 2, 282) := ⟨by decide, _, rfl, ⟨rfl, (RX3, TX3, 6), rfl, by decide, xtb 531 (by decide +kernel) rfl⟩⟩
theorem lk_154 : xLq RX11 (3, 13, 92, 88, 285) := ⟨by decide, _, rfl, ⟨rfl, mX11_refreshLamps, rfl, xtb 1204 (by decide +kernel) rfl, xtb 1206 (by decide +kernel) rfl, xtb 31 (by decide +kernel) rfl, (RX11, TX11, 11), rfl, rfl⟩⟩
theorem lk_155 : xLq RX11 (3, 13, 45, 88, 291) := ⟨by decide, _, rfl, ⟨rfl, mX11_countDark, rfl, xtb 1220 (by decide +kernel) rfl, xtb 1222 (by decide +kernel) rfl, xtb 33 (by decide +kernel) rfl, (RX11, TX11, 11), rfl, rfl⟩⟩
theorem lk_156 : xLq RX11 (3, 14, 9, 6, 186) := ⟨by decide, _, rfl, ⟨rfl, (RX9, TX9, 14), .int, rfl, by decide, xtb 276 (by decide +kernel) rfl, rfl, (fun h => by cases h), by decide +kernel, rfl⟩⟩
theorem lk_157 : xLq RX11 (3, 1, 9, 1, 91) := ⟨by decide, _, rfl, ⟨rfl, (RX9, TX9, 14), rfl, by decide, xtb 258 (by decide +kernel) rfl⟩⟩
theorem lk_158 : xLq RX11 (3, 14, 9, 1, 91) := ⟨by decide, _, rfl, ⟨rfl, (RX9, TX9, 14), .int, rfl, by decide, xtb 258 (by decide +kernel) rfl, rfl, (fun h => by cases h), by decide +kernel, rfl⟩⟩
theorem lk_159 : xLq RX11 (3, 1, 9, 2, 106) := ⟨by decide, _, rfl, ⟨rfl, (RX9, TX9, 14), rfl, by decide, xtb 263 (by decide +kernel) rfl⟩⟩
theorem lk_160 : xLq RX11 (3, 1, 9, 3, 109) := ⟨by decide, _, rfl, ⟨rfl, (RX9, TX9, 14), rfl, by decide, xtb 265 (by decide +kernel) rfl⟩⟩
theorem lk_161 : xLq RX11 (3, 1, 10, 7, 228) := ⟨by decide, _, rfl, ⟨rfl, (RX10, TX10, 13), rfl, by decide, xtb 487 (by decide +kernel) rfl⟩⟩
theorem lk_162 : xLq RX11 (3, 13, 321, 72, 95) := ⟨by decide, _, rfl, ⟨rfl, mX9_append, rfl, xtb 658 (by decide +kernel) rfl, xtb 659 (by decide +kernel) rfl, xtb 660 (by decide +kernel) rfl, (RX9, TX9, 14), rfl, rfl⟩⟩
theorem lk_163 : xLq RX11 (3, 1, 11, 2, 25) := ⟨by decide, _, rfl, ⟨rfl, (RX11, TX11, 11), rfl, by decide, xtb 622 (by decide +kernel) rfl⟩⟩
theorem lk_164 : xLq RX11 (3, 13, 250, 16, 99) := ⟨by decide, _, rfl, ⟨rfl, mX2_readFilm, rfl, xtb 670 (by decide +kernel) rfl, xtb 671 (by decide +kernel) rfl, xtb 672 (by decide +kernel) rfl, (RX2, TX2, 11), rfl, rfl⟩⟩
theorem lk_165 : xLq RX11 (3, 13, 8, 0, 381) := ⟨by decide, _, rfl, ⟨rfl, mX0_forgetOrder, rfl, xtb 858 (by decide +kernel) rfl, xtb 859 (by decide +kernel) rfl, xtb 860 (by decide +kernel) rfl, (RX0, TX0, 11), rfl, rfl⟩⟩
theorem lk_166 : xLq RX11 (3, 13, 259, 24, 258) := ⟨by decide, _, rfl, ⟨rfl, mX3_forgetAges, rfl, xtb 866 (by decide +kernel) rfl, xtb 867 (by decide +kernel) rfl, xtb 868 (by decide +kernel) rfl, (RX3, TX3, 6), rfl, rfl⟩⟩
theorem lk_167 : xLq RX11 (3, 13, 260, 24, 276) := ⟨by decide, _, rfl, ⟨rfl, mX3_forgetDamp, rfl, xtb 870 (by decide +kernel) rfl, xtb 871 (by decide +kernel) rfl, xtb 872 (by decide +kernel) rfl, (RX3, TX3, 6), rfl, rfl⟩⟩
theorem lk_168 : xLq RX11 (3, 1, 11, 7, 66) := ⟨by decide, _, rfl, ⟨rfl, (RX11, TX11, 11), rfl, by decide, xtb 627 (by decide +kernel) rfl⟩⟩
theorem lk_169 : xLq RX11 (3, 13, 300, 56, 384) := ⟨by decide, _, rfl, ⟨rfl, mX7_forget, rfl, xtb 874 (by decide +kernel) rfl, xtb 875 (by decide +kernel) rfl, xtb 876 (by decide +kernel) rfl, (RX7, TX7, 5), rfl, rfl⟩⟩
theorem lk_170 : xLq RX11 (3, 24, 9, 0, 7) := ⟨by decide, _, rfl, ⟨rfl, (RX9, TX9, 14), rfl, xtb 155 (by decide +kernel) rfl, xtb 156 (by decide +kernel) rfl, xtb 127 (by decide +kernel) rfl⟩⟩
theorem lk_171 : xLq RX11 (3, 13, 325, 77, 9) := ⟨by decide, _, rfl, ⟨rfl, mX9_init, rfl, "BentScreens", List.mem_of_getElem? (i := 157) (by decide +kernel), rfl, rfl, rfl, xtb 158 (by decide +kernel) rfl⟩⟩
theorem lk_172 : xLq RX11 (3, 13, 27, 80, 234) := ⟨by decide, _, rfl, ⟨rfl, mX10_cuts, rfl, xtb 1121 (by decide +kernel) rfl, xtb 1114 (by decide +kernel) rfl, xtb 1115 (by decide +kernel) rfl, (RX10, TX10, 13), rfl, rfl⟩⟩
theorem lk_173 : xLq RX11 (3, 25, 0, 0, 1) := ⟨by decide, _, rfl, ⟨rfl, xtb 152 (by decide +kernel) rfl⟩⟩
theorem lk_174 : xLq RX11 (3, 61, 11, 0, 10) := ⟨by decide, _, rfl, ⟨rfl, (RX11, TX11, 11), .object "BentScreens$Told", rfl, by decide, xtb 620 (by decide +kernel) rfl, rfl, (fun _ => rfl), by decide +kernel, Or.inl ⟨_, rfl⟩⟩⟩
theorem lk_175 : xLq RX11 (3, 46, 0, 0, 7) := ⟨by decide, _, rfl, ⟨rfl, xtb 155 (by decide +kernel) rfl⟩⟩
theorem lk_176 : xLq RX11 (3, 61, 11, 1, 16) := ⟨by decide, _, rfl, ⟨rfl, (RX11, TX11, 11), .array (.object "BentScreens$Told"), rfl, by decide, xtb 621 (by decide +kernel) rfl, rfl, (fun _ => rfl), by decide +kernel, Or.inr ⟨_, rfl⟩⟩⟩
theorem lk_177 : xLq RX11 (3, 24, 2, 0, 20) := ⟨by decide, _, rfl, ⟨rfl, (RX2, TX2, 11), rfl, xtb 326 (by decide +kernel) rfl, xtb 327 (by decide +kernel) rfl, xtb 130 (by decide +kernel) rfl⟩⟩
theorem lk_178 : xLq RX11 (3, 13, 246, 20, 22) := ⟨by decide, _, rfl, ⟨rfl, mX2_init, rfl, xtb 328 (by decide +kernel) rfl, rfl, rfl, rfl, xtb 329 (by decide +kernel) rfl⟩⟩
theorem lk_179 : xLq RX11 (3, 61, 11, 2, 25) := ⟨by decide, _, rfl, ⟨rfl, (RX11, TX11, 11), .object "BentScreens$FilmText", rfl, by decide, xtb 622 (by decide +kernel) rfl, rfl, (fun _ => rfl), by decide +kernel, Or.inl ⟨_, rfl⟩⟩⟩
theorem lk_180 : xLq RX11 (3, 24, 6, 0, 29) := ⟨by decide, _, rfl, ⟨rfl, (RX6, TX6, 6), rfl, xtb 399 (by decide +kernel) rfl, xtb 400 (by decide +kernel) rfl, xtb 132 (by decide +kernel) rfl⟩⟩
theorem lk_181 : xLq RX11 (3, 13, 291, 52, 31) := ⟨by decide, _, rfl, ⟨rfl, mX6_init, rfl, xtb 401 (by decide +kernel) rfl, rfl, rfl, rfl, xtb 402 (by decide +kernel) rfl⟩⟩
theorem lk_182 : xLq RX11 (3, 61, 11, 3, 32) := ⟨by decide, _, rfl, ⟨rfl, (RX11, TX11, 11), .object "BentScreens$RulesText", rfl, by decide, xtb 623 (by decide +kernel) rfl, rfl, (fun _ => rfl), by decide +kernel, Or.inl ⟨_, rfl⟩⟩⟩
theorem lk_183 : xLq RX11 (3, 24, 0, 0, 36) := ⟨by decide, _, rfl, ⟨rfl, (RX0, TX0, 11), rfl, xtb 428 (by decide +kernel) rfl, xtb 429 (by decide +kernel) rfl, xtb 133 (by decide +kernel) rfl⟩⟩
theorem lk_184 : xLq RX11 (3, 13, 9, 4, 42) := ⟨by decide, _, rfl, ⟨rfl, mX0_init, rfl, xtb 430 (by decide +kernel) rfl, rfl, rfl, rfl, xtb 431 (by decide +kernel) rfl⟩⟩
theorem lk_185 : xLq RX11 (3, 61, 11, 4, 45) := ⟨by decide, _, rfl, ⟨rfl, (RX11, TX11, 11), .object "BentScreens$Bend", rfl, by decide, xtb 624 (by decide +kernel) rfl, rfl, (fun _ => rfl), by decide +kernel, Or.inl ⟨_, rfl⟩⟩⟩
theorem lk_186 : xLq RX11 (3, 24, 10, 0, 49) := ⟨by decide, _, rfl, ⟨rfl, (RX10, TX10, 13), rfl, xtb 473 (by decide +kernel) rfl, xtb 474 (by decide +kernel) rfl, xtb 134 (by decide +kernel) rfl⟩⟩
theorem lk_187 : xLq RX11 (3, 13, 31, 84, 51) := ⟨by decide, _, rfl, ⟨rfl, mX10_init, rfl, xtb 475 (by decide +kernel) rfl, rfl, rfl, rfl, xtb 476 (by decide +kernel) rfl⟩⟩
theorem lk_188 : xLq RX11 (3, 61, 11, 5, 52) := ⟨by decide, _, rfl, ⟨rfl, (RX11, TX11, 11), .object "BentScreens$Ways", rfl, by decide, xtb 625 (by decide +kernel) rfl, rfl, (fun _ => rfl), by decide +kernel, Or.inl ⟨_, rfl⟩⟩⟩
theorem lk_189 : xLq RX11 (3, 24, 3, 0, 56) := ⟨by decide, _, rfl, ⟨rfl, (RX3, TX3, 6), rfl, xtb 522 (by decide +kernel) rfl, xtb 523 (by decide +kernel) rfl, xtb 135 (by decide +kernel) rfl⟩⟩
theorem lk_190 : xLq RX11 (3, 13, 261, 28, 58) := ⟨by decide, _, rfl, ⟨rfl, mX3_init, rfl, xtb 524 (by decide +kernel) rfl, rfl, rfl, rfl, xtb 525 (by decide +kernel) rfl⟩⟩
theorem lk_191 : xLq RX11 (3, 61, 11, 6, 59) := ⟨by decide, _, rfl, ⟨rfl, (RX11, TX11, 11), .object "BentScreens$Lamps", rfl, by decide, xtb 626 (by decide +kernel) rfl, rfl, (fun _ => rfl), by decide +kernel, Or.inl ⟨_, rfl⟩⟩⟩
theorem lk_192 : xLq RX11 (3, 24, 7, 0, 63) := ⟨by decide, _, rfl, ⟨rfl, (RX7, TX7, 5), rfl, xtb 548 (by decide +kernel) rfl, xtb 549 (by decide +kernel) rfl, xtb 136 (by decide +kernel) rfl⟩⟩
theorem lk_193 : xLq RX11 (3, 13, 302, 60, 65) := ⟨by decide, _, rfl, ⟨rfl, mX7_init, rfl, xtb 550 (by decide +kernel) rfl, rfl, rfl, rfl, xtb 551 (by decide +kernel) rfl⟩⟩
theorem lk_194 : xLq RX11 (3, 61, 11, 7, 66) := ⟨by decide, _, rfl, ⟨rfl, (RX11, TX11, 11), .object "BentScreens$Sheet", rfl, by decide, xtb 627 (by decide +kernel) rfl, rfl, (fun _ => rfl), by decide +kernel, Or.inl ⟨_, rfl⟩⟩⟩
theorem lk_195 : xLq RX11 (3, 24, 4, 0, 70) := ⟨by decide, _, rfl, ⟨rfl, (RX4, TX4, 12), rfl, xtb 573 (by decide +kernel) rfl, xtb 574 (by decide +kernel) rfl, xtb 137 (by decide +kernel) rfl⟩⟩
theorem lk_196 : xLq RX11 (3, 13, 273, 36, 76) := ⟨by decide, _, rfl, ⟨rfl, mX4_init, rfl, xtb 575 (by decide +kernel) rfl, rfl, rfl, rfl, xtb 576 (by decide +kernel) rfl⟩⟩
theorem lk_197 : xLq RX11 (3, 61, 11, 8, 79) := ⟨by decide, _, rfl, ⟨rfl, (RX11, TX11, 11), .object "BentScreens$Laws", rfl, by decide, xtb 628 (by decide +kernel) rfl, rfl, (fun _ => rfl), by decide +kernel, Or.inl ⟨_, rfl⟩⟩⟩
theorem lk_198 : xLq RX11 (3, 61, 11, 9, 83) := ⟨by decide, _, rfl, ⟨rfl, (RX11, TX11, 11), .array .int, rfl, by decide, xtb 629 (by decide +kernel) rfl, rfl, (fun _ => rfl), by decide +kernel, Or.inr ⟨_, rfl⟩⟩⟩
theorem lk_199 : xLq RX11 (3, 61, 11, 10, 87) := ⟨by decide, _, rfl, ⟨rfl, (RX11, TX11, 11), .array .boolean, rfl, by decide, xtb 630 (by decide +kernel) rfl, rfl, (fun _ => rfl), by decide +kernel, Or.inr ⟨_, rfl⟩⟩⟩
theorem lk_200 : xLq RX11 (3, 52, 365, 0, 388) := ⟨by decide, _, rfl, ⟨rfl, xtb 1319 (by decide +kernel) rfl⟩⟩
theorem lk_201 : xLq RX11 (3, 13, 4, 0, 390) := ⟨by decide, _, rfl, ⟨rfl, mX0_breaksBehind, rfl, xtb 1320 (by decide +kernel) rfl, xtb 1321 (by decide +kernel) rfl, xtb 1322 (by decide +kernel) rfl, (RX0, TX0, 11), rfl, rfl⟩⟩
theorem lk_202 : xLq RX11 (3, 13, 263, 24, 267) := ⟨by decide, _, rfl, ⟨rfl, mX3_leftOf, rfl, xtb 1166 (by decide +kernel) rfl, xtb 1167 (by decide +kernel) rfl, xtb 1168 (by decide +kernel) rfl, (RX3, TX3, 6), rfl, rfl⟩⟩
theorem lk_203 : xLq RX11 (3, 13, 262, 24, 385) := ⟨by decide, _, rfl, ⟨rfl, mX3_isDamp, rfl, xtb 1212 (by decide +kernel) rfl, xtb 1213 (by decide +kernel) rfl, xtb 1214 (by decide +kernel) rfl, (RX3, TX3, 6), rfl, rfl⟩⟩
theorem lk_204 : xLq RX11 (3, 1, 9, 13, 406) := ⟨by decide, _, rfl, ⟨rfl, (RX9, TX9, 14), rfl, by decide, xtb 295 (by decide +kernel) rfl⟩⟩
theorem lk_205 : xLq RX11 (3, 13, 99, 88, 409) := ⟨by decide, _, rfl, ⟨rfl, mX11_testHolds, rfl, xtb 1499 (by decide +kernel) rfl, xtb 1501 (by decide +kernel) rfl, xtb 55 (by decide +kernel) rfl, (RX11, TX11, 11), rfl, rfl⟩⟩
theorem lk_206 : xLq RX11 (3, 13, 276, 32, 327) := ⟨by decide, _, rfl, ⟨rfl, mX4_refresh, rfl, xtb 1354 (by decide +kernel) rfl, xtb 1355 (by decide +kernel) rfl, xtb 1356 (by decide +kernel) rfl, (RX4, TX4, 12), rfl, rfl⟩⟩
theorem lk_207 : xLq RX11 (3, 1, 4, 4, 328) := ⟨by decide, _, rfl, ⟨rfl, (RX4, TX4, 12), rfl, by decide, xtb 584 (by decide +kernel) rfl⟩⟩
theorem lk_208 : xLq RX11 (3, 13, 265, 24, 264) := ⟨by decide, _, rfl, ⟨rfl, mX3_refreshAges, rfl, xtb 1152 (by decide +kernel) rfl, xtb 1153 (by decide +kernel) rfl, xtb 1154 (by decide +kernel) rfl, (RX3, TX3, 6), rfl, rfl⟩⟩
theorem lk_209 : xLq RX11 (3, 13, 268, 24, 294) := ⟨by decide, _, rfl, ⟨rfl, mX3_roundsWith, rfl, xtb 1228 (by decide +kernel) rfl, xtb 1229 (by decide +kernel) rfl, xtb 1230 (by decide +kernel) rfl, (RX3, TX3, 6), rfl, rfl⟩⟩
theorem lk_210 : xLq RX11 (3, 13, 274, 32, 331) := ⟨by decide, _, rfl, ⟨rfl, mX4_keptAt, rfl, xtb 1373 (by decide +kernel) rfl, xtb 1374 (by decide +kernel) rfl, xtb 1375 (by decide +kernel) rfl, (RX4, TX4, 12), rfl, rfl⟩⟩
theorem lk_211 : xLq RX11 (3, 1, 0, 2, 126) := ⟨by decide, _, rfl, ⟨rfl, (RX0, TX0, 11), rfl, by decide, xtb 437 (by decide +kernel) rfl⟩⟩
theorem lk_212 : xLq RX11 (3, 1, 0, 3, 129) := ⟨by decide, _, rfl, ⟨rfl, (RX0, TX0, 11), rfl, by decide, xtb 439 (by decide +kernel) rfl⟩⟩
theorem lk_213 : xLq RX11 (3, 13, 13, 0, 154) := ⟨by decide, _, rfl, ⟨rfl, mX0_leastRound, rfl, xtb 943 (by decide +kernel) rfl, xtb 944 (by decide +kernel) rfl, xtb 945 (by decide +kernel) rfl, (RX0, TX0, 11), rfl, rfl⟩⟩
theorem lk_214 : xLq RX11 (3, 13, 308, 56, 303) := ⟨by decide, _, rfl, ⟨rfl, mX7_refreshWorth, rfl, xtb 1248 (by decide +kernel) rfl, xtb 1249 (by decide +kernel) rfl, xtb 1250 (by decide +kernel) rfl, (RX7, TX7, 5), rfl, rfl⟩⟩
theorem lk_215 : xLq RX11 (3, 1, 11, 9, 83) := ⟨by decide, _, rfl, ⟨rfl, (RX11, TX11, 11), rfl, by decide, xtb 629 (by decide +kernel) rfl⟩⟩
theorem lk_216 : xLq RX11 (3, 13, 244, 8, 400) := ⟨by decide, _, rfl, ⟨rfl, mX1_slidesAnywhere, rfl, xtb 1489 (by decide +kernel) rfl, xtb 1490 (by decide +kernel) rfl, xtb 1491 (by decide +kernel) rfl, (RX1, TX1, 10), rfl, rfl⟩⟩
theorem lk_217 : xLq RX11 (3, 13, 310, 56, 306) := ⟨by decide, _, rfl, ⟨rfl, mX7_worthOf, rfl, xtb 1279 (by decide +kernel) rfl, xtb 1280 (by decide +kernel) rfl, xtb 1281 (by decide +kernel) rfl, (RX7, TX7, 5), rfl, rfl⟩⟩
theorem lk_218 : xLq RX11 (3, 63, 0, 0, 403) := ⟨by decide, _, rfl, ⟨rfl, xtb 1494 (by decide +kernel) rfl⟩⟩
theorem lk_219 : xLq RX11 (3, 13, 49, 88, 241) := ⟨by decide, _, rfl, ⟨rfl, mX11_cracksToMend, rfl, xtb 1130 (by decide +kernel) rfl, xtb 1132 (by decide +kernel) rfl, xtb 26 (by decide +kernel) rfl, (RX11, TX11, 11), rfl, rfl⟩⟩
theorem lk_220 : xLq RX11 (3, 13, 43, 88, 244) := ⟨by decide, _, rfl, ⟨rfl, mX11_costOf, rfl, xtb 1134 (by decide +kernel) rfl, xtb 1136 (by decide +kernel) rfl, xtb 27 (by decide +kernel) rfl, (RX11, TX11, 11), rfl, rfl⟩⟩
theorem lk_221 : xLq RX11 (3, 13, 0, 2, 247) := ⟨by decide, _, rfl, ⟨rfl, mJ6_bitCount_0f7a4, rfl, xtb 1138 (by decide +kernel) rfl, xtb 1139 (by decide +kernel) rfl⟩⟩
theorem lk_222 : xLq RX11 (3, 13, 14, 0, 136) := ⟨by decide, _, rfl, ⟨rfl, mX0_neutralThousandths, rfl, xtb 905 (by decide +kernel) rfl, xtb 906 (by decide +kernel) rfl, xtb 907 (by decide +kernel) rfl, (RX0, TX0, 11), rfl, rfl⟩⟩
theorem lk_223 : xLq RX11 (3, 13, 277, 32, 346) := ⟨by decide, _, rfl, ⟨rfl, mX4_refreshNext, rfl, xtb 1413 (by decide +kernel) rfl, xtb 1414 (by decide +kernel) rfl, xtb 1415 (by decide +kernel) rfl, (RX4, TX4, 12), rfl, rfl⟩⟩
theorem lk_224 : xLq RX11 (3, 1, 4, 6, 349) := ⟨by decide, _, rfl, ⟨rfl, (RX4, TX4, 12), rfl, by decide, xtb 587 (by decide +kernel) rfl⟩⟩
theorem lk_225 : xLq RX11 (3, 1, 4, 7, 352) := ⟨by decide, _, rfl, ⟨rfl, (RX4, TX4, 12), rfl, by decide, xtb 589 (by decide +kernel) rfl⟩⟩
theorem lk_226 : xLq RX11 (3, 1, 4, 8, 355) := ⟨by decide, _, rfl, ⟨rfl, (RX4, TX4, 12), rfl, by decide, xtb 591 (by decide +kernel) rfl⟩⟩
theorem lk_227 : xLq RX11 (3, 13, 7, 0, 160) := ⟨by decide, _, rfl, ⟨rfl, mX0_findOrder, rfl, xtb 966 (by decide +kernel) rfl, xtb 967 (by decide +kernel) rfl, xtb 968 (by decide +kernel) rfl, (RX0, TX0, 11), rfl, rfl⟩⟩
theorem lk_228 : xLq RX11 (3, 1, 0, 9, 163) := ⟨by decide, _, rfl, ⟨rfl, (RX0, TX0, 11), rfl, by decide, xtb 447 (by decide +kernel) rfl⟩⟩
theorem lk_229 : xLq RX11 (3, 1, 0, 8, 166) := ⟨by decide, _, rfl, ⟨rfl, (RX0, TX0, 11), rfl, by decide, xtb 445 (by decide +kernel) rfl⟩⟩
theorem lk_230 : xLq RX11 (3, 13, 307, 56, 310) := ⟨by decide, _, rfl, ⟨rfl, mX7_refreshPlan, rfl, xtb 1287 (by decide +kernel) rfl, xtb 1288 (by decide +kernel) rfl, xtb 1289 (by decide +kernel) rfl, (RX7, TX7, 5), rfl, rfl⟩⟩
theorem lk_231 : xLq RX11 (3, 1, 7, 2, 313) := ⟨by decide, _, rfl, ⟨rfl, (RX7, TX7, 5), rfl, by decide, xtb 559 (by decide +kernel) rfl⟩⟩
theorem lk_232 : xLq RX11 (3, 62, 0, 0, 370) := ⟨by decide, _, rfl, ⟨rfl, xtb 1507 (by decide +kernel) rfl⟩⟩
theorem lk_233 : xLq RX11 (3, 13, 41, 88, 322) := ⟨by decide, _, rfl, ⟨rfl, mX11_brokenShare, rfl, xtb 1331 (by decide +kernel) rfl, xtb 1333 (by decide +kernel) rfl, xtb 43 (by decide +kernel) rfl, (RX11, TX11, 11), rfl, rfl⟩⟩
theorem lk_234 : xLq RX11 (3, 13, 278, 32, 340) := ⟨by decide, _, rfl, ⟨rfl, mX4_refreshQuarrel, rfl, xtb 1396 (by decide +kernel) rfl, xtb 1397 (by decide +kernel) rfl, xtb 1398 (by decide +kernel) rfl, (RX4, TX4, 12), rfl, rfl⟩⟩
theorem lk_235 : xLq RX11 (3, 13, 275, 32, 343) := ⟨by decide, _, rfl, ⟨rfl, mX4_quarrelAt, rfl, xtb 1405 (by decide +kernel) rfl, xtb 1406 (by decide +kernel) rfl, xtb 1407 (by decide +kernel) rfl, (RX4, TX4, 12), rfl, rfl⟩⟩
theorem lk_236 : xLq RX11 (3, 1, 11, 3, 32) := ⟨by decide, _, rfl, ⟨rfl, (RX11, TX11, 11), rfl, by decide, xtb 623 (by decide +kernel) rfl⟩⟩
theorem lk_237 : xLq RX11 (3, 13, 295, 48, 358) := ⟨by decide, _, rfl, ⟨rfl, mX6_readRules, rfl, xtb 1426 (by decide +kernel) rfl, xtb 1427 (by decide +kernel) rfl, xtb 1428 (by decide +kernel) rfl, (RX6, TX6, 6), rfl, rfl⟩⟩
theorem lk_238 : xLq RX11 (3, 13, 279, 32, 334) := ⟨by decide, _, rfl, ⟨rfl, mX4_spanEnd, rfl, xtb 1381 (by decide +kernel) rfl, xtb 1382 (by decide +kernel) rfl, xtb 1383 (by decide +kernel) rfl, (RX4, TX4, 12), rfl, rfl⟩⟩
theorem lk_239 : xLq RX11 (3, 13, 280, 32, 337) := ⟨by decide, _, rfl, ⟨rfl, mX4_spanStart, rfl, xtb 1386 (by decide +kernel) rfl, xtb 1387 (by decide +kernel) rfl, xtb 1388 (by decide +kernel) rfl, (RX4, TX4, 12), rfl, rfl⟩⟩
theorem lk_240 : xLq RX11 (2, 35, 2294967296, 0, 143) := ⟨by decide, _, rfl, ⟨rfl, by decide, xtb 921 (by decide +kernel) rfl⟩⟩
theorem lk_241 : xLq RX11 (3, 13, 18, 0, 144) := ⟨by decide, _, rfl, ⟨rfl, mX0_stretchMillionths, rfl, xtb 922 (by decide +kernel) rfl, xtb 923 (by decide +kernel) rfl, xtb 924 (by decide +kernel) rfl, (RX0, TX0, 11), rfl, rfl⟩⟩
theorem lk_242 : xLq RX11 (3, 36, 999999, 0, 325) := ⟨by decide, _, rfl, ⟨rfl, by decide, xtb 1345 (by decide +kernel) rfl⟩⟩
theorem lk_243 : xLq RX11 (3, 13, 23, 0, 179) := ⟨by decide, _, rfl, ⟨rfl, mX0_wornThousandths, rfl, xtb 1000 (by decide +kernel) rfl, xtb 1001 (by decide +kernel) rfl, xtb 1002 (by decide +kernel) rfl, (RX0, TX0, 11), rfl, rfl⟩⟩
theorem lk_244 : xLq RX11 (3, 13, 264, 24, 270) := ⟨by decide, _, rfl, ⟨rfl, mX3_leftSpread, rfl, xtb 1174 (by decide +kernel) rfl, xtb 1175 (by decide +kernel) rfl, xtb 1176 (by decide +kernel) rfl, (RX3, TX3, 6), rfl, rfl⟩⟩
theorem lk_245 : xLq RX11 (3, 14, 9, 7, 189) := ⟨by decide, _, rfl, ⟨rfl, (RX9, TX9, 14), .int, rfl, by decide, xtb 278 (by decide +kernel) rfl, rfl, (fun h => by cases h), by decide +kernel, rfl⟩⟩
theorem lk_246 : xLq RX11 (3, 14, 9, 9, 273) := ⟨by decide, _, rfl, ⟨rfl, (RX9, TX9, 14), .int, rfl, by decide, xtb 285 (by decide +kernel) rfl, rfl, (fun h => by cases h), by decide +kernel, rfl⟩⟩
theorem lk_247 : xLq RX11 (3, 13, 24, 0, 157) := ⟨by decide, _, rfl, ⟨rfl, mX0_worstPlace, rfl, xtb 958 (by decide +kernel) rfl, xtb 959 (by decide +kernel) rfl, xtb 960 (by decide +kernel) rfl, (RX0, TX0, 11), rfl, rfl⟩⟩
theorem lk_248 : xLq RX12 (3, 13, 199, 96, 196) := ⟨by decide, _, rfl, ⟨rfl, mX12_numbered, rfl, xtb 1758 (by decide +kernel) rfl, xtb 1760 (by decide +kernel) rfl, xtb 65 (by decide +kernel) rfl, (RX12, TX12, 47), rfl, rfl⟩⟩
theorem lk_249 : xLq RX12 (3, 13, 211, 96, 200) := ⟨by decide, _, rfl, ⟨rfl, mX12_puts, rfl, xtb 1762 (by decide +kernel) rfl, xtb 1764 (by decide +kernel) rfl, xtb 66 (by decide +kernel) rfl, (RX12, TX12, 47), rfl, rfl⟩⟩
theorem lk_250 : xLq RX12 (3, 1, 12, 10, 180) := ⟨by decide, _, rfl, ⟨rfl, (RX12, TX12, 47), rfl, by decide, xtb 1548 (by decide +kernel) rfl⟩⟩
theorem lk_251 : xLq RX12 (3, 1, 12, 7, 151) := ⟨by decide, _, rfl, ⟨rfl, (RX12, TX12, 47), rfl, by decide, xtb 1545 (by decide +kernel) rfl⟩⟩
theorem lk_252 : xLq RX12 (3, 1, 12, 9, 165) := ⟨by decide, _, rfl, ⟨rfl, (RX12, TX12, 47), rfl, by decide, xtb 1547 (by decide +kernel) rfl⟩⟩
theorem lk_253 : xLq RX12 (3, 13, 140, 96, 183) := ⟨by decide, _, rfl, ⟨rfl, mX12_ends, rfl, xtb 1743 (by decide +kernel) rfl, xtb 1745 (by decide +kernel) rfl, xtb 62 (by decide +kernel) rfl, (RX12, TX12, 47), rfl, rfl⟩⟩
theorem lk_254 : xLq RX12 (3, 13, 110, 96, 190) := ⟨by decide, _, rfl, ⟨rfl, mX12_advance, rfl, xtb 1696 (by decide +kernel) rfl, xtb 1698 (by decide +kernel) rfl, xtb 58 (by decide +kernel) rfl, (RX12, TX12, 47), rfl, rfl⟩⟩
theorem lk_255 : xLq RX12 (3, 1, 12, 6, 148) := ⟨by decide, _, rfl, ⟨rfl, (RX12, TX12, 47), rfl, by decide, xtb 1544 (by decide +kernel) rfl⟩⟩
theorem lk_256 : xLq RX12 (3, 13, 161, 98, 105) := ⟨by decide, _, rfl, ⟨rfl, mX12_isIn, rfl, xtb 1740 (by decide +kernel) rfl, xtb 1741 (by decide +kernel) rfl⟩⟩
theorem lk_257 : xLq RX12 (3, 1, 12, 11, 17) := ⟨by decide, _, rfl, ⟨rfl, (RX12, TX12, 47), rfl, by decide, xtb 1549 (by decide +kernel) rfl⟩⟩
theorem lk_258 : xLq RX12 (3, 13, 194, 98, 193) := ⟨by decide, _, rfl, ⟨rfl, mX12_mostOf, rfl, xtb 1747 (by decide +kernel) rfl, xtb 1748 (by decide +kernel) rfl⟩⟩
theorem lk_259 : xLq RX12 (3, 13, 115, 96, 186) := ⟨by decide, _, rfl, ⟨rfl, mX12_also, rfl, xtb 1750 (by decide +kernel) rfl, xtb 1752 (by decide +kernel) rfl, xtb 63 (by decide +kernel) rfl, (RX12, TX12, 47), rfl, rfl⟩⟩
theorem lk_260 : xLq RX12 (3, 13, 106, 96, 204) := ⟨by decide, _, rfl, ⟨rfl, mX12_aLayer, rfl, xtb 1754 (by decide +kernel) rfl, xtb 1756 (by decide +kernel) rfl, xtb 64 (by decide +kernel) rfl, (RX12, TX12, 47), rfl, rfl⟩⟩
theorem lk_261 : xLq RX12 (3, 13, 167, 96, 208) := ⟨by decide, _, rfl, ⟨rfl, mX12_isLifeTold, rfl, xtb 1766 (by decide +kernel) rfl, xtb 1768 (by decide +kernel) rfl, xtb 67 (by decide +kernel) rfl, (RX12, TX12, 47), rfl, rfl⟩⟩
theorem lk_262 : xLq RX12 (3, 1, 12, 13, 23) := ⟨by decide, _, rfl, ⟨rfl, (RX12, TX12, 47), rfl, by decide, xtb 1551 (by decide +kernel) rfl⟩⟩
theorem lk_263 : xLq RX12 (3, 1, 12, 14, 212) := ⟨by decide, _, rfl, ⟨rfl, (RX12, TX12, 47), rfl, by decide, xtb 1552 (by decide +kernel) rfl⟩⟩
theorem lk_264 : xLq RX12 (3, 14, 12, 14, 212) := ⟨by decide, _, rfl, ⟨rfl, (RX12, TX12, 47), .int, rfl, by decide, xtb 1552 (by decide +kernel) rfl, rfl, (fun h => by cases h), by decide +kernel, rfl⟩⟩
theorem lk_265 : xLq RX12 (3, 13, 227, 96, 415) := ⟨by decide, _, rfl, ⟨rfl, mX12_takes, rfl, xtb 2157 (by decide +kernel) rfl, xtb 2159 (by decide +kernel) rfl, xtb 117 (by decide +kernel) rfl, (RX12, TX12, 47), rfl, rfl⟩⟩
theorem lk_266 : xLq RX12 (3, 13, 109, 96, 421) := ⟨by decide, _, rfl, ⟨rfl, mX12_aTest, rfl, xtb 2161 (by decide +kernel) rfl, xtb 2163 (by decide +kernel) rfl, xtb 118 (by decide +kernel) rfl, (RX12, TX12, 47), rfl, rfl⟩⟩
theorem lk_267 : xLq RX12 (3, 1, 12, 46, 102) := ⟨by decide, _, rfl, ⟨rfl, (RX12, TX12, 47), rfl, by decide, xtb 1584 (by decide +kernel) rfl⟩⟩
theorem lk_268 : xLq RX12 (3, 13, 214, 96, 424) := ⟨by decide, _, rfl, ⟨rfl, mX12_rulePuts, rfl, xtb 2169 (by decide +kernel) rfl, xtb 2171 (by decide +kernel) rfl, xtb 120 (by decide +kernel) rfl, (RX12, TX12, 47), rfl, rfl⟩⟩
theorem lk_269 : xLq RX12 (3, 13, 195, 96, 427) := ⟨by decide, _, rfl, ⟨rfl, mX12_must, rfl, xtb 2173 (by decide +kernel) rfl, xtb 2175 (by decide +kernel) rfl, xtb 121 (by decide +kernel) rfl, (RX12, TX12, 47), rfl, rfl⟩⟩
theorem lk_270 : xLq RX12 (3, 13, 198, 96, 418) := ⟨by decide, _, rfl, ⟨rfl, mX12_numberNow, rfl, xtb 2165 (by decide +kernel) rfl, xtb 2167 (by decide +kernel) rfl, xtb 119 (by decide +kernel) rfl, (RX12, TX12, 47), rfl, rfl⟩⟩
theorem lk_271 : xLq RX12 (3, 1, 12, 3, 174) := ⟨by decide, _, rfl, ⟨rfl, (RX12, TX12, 47), rfl, by decide, xtb 1541 (by decide +kernel) rfl⟩⟩
theorem lk_272 : xLq RX12 (3, 1, 12, 5, 141) := ⟨by decide, _, rfl, ⟨rfl, (RX12, TX12, 47), rfl, by decide, xtb 1543 (by decide +kernel) rfl⟩⟩
theorem lk_273 : xLq RX12 (3, 13, 125, 96, 144) := ⟨by decide, _, rfl, ⟨rfl, mX12_byteAt, rfl, xtb 1700 (by decide +kernel) rfl, xtb 1702 (by decide +kernel) rfl, xtb 59 (by decide +kernel) rfl, (RX12, TX12, 47), rfl, rfl⟩⟩
theorem lk_274 : xLq RX12 (3, 14, 12, 5, 141) := ⟨by decide, _, rfl, ⟨rfl, (RX12, TX12, 47), .int, rfl, by decide, xtb 1543 (by decide +kernel) rfl, rfl, (fun h => by cases h), by decide +kernel, rfl⟩⟩
theorem lk_275 : xLq RX12 (3, 14, 12, 6, 148) := ⟨by decide, _, rfl, ⟨rfl, (RX12, TX12, 47), .int, rfl, by decide, xtb 1544 (by decide +kernel) rfl, rfl, (fun h => by cases h), by decide +kernel, rfl⟩⟩
theorem lk_276 : xLq RX12 (3, 14, 12, 7, 151) := ⟨by decide, _, rfl, ⟨rfl, (RX12, TX12, 47), .int, rfl, by decide, xtb 1545 (by decide +kernel) rfl, rfl, (fun h => by cases h), by decide +kernel, rfl⟩⟩
theorem lk_277 : xLq RX12 (3, 13, 166, 98, 154) := ⟨by decide, _, rfl, ⟨rfl, mX12_isLetter, rfl, xtb 1704 (by decide +kernel) rfl, xtb 1705 (by decide +kernel) rfl⟩⟩
theorem lk_278 : xLq RX12 (3, 52, 32, 0, 113) := ⟨by decide, _, rfl, ⟨rfl, xtb 1707 (by decide +kernel) rfl⟩⟩
theorem lk_279 : xLq RX12 (3, 52, 96, 0, 115) := ⟨by decide, _, rfl, ⟨rfl, xtb 1708 (by decide +kernel) rfl⟩⟩
theorem lk_280 : xLq RX12 (3, 1, 12, 2, 137) := ⟨by decide, _, rfl, ⟨rfl, (RX12, TX12, 47), rfl, by decide, xtb 1540 (by decide +kernel) rfl⟩⟩
theorem lk_281 : xLq RX12 (3, 13, 215, 98, 158) := ⟨by decide, _, rfl, ⟨rfl, mX12_ruleWordOf, rfl, xtb 1709 (by decide +kernel) rfl, xtb 1710 (by decide +kernel) rfl⟩⟩
theorem lk_282 : xLq RX12 (3, 13, 238, 98, 162) := ⟨by decide, _, rfl, ⟨rfl, mX12_wordOf, rfl, xtb 1726 (by decide +kernel) rfl, xtb 1727 (by decide +kernel) rfl⟩⟩
theorem lk_283 : xLq RX12 (3, 14, 12, 9, 165) := ⟨by decide, _, rfl, ⟨rfl, (RX12, TX12, 47), .int, rfl, by decide, xtb 1547 (by decide +kernel) rfl, rfl, (fun h => by cases h), by decide +kernel, rfl⟩⟩
theorem lk_284 : xLq RX12 (3, 13, 159, 98, 168) := ⟨by decide, _, rfl, ⟨rfl, mX12_isDigit, rfl, xtb 1729 (by decide +kernel) rfl, xtb 1730 (by decide +kernel) rfl⟩⟩
theorem lk_285 : xLq RX12 (3, 14, 12, 8, 171) := ⟨by decide, _, rfl, ⟨rfl, (RX12, TX12, 47), .int, rfl, by decide, xtb 1546 (by decide +kernel) rfl, rfl, (fun h => by cases h), by decide +kernel, rfl⟩⟩
theorem lk_286 : xLq RX12 (3, 1, 12, 8, 171) := ⟨by decide, _, rfl, ⟨rfl, (RX12, TX12, 47), rfl, by decide, xtb 1546 (by decide +kernel) rfl⟩⟩
theorem lk_287 : xLq RX12 (3, 14, 12, 3, 174) := ⟨by decide, _, rfl, ⟨rfl, (RX12, TX12, 47), .int, rfl, by decide, xtb 1541 (by decide +kernel) rfl, rfl, (fun h => by cases h), by decide +kernel, rfl⟩⟩
theorem lk_288 : xLq RX12 (3, 13, 172, 96, 177) := ⟨by decide, _, rfl, ⟨rfl, mX12_isSignByte, rfl, xtb 1732 (by decide +kernel) rfl, xtb 1734 (by decide +kernel) rfl, xtb 60 (by decide +kernel) rfl, (RX12, TX12, 47), rfl, rfl⟩⟩
theorem lk_289 : xLq RX12 (3, 1, 12, 1, 13) := ⟨by decide, _, rfl, ⟨rfl, (RX12, TX12, 47), rfl, by decide, xtb 1539 (by decide +kernel) rfl⟩⟩
theorem lk_290 : xLq RX12 (3, 1, 12, 0, 7) := ⟨by decide, _, rfl, ⟨rfl, (RX12, TX12, 47), rfl, by decide, xtb 1538 (by decide +kernel) rfl⟩⟩
theorem lk_291 : xLq RX12 (3, 1, 12, 34, 72) := ⟨by decide, _, rfl, ⟨rfl, (RX12, TX12, 47), rfl, by decide, xtb 1572 (by decide +kernel) rfl⟩⟩
theorem lk_292 : xLq RX12 (3, 13, 155, 96, 235) := ⟨by decide, _, rfl, ⟨rfl, mX12_inOrder, rfl, xtb 1786 (by decide +kernel) rfl, xtb 1788 (by decide +kernel) rfl, xtb 70 (by decide +kernel) rfl, (RX12, TX12, 47), rfl, rfl⟩⟩
theorem lk_293 : xLq RX12 (3, 13, 122, 96, 238) := ⟨by decide, _, rfl, ⟨rfl, mX12_blocks, rfl, xtb 1790 (by decide +kernel) rfl, xtb 1792 (by decide +kernel) rfl, xtb 71 (by decide +kernel) rfl, (RX12, TX12, 47), rfl, rfl⟩⟩
theorem lk_294 : xLq RX12 (3, 13, 222, 96, 433) := ⟨by decide, _, rfl, ⟨rfl, mX12_slides, rfl, xtb 2189 (by decide +kernel) rfl, xtb 2191 (by decide +kernel) rfl, xtb 124 (by decide +kernel) rfl, (RX12, TX12, 47), rfl, rfl⟩⟩
theorem lk_295 : xLq RX12 (3, 13, 130, 96, 376) := ⟨by decide, _, rfl, ⟨rfl, mX12_cracksSeen, rfl, xtb 2053 (by decide +kernel) rfl, xtb 2055 (by decide +kernel) rfl, xtb 106 (by decide +kernel) rfl, (RX12, TX12, 47), rfl, rfl⟩⟩
theorem lk_296 : xLq RX12 (3, 13, 184, 96, 436) := ⟨by decide, _, rfl, ⟨rfl, mX12_least, rfl, xtb 2193 (by decide +kernel) rfl, xtb 1822 (by decide +kernel) rfl, xtb 1823 (by decide +kernel) rfl, (RX12, TX12, 47), rfl, rfl⟩⟩
theorem lk_297 : xLq RX12 (3, 13, 193, 96, 439) := ⟨by decide, _, rfl, ⟨rfl, mX12_most, rfl, xtb 2194 (by decide +kernel) rfl, xtb 1891 (by decide +kernel) rfl, xtb 1892 (by decide +kernel) rfl, (RX12, TX12, 47), rfl, rfl⟩⟩
theorem lk_298 : xLq RX12 (3, 13, 137, 96, 442) := ⟨by decide, _, rfl, ⟨rfl, mX12_darks, rfl, xtb 2195 (by decide +kernel) rfl, xtb 1999 (by decide +kernel) rfl, xtb 2000 (by decide +kernel) rfl, (RX12, TX12, 47), rfl, rfl⟩⟩
theorem lk_299 : xLq RX12 (3, 13, 233, 96, 445) := ⟨by decide, _, rfl, ⟨rfl, mX12_value, rfl, xtb 2196 (by decide +kernel) rfl, xtb 2003 (by decide +kernel) rfl, xtb 2004 (by decide +kernel) rfl, (RX12, TX12, 47), rfl, rfl⟩⟩
theorem lk_300 : xLq RX12 (3, 13, 190, 96, 409) := ⟨by decide, _, rfl, ⟨rfl, mX12_manyKept, rfl, xtb 2110 (by decide +kernel) rfl, xtb 2112 (by decide +kernel) rfl, xtb 111 (by decide +kernel) rfl, (RX12, TX12, 47), rfl, rfl⟩⟩
theorem lk_301 : xLq RX12 (3, 13, 152, 96, 450) := ⟨by decide, _, rfl, ⟨rfl, mX12_holds, rfl, xtb 2181 (by decide +kernel) rfl, xtb 2183 (by decide +kernel) rfl, xtb 122 (by decide +kernel) rfl, (RX12, TX12, 47), rfl, rfl⟩⟩
theorem lk_302 : xLq RX12 (3, 13, 168, 96, 241) := ⟨by decide, _, rfl, ⟨rfl, mX12_isOf, rfl, xtb 1778 (by decide +kernel) rfl, xtb 1780 (by decide +kernel) rfl, xtb 68 (by decide +kernel) rfl, (RX12, TX12, 47), rfl, rfl⟩⟩
theorem lk_303 : xLq RX12 (3, 13, 171, 96, 247) := ⟨by decide, _, rfl, ⟨rfl, mX12_isRound, rfl, xtb 1811 (by decide +kernel) rfl, xtb 1813 (by decide +kernel) rfl, xtb 73 (by decide +kernel) rfl, (RX12, TX12, 47), rfl, rfl⟩⟩
theorem lk_304 : xLq RX12 (3, 13, 116, 96, 244) := ⟨by decide, _, rfl, ⟨rfl, mX12_asTold, rfl, xtb 1782 (by decide +kernel) rfl, xtb 1784 (by decide +kernel) rfl, xtb 69 (by decide +kernel) rfl, (RX12, TX12, 47), rfl, rfl⟩⟩
theorem lk_305 : xLq RX12 (3, 52, 1000, 0, 231) := ⟨by decide, _, rfl, ⟨rfl, xtb 1806 (by decide +kernel) rfl⟩⟩
theorem lk_306 : xLq RX12 (3, 1, 12, 21, 45) := ⟨by decide, _, rfl, ⟨rfl, (RX12, TX12, 47), rfl, by decide, xtb 1559 (by decide +kernel) rfl⟩⟩
theorem lk_307 : xLq RX12 (3, 13, 221, 98, 227) := ⟨by decide, _, rfl, ⟨rfl, mX12_size0, rfl, xtb 1799 (by decide +kernel) rfl, xtb 1800 (by decide +kernel) rfl⟩⟩
theorem lk_308 : xLq RX12 (3, 13, 181, 96, 222) := ⟨by decide, _, rfl, ⟨rfl, mX12_layerOf, rfl, xtb 1794 (by decide +kernel) rfl, xtb 1796 (by decide +kernel) rfl, xtb 72 (by decide +kernel) rfl, (RX12, TX12, 47), rfl, rfl⟩⟩
theorem lk_309 : xLq RX12 (3, 1, 12, 20, 42) := ⟨by decide, _, rfl, ⟨rfl, (RX12, TX12, 47), rfl, by decide, xtb 1558 (by decide +kernel) rfl⟩⟩
theorem lk_310 : xLq RX12 (3, 59, 12, 2, 137) := ⟨by decide, _, rfl, ⟨rfl, (RX12, TX12, 47), .boolean, rfl, by decide, xtb 1540 (by decide +kernel) rfl, rfl, (fun h => by cases h), by decide +kernel, rfl⟩⟩
theorem lk_311 : xLq RX12 (3, 14, 12, 4, 109) := ⟨by decide, _, rfl, ⟨rfl, (RX12, TX12, 47), .int, rfl, by decide, xtb 1542 (by decide +kernel) rfl, rfl, (fun h => by cases h), by decide +kernel, rfl⟩⟩
theorem lk_312 : xLq RX12 (3, 59, 12, 10, 180) := ⟨by decide, _, rfl, ⟨rfl, (RX12, TX12, 47), .boolean, rfl, by decide, xtb 1548 (by decide +kernel) rfl, rfl, (fun h => by cases h), by decide +kernel, rfl⟩⟩
theorem lk_313 : xLq RX12 (3, 1, 12, 18, 35) := ⟨by decide, _, rfl, ⟨rfl, (RX12, TX12, 47), rfl, by decide, xtb 1556 (by decide +kernel) rfl⟩⟩
theorem lk_314 : xLq RX12 (3, 1, 12, 17, 32) := ⟨by decide, _, rfl, ⟨rfl, (RX12, TX12, 47), rfl, by decide, xtb 1555 (by decide +kernel) rfl⟩⟩
theorem lk_315 : xLq RX12 (3, 1, 12, 19, 38) := ⟨by decide, _, rfl, ⟨rfl, (RX12, TX12, 47), rfl, by decide, xtb 1557 (by decide +kernel) rfl⟩⟩
theorem lk_316 : xLq RX12 (3, 52, 2, 0, 225) := ⟨by decide, _, rfl, ⟨rfl, xtb 1798 (by decide +kernel) rfl⟩⟩
theorem lk_317 : xLq RX12 (3, 13, 231, 96, 273) := ⟨by decide, _, rfl, ⟨rfl, mX12_tires, rfl, xtb 1850 (by decide +kernel) rfl, xtb 1852 (by decide +kernel) rfl, xtb 77 (by decide +kernel) rfl, (RX12, TX12, 47), rfl, rfl⟩⟩
theorem lk_318 : xLq RX12 (3, 13, 188, 96, 270) := ⟨by decide, _, rfl, ⟨rfl, mX12_lifeOf, rfl, xtb 1854 (by decide +kernel) rfl, xtb 1856 (by decide +kernel) rfl, xtb 78 (by decide +kernel) rfl, (RX12, TX12, 47), rfl, rfl⟩⟩
theorem lk_319 : xLq RX12 (3, 1, 12, 22, 267) := ⟨by decide, _, rfl, ⟨rfl, (RX12, TX12, 47), rfl, by decide, xtb 1560 (by decide +kernel) rfl⟩⟩
theorem lk_320 : xLq RX12 (3, 1, 12, 23, 263) := ⟨by decide, _, rfl, ⟨rfl, (RX12, TX12, 47), rfl, by decide, xtb 1561 (by decide +kernel) rfl⟩⟩
theorem lk_321 : xLq RX12 (3, 52, 365, 0, 385) := ⟨by decide, _, rfl, ⟨rfl, xtb 2076 (by decide +kernel) rfl⟩⟩
theorem lk_322 : xLq RX12 (3, 71, 12, 22, 267) := ⟨by decide, _, rfl, ⟨rfl, (RX12, TX12, 47), .long, rfl, by decide, xtb 1560 (by decide +kernel) rfl, rfl, (fun h => by cases h), by decide +kernel, rfl⟩⟩
theorem lk_323 : xLq RX12 (3, 13, 123, 96, 387) := ⟨by decide, _, rfl, ⟨rfl, mX12_breaks, rfl, xtb 2072 (by decide +kernel) rfl, xtb 2074 (by decide +kernel) rfl, xtb 108 (by decide +kernel) rfl, (RX12, TX12, 47), rfl, rfl⟩⟩
theorem lk_324 : xLq RX12 (3, 1, 12, 4, 109) := ⟨by decide, _, rfl, ⟨rfl, (RX12, TX12, 47), rfl, by decide, xtb 1542 (by decide +kernel) rfl⟩⟩
theorem lk_325 : xLq RX12 (3, 13, 173, 96, 279) := ⟨by decide, _, rfl, ⟨rfl, mX12_isThere, rfl, xtb 1874 (by decide +kernel) rfl, xtb 1876 (by decide +kernel) rfl, xtb 79 (by decide +kernel) rfl, (RX12, TX12, 47), rfl, rfl⟩⟩
theorem lk_326 : xLq RX12 (3, 13, 157, 96, 283) := ⟨by decide, _, rfl, ⟨rfl, mX12_isCracked, rfl, xtb 1878 (by decide +kernel) rfl, xtb 1880 (by decide +kernel) rfl, xtb 80 (by decide +kernel) rfl, (RX12, TX12, 47), rfl, rfl⟩⟩
theorem lk_327 : xLq RX12 (3, 13, 132, 96, 317) := ⟨by decide, _, rfl, ⟨rfl, mX12_cuts, rfl, xtb 1930 (by decide +kernel) rfl, xtb 1932 (by decide +kernel) rfl, xtb 89 (by decide +kernel) rfl, (RX12, TX12, 47), rfl, rfl⟩⟩
theorem lk_328 : xLq RX12 (3, 13, 162, 96, 320) := ⟨by decide, _, rfl, ⟨rfl, mX12_isInCut, rfl, xtb 1934 (by decide +kernel) rfl, xtb 1936 (by decide +kernel) rfl, xtb 90 (by decide +kernel) rfl, (RX12, TX12, 47), rfl, rfl⟩⟩
theorem lk_329 : xLq RX12 (3, 13, 189, 96, 302) := ⟨by decide, _, rfl, ⟨rfl, mX12_looks, rfl, xtb 1894 (by decide +kernel) rfl, xtb 1896 (by decide +kernel) rfl, xtb 82 (by decide +kernel) rfl, (RX12, TX12, 47), rfl, rfl⟩⟩
