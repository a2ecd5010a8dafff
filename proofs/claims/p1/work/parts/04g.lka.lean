theorem lk_0 : xLq RJ6 (3, 36, 1431655765, 0, 265) := ⟨by decide, _, rfl, ⟨rfl, by decide, xtb 1141 (by decide +kernel) rfl⟩⟩
theorem lk_1 : xLq RJ6 (3, 36, 858993459, 0, 266) := ⟨by decide, _, rfl, ⟨rfl, by decide, xtb 1142 (by decide +kernel) rfl⟩⟩
theorem lk_2 : xLq RJ6 (3, 36, 252645135, 0, 267) := ⟨by decide, _, rfl, ⟨rfl, by decide, xtb 1143 (by decide +kernel) rfl⟩⟩
theorem lk_3 : xLq RX0 (3, 59, 0, 10, 43) := ⟨by decide, _, rfl, ⟨rfl, (RX0, TX0, 11), .boolean, rfl, by decide, xtb 448 (by decide +kernel) rfl, rfl, (fun h => by cases h), by decide +kernel, rfl⟩⟩
theorem lk_4 : xLq RX0 (3, 25, 0, 0, 3) := ⟨by decide, _, rfl, ⟨rfl, xtb 433 (by decide +kernel) rfl⟩⟩
theorem lk_5 : xLq RX0 (3, 61, 0, 1, 11) := ⟨by decide, _, rfl, ⟨rfl, (RX0, TX0, 11), .array .int, rfl, by decide, xtb 435 (by decide +kernel) rfl, rfl, (fun _ => rfl), by decide +kernel, Or.inr ⟨_, rfl⟩⟩⟩
theorem lk_6 : xLq RX0 (3, 61, 0, 2, 17) := ⟨by decide, _, rfl, ⟨rfl, (RX0, TX0, 11), .array .int, rfl, by decide, xtb 436 (by decide +kernel) rfl, rfl, (fun _ => rfl), by decide +kernel, Or.inr ⟨_, rfl⟩⟩⟩
theorem lk_7 : xLq RX0 (3, 61, 0, 3, 20) := ⟨by decide, _, rfl, ⟨rfl, (RX0, TX0, 11), .array .int, rfl, by decide, xtb 438 (by decide +kernel) rfl, rfl, (fun _ => rfl), by decide +kernel, Or.inr ⟨_, rfl⟩⟩⟩
theorem lk_8 : xLq RX0 (3, 61, 0, 4, 23) := ⟨by decide, _, rfl, ⟨rfl, (RX0, TX0, 11), .array .long, rfl, by decide, xtb 440 (by decide +kernel) rfl, rfl, (fun _ => rfl), by decide +kernel, Or.inr ⟨_, rfl⟩⟩⟩
theorem lk_9 : xLq RX0 (3, 61, 0, 5, 27) := ⟨by decide, _, rfl, ⟨rfl, (RX0, TX0, 11), .array .long, rfl, by decide, xtb 441 (by decide +kernel) rfl, rfl, (fun _ => rfl), by decide +kernel, Or.inr ⟨_, rfl⟩⟩⟩
theorem lk_10 : xLq RX0 (3, 61, 0, 6, 30) := ⟨by decide, _, rfl, ⟨rfl, (RX0, TX0, 11), .array .long, rfl, by decide, xtb 442 (by decide +kernel) rfl, rfl, (fun _ => rfl), by decide +kernel, Or.inr ⟨_, rfl⟩⟩⟩
theorem lk_11 : xLq RX0 (3, 61, 0, 7, 33) := ⟨by decide, _, rfl, ⟨rfl, (RX0, TX0, 11), .array .long, rfl, by decide, xtb 443 (by decide +kernel) rfl, rfl, (fun _ => rfl), by decide +kernel, Or.inr ⟨_, rfl⟩⟩⟩
theorem lk_12 : xLq RX0 (3, 61, 0, 8, 36) := ⟨by decide, _, rfl, ⟨rfl, (RX0, TX0, 11), .array .int, rfl, by decide, xtb 444 (by decide +kernel) rfl, rfl, (fun _ => rfl), by decide +kernel, Or.inr ⟨_, rfl⟩⟩⟩
theorem lk_13 : xLq RX0 (3, 61, 0, 0, 39) := ⟨by decide, _, rfl, ⟨rfl, (RX0, TX0, 11), .object "BentScreens$Film", rfl, by decide, xtb 434 (by decide +kernel) rfl, rfl, (fun _ => rfl), by decide +kernel, Or.inl ⟨_, rfl⟩⟩⟩
theorem lk_14 : xLq RX0 (3, 1, 0, 0, 39) := ⟨by decide, _, rfl, ⟨rfl, (RX0, TX0, 11), rfl, by decide, xtb 434 (by decide +kernel) rfl⟩⟩
theorem lk_15 : xLq RX0 (3, 1, 1, 0, 50) := ⟨by decide, _, rfl, ⟨rfl, (RX1, TX1, 10), rfl, by decide, xtb 198 (by decide +kernel) rfl⟩⟩
theorem lk_16 : xLq RX0 (3, 1, 5, 3, 54) := ⟨by decide, _, rfl, ⟨rfl, (RX5, TX5, 4), rfl, by decide, xtb 179 (by decide +kernel) rfl⟩⟩
theorem lk_17 : xLq RX0 (3, 13, 206, 40, 60) := ⟨by decide, _, rfl, ⟨rfl, mX5_get, rfl, xtb 895 (by decide +kernel) rfl, xtb 807 (by decide +kernel) rfl, xtb 808 (by decide +kernel) rfl, (RX5, TX5, 4), rfl, rfl⟩⟩
theorem lk_18 : xLq RX0 (3, 1, 0, 4, 23) := ⟨by decide, _, rfl, ⟨rfl, (RX0, TX0, 11), rfl, by decide, xtb 440 (by decide +kernel) rfl⟩⟩
theorem lk_19 : xLq RX0 (3, 1, 0, 1, 11) := ⟨by decide, _, rfl, ⟨rfl, (RX0, TX0, 11), rfl, by decide, xtb 435 (by decide +kernel) rfl⟩⟩
theorem lk_20 : xLq RX0 (3, 1, 0, 2, 17) := ⟨by decide, _, rfl, ⟨rfl, (RX0, TX0, 11), rfl, by decide, xtb 436 (by decide +kernel) rfl⟩⟩
theorem lk_21 : xLq RX0 (3, 1, 0, 5, 27) := ⟨by decide, _, rfl, ⟨rfl, (RX0, TX0, 11), rfl, by decide, xtb 441 (by decide +kernel) rfl⟩⟩
theorem lk_22 : xLq RX0 (3, 1, 0, 3, 20) := ⟨by decide, _, rfl, ⟨rfl, (RX0, TX0, 11), rfl, by decide, xtb 438 (by decide +kernel) rfl⟩⟩
theorem lk_23 : xLq RX0 (3, 13, 4, 0, 47) := ⟨by decide, _, rfl, ⟨rfl, mX0_lay, rfl, xtb 891 (by decide +kernel) rfl, xtb 893 (by decide +kernel) rfl, xtb 10 (by decide +kernel) rfl, (RX0, TX0, 11), rfl, rfl⟩⟩
theorem lk_24 : xLq RX10 (3, 13, 9, 80, 100) := ⟨by decide, _, rfl, ⟨rfl, mX10_explore, rfl, xtb 1086 (by decide +kernel) rfl, xtb 1088 (by decide +kernel) rfl, xtb 23 (by decide +kernel) rfl, (RX10, TX10, 13), rfl, rfl⟩⟩
theorem lk_25 : xLq RX10 (3, 1, 10, 7, 33) := ⟨by decide, _, rfl, ⟨rfl, (RX10, TX10, 13), rfl, by decide, xtb 486 (by decide +kernel) rfl⟩⟩
theorem lk_26 : xLq RX10 (3, 13, 13, 80, 103) := ⟨by decide, _, rfl, ⟨rfl, mX10_isReached, rfl, xtb 1094 (by decide +kernel) rfl, xtb 1096 (by decide +kernel) rfl, xtb 25 (by decide +kernel) rfl, (RX10, TX10, 13), rfl, rfl⟩⟩
theorem lk_27 : xLq RX10 (3, 1, 10, 8, 36) := ⟨by decide, _, rfl, ⟨rfl, (RX10, TX10, 13), rfl, by decide, xtb 488 (by decide +kernel) rfl⟩⟩
theorem lk_28 : xLq RX10 (3, 1, 10, 3, 20) := ⟨by decide, _, rfl, ⟨rfl, (RX10, TX10, 13), rfl, by decide, xtb 482 (by decide +kernel) rfl⟩⟩
theorem lk_29 : xLq RX10 (3, 1, 10, 4, 24) := ⟨by decide, _, rfl, ⟨rfl, (RX10, TX10, 13), rfl, by decide, xtb 483 (by decide +kernel) rfl⟩⟩
theorem lk_30 : xLq RX10 (3, 1, 10, 5, 27) := ⟨by decide, _, rfl, ⟨rfl, (RX10, TX10, 13), rfl, by decide, xtb 484 (by decide +kernel) rfl⟩⟩
theorem lk_31 : xLq RX10 (3, 1, 10, 0, 42) := ⟨by decide, _, rfl, ⟨rfl, (RX10, TX10, 13), rfl, by decide, xtb 479 (by decide +kernel) rfl⟩⟩
theorem lk_32 : xLq RX10 (3, 1, 9, 4, 56) := ⟨by decide, _, rfl, ⟨rfl, (RX9, TX9, 14), rfl, by decide, xtb 269 (by decide +kernel) rfl⟩⟩
theorem lk_33 : xLq RX10 (3, 1, 1, 8, 66) := ⟨by decide, _, rfl, ⟨rfl, (RX1, TX1, 10), rfl, by decide, xtb 225 (by decide +kernel) rfl⟩⟩
theorem lk_34 : xLq RX10 (3, 1, 1, 7, 62) := ⟨by decide, _, rfl, ⟨rfl, (RX1, TX1, 10), rfl, by decide, xtb 220 (by decide +kernel) rfl⟩⟩
theorem lk_35 : xLq RX10 (3, 13, 8, 80, 118) := ⟨by decide, _, rfl, ⟨rfl, mX10_cuts, rfl, xtb 1113 (by decide +kernel) rfl, xtb 1114 (by decide +kernel) rfl, xtb 1115 (by decide +kernel) rfl, (RX10, TX10, 13), rfl, rfl⟩⟩
theorem lk_36 : xLq RX10 (3, 13, 49, 91, 83) := ⟨by decide, _, rfl, ⟨rfl, mX11_isIn, rfl, "BentScreens", List.mem_of_getElem? (i := 1074) (by decide +kernel), xtb 815 (by decide +kernel) rfl⟩⟩
theorem lk_37 : xLq RX10 (3, 1, 10, 1, 11) := ⟨by decide, _, rfl, ⟨rfl, (RX10, TX10, 13), rfl, by decide, xtb 480 (by decide +kernel) rfl⟩⟩
theorem lk_38 : xLq RX10 (3, 1, 10, 2, 17) := ⟨by decide, _, rfl, ⟨rfl, (RX10, TX10, 13), rfl, by decide, xtb 481 (by decide +kernel) rfl⟩⟩
theorem lk_39 : xLq RX10 (3, 13, 1, 2, 87) := ⟨by decide, _, rfl, ⟨rfl, mJ7_fill_53178, rfl, xtb 1079 (by decide +kernel) rfl, xtb 1080 (by decide +kernel) rfl⟩⟩
theorem lk_40 : xLq RX10 (3, 14, 10, 10, 111) := ⟨by decide, _, rfl, ⟨rfl, (RX10, TX10, 13), .int, rfl, by decide, xtb 490 (by decide +kernel) rfl, rfl, (fun h => by cases h), by decide +kernel, rfl⟩⟩
theorem lk_41 : xLq RX10 (3, 13, 15, 80, 114) := ⟨by decide, _, rfl, ⟨rfl, mX10_reach, rfl, xtb 1090 (by decide +kernel) rfl, xtb 1092 (by decide +kernel) rfl, xtb 24 (by decide +kernel) rfl, (RX10, TX10, 13), rfl, rfl⟩⟩
theorem lk_42 : xLq RX10 (3, 1, 10, 10, 111) := ⟨by decide, _, rfl, ⟨rfl, (RX10, TX10, 13), rfl, by decide, xtb 490 (by decide +kernel) rfl⟩⟩
theorem lk_43 : xLq RX10 (3, 1, 10, 9, 39) := ⟨by decide, _, rfl, ⟨rfl, (RX10, TX10, 13), rfl, by decide, xtb 489 (by decide +kernel) rfl⟩⟩
theorem lk_44 : xLq RX10 (3, 1, 10, 6, 30) := ⟨by decide, _, rfl, ⟨rfl, (RX10, TX10, 13), rfl, by decide, xtb 485 (by decide +kernel) rfl⟩⟩
theorem lk_45 : xLq RX10 (3, 14, 10, 11, 93) := ⟨by decide, _, rfl, ⟨rfl, (RX10, TX10, 13), .int, rfl, by decide, xtb 491 (by decide +kernel) rfl, rfl, (fun h => by cases h), by decide +kernel, rfl⟩⟩
theorem lk_46 : xLq RX10 (3, 13, 6, 80, 96) := ⟨by decide, _, rfl, ⟨rfl, mX10_addWay, rfl, xtb 1082 (by decide +kernel) rfl, xtb 1084 (by decide +kernel) rfl, xtb 22 (by decide +kernel) rfl, (RX10, TX10, 13), rfl, rfl⟩⟩
theorem lk_47 : xLq RX10 (3, 1, 10, 11, 93) := ⟨by decide, _, rfl, ⟨rfl, (RX10, TX10, 13), rfl, by decide, xtb 491 (by decide +kernel) rfl⟩⟩
theorem lk_48 : xLq RX10 (3, 59, 10, 12, 46) := ⟨by decide, _, rfl, ⟨rfl, (RX10, TX10, 13), .boolean, rfl, by decide, xtb 493 (by decide +kernel) rfl, rfl, (fun h => by cases h), by decide +kernel, rfl⟩⟩
theorem lk_49 : xLq RX10 (3, 25, 0, 0, 3) := ⟨by decide, _, rfl, ⟨rfl, xtb 478 (by decide +kernel) rfl⟩⟩
theorem lk_50 : xLq RX10 (3, 61, 10, 1, 11) := ⟨by decide, _, rfl, ⟨rfl, (RX10, TX10, 13), .array .boolean, rfl, by decide, xtb 480 (by decide +kernel) rfl, rfl, (fun _ => rfl), by decide +kernel, Or.inr ⟨_, rfl⟩⟩⟩
theorem lk_51 : xLq RX10 (3, 61, 10, 2, 17) := ⟨by decide, _, rfl, ⟨rfl, (RX10, TX10, 13), .array .boolean, rfl, by decide, xtb 481 (by decide +kernel) rfl, rfl, (fun _ => rfl), by decide +kernel, Or.inr ⟨_, rfl⟩⟩⟩
theorem lk_52 : xLq RX10 (3, 61, 10, 3, 20) := ⟨by decide, _, rfl, ⟨rfl, (RX10, TX10, 13), .array .int, rfl, by decide, xtb 482 (by decide +kernel) rfl, rfl, (fun _ => rfl), by decide +kernel, Or.inr ⟨_, rfl⟩⟩⟩
theorem lk_53 : xLq RX10 (3, 61, 10, 4, 24) := ⟨by decide, _, rfl, ⟨rfl, (RX10, TX10, 13), .array .int, rfl, by decide, xtb 483 (by decide +kernel) rfl, rfl, (fun _ => rfl), by decide +kernel, Or.inr ⟨_, rfl⟩⟩⟩
theorem lk_54 : xLq RX10 (3, 61, 10, 5, 27) := ⟨by decide, _, rfl, ⟨rfl, (RX10, TX10, 13), .array .boolean, rfl, by decide, xtb 484 (by decide +kernel) rfl, rfl, (fun _ => rfl), by decide +kernel, Or.inr ⟨_, rfl⟩⟩⟩
theorem lk_55 : xLq RX10 (3, 61, 10, 6, 30) := ⟨by decide, _, rfl, ⟨rfl, (RX10, TX10, 13), .array .boolean, rfl, by decide, xtb 485 (by decide +kernel) rfl, rfl, (fun _ => rfl), by decide +kernel, Or.inr ⟨_, rfl⟩⟩⟩
theorem lk_56 : xLq RX10 (3, 61, 10, 7, 33) := ⟨by decide, _, rfl, ⟨rfl, (RX10, TX10, 13), .array .boolean, rfl, by decide, xtb 486 (by decide +kernel) rfl, rfl, (fun _ => rfl), by decide +kernel, Or.inr ⟨_, rfl⟩⟩⟩
theorem lk_57 : xLq RX10 (3, 61, 10, 8, 36) := ⟨by decide, _, rfl, ⟨rfl, (RX10, TX10, 13), .array .int, rfl, by decide, xtb 488 (by decide +kernel) rfl, rfl, (fun _ => rfl), by decide +kernel, Or.inr ⟨_, rfl⟩⟩⟩
theorem lk_58 : xLq RX10 (3, 61, 10, 9, 39) := ⟨by decide, _, rfl, ⟨rfl, (RX10, TX10, 13), .array .int, rfl, by decide, xtb 489 (by decide +kernel) rfl, rfl, (fun _ => rfl), by decide +kernel, Or.inr ⟨_, rfl⟩⟩⟩
theorem lk_59 : xLq RX10 (3, 61, 10, 0, 42) := ⟨by decide, _, rfl, ⟨rfl, (RX10, TX10, 13), .object "BentScreens$Told", rfl, by decide, xtb 479 (by decide +kernel) rfl, rfl, (fun _ => rfl), by decide +kernel, Or.inl ⟨_, rfl⟩⟩⟩
theorem lk_60 : xLq RX10 (3, 13, 229, 72, 69) := ⟨by decide, _, rfl, ⟨rfl, mX9_cracksInView, rfl, xtb 1072 (by decide +kernel) rfl, xtb 1057 (by decide +kernel) rfl, xtb 1058 (by decide +kernel) rfl, (RX9, TX9, 14), rfl, rfl⟩⟩
theorem lk_61 : xLq RX10 (3, 1, 9, 5, 73) := ⟨by decide, _, rfl, ⟨rfl, (RX9, TX9, 14), rfl, by decide, xtb 273 (by decide +kernel) rfl⟩⟩
theorem lk_62 : xLq RX10 (3, 13, 206, 40, 77) := ⟨by decide, _, rfl, ⟨rfl, mX5_get, rfl, xtb 1073 (by decide +kernel) rfl, xtb 807 (by decide +kernel) rfl, xtb 808 (by decide +kernel) rfl, (RX5, TX5, 4), rfl, rfl⟩⟩
theorem lk_63 : xLq RX10 (3, 1, 10, 12, 46) := ⟨by decide, _, rfl, ⟨rfl, (RX10, TX10, 13), rfl, by decide, xtb 493 (by decide +kernel) rfl⟩⟩
theorem lk_64 : xLq RX10 (3, 13, 14, 80, 50) := ⟨by decide, _, rfl, ⟨rfl, mX10_layNet, rfl, xtb 1068 (by decide +kernel) rfl, xtb 1070 (by decide +kernel) rfl, xtb 20 (by decide +kernel) rfl, (RX10, TX10, 13), rfl, rfl⟩⟩
theorem lk_65 : xLq RX10 (3, 13, 10, 80, 53) := ⟨by decide, _, rfl, ⟨rfl, mX10_findWays, rfl, xtb 1075 (by decide +kernel) rfl, xtb 1077 (by decide +kernel) rfl, xtb 21 (by decide +kernel) rfl, (RX10, TX10, 13), rfl, rfl⟩⟩
theorem lk_66 : xLq RX11 (3, 13, 49, 90, 238) := ⟨by decide, _, rfl, ⟨rfl, mX11_isIn, rfl, xtb 920 (by decide +kernel) rfl, xtb 815 (by decide +kernel) rfl⟩⟩
theorem lk_67 : xLq RX11 (3, 1, 11, 1, 16) := ⟨by decide, _, rfl, ⟨rfl, (RX11, TX11, 11), rfl, by decide, xtb 621 (by decide +kernel) rfl⟩⟩
theorem lk_68 : xLq RX11 (3, 1, 11, 0, 10) := ⟨by decide, _, rfl, ⟨rfl, (RX11, TX11, 11), rfl, by decide, xtb 620 (by decide +kernel) rfl⟩⟩
theorem lk_69 : xLq RX11 (3, 13, 228, 72, 378) := ⟨by decide, _, rfl, ⟨rfl, mX9_copy, rfl, xtb 1521 (by decide +kernel) rfl, xtb 1522 (by decide +kernel) rfl, xtb 1523 (by decide +kernel) rfl, (RX9, TX9, 14), rfl, rfl⟩⟩
theorem lk_70 : xLq RX11 (3, 13, 41, 88, 103) := ⟨by decide, _, rfl, ⟨rfl, mX11_forgetFilm, rfl, xtb 854 (by decide +kernel) rfl, xtb 856 (by decide +kernel) rfl, xtb 9 (by decide +kernel) rfl, (RX11, TX11, 11), rfl, rfl⟩⟩
theorem lk_71 : xLq RX11 (3, 1, 11, 8, 79) := ⟨by decide, _, rfl, ⟨rfl, (RX11, TX11, 11), rfl, by decide, xtb 628 (by decide +kernel) rfl⟩⟩
theorem lk_72 : xLq RX11 (3, 13, 196, 32, 326) := ⟨by decide, _, rfl, ⟨rfl, mX4_forget, rfl, xtb 1346 (by decide +kernel) rfl, xtb 1347 (by decide +kernel) rfl, xtb 1348 (by decide +kernel) rfl, (RX4, TX4, 12), rfl, rfl⟩⟩
theorem lk_73 : xLq RX11 (3, 13, 59, 88, 361) := ⟨by decide, _, rfl, ⟨rfl, mX11_measureAll, rfl, xtb 1485 (by decide +kernel) rfl, xtb 1487 (by decide +kernel) rfl, xtb 53 (by decide +kernel) rfl, (RX11, TX11, 11), rfl, rfl⟩⟩
theorem lk_74 : xLq RX11 (3, 13, 51, 88, 364) := ⟨by decide, _, rfl, ⟨rfl, mX11_judgeLines, rfl, xtb 1495 (by decide +kernel) rfl, xtb 1497 (by decide +kernel) rfl, xtb 54 (by decide +kernel) rfl, (RX11, TX11, 11), rfl, rfl⟩⟩
theorem lk_75 : xLq RX11 (3, 1, 9, 12, 367) := ⟨by decide, _, rfl, ⟨rfl, (RX9, TX9, 14), rfl, by decide, xtb 292 (by decide +kernel) rfl⟩⟩
theorem lk_76 : xLq RX11 (3, 1, 5, 3, 151) := ⟨by decide, _, rfl, ⟨rfl, (RX5, TX5, 4), rfl, by decide, xtb 185 (by decide +kernel) rfl⟩⟩
theorem lk_77 : xLq RX11 (3, 1, 11, 10, 87) := ⟨by decide, _, rfl, ⟨rfl, (RX11, TX11, 11), rfl, by decide, xtb 630 (by decide +kernel) rfl⟩⟩
theorem lk_78 : xLq RX11 (3, 13, 206, 40, 132) := ⟨by decide, _, rfl, ⟨rfl, mX5_get, rfl, xtb 900 (by decide +kernel) rfl, xtb 807 (by decide +kernel) rfl, xtb 808 (by decide +kernel) rfl, (RX5, TX5, 4), rfl, rfl⟩⟩
theorem lk_79 : xLq RX11 (3, 1, 9, 4, 38) := ⟨by decide, _, rfl, ⟨rfl, (RX9, TX9, 14), rfl, by decide, xtb 267 (by decide +kernel) rfl⟩⟩
theorem lk_80 : xLq RX11 (3, 1, 1, 0, 112) := ⟨by decide, _, rfl, ⟨rfl, (RX1, TX1, 10), rfl, by decide, xtb 199 (by decide +kernel) rfl⟩⟩
theorem lk_81 : xLq RX11 (3, 13, 208, 40, 117) := ⟨by decide, _, rfl, ⟨rfl, mX5_has, rfl, xtb 886 (by decide +kernel) rfl, xtb 831 (by decide +kernel) rfl, xtb 832 (by decide +kernel) rfl, (RX5, TX5, 4), rfl, rfl⟩⟩
theorem lk_82 : xLq RX11 (3, 13, 50, 90, 140) := ⟨by decide, _, rfl, ⟨rfl, mX11_isRound, rfl, xtb 917 (by decide +kernel) rfl, xtb 918 (by decide +kernel) rfl⟩⟩
theorem lk_83 : xLq RX11 (3, 1, 11, 4, 45) := ⟨by decide, _, rfl, ⟨rfl, (RX11, TX11, 11), rfl, by decide, xtb 624 (by decide +kernel) rfl⟩⟩
theorem lk_84 : xLq RX11 (3, 13, 5, 0, 123) := ⟨by decide, _, rfl, ⟨rfl, mX0_layAsTold, rfl, xtb 887 (by decide +kernel) rfl, xtb 888 (by decide +kernel) rfl, xtb 889 (by decide +kernel) rfl, (RX0, TX0, 11), rfl, rfl⟩⟩
theorem lk_85 : xLq RX11 (3, 1, 9, 10, 316) := ⟨by decide, _, rfl, ⟨rfl, (RX9, TX9, 14), rfl, by decide, xtb 287 (by decide +kernel) rfl⟩⟩
theorem lk_86 : xLq RX11 (3, 52, 1000, 0, 394) := ⟨by decide, _, rfl, ⟨rfl, xtb 1335 (by decide +kernel) rfl⟩⟩
theorem lk_87 : xLq RX11 (3, 13, 35, 90, 396) := ⟨by decide, _, rfl, ⟨rfl, mX11_divide, rfl, xtb 1336 (by decide +kernel) rfl, xtb 911 (by decide +kernel) rfl⟩⟩
theorem lk_88 : xLq RX11 (3, 1, 9, 5, 195) := ⟨by decide, _, rfl, ⟨rfl, (RX9, TX9, 14), rfl, by decide, xtb 274 (by decide +kernel) rfl⟩⟩
theorem lk_89 : xLq RX11 (3, 13, 211, 40, 212) := ⟨by decide, _, rfl, ⟨rfl, mX5_put, rfl, xtb 1051 (by decide +kernel) rfl, xtb 827 (by decide +kernel) rfl, xtb 828 (by decide +kernel) rfl, (RX5, TX5, 4), rfl, rfl⟩⟩
theorem lk_90 : xLq RX11 (3, 1, 9, 8, 252) := ⟨by decide, _, rfl, ⟨rfl, (RX9, TX9, 14), rfl, by decide, xtb 282 (by decide +kernel) rfl⟩⟩
theorem lk_91 : xLq RX11 (3, 1, 9, 6, 186) := ⟨by decide, _, rfl, ⟨rfl, (RX9, TX9, 14), rfl, by decide, xtb 276 (by decide +kernel) rfl⟩⟩
theorem lk_92 : xLq RX11 (3, 1, 9, 7, 189) := ⟨by decide, _, rfl, ⟨rfl, (RX9, TX9, 14), rfl, by decide, xtb 278 (by decide +kernel) rfl⟩⟩
theorem lk_93 : xLq RX11 (3, 1, 9, 9, 273) := ⟨by decide, _, rfl, ⟨rfl, (RX9, TX9, 14), rfl, by decide, xtb 285 (by decide +kernel) rfl⟩⟩
theorem lk_94 : xLq RX11 (3, 1, 9, 11, 72) := ⟨by decide, _, rfl, ⟨rfl, (RX9, TX9, 14), rfl, by decide, xtb 289 (by decide +kernel) rfl⟩⟩
theorem lk_95 : xLq RX11 (3, 13, 229, 72, 216) := ⟨by decide, _, rfl, ⟨rfl, mX9_cracksInView, rfl, xtb 1056 (by decide +kernel) rfl, xtb 1057 (by decide +kernel) rfl, xtb 1058 (by decide +kernel) rfl, (RX9, TX9, 14), rfl, rfl⟩⟩
theorem lk_96 : xLq RX11 (3, 13, 26, 88, 375) := ⟨by decide, _, rfl, ⟨rfl, mX11_countOfFilm, rfl, xtb 1512 (by decide +kernel) rfl, xtb 1514 (by decide +kernel) rfl, xtb 56 (by decide +kernel) rfl, (RX11, TX11, 11), rfl, rfl⟩⟩
theorem lk_97 : xLq RX11 (3, 1, 1, 7, 225) := ⟨by decide, _, rfl, ⟨rfl, (RX1, TX1, 10), rfl, by decide, xtb 223 (by decide +kernel) rfl⟩⟩
theorem lk_98 : xLq RX11 (3, 1, 1, 8, 255) := ⟨by decide, _, rfl, ⟨rfl, (RX1, TX1, 10), rfl, by decide, xtb 228 (by decide +kernel) rfl⟩⟩
theorem lk_99 : xLq RX11 (3, 13, 48, 88, 288) := ⟨by decide, _, rfl, ⟨rfl, mX11_isDark, rfl, xtb 1208 (by decide +kernel) rfl, xtb 1210 (by decide +kernel) rfl, xtb 32 (by decide +kernel) rfl, (RX11, TX11, 11), rfl, rfl⟩⟩
theorem lk_100 : xLq RX11 (3, 1, 1, 5, 297) := ⟨by decide, _, rfl, ⟨rfl, (RX1, TX1, 10), rfl, by decide, xtb 214 (by decide +kernel) rfl⟩⟩
theorem lk_101 : xLq RX11 (3, 1, 1, 6, 300) := ⟨by decide, _, rfl, ⟨rfl, (RX1, TX1, 10), rfl, by decide, xtb 218 (by decide +kernel) rfl⟩⟩
theorem lk_102 : xLq RX11 (3, 1, 1, 9, 412) := ⟨by decide, _, rfl, ⟨rfl, (RX1, TX1, 10), rfl, by decide, xtb 231 (by decide +kernel) rfl⟩⟩
theorem lk_103 : xLq RX11 (3, 13, 183, 8, 415) := ⟨by decide, _, rfl, ⟨rfl, mX1_rowsOf, rfl, xtb 1516 (by decide +kernel) rfl, xtb 795 (by decide +kernel) rfl, xtb 796 (by decide +kernel) rfl, (RX1, TX1, 10), rfl, rfl⟩⟩
theorem lk_104 : xLq RX11 (3, 13, 210, 40, 198) := ⟨by decide, _, rfl, ⟨rfl, mX5_isFull, rfl, xtb 1036 (by decide +kernel) rfl, xtb 799 (by decide +kernel) rfl, xtb 800 (by decide +kernel) rfl, (RX5, TX5, 4), rfl, rfl⟩⟩
theorem lk_105 : xLq RX11 (3, 13, 43, 88, 201) := ⟨by decide, _, rfl, ⟨rfl, mX11_hasPart, rfl, xtb 1037 (by decide +kernel) rfl, xtb 1039 (by decide +kernel) rfl, xtb 18 (by decide +kernel) rfl, (RX11, TX11, 11), rfl, rfl⟩⟩
theorem lk_106 : xLq RX11 (3, 13, 207, 40, 209) := ⟨by decide, _, rfl, ⟨rfl, mX5_grow, rfl, xtb 1050 (by decide +kernel) rfl, xtb 822 (by decide +kernel) rfl, xtb 823 (by decide +kernel) rfl, (RX5, TX5, 4), rfl, rfl⟩⟩
theorem lk_107 : xLq RX11 (3, 1, 11, 5, 52) := ⟨by decide, _, rfl, ⟨rfl, (RX11, TX11, 11), rfl, by decide, xtb 625 (by decide +kernel) rfl⟩⟩
theorem lk_108 : xLq RX11 (3, 13, 11, 80, 192) := ⟨by decide, _, rfl, ⟨rfl, mX10_forget, rfl, xtb 862 (by decide +kernel) rfl, xtb 863 (by decide +kernel) rfl, xtb 864 (by decide +kernel) rfl, (RX10, TX10, 13), rfl, rfl⟩⟩
theorem lk_109 : xLq RX11 (3, 1, 1, 2, 169) := ⟨by decide, _, rfl, ⟨rfl, (RX1, TX1, 10), rfl, by decide, xtb 204 (by decide +kernel) rfl⟩⟩
theorem lk_110 : xLq RX11 (3, 13, 16, 80, 219) := ⟨by decide, _, rfl, ⟨rfl, mX10_refresh, rfl, xtb 1064 (by decide +kernel) rfl, xtb 1065 (by decide +kernel) rfl, xtb 1066 (by decide +kernel) rfl, (RX10, TX10, 13), rfl, rfl⟩⟩
theorem lk_111 : xLq RX11 (3, 1, 10, 11, 222) := ⟨by decide, _, rfl, ⟨rfl, (RX10, TX10, 13), rfl, by decide, xtb 492 (by decide +kernel) rfl⟩⟩
theorem lk_112 : xLq RX11 (3, 13, 7, 80, 231) := ⟨by decide, _, rfl, ⟨rfl, mX10_countCut, rfl, xtb 1109 (by decide +kernel) rfl, xtb 1110 (by decide +kernel) rfl, xtb 1111 (by decide +kernel) rfl, (RX10, TX10, 13), rfl, rfl⟩⟩
theorem lk_113 : xLq RX11 (3, 13, 44, 88, 261) := ⟨by decide, _, rfl, ⟨rfl, mX11_hasPoint, rfl, xtb 1041 (by decide +kernel) rfl, xtb 1043 (by decide +kernel) rfl, xtb 19 (by decide +kernel) rfl, (RX11, TX11, 11), rfl, rfl⟩⟩
theorem lk_114 : xLq RX11 (3, 1, 11, 6, 59) := ⟨by decide, _, rfl, ⟨rfl, (RX11, TX11, 11), rfl, by decide, xtb 626 (by decide +kernel) rfl⟩⟩
theorem lk_115 : xLq RX11 (3, 13, 195, 24, 279) := ⟨by decide, _, rfl, ⟨rfl, mX3_refreshDamp, rfl, xtb 1187 (by decide +kernel) rfl, xtb 1188 (by decide +kernel) rfl, xtb 1189 (by decide +kernel) rfl, (RX3, TX3, 6), rfl, rfl⟩⟩
theorem lk_116 : xLq RX11 (3, 1, 3, 2, 282) := ⟨by decide, _, rfl, ⟨rfl, (RX3, TX3, 6), rfl, by decide, xtb 531 (by decide +kernel) rfl⟩⟩
theorem lk_117 : xLq RX11 (3, 13, 71, 88, 285) := ⟨by decide, _, rfl, ⟨rfl, mX11_refreshLamps, rfl, xtb 1204 (by decide +kernel) rfl, xtb 1206 (by decide +kernel) rfl, xtb 31 (by decide +kernel) rfl, (RX11, TX11, 11), rfl, rfl⟩⟩
theorem lk_118 : xLq RX11 (3, 13, 25, 88, 291) := ⟨by decide, _, rfl, ⟨rfl, mX11_countDark, rfl, xtb 1220 (by decide +kernel) rfl, xtb 1222 (by decide +kernel) rfl, xtb 33 (by decide +kernel) rfl, (RX11, TX11, 11), rfl, rfl⟩⟩
theorem lk_119 : xLq RX11 (3, 14, 9, 6, 186) := ⟨by decide, _, rfl, ⟨rfl, (RX9, TX9, 14), .int, rfl, by decide, xtb 276 (by decide +kernel) rfl, rfl, (fun h => by cases h), by decide +kernel, rfl⟩⟩
theorem lk_120 : xLq RX11 (3, 1, 9, 1, 91) := ⟨by decide, _, rfl, ⟨rfl, (RX9, TX9, 14), rfl, by decide, xtb 258 (by decide +kernel) rfl⟩⟩
theorem lk_121 : xLq RX11 (3, 14, 9, 1, 91) := ⟨by decide, _, rfl, ⟨rfl, (RX9, TX9, 14), .int, rfl, by decide, xtb 258 (by decide +kernel) rfl, rfl, (fun h => by cases h), by decide +kernel, rfl⟩⟩
theorem lk_122 : xLq RX11 (3, 1, 9, 2, 106) := ⟨by decide, _, rfl, ⟨rfl, (RX9, TX9, 14), rfl, by decide, xtb 263 (by decide +kernel) rfl⟩⟩
theorem lk_123 : xLq RX11 (3, 1, 9, 3, 109) := ⟨by decide, _, rfl, ⟨rfl, (RX9, TX9, 14), rfl, by decide, xtb 265 (by decide +kernel) rfl⟩⟩
theorem lk_124 : xLq RX11 (3, 1, 10, 7, 228) := ⟨by decide, _, rfl, ⟨rfl, (RX10, TX10, 13), rfl, by decide, xtb 487 (by decide +kernel) rfl⟩⟩
theorem lk_125 : xLq RX11 (3, 13, 227, 72, 95) := ⟨by decide, _, rfl, ⟨rfl, mX9_append, rfl, xtb 658 (by decide +kernel) rfl, xtb 659 (by decide +kernel) rfl, xtb 660 (by decide +kernel) rfl, (RX9, TX9, 14), rfl, rfl⟩⟩
theorem lk_126 : xLq RX11 (3, 1, 11, 2, 25) := ⟨by decide, _, rfl, ⟨rfl, (RX11, TX11, 11), rfl, by decide, xtb 622 (by decide +kernel) rfl⟩⟩
theorem lk_127 : xLq RX11 (3, 13, 187, 16, 99) := ⟨by decide, _, rfl, ⟨rfl, mX2_readFilm, rfl, xtb 670 (by decide +kernel) rfl, xtb 671 (by decide +kernel) rfl, xtb 672 (by decide +kernel) rfl, (RX2, TX2, 11), rfl, rfl⟩⟩
theorem lk_128 : xLq RX11 (3, 13, 2, 0, 381) := ⟨by decide, _, rfl, ⟨rfl, mX0_forgetOrder, rfl, xtb 858 (by decide +kernel) rfl, xtb 859 (by decide +kernel) rfl, xtb 860 (by decide +kernel) rfl, (RX0, TX0, 11), rfl, rfl⟩⟩
theorem lk_129 : xLq RX11 (3, 13, 188, 24, 258) := ⟨by decide, _, rfl, ⟨rfl, mX3_forgetAges, rfl, xtb 866 (by decide +kernel) rfl, xtb 867 (by decide +kernel) rfl, xtb 868 (by decide +kernel) rfl, (RX3, TX3, 6), rfl, rfl⟩⟩
theorem lk_130 : xLq RX11 (3, 13, 189, 24, 276) := ⟨by decide, _, rfl, ⟨rfl, mX3_forgetDamp, rfl, xtb 870 (by decide +kernel) rfl, xtb 871 (by decide +kernel) rfl, xtb 872 (by decide +kernel) rfl, (RX3, TX3, 6), rfl, rfl⟩⟩
theorem lk_131 : xLq RX11 (3, 1, 11, 7, 66) := ⟨by decide, _, rfl, ⟨rfl, (RX11, TX11, 11), rfl, by decide, xtb 627 (by decide +kernel) rfl⟩⟩
theorem lk_132 : xLq RX11 (3, 13, 215, 56, 384) := ⟨by decide, _, rfl, ⟨rfl, mX7_forget, rfl, xtb 874 (by decide +kernel) rfl, xtb 875 (by decide +kernel) rfl, xtb 876 (by decide +kernel) rfl, (RX7, TX7, 5), rfl, rfl⟩⟩
theorem lk_133 : xLq RX11 (3, 24, 9, 0, 7) := ⟨by decide, _, rfl, ⟨rfl, (RX9, TX9, 14), rfl, xtb 155 (by decide +kernel) rfl, xtb 156 (by decide +kernel) rfl, xtb 127 (by decide +kernel) rfl⟩⟩
theorem lk_134 : xLq RX11 (3, 13, 230, 77, 9) := ⟨by decide, _, rfl, ⟨rfl, mX9_init, rfl, "BentScreens", List.mem_of_getElem? (i := 157) (by decide +kernel), rfl, rfl, rfl, xtb 158 (by decide +kernel) rfl⟩⟩
theorem lk_135 : xLq RX11 (3, 13, 8, 80, 234) := ⟨by decide, _, rfl, ⟨rfl, mX10_cuts, rfl, xtb 1121 (by decide +kernel) rfl, xtb 1114 (by decide +kernel) rfl, xtb 1115 (by decide +kernel) rfl, (RX10, TX10, 13), rfl, rfl⟩⟩
theorem lk_136 : xLq RX11 (3, 25, 0, 0, 1) := ⟨by decide, _, rfl, ⟨rfl, xtb 152 (by decide +kernel) rfl⟩⟩
theorem lk_137 : xLq RX11 (3, 61, 11, 0, 10) := ⟨by decide, _, rfl, ⟨rfl, (RX11, TX11, 11), .object "BentScreens$Told", rfl, by decide, xtb 620 (by decide +kernel) rfl, rfl, (fun _ => rfl), by decide +kernel, Or.inl ⟨_, rfl⟩⟩⟩
theorem lk_138 : xLq RX11 (3, 46, 0, 0, 7) := ⟨by decide, _, rfl, ⟨rfl, xtb 155 (by decide +kernel) rfl⟩⟩
theorem lk_139 : xLq RX11 (3, 61, 11, 1, 16) := ⟨by decide, _, rfl, ⟨rfl, (RX11, TX11, 11), .array (.object "BentScreens$Told"), rfl, by decide, xtb 621 (by decide +kernel) rfl, rfl, (fun _ => rfl), by decide +kernel, Or.inr ⟨_, rfl⟩⟩⟩
theorem lk_140 : xLq RX11 (3, 24, 2, 0, 20) := ⟨by decide, _, rfl, ⟨rfl, (RX2, TX2, 11), rfl, xtb 326 (by decide +kernel) rfl, xtb 327 (by decide +kernel) rfl, xtb 130 (by decide +kernel) rfl⟩⟩
theorem lk_141 : xLq RX11 (3, 13, 186, 20, 22) := ⟨by decide, _, rfl, ⟨rfl, mX2_init, rfl, xtb 328 (by decide +kernel) rfl, rfl, rfl, rfl, xtb 329 (by decide +kernel) rfl⟩⟩
theorem lk_142 : xLq RX11 (3, 61, 11, 2, 25) := ⟨by decide, _, rfl, ⟨rfl, (RX11, TX11, 11), .object "BentScreens$FilmText", rfl, by decide, xtb 622 (by decide +kernel) rfl, rfl, (fun _ => rfl), by decide +kernel, Or.inl ⟨_, rfl⟩⟩⟩
theorem lk_143 : xLq RX11 (3, 24, 6, 0, 29) := ⟨by decide, _, rfl, ⟨rfl, (RX6, TX6, 6), rfl, xtb 399 (by decide +kernel) rfl, xtb 400 (by decide +kernel) rfl, xtb 132 (by decide +kernel) rfl⟩⟩
theorem lk_144 : xLq RX11 (3, 13, 212, 52, 31) := ⟨by decide, _, rfl, ⟨rfl, mX6_init, rfl, xtb 401 (by decide +kernel) rfl, rfl, rfl, rfl, xtb 402 (by decide +kernel) rfl⟩⟩
theorem lk_145 : xLq RX11 (3, 61, 11, 3, 32) := ⟨by decide, _, rfl, ⟨rfl, (RX11, TX11, 11), .object "BentScreens$RulesText", rfl, by decide, xtb 623 (by decide +kernel) rfl, rfl, (fun _ => rfl), by decide +kernel, Or.inl ⟨_, rfl⟩⟩⟩
theorem lk_146 : xLq RX11 (3, 24, 0, 0, 36) := ⟨by decide, _, rfl, ⟨rfl, (RX0, TX0, 11), rfl, xtb 428 (by decide +kernel) rfl, xtb 429 (by decide +kernel) rfl, xtb 133 (by decide +kernel) rfl⟩⟩
theorem lk_147 : xLq RX11 (3, 13, 3, 4, 42) := ⟨by decide, _, rfl, ⟨rfl, mX0_init, rfl, xtb 430 (by decide +kernel) rfl, rfl, rfl, rfl, xtb 431 (by decide +kernel) rfl⟩⟩
theorem lk_148 : xLq RX11 (3, 61, 11, 4, 45) := ⟨by decide, _, rfl, ⟨rfl, (RX11, TX11, 11), .object "BentScreens$Bend", rfl, by decide, xtb 624 (by decide +kernel) rfl, rfl, (fun _ => rfl), by decide +kernel, Or.inl ⟨_, rfl⟩⟩⟩
theorem lk_149 : xLq RX11 (3, 24, 10, 0, 49) := ⟨by decide, _, rfl, ⟨rfl, (RX10, TX10, 13), rfl, xtb 473 (by decide +kernel) rfl, xtb 474 (by decide +kernel) rfl, xtb 134 (by decide +kernel) rfl⟩⟩
theorem lk_150 : xLq RX11 (3, 13, 12, 84, 51) := ⟨by decide, _, rfl, ⟨rfl, mX10_init, rfl, xtb 475 (by decide +kernel) rfl, rfl, rfl, rfl, xtb 476 (by decide +kernel) rfl⟩⟩
theorem lk_151 : xLq RX11 (3, 61, 11, 5, 52) := ⟨by decide, _, rfl, ⟨rfl, (RX11, TX11, 11), .object "BentScreens$Ways", rfl, by decide, xtb 625 (by decide +kernel) rfl, rfl, (fun _ => rfl), by decide +kernel, Or.inl ⟨_, rfl⟩⟩⟩
theorem lk_152 : xLq RX11 (3, 24, 3, 0, 56) := ⟨by decide, _, rfl, ⟨rfl, (RX3, TX3, 6), rfl, xtb 522 (by decide +kernel) rfl, xtb 523 (by decide +kernel) rfl, xtb 135 (by decide +kernel) rfl⟩⟩
theorem lk_153 : xLq RX11 (3, 13, 190, 28, 58) := ⟨by decide, _, rfl, ⟨rfl, mX3_init, rfl, xtb 524 (by decide +kernel) rfl, rfl, rfl, rfl, xtb 525 (by decide +kernel) rfl⟩⟩
theorem lk_154 : xLq RX11 (3, 61, 11, 6, 59) := ⟨by decide, _, rfl, ⟨rfl, (RX11, TX11, 11), .object "BentScreens$Lamps", rfl, by decide, xtb 626 (by decide +kernel) rfl, rfl, (fun _ => rfl), by decide +kernel, Or.inl ⟨_, rfl⟩⟩⟩
theorem lk_155 : xLq RX11 (3, 24, 7, 0, 63) := ⟨by decide, _, rfl, ⟨rfl, (RX7, TX7, 5), rfl, xtb 548 (by decide +kernel) rfl, xtb 549 (by decide +kernel) rfl, xtb 136 (by decide +kernel) rfl⟩⟩
theorem lk_156 : xLq RX11 (3, 13, 216, 60, 65) := ⟨by decide, _, rfl, ⟨rfl, mX7_init, rfl, xtb 550 (by decide +kernel) rfl, rfl, rfl, rfl, xtb 551 (by decide +kernel) rfl⟩⟩
theorem lk_157 : xLq RX11 (3, 61, 11, 7, 66) := ⟨by decide, _, rfl, ⟨rfl, (RX11, TX11, 11), .object "BentScreens$Sheet", rfl, by decide, xtb 627 (by decide +kernel) rfl, rfl, (fun _ => rfl), by decide +kernel, Or.inl ⟨_, rfl⟩⟩⟩
theorem lk_158 : xLq RX11 (3, 24, 4, 0, 70) := ⟨by decide, _, rfl, ⟨rfl, (RX4, TX4, 12), rfl, xtb 573 (by decide +kernel) rfl, xtb 574 (by decide +kernel) rfl, xtb 137 (by decide +kernel) rfl⟩⟩
theorem lk_159 : xLq RX11 (3, 13, 197, 36, 76) := ⟨by decide, _, rfl, ⟨rfl, mX4_init, rfl, xtb 575 (by decide +kernel) rfl, rfl, rfl, rfl, xtb 576 (by decide +kernel) rfl⟩⟩
theorem lk_160 : xLq RX11 (3, 61, 11, 8, 79) := ⟨by decide, _, rfl, ⟨rfl, (RX11, TX11, 11), .object "BentScreens$Laws", rfl, by decide, xtb 628 (by decide +kernel) rfl, rfl, (fun _ => rfl), by decide +kernel, Or.inl ⟨_, rfl⟩⟩⟩
theorem lk_161 : xLq RX11 (3, 61, 11, 9, 83) := ⟨by decide, _, rfl, ⟨rfl, (RX11, TX11, 11), .array .int, rfl, by decide, xtb 629 (by decide +kernel) rfl, rfl, (fun _ => rfl), by decide +kernel, Or.inr ⟨_, rfl⟩⟩⟩
theorem lk_162 : xLq RX11 (3, 61, 11, 10, 87) := ⟨by decide, _, rfl, ⟨rfl, (RX11, TX11, 11), .array .boolean, rfl, by decide, xtb 630 (by decide +kernel) rfl, rfl, (fun _ => rfl), by decide +kernel, Or.inr ⟨_, rfl⟩⟩⟩
theorem lk_163 : xLq RX11 (3, 13, 192, 24, 267) := ⟨by decide, _, rfl, ⟨rfl, mX3_leftOf, rfl, xtb 1166 (by decide +kernel) rfl, xtb 1167 (by decide +kernel) rfl, xtb 1168 (by decide +kernel) rfl, (RX3, TX3, 6), rfl, rfl⟩⟩
theorem lk_164 : xLq RX11 (3, 13, 191, 24, 385) := ⟨by decide, _, rfl, ⟨rfl, mX3_isDamp, rfl, xtb 1212 (by decide +kernel) rfl, xtb 1213 (by decide +kernel) rfl, xtb 1214 (by decide +kernel) rfl, (RX3, TX3, 6), rfl, rfl⟩⟩
theorem lk_165 : xLq RX11 (3, 1, 9, 13, 406) := ⟨by decide, _, rfl, ⟨rfl, (RX9, TX9, 14), rfl, by decide, xtb 295 (by decide +kernel) rfl⟩⟩
theorem lk_166 : xLq RX11 (3, 13, 199, 32, 327) := ⟨by decide, _, rfl, ⟨rfl, mX4_refresh, rfl, xtb 1354 (by decide +kernel) rfl, xtb 1355 (by decide +kernel) rfl, xtb 1356 (by decide +kernel) rfl, (RX4, TX4, 12), rfl, rfl⟩⟩
theorem lk_167 : xLq RX11 (3, 1, 4, 4, 328) := ⟨by decide, _, rfl, ⟨rfl, (RX4, TX4, 12), rfl, by decide, xtb 584 (by decide +kernel) rfl⟩⟩
theorem lk_168 : xLq RX11 (3, 13, 194, 24, 264) := ⟨by decide, _, rfl, ⟨rfl, mX3_refreshAges, rfl, xtb 1152 (by decide +kernel) rfl, xtb 1153 (by decide +kernel) rfl, xtb 1154 (by decide +kernel) rfl, (RX3, TX3, 6), rfl, rfl⟩⟩
theorem lk_169 : xLq RX11 (3, 13, 198, 32, 331) := ⟨by decide, _, rfl, ⟨rfl, mX4_keptAt, rfl, xtb 1373 (by decide +kernel) rfl, xtb 1374 (by decide +kernel) rfl, xtb 1375 (by decide +kernel) rfl, (RX4, TX4, 12), rfl, rfl⟩⟩
theorem lk_170 : xLq RX11 (3, 1, 0, 2, 126) := ⟨by decide, _, rfl, ⟨rfl, (RX0, TX0, 11), rfl, by decide, xtb 437 (by decide +kernel) rfl⟩⟩
theorem lk_171 : xLq RX11 (3, 1, 0, 3, 129) := ⟨by decide, _, rfl, ⟨rfl, (RX0, TX0, 11), rfl, by decide, xtb 439 (by decide +kernel) rfl⟩⟩
theorem lk_172 : xLq RX11 (3, 13, 220, 56, 303) := ⟨by decide, _, rfl, ⟨rfl, mX7_refreshWorth, rfl, xtb 1248 (by decide +kernel) rfl, xtb 1249 (by decide +kernel) rfl, xtb 1250 (by decide +kernel) rfl, (RX7, TX7, 5), rfl, rfl⟩⟩
theorem lk_173 : xLq RX11 (3, 1, 11, 9, 83) := ⟨by decide, _, rfl, ⟨rfl, (RX11, TX11, 11), rfl, by decide, xtb 629 (by decide +kernel) rfl⟩⟩
theorem lk_174 : xLq RX11 (3, 13, 184, 8, 400) := ⟨by decide, _, rfl, ⟨rfl, mX1_slidesAnywhere, rfl, xtb 1489 (by decide +kernel) rfl, xtb 1490 (by decide +kernel) rfl, xtb 1491 (by decide +kernel) rfl, (RX1, TX1, 10), rfl, rfl⟩⟩
theorem lk_175 : xLq RX11 (3, 13, 222, 56, 306) := ⟨by decide, _, rfl, ⟨rfl, mX7_worthOf, rfl, xtb 1279 (by decide +kernel) rfl, xtb 1280 (by decide +kernel) rfl, xtb 1281 (by decide +kernel) rfl, (RX7, TX7, 5), rfl, rfl⟩⟩
theorem lk_176 : xLq RX11 (3, 63, 0, 0, 403) := ⟨by decide, _, rfl, ⟨rfl, xtb 1494 (by decide +kernel) rfl⟩⟩
theorem lk_177 : xLq RX11 (3, 13, 29, 88, 241) := ⟨by decide, _, rfl, ⟨rfl, mX11_cracksToMend, rfl, xtb 1130 (by decide +kernel) rfl, xtb 1132 (by decide +kernel) rfl, xtb 26 (by decide +kernel) rfl, (RX11, TX11, 11), rfl, rfl⟩⟩
theorem lk_178 : xLq RX11 (3, 13, 23, 88, 244) := ⟨by decide, _, rfl, ⟨rfl, mX11_costOf, rfl, xtb 1134 (by decide +kernel) rfl, xtb 1136 (by decide +kernel) rfl, xtb 27 (by decide +kernel) rfl, (RX11, TX11, 11), rfl, rfl⟩⟩
theorem lk_179 : xLq RX11 (3, 13, 0, 2, 247) := ⟨by decide, _, rfl, ⟨rfl, mJ6_bitCount_0f7a4, rfl, xtb 1138 (by decide +kernel) rfl, xtb 1139 (by decide +kernel) rfl⟩⟩
theorem lk_180 : xLq RX11 (3, 1, 4, 6, 349) := ⟨by decide, _, rfl, ⟨rfl, (RX4, TX4, 12), rfl, by decide, xtb 587 (by decide +kernel) rfl⟩⟩
theorem lk_181 : xLq RX11 (3, 1, 4, 7, 352) := ⟨by decide, _, rfl, ⟨rfl, (RX4, TX4, 12), rfl, by decide, xtb 589 (by decide +kernel) rfl⟩⟩
theorem lk_182 : xLq RX11 (3, 1, 4, 8, 355) := ⟨by decide, _, rfl, ⟨rfl, (RX4, TX4, 12), rfl, by decide, xtb 591 (by decide +kernel) rfl⟩⟩
theorem lk_183 : xLq RX11 (3, 1, 0, 8, 166) := ⟨by decide, _, rfl, ⟨rfl, (RX0, TX0, 11), rfl, by decide, xtb 445 (by decide +kernel) rfl⟩⟩
theorem lk_184 : xLq RX11 (3, 13, 219, 56, 310) := ⟨by decide, _, rfl, ⟨rfl, mX7_refreshPlan, rfl, xtb 1287 (by decide +kernel) rfl, xtb 1288 (by decide +kernel) rfl, xtb 1289 (by decide +kernel) rfl, (RX7, TX7, 5), rfl, rfl⟩⟩
theorem lk_185 : xLq RX11 (3, 1, 7, 2, 313) := ⟨by decide, _, rfl, ⟨rfl, (RX7, TX7, 5), rfl, by decide, xtb 559 (by decide +kernel) rfl⟩⟩
theorem lk_186 : xLq RX11 (3, 62, 0, 0, 370) := ⟨by decide, _, rfl, ⟨rfl, xtb 1507 (by decide +kernel) rfl⟩⟩
theorem lk_187 : xLq RX11 (3, 13, 21, 88, 322) := ⟨by decide, _, rfl, ⟨rfl, mX11_brokenShare, rfl, xtb 1331 (by decide +kernel) rfl, xtb 1333 (by decide +kernel) rfl, xtb 43 (by decide +kernel) rfl, (RX11, TX11, 11), rfl, rfl⟩⟩
theorem lk_188 : xLq RX11 (3, 1, 11, 3, 32) := ⟨by decide, _, rfl, ⟨rfl, (RX11, TX11, 11), rfl, by decide, xtb 623 (by decide +kernel) rfl⟩⟩
theorem lk_189 : xLq RX11 (3, 13, 213, 48, 358) := ⟨by decide, _, rfl, ⟨rfl, mX6_readRules, rfl, xtb 1426 (by decide +kernel) rfl, xtb 1427 (by decide +kernel) rfl, xtb 1428 (by decide +kernel) rfl, (RX6, TX6, 6), rfl, rfl⟩⟩
theorem lk_190 : xLq RX11 (3, 13, 200, 32, 334) := ⟨by decide, _, rfl, ⟨rfl, mX4_spanEnd, rfl, xtb 1381 (by decide +kernel) rfl, xtb 1382 (by decide +kernel) rfl, xtb 1383 (by decide +kernel) rfl, (RX4, TX4, 12), rfl, rfl⟩⟩
theorem lk_191 : xLq RX11 (3, 13, 201, 32, 337) := ⟨by decide, _, rfl, ⟨rfl, mX4_spanStart, rfl, xtb 1386 (by decide +kernel) rfl, xtb 1387 (by decide +kernel) rfl, xtb 1388 (by decide +kernel) rfl, (RX4, TX4, 12), rfl, rfl⟩⟩
theorem lk_192 : xLq RX11 (2, 35, 2294967296, 0, 143) := ⟨by decide, _, rfl, ⟨rfl, by decide, xtb 921 (by decide +kernel) rfl⟩⟩
theorem lk_193 : xLq RX11 (3, 36, 999999, 0, 325) := ⟨by decide, _, rfl, ⟨rfl, by decide, xtb 1345 (by decide +kernel) rfl⟩⟩
theorem lk_194 : xLq RX11 (3, 13, 193, 24, 270) := ⟨by decide, _, rfl, ⟨rfl, mX3_leftSpread, rfl, xtb 1174 (by decide +kernel) rfl, xtb 1175 (by decide +kernel) rfl, xtb 1176 (by decide +kernel) rfl, (RX3, TX3, 6), rfl, rfl⟩⟩
theorem lk_195 : xLq RX11 (3, 14, 9, 7, 189) := ⟨by decide, _, rfl, ⟨rfl, (RX9, TX9, 14), .int, rfl, by decide, xtb 278 (by decide +kernel) rfl, rfl, (fun h => by cases h), by decide +kernel, rfl⟩⟩
theorem lk_196 : xLq RX11 (3, 14, 9, 9, 273) := ⟨by decide, _, rfl, ⟨rfl, (RX9, TX9, 14), .int, rfl, by decide, xtb 285 (by decide +kernel) rfl, rfl, (fun h => by cases h), by decide +kernel, rfl⟩⟩
theorem lk_197 : xLq RX12 (3, 1, 12, 5, 141) := ⟨by decide, _, rfl, ⟨rfl, (RX12, TX12, 47), rfl, by decide, xtb 1543 (by decide +kernel) rfl⟩⟩
theorem lk_198 : xLq RX12 (3, 13, 96, 96, 144) := ⟨by decide, _, rfl, ⟨rfl, mX12_byteAt, rfl, xtb 1700 (by decide +kernel) rfl, xtb 1702 (by decide +kernel) rfl, xtb 59 (by decide +kernel) rfl, (RX12, TX12, 47), rfl, rfl⟩⟩
theorem lk_199 : xLq RX12 (3, 14, 12, 5, 141) := ⟨by decide, _, rfl, ⟨rfl, (RX12, TX12, 47), .int, rfl, by decide, xtb 1543 (by decide +kernel) rfl, rfl, (fun h => by cases h), by decide +kernel, rfl⟩⟩
theorem lk_200 : xLq RX12 (3, 14, 12, 6, 148) := ⟨by decide, _, rfl, ⟨rfl, (RX12, TX12, 47), .int, rfl, by decide, xtb 1544 (by decide +kernel) rfl, rfl, (fun h => by cases h), by decide +kernel, rfl⟩⟩
theorem lk_201 : xLq RX12 (3, 14, 12, 7, 151) := ⟨by decide, _, rfl, ⟨rfl, (RX12, TX12, 47), .int, rfl, by decide, xtb 1545 (by decide +kernel) rfl, rfl, (fun h => by cases h), by decide +kernel, rfl⟩⟩
theorem lk_202 : xLq RX12 (3, 1, 12, 6, 148) := ⟨by decide, _, rfl, ⟨rfl, (RX12, TX12, 47), rfl, by decide, xtb 1544 (by decide +kernel) rfl⟩⟩
theorem lk_203 : xLq RX12 (3, 1, 12, 2, 137) := ⟨by decide, _, rfl, ⟨rfl, (RX12, TX12, 47), rfl, by decide, xtb 1540 (by decide +kernel) rfl⟩⟩
theorem lk_204 : xLq RX12 (3, 14, 12, 9, 165) := ⟨by decide, _, rfl, ⟨rfl, (RX12, TX12, 47), .int, rfl, by decide, xtb 1547 (by decide +kernel) rfl, rfl, (fun h => by cases h), by decide +kernel, rfl⟩⟩
theorem lk_205 : xLq RX12 (3, 1, 12, 9, 165) := ⟨by decide, _, rfl, ⟨rfl, (RX12, TX12, 47), rfl, by decide, xtb 1547 (by decide +kernel) rfl⟩⟩
theorem lk_206 : xLq RX12 (3, 14, 12, 3, 174) := ⟨by decide, _, rfl, ⟨rfl, (RX12, TX12, 47), .int, rfl, by decide, xtb 1541 (by decide +kernel) rfl, rfl, (fun h => by cases h), by decide +kernel, rfl⟩⟩
theorem lk_207 : xLq RX12 (3, 13, 126, 98, 105) := ⟨by decide, _, rfl, ⟨rfl, mX12_isIn, rfl, xtb 1740 (by decide +kernel) rfl, xtb 1741 (by decide +kernel) rfl⟩⟩
theorem lk_208 : xLq RX12 (3, 1, 12, 1, 13) := ⟨by decide, _, rfl, ⟨rfl, (RX12, TX12, 47), rfl, by decide, xtb 1539 (by decide +kernel) rfl⟩⟩
theorem lk_209 : xLq RX12 (3, 1, 12, 0, 7) := ⟨by decide, _, rfl, ⟨rfl, (RX12, TX12, 47), rfl, by decide, xtb 1538 (by decide +kernel) rfl⟩⟩
theorem lk_210 : xLq RX12 (3, 1, 12, 34, 72) := ⟨by decide, _, rfl, ⟨rfl, (RX12, TX12, 47), rfl, by decide, xtb 1572 (by decide +kernel) rfl⟩⟩
theorem lk_211 : xLq RX12 (3, 13, 122, 96, 235) := ⟨by decide, _, rfl, ⟨rfl, mX12_inOrder, rfl, xtb 1786 (by decide +kernel) rfl, xtb 1788 (by decide +kernel) rfl, xtb 70 (by decide +kernel) rfl, (RX12, TX12, 47), rfl, rfl⟩⟩
theorem lk_212 : xLq RX12 (3, 13, 94, 96, 238) := ⟨by decide, _, rfl, ⟨rfl, mX12_blocks, rfl, xtb 1790 (by decide +kernel) rfl, xtb 1792 (by decide +kernel) rfl, xtb 71 (by decide +kernel) rfl, (RX12, TX12, 47), rfl, rfl⟩⟩
theorem lk_213 : xLq RX12 (3, 13, 131, 96, 241) := ⟨by decide, _, rfl, ⟨rfl, mX12_isOf, rfl, xtb 1778 (by decide +kernel) rfl, xtb 1780 (by decide +kernel) rfl, xtb 68 (by decide +kernel) rfl, (RX12, TX12, 47), rfl, rfl⟩⟩
theorem lk_214 : xLq RX12 (3, 13, 133, 96, 247) := ⟨by decide, _, rfl, ⟨rfl, mX12_isRound, rfl, xtb 1811 (by decide +kernel) rfl, xtb 1813 (by decide +kernel) rfl, xtb 73 (by decide +kernel) rfl, (RX12, TX12, 47), rfl, rfl⟩⟩
theorem lk_215 : xLq RX12 (3, 13, 89, 96, 244) := ⟨by decide, _, rfl, ⟨rfl, mX12_asTold, rfl, xtb 1782 (by decide +kernel) rfl, xtb 1784 (by decide +kernel) rfl, xtb 69 (by decide +kernel) rfl, (RX12, TX12, 47), rfl, rfl⟩⟩
theorem lk_216 : xLq RX12 (3, 52, 1000, 0, 231) := ⟨by decide, _, rfl, ⟨rfl, xtb 1806 (by decide +kernel) rfl⟩⟩
theorem lk_217 : xLq RX12 (3, 1, 12, 21, 45) := ⟨by decide, _, rfl, ⟨rfl, (RX12, TX12, 47), rfl, by decide, xtb 1559 (by decide +kernel) rfl⟩⟩
theorem lk_218 : xLq RX12 (3, 59, 12, 2, 137) := ⟨by decide, _, rfl, ⟨rfl, (RX12, TX12, 47), .boolean, rfl, by decide, xtb 1540 (by decide +kernel) rfl, rfl, (fun h => by cases h), by decide +kernel, rfl⟩⟩
theorem lk_219 : xLq RX12 (3, 14, 12, 4, 109) := ⟨by decide, _, rfl, ⟨rfl, (RX12, TX12, 47), .int, rfl, by decide, xtb 1542 (by decide +kernel) rfl, rfl, (fun h => by cases h), by decide +kernel, rfl⟩⟩
theorem lk_220 : xLq RX12 (3, 59, 12, 10, 180) := ⟨by decide, _, rfl, ⟨rfl, (RX12, TX12, 47), .boolean, rfl, by decide, xtb 1548 (by decide +kernel) rfl, rfl, (fun h => by cases h), by decide +kernel, rfl⟩⟩
theorem lk_221 : xLq RX12 (3, 14, 12, 14, 212) := ⟨by decide, _, rfl, ⟨rfl, (RX12, TX12, 47), .int, rfl, by decide, xtb 1552 (by decide +kernel) rfl, rfl, (fun h => by cases h), by decide +kernel, rfl⟩⟩
theorem lk_222 : xLq RX12 (3, 1, 12, 18, 35) := ⟨by decide, _, rfl, ⟨rfl, (RX12, TX12, 47), rfl, by decide, xtb 1556 (by decide +kernel) rfl⟩⟩
theorem lk_223 : xLq RX12 (3, 1, 12, 17, 32) := ⟨by decide, _, rfl, ⟨rfl, (RX12, TX12, 47), rfl, by decide, xtb 1555 (by decide +kernel) rfl⟩⟩
theorem lk_224 : xLq RX12 (3, 1, 12, 19, 38) := ⟨by decide, _, rfl, ⟨rfl, (RX12, TX12, 47), rfl, by decide, xtb 1557 (by decide +kernel) rfl⟩⟩
theorem lk_225 : xLq RX12 (3, 1, 12, 4, 109) := ⟨by decide, _, rfl, ⟨rfl, (RX12, TX12, 47), rfl, by decide, xtb 1542 (by decide +kernel) rfl⟩⟩
theorem lk_226 : xLq RX12 (3, 13, 101, 96, 376) := ⟨by decide, _, rfl, ⟨rfl, mX12_cracksSeen, rfl, xtb 2053 (by decide +kernel) rfl, xtb 2055 (by decide +kernel) rfl, xtb 106 (by decide +kernel) rfl, (RX12, TX12, 47), rfl, rfl⟩⟩
theorem lk_227 : xLq RX12 (3, 13, 134, 96, 279) := ⟨by decide, _, rfl, ⟨rfl, mX12_isThere, rfl, xtb 1874 (by decide +kernel) rfl, xtb 1876 (by decide +kernel) rfl, xtb 79 (by decide +kernel) rfl, (RX12, TX12, 47), rfl, rfl⟩⟩
theorem lk_228 : xLq RX12 (3, 13, 103, 96, 317) := ⟨by decide, _, rfl, ⟨rfl, mX12_cuts, rfl, xtb 1930 (by decide +kernel) rfl, xtb 1932 (by decide +kernel) rfl, xtb 89 (by decide +kernel) rfl, (RX12, TX12, 47), rfl, rfl⟩⟩
theorem lk_229 : xLq RX12 (3, 13, 127, 96, 320) := ⟨by decide, _, rfl, ⟨rfl, mX12_isInCut, rfl, xtb 1934 (by decide +kernel) rfl, xtb 1936 (by decide +kernel) rfl, xtb 90 (by decide +kernel) rfl, (RX12, TX12, 47), rfl, rfl⟩⟩
theorem lk_230 : xLq RX12 (3, 13, 146, 96, 302) := ⟨by decide, _, rfl, ⟨rfl, mX12_looks, rfl, xtb 1894 (by decide +kernel) rfl, xtb 1896 (by decide +kernel) rfl, xtb 82 (by decide +kernel) rfl, (RX12, TX12, 47), rfl, rfl⟩⟩
theorem lk_231 : xLq RX12 (3, 13, 87, 96, 305) := ⟨by decide, _, rfl, ⟨rfl, mX12_allRows, rfl, xtb 1898 (by decide +kernel) rfl, xtb 1900 (by decide +kernel) rfl, xtb 83 (by decide +kernel) rfl, (RX12, TX12, 47), rfl, rfl⟩⟩
theorem lk_232 : xLq RX12 (3, 13, 116, 96, 308) := ⟨by decide, _, rfl, ⟨rfl, mX12_flows, rfl, xtb 1902 (by decide +kernel) rfl, xtb 1904 (by decide +kernel) rfl, xtb 84 (by decide +kernel) rfl, (RX12, TX12, 47), rfl, rfl⟩⟩
theorem lk_233 : xLq RX12 (3, 13, 170, 96, 296) := ⟨by decide, _, rfl, ⟨rfl, mX12_spreads, rfl, xtb 1906 (by decide +kernel) rfl, xtb 1908 (by decide +kernel) rfl, xtb 85 (by decide +kernel) rfl, (RX12, TX12, 47), rfl, rfl⟩⟩
theorem lk_234 : xLq RX12 (3, 13, 132, 96, 323) := ⟨by decide, _, rfl, ⟨rfl, mX12_isPoint, rfl, xtb 1954 (by decide +kernel) rfl, xtb 1956 (by decide +kernel) rfl, xtb 92 (by decide +kernel) rfl, (RX12, TX12, 47), rfl, rfl⟩⟩
theorem lk_235 : xLq RX12 (3, 13, 105, 96, 335) := ⟨by decide, _, rfl, ⟨rfl, mX12_damps, rfl, xtb 1978 (by decide +kernel) rfl, xtb 1980 (by decide +kernel) rfl, xtb 95 (by decide +kernel) rfl, (RX12, TX12, 47), rfl, rfl⟩⟩
theorem lk_236 : xLq RX12 (3, 1, 12, 35, 75) := ⟨by decide, _, rfl, ⟨rfl, (RX12, TX12, 47), rfl, by decide, xtb 1573 (by decide +kernel) rfl⟩⟩
theorem lk_237 : xLq RX12 (3, 1, 12, 36, 78) := ⟨by decide, _, rfl, ⟨rfl, (RX12, TX12, 47), rfl, by decide, xtb 1574 (by decide +kernel) rfl⟩⟩
theorem lk_238 : xLq RX12 (3, 13, 107, 96, 338) := ⟨by decide, _, rfl, ⟨rfl, mX12_darkens, rfl, xtb 1990 (by decide +kernel) rfl, xtb 1992 (by decide +kernel) rfl, xtb 97 (by decide +kernel) rfl, (RX12, TX12, 47), rfl, rfl⟩⟩
theorem lk_239 : xLq RX12 (3, 13, 124, 96, 341) := ⟨by decide, _, rfl, ⟨rfl, mX12_isDark, rfl, xtb 1994 (by decide +kernel) rfl, xtb 1996 (by decide +kernel) rfl, xtb 98 (by decide +kernel) rfl, (RX12, TX12, 47), rfl, rfl⟩⟩
theorem lk_240 : xLq RX12 (3, 13, 86, 96, 326) := ⟨by decide, _, rfl, ⟨rfl, mX12_ages, rfl, xtb 1958 (by decide +kernel) rfl, xtb 1960 (by decide +kernel) rfl, xtb 93 (by decide +kernel) rfl, (RX12, TX12, 47), rfl, rfl⟩⟩
theorem lk_241 : xLq RX12 (3, 13, 113, 96, 311) := ⟨by decide, _, rfl, ⟨rfl, mX12_fedRows, rfl, xtb 1922 (by decide +kernel) rfl, xtb 1924 (by decide +kernel) rfl, xtb 88 (by decide +kernel) rfl, (RX12, TX12, 47), rfl, rfl⟩⟩
theorem lk_242 : xLq RX12 (3, 13, 93, 96, 215) := ⟨by decide, _, rfl, ⟨rfl, mX12_begins, rfl, xtb 1692 (by decide +kernel) rfl, xtb 1694 (by decide +kernel) rfl, xtb 57 (by decide +kernel) rfl, (RX12, TX12, 47), rfl, rfl⟩⟩
theorem lk_243 : xLq RX12 (3, 1, 12, 11, 17) := ⟨by decide, _, rfl, ⟨rfl, (RX12, TX12, 47), rfl, by decide, xtb 1549 (by decide +kernel) rfl⟩⟩
theorem lk_244 : xLq RX12 (3, 1, 12, 12, 20) := ⟨by decide, _, rfl, ⟨rfl, (RX12, TX12, 47), rfl, by decide, xtb 1550 (by decide +kernel) rfl⟩⟩
theorem lk_245 : xLq RX12 (3, 13, 84, 96, 190) := ⟨by decide, _, rfl, ⟨rfl, mX12_advance, rfl, xtb 1696 (by decide +kernel) rfl, xtb 1698 (by decide +kernel) rfl, xtb 58 (by decide +kernel) rfl, (RX12, TX12, 47), rfl, rfl⟩⟩
theorem lk_246 : xLq RX12 (3, 1, 12, 10, 180) := ⟨by decide, _, rfl, ⟨rfl, (RX12, TX12, 47), rfl, by decide, xtb 1548 (by decide +kernel) rfl⟩⟩
theorem lk_247 : xLq RX12 (3, 1, 12, 7, 151) := ⟨by decide, _, rfl, ⟨rfl, (RX12, TX12, 47), rfl, by decide, xtb 1545 (by decide +kernel) rfl⟩⟩
theorem lk_248 : xLq RX12 (3, 1, 12, 13, 23) := ⟨by decide, _, rfl, ⟨rfl, (RX12, TX12, 47), rfl, by decide, xtb 1551 (by decide +kernel) rfl⟩⟩
theorem lk_249 : xLq RX12 (3, 1, 12, 14, 212) := ⟨by decide, _, rfl, ⟨rfl, (RX12, TX12, 47), rfl, by decide, xtb 1552 (by decide +kernel) rfl⟩⟩
theorem lk_250 : xLq RX12 (3, 1, 12, 25, 48) := ⟨by decide, _, rfl, ⟨rfl, (RX12, TX12, 47), rfl, by decide, xtb 1563 (by decide +kernel) rfl⟩⟩
theorem lk_251 : xLq RX12 (3, 1, 12, 26, 51) := ⟨by decide, _, rfl, ⟨rfl, (RX12, TX12, 47), rfl, by decide, xtb 1564 (by decide +kernel) rfl⟩⟩
theorem lk_252 : xLq RX12 (3, 1, 12, 27, 54) := ⟨by decide, _, rfl, ⟨rfl, (RX12, TX12, 47), rfl, by decide, xtb 1565 (by decide +kernel) rfl⟩⟩
theorem lk_253 : xLq RX12 (3, 1, 12, 28, 57) := ⟨by decide, _, rfl, ⟨rfl, (RX12, TX12, 47), rfl, by decide, xtb 1566 (by decide +kernel) rfl⟩⟩
theorem lk_254 : xLq RX12 (3, 1, 12, 32, 69) := ⟨by decide, _, rfl, ⟨rfl, (RX12, TX12, 47), rfl, by decide, xtb 1570 (by decide +kernel) rfl⟩⟩
theorem lk_255 : xLq RX12 (3, 13, 117, 96, 299) := ⟨by decide, _, rfl, ⟨rfl, mX12_goesBack, rfl, xtb 1914 (by decide +kernel) rfl, xtb 1916 (by decide +kernel) rfl, xtb 87 (by decide +kernel) rfl, (RX12, TX12, 47), rfl, rfl⟩⟩
theorem lk_256 : xLq RX12 (3, 1, 12, 15, 26) := ⟨by decide, _, rfl, ⟨rfl, (RX12, TX12, 47), rfl, by decide, xtb 1553 (by decide +kernel) rfl⟩⟩
theorem lk_257 : xLq RX12 (3, 25, 0, 0, 1) := ⟨by decide, _, rfl, ⟨rfl, xtb 1537 (by decide +kernel) rfl⟩⟩
theorem lk_258 : xLq RX12 (3, 61, 12, 0, 7) := ⟨by decide, _, rfl, ⟨rfl, (RX12, TX12, 47), .array .int, rfl, by decide, xtb 1538 (by decide +kernel) rfl, rfl, (fun _ => rfl), by decide +kernel, Or.inr ⟨_, rfl⟩⟩⟩
theorem lk_259 : xLq RX12 (3, 61, 12, 1, 13) := ⟨by decide, _, rfl, ⟨rfl, (RX12, TX12, 47), .array .boolean, rfl, by decide, xtb 1539 (by decide +kernel) rfl, rfl, (fun _ => rfl), by decide +kernel, Or.inr ⟨_, rfl⟩⟩⟩
theorem lk_260 : xLq RX12 (3, 61, 12, 11, 17) := ⟨by decide, _, rfl, ⟨rfl, (RX12, TX12, 47), .array .int, rfl, by decide, xtb 1549 (by decide +kernel) rfl, rfl, (fun _ => rfl), by decide +kernel, Or.inr ⟨_, rfl⟩⟩⟩
theorem lk_261 : xLq RX12 (3, 61, 12, 12, 20) := ⟨by decide, _, rfl, ⟨rfl, (RX12, TX12, 47), .array .int, rfl, by decide, xtb 1550 (by decide +kernel) rfl, rfl, (fun _ => rfl), by decide +kernel, Or.inr ⟨_, rfl⟩⟩⟩
theorem lk_262 : xLq RX12 (3, 61, 12, 13, 23) := ⟨by decide, _, rfl, ⟨rfl, (RX12, TX12, 47), .array .int, rfl, by decide, xtb 1551 (by decide +kernel) rfl, rfl, (fun _ => rfl), by decide +kernel, Or.inr ⟨_, rfl⟩⟩⟩
theorem lk_263 : xLq RX12 (3, 61, 12, 15, 26) := ⟨by decide, _, rfl, ⟨rfl, (RX12, TX12, 47), .array .int, rfl, by decide, xtb 1553 (by decide +kernel) rfl, rfl, (fun _ => rfl), by decide +kernel, Or.inr ⟨_, rfl⟩⟩⟩
theorem lk_264 : xLq RX12 (3, 61, 12, 16, 29) := ⟨by decide, _, rfl, ⟨rfl, (RX12, TX12, 47), .array .int, rfl, by decide, xtb 1554 (by decide +kernel) rfl, rfl, (fun _ => rfl), by decide +kernel, Or.inr ⟨_, rfl⟩⟩⟩
theorem lk_265 : xLq RX12 (3, 61, 12, 17, 32) := ⟨by decide, _, rfl, ⟨rfl, (RX12, TX12, 47), .array .int, rfl, by decide, xtb 1555 (by decide +kernel) rfl, rfl, (fun _ => rfl), by decide +kernel, Or.inr ⟨_, rfl⟩⟩⟩
theorem lk_266 : xLq RX12 (3, 61, 12, 18, 35) := ⟨by decide, _, rfl, ⟨rfl, (RX12, TX12, 47), .array .int, rfl, by decide, xtb 1556 (by decide +kernel) rfl, rfl, (fun _ => rfl), by decide +kernel, Or.inr ⟨_, rfl⟩⟩⟩
theorem lk_267 : xLq RX12 (3, 61, 12, 19, 38) := ⟨by decide, _, rfl, ⟨rfl, (RX12, TX12, 47), .array .long, rfl, by decide, xtb 1557 (by decide +kernel) rfl, rfl, (fun _ => rfl), by decide +kernel, Or.inr ⟨_, rfl⟩⟩⟩
theorem lk_268 : xLq RX12 (3, 61, 12, 20, 42) := ⟨by decide, _, rfl, ⟨rfl, (RX12, TX12, 47), .array .long, rfl, by decide, xtb 1558 (by decide +kernel) rfl, rfl, (fun _ => rfl), by decide +kernel, Or.inr ⟨_, rfl⟩⟩⟩
theorem lk_269 : xLq RX12 (3, 61, 12, 21, 45) := ⟨by decide, _, rfl, ⟨rfl, (RX12, TX12, 47), .array .long, rfl, by decide, xtb 1559 (by decide +kernel) rfl, rfl, (fun _ => rfl), by decide +kernel, Or.inr ⟨_, rfl⟩⟩⟩
theorem lk_270 : xLq RX12 (3, 61, 12, 25, 48) := ⟨by decide, _, rfl, ⟨rfl, (RX12, TX12, 47), .array .int, rfl, by decide, xtb 1563 (by decide +kernel) rfl, rfl, (fun _ => rfl), by decide +kernel, Or.inr ⟨_, rfl⟩⟩⟩
theorem lk_271 : xLq RX12 (3, 61, 12, 26, 51) := ⟨by decide, _, rfl, ⟨rfl, (RX12, TX12, 47), .array .int, rfl, by decide, xtb 1564 (by decide +kernel) rfl, rfl, (fun _ => rfl), by decide +kernel, Or.inr ⟨_, rfl⟩⟩⟩
theorem lk_272 : xLq RX12 (3, 61, 12, 27, 54) := ⟨by decide, _, rfl, ⟨rfl, (RX12, TX12, 47), .array .int, rfl, by decide, xtb 1565 (by decide +kernel) rfl, rfl, (fun _ => rfl), by decide +kernel, Or.inr ⟨_, rfl⟩⟩⟩
theorem lk_273 : xLq RX12 (3, 61, 12, 28, 57) := ⟨by decide, _, rfl, ⟨rfl, (RX12, TX12, 47), .array .int, rfl, by decide, xtb 1566 (by decide +kernel) rfl, rfl, (fun _ => rfl), by decide +kernel, Or.inr ⟨_, rfl⟩⟩⟩
theorem lk_274 : xLq RX12 (3, 61, 12, 29, 60) := ⟨by decide, _, rfl, ⟨rfl, (RX12, TX12, 47), .array .boolean, rfl, by decide, xtb 1567 (by decide +kernel) rfl, rfl, (fun _ => rfl), by decide +kernel, Or.inr ⟨_, rfl⟩⟩⟩
theorem lk_275 : xLq RX12 (3, 61, 12, 30, 63) := ⟨by decide, _, rfl, ⟨rfl, (RX12, TX12, 47), .array .boolean, rfl, by decide, xtb 1568 (by decide +kernel) rfl, rfl, (fun _ => rfl), by decide +kernel, Or.inr ⟨_, rfl⟩⟩⟩
theorem lk_276 : xLq RX12 (3, 61, 12, 31, 66) := ⟨by decide, _, rfl, ⟨rfl, (RX12, TX12, 47), .array .int, rfl, by decide, xtb 1569 (by decide +kernel) rfl, rfl, (fun _ => rfl), by decide +kernel, Or.inr ⟨_, rfl⟩⟩⟩
theorem lk_277 : xLq RX12 (3, 61, 12, 32, 69) := ⟨by decide, _, rfl, ⟨rfl, (RX12, TX12, 47), .array .int, rfl, by decide, xtb 1570 (by decide +kernel) rfl, rfl, (fun _ => rfl), by decide +kernel, Or.inr ⟨_, rfl⟩⟩⟩
theorem lk_278 : xLq RX12 (3, 61, 12, 34, 72) := ⟨by decide, _, rfl, ⟨rfl, (RX12, TX12, 47), .array .int, rfl, by decide, xtb 1572 (by decide +kernel) rfl, rfl, (fun _ => rfl), by decide +kernel, Or.inr ⟨_, rfl⟩⟩⟩
theorem lk_279 : xLq RX12 (3, 61, 12, 35, 75) := ⟨by decide, _, rfl, ⟨rfl, (RX12, TX12, 47), .array .int, rfl, by decide, xtb 1573 (by decide +kernel) rfl, rfl, (fun _ => rfl), by decide +kernel, Or.inr ⟨_, rfl⟩⟩⟩
theorem lk_280 : xLq RX12 (3, 61, 12, 36, 78) := ⟨by decide, _, rfl, ⟨rfl, (RX12, TX12, 47), .array .int, rfl, by decide, xtb 1574 (by decide +kernel) rfl, rfl, (fun _ => rfl), by decide +kernel, Or.inr ⟨_, rfl⟩⟩⟩
theorem lk_281 : xLq RX12 (3, 61, 12, 37, 81) := ⟨by decide, _, rfl, ⟨rfl, (RX12, TX12, 47), .array .int, rfl, by decide, xtb 1575 (by decide +kernel) rfl, rfl, (fun _ => rfl), by decide +kernel, Or.inr ⟨_, rfl⟩⟩⟩
theorem lk_282 : xLq RX12 (3, 61, 12, 38, 84) := ⟨by decide, _, rfl, ⟨rfl, (RX12, TX12, 47), .array .boolean, rfl, by decide, xtb 1576 (by decide +kernel) rfl, rfl, (fun _ => rfl), by decide +kernel, Or.inr ⟨_, rfl⟩⟩⟩
theorem lk_283 : xLq RX12 (3, 61, 12, 39, 87) := ⟨by decide, _, rfl, ⟨rfl, (RX12, TX12, 47), .array .int, rfl, by decide, xtb 1577 (by decide +kernel) rfl, rfl, (fun _ => rfl), by decide +kernel, Or.inr ⟨_, rfl⟩⟩⟩
theorem lk_284 : xLq RX12 (3, 61, 12, 40, 90) := ⟨by decide, _, rfl, ⟨rfl, (RX12, TX12, 47), .array .int, rfl, by decide, xtb 1578 (by decide +kernel) rfl, rfl, (fun _ => rfl), by decide +kernel, Or.inr ⟨_, rfl⟩⟩⟩
theorem lk_285 : xLq RX12 (3, 61, 12, 43, 93) := ⟨by decide, _, rfl, ⟨rfl, (RX12, TX12, 47), .array .int, rfl, by decide, xtb 1581 (by decide +kernel) rfl, rfl, (fun _ => rfl), by decide +kernel, Or.inr ⟨_, rfl⟩⟩⟩
theorem lk_286 : xLq RX12 (3, 61, 12, 44, 96) := ⟨by decide, _, rfl, ⟨rfl, (RX12, TX12, 47), .array .int, rfl, by decide, xtb 1582 (by decide +kernel) rfl, rfl, (fun _ => rfl), by decide +kernel, Or.inr ⟨_, rfl⟩⟩⟩
theorem lk_287 : xLq RX12 (3, 61, 12, 45, 99) := ⟨by decide, _, rfl, ⟨rfl, (RX12, TX12, 47), .array .int, rfl, by decide, xtb 1583 (by decide +kernel) rfl, rfl, (fun _ => rfl), by decide +kernel, Or.inr ⟨_, rfl⟩⟩⟩
theorem lk_288 : xLq RX12 (3, 61, 12, 46, 102) := ⟨by decide, _, rfl, ⟨rfl, (RX12, TX12, 47), .array .int, rfl, by decide, xtb 1584 (by decide +kernel) rfl, rfl, (fun _ => rfl), by decide +kernel, Or.inr ⟨_, rfl⟩⟩⟩
theorem lk_289 : xLq RX12 (3, 13, 145, 96, 329) := ⟨by decide, _, rfl, ⟨rfl, mX12_leftOf, rfl, xtb 1962 (by decide +kernel) rfl, xtb 1964 (by decide +kernel) rfl, xtb 94 (by decide +kernel) rfl, (RX12, TX12, 47), rfl, rfl⟩⟩
theorem lk_290 : xLq RX12 (3, 14, 12, 24, 276) := ⟨by decide, _, rfl, ⟨rfl, (RX12, TX12, 47), .int, rfl, by decide, xtb 1562 (by decide +kernel) rfl, rfl, (fun h => by cases h), by decide +kernel, rfl⟩⟩
theorem lk_291 : xLq RX12 (3, 1, 12, 29, 60) := ⟨by decide, _, rfl, ⟨rfl, (RX12, TX12, 47), rfl, by decide, xtb 1567 (by decide +kernel) rfl⟩⟩
theorem lk_292 : xLq RX12 (3, 13, 128, 96, 314) := ⟨by decide, _, rfl, ⟨rfl, mX12_isJoined, rfl, xtb 1938 (by decide +kernel) rfl, xtb 1940 (by decide +kernel) rfl, xtb 91 (by decide +kernel) rfl, (RX12, TX12, 47), rfl, rfl⟩⟩
theorem lk_293 : xLq RX12 (3, 1, 12, 30, 63) := ⟨by decide, _, rfl, ⟨rfl, (RX12, TX12, 47), rfl, by decide, xtb 1568 (by decide +kernel) rfl⟩⟩
theorem lk_294 : xLq RX12 (3, 1, 12, 44, 96) := ⟨by decide, _, rfl, ⟨rfl, (RX12, TX12, 47), rfl, by decide, xtb 1582 (by decide +kernel) rfl⟩⟩
theorem lk_295 : xLq RX12 (3, 13, 88, 96, 400) := ⟨by decide, _, rfl, ⟨rfl, mX12_allTests, rfl, xtb 2125 (by decide +kernel) rfl, xtb 2127 (by decide +kernel) rfl, xtb 114 (by decide +kernel) rfl, (RX12, TX12, 47), rfl, rfl⟩⟩
theorem lk_296 : xLq RX12 (3, 13, 139, 98, 397) := ⟨by decide, _, rfl, ⟨rfl, mX12_lawAt, rfl, xtb 2118 (by decide +kernel) rfl, xtb 2119 (by decide +kernel) rfl⟩⟩
theorem lk_297 : xLq RX12 (3, 13, 147, 96, 409) := ⟨by decide, _, rfl, ⟨rfl, mX12_manyKept, rfl, xtb 2110 (by decide +kernel) rfl, xtb 2112 (by decide +kernel) rfl, xtb 111 (by decide +kernel) rfl, (RX12, TX12, 47), rfl, rfl⟩⟩
theorem lk_298 : xLq RX12 (3, 13, 135, 96, 403) := ⟨by decide, _, rfl, ⟨rfl, mX12_keeps, rfl, xtb 2114 (by decide +kernel) rfl, xtb 2116 (by decide +kernel) rfl, xtb 112 (by decide +kernel) rfl, (RX12, TX12, 47), rfl, rfl⟩⟩
theorem lk_299 : xLq RX12 (3, 13, 129, 96, 406) := ⟨by decide, _, rfl, ⟨rfl, mX12_isLaw, rfl, xtb 2121 (by decide +kernel) rfl, xtb 2123 (by decide +kernel) rfl, xtb 113 (by decide +kernel) rfl, (RX12, TX12, 47), rfl, rfl⟩⟩
theorem lk_300 : xLq RX12 (3, 1, 12, 39, 87) := ⟨by decide, _, rfl, ⟨rfl, (RX12, TX12, 47), rfl, by decide, xtb 1577 (by decide +kernel) rfl⟩⟩
theorem lk_301 : xLq RX12 (3, 1, 12, 42, 361) := ⟨by decide, _, rfl, ⟨rfl, (RX12, TX12, 47), rfl, by decide, xtb 1580 (by decide +kernel) rfl⟩⟩
theorem lk_302 : xLq RX12 (3, 13, 90, 98, 344) := ⟨by decide, _, rfl, ⟨rfl, mX12_at, rfl, xtb 2010 (by decide +kernel) rfl, xtb 2011 (by decide +kernel) rfl⟩⟩
theorem lk_303 : xLq RX12 (3, 14, 12, 42, 361) := ⟨by decide, _, rfl, ⟨rfl, (RX12, TX12, 47), .int, rfl, by decide, xtb 1580 (by decide +kernel) rfl, rfl, (fun h => by cases h), by decide +kernel, rfl⟩⟩
theorem lk_304 : xLq RX12 (3, 13, 130, 96, 287) := ⟨by decide, _, rfl, ⟨rfl, mX12_isLed, rfl, xtb 1886 (by decide +kernel) rfl, xtb 1888 (by decide +kernel) rfl, xtb 81 (by decide +kernel) rfl, (RX12, TX12, 47), rfl, rfl⟩⟩
theorem lk_305 : xLq RX12 (3, 1, 12, 31, 66) := ⟨by decide, _, rfl, ⟨rfl, (RX12, TX12, 47), rfl, by decide, xtb 1569 (by decide +kernel) rfl⟩⟩
theorem lk_306 : xLq RX12 (3, 1, 12, 33, 290) := ⟨by decide, _, rfl, ⟨rfl, (RX12, TX12, 47), rfl, by decide, xtb 1571 (by decide +kernel) rfl⟩⟩
theorem lk_307 : xLq RX12 (3, 14, 12, 33, 290) := ⟨by decide, _, rfl, ⟨rfl, (RX12, TX12, 47), .int, rfl, by decide, xtb 1571 (by decide +kernel) rfl, rfl, (fun h => by cases h), by decide +kernel, rfl⟩⟩
theorem lk_308 : xLq RX12 (3, 13, 153, 98, 379) := ⟨by decide, _, rfl, ⟨rfl, mX12_ones, rfl, xtb 2057 (by decide +kernel) rfl, xtb 2058 (by decide +kernel) rfl⟩⟩
theorem lk_309 : xLq RX12 (3, 13, 125, 96, 382) := ⟨by decide, _, rfl, ⟨rfl, mX12_isFedBy, rfl, xtb 2060 (by decide +kernel) rfl, xtb 2062 (by decide +kernel) rfl, xtb 107 (by decide +kernel) rfl, (RX12, TX12, 47), rfl, rfl⟩⟩
theorem lk_310 : xLq RX12 (3, 1, 12, 16, 29) := ⟨by decide, _, rfl, ⟨rfl, (RX12, TX12, 47), rfl, by decide, xtb 1554 (by decide +kernel) rfl⟩⟩
theorem lk_311 : xLq RX12 (3, 13, 160, 96, 373) := ⟨by decide, _, rfl, ⟨rfl, mX12_plans, rfl, xtb 2029 (by decide +kernel) rfl, xtb 2031 (by decide +kernel) rfl, xtb 103 (by decide +kernel) rfl, (RX12, TX12, 47), rfl, rfl⟩⟩
theorem lk_312 : xLq RX12 (3, 1, 12, 41, 364) := ⟨by decide, _, rfl, ⟨rfl, (RX12, TX12, 47), rfl, by decide, xtb 1579 (by decide +kernel) rfl⟩⟩
theorem lk_313 : xLq RX12 (3, 1, 12, 40, 90) := ⟨by decide, _, rfl, ⟨rfl, (RX12, TX12, 47), rfl, by decide, xtb 1578 (by decide +kernel) rfl⟩⟩
theorem lk_314 : xLq RX12 (3, 1, 12, 38, 84) := ⟨by decide, _, rfl, ⟨rfl, (RX12, TX12, 47), rfl, by decide, xtb 1576 (by decide +kernel) rfl⟩⟩
theorem lk_315 : xLq RX12 (3, 13, 156, 96, 348) := ⟨by decide, _, rfl, ⟨rfl, mX12_panelOf, rfl, xtb 2021 (by decide +kernel) rfl, xtb 2023 (by decide +kernel) rfl, xtb 102 (by decide +kernel) rfl, (RX12, TX12, 47), rfl, rfl⟩⟩
theorem lk_316 : xLq RX12 (3, 1, 12, 37, 81) := ⟨by decide, _, rfl, ⟨rfl, (RX12, TX12, 47), rfl, by decide, xtb 1575 (by decide +kernel) rfl⟩⟩
theorem lk_317 : xLq RX12 (3, 13, 176, 96, 358) := ⟨by decide, _, rfl, ⟨rfl, mX12_values, rfl, xtb 2006 (by decide +kernel) rfl, xtb 2008 (by decide +kernel) rfl, xtb 99 (by decide +kernel) rfl, (RX12, TX12, 47), rfl, rfl⟩⟩
theorem lk_318 : xLq RX12 (3, 14, 12, 41, 364) := ⟨by decide, _, rfl, ⟨rfl, (RX12, TX12, 47), .int, rfl, by decide, xtb 1579 (by decide +kernel) rfl, rfl, (fun h => by cases h), by decide +kernel, rfl⟩⟩
theorem lk_319 : xLq RX12 (3, 13, 141, 96, 367) := ⟨by decide, _, rfl, ⟨rfl, mX12_lays, rfl, xtb 2033 (by decide +kernel) rfl, xtb 2035 (by decide +kernel) rfl, xtb 104 (by decide +kernel) rfl, (RX12, TX12, 47), rfl, rfl⟩⟩
theorem lk_320 : xLq RX12 (3, 13, 161, 96, 370) := ⟨by decide, _, rfl, ⟨rfl, mX12_plansOne, rfl, xtb 2037 (by decide +kernel) rfl, xtb 2039 (by decide +kernel) rfl, xtb 105 (by decide +kernel) rfl, (RX12, TX12, 47), rfl, rfl⟩⟩
theorem lk_321 : xLq RX12 (3, 13, 167, 96, 390) := ⟨by decide, _, rfl, ⟨rfl, mX12_shareOf, rfl, xtb 2081 (by decide +kernel) rfl, xtb 2083 (by decide +kernel) rfl, xtb 109 (by decide +kernel) rfl, (RX12, TX12, 47), rfl, rfl⟩⟩
theorem lk_322 : xLq RX12 (3, 1, 12, 45, 99) := ⟨by decide, _, rfl, ⟨rfl, (RX12, TX12, 47), rfl, by decide, xtb 1583 (by decide +kernel) rfl⟩⟩
theorem lk_323 : xLq RX12 (3, 13, 148, 96, 293) := ⟨by decide, _, rfl, ⟨rfl, mX12_meets, rfl, xtb 1910 (by decide +kernel) rfl, xtb 1912 (by decide +kernel) rfl, xtb 86 (by decide +kernel) rfl, (RX12, TX12, 47), rfl, rfl⟩⟩
theorem lk_324 : xLq RX12 (2, 35, 2294967296, 0, 250) := ⟨by decide, _, rfl, ⟨rfl, by decide, xtb 1815 (by decide +kernel) rfl⟩⟩
theorem lk_325 : xLq RX12 (3, 52, 1000000, 0, 251) := ⟨by decide, _, rfl, ⟨rfl, xtb 1816 (by decide +kernel) rfl⟩⟩
theorem lk_326 : xLq RX12 (3, 36, 999999, 0, 396) := ⟨by decide, _, rfl, ⟨rfl, by decide, xtb 2105 (by decide +kernel) rfl⟩⟩
theorem lk_327 : xLq RX12 (3, 13, 119, 96, 351) := ⟨by decide, _, rfl, ⟨rfl, mX12_hasFlaw, rfl, xtb 2013 (by decide +kernel) rfl, xtb 2015 (by decide +kernel) rfl, xtb 100 (by decide +kernel) rfl, (RX12, TX12, 47), rfl, rfl⟩⟩
