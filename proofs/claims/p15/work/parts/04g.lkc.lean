theorem lk_669 : xLq RX6 (3, 13, 326, 72, 66) := ⟨by decide, _, rfl, ⟨rfl, mX9_take, rfl, xtb 1479 (by decide +kernel) rfl, xtb 835 (by decide +kernel) rfl, xtb 836 (by decide +kernel) rfl, (RX9, TX9, 14), rfl, rfl⟩⟩
theorem lk_670 : xLq RX6 (3, 1, 6, 5, 69) := ⟨by decide, _, rfl, ⟨rfl, (RX6, TX6, 6), rfl, by decide, xtb 414 (by decide +kernel) rfl⟩⟩
theorem lk_671 : xLq RX6 (3, 1, 9, 12, 72) := ⟨by decide, _, rfl, ⟨rfl, (RX9, TX9, 14), rfl, by decide, xtb 291 (by decide +kernel) rfl⟩⟩
theorem lk_672 : xLq RX6 (3, 13, 284, 40, 75) := ⟨by decide, _, rfl, ⟨rfl, mX5_copy, rfl, xtb 1480 (by decide +kernel) rfl, xtb 847 (by decide +kernel) rfl, xtb 848 (by decide +kernel) rfl, (RX5, TX5, 4), rfl, rfl⟩⟩
theorem lk_673 : xLq RX6 (3, 1, 9, 13, 79) := ⟨by decide, _, rfl, ⟨rfl, (RX9, TX9, 14), rfl, by decide, xtb 294 (by decide +kernel) rfl⟩⟩
theorem lk_674 : xLq RX6 (3, 1, 5, 3, 82) := ⟨by decide, _, rfl, ⟨rfl, (RX5, TX5, 4), rfl, by decide, xtb 177 (by decide +kernel) rfl⟩⟩
theorem lk_675 : xLq RX6 (2, 72, 21, 0, 133) := ⟨by decide, _, rfl, ⟨rfl, "not", rfl, List.mem_of_getElem? (i := 1453) (by decide +kernel)⟩⟩
theorem lk_676 : xLq RX6 (3, 13, 292, 48, 135) := ⟨by decide, _, rfl, ⟨rfl, mX6_measureOfWord, rfl, xtb 1454 (by decide +kernel) rfl, xtb 1456 (by decide +kernel) rfl, xtb 51 (by decide +kernel) rfl, (RX6, TX6, 6), rfl, rfl⟩⟩
theorem lk_677 : xLq RX6 (3, 13, 296, 48, 128) := ⟨by decide, _, rfl, ⟨rfl, mX6_readTest, rfl, xtb 1449 (by decide +kernel) rfl, xtb 1451 (by decide +kernel) rfl, xtb 50 (by decide +kernel) rfl, (RX6, TX6, 6), rfl, rfl⟩⟩
theorem lk_678 : xLq RX6 (2, 72, 22, 0, 131) := ⟨by decide, _, rfl, ⟨rfl, "and", rfl, List.mem_of_getElem? (i := 1471) (by decide +kernel)⟩⟩
theorem lk_679 : xLq RX6 (2, 72, 23, 0, 122) := ⟨by decide, _, rfl, ⟨rfl, "bar", rfl, List.mem_of_getElem? (i := 1476) (by decide +kernel)⟩⟩
theorem lk_680 : xLq RX6 (2, 72, 24, 0, 124) := ⟨by decide, _, rfl, ⟨rfl, "price", rfl, List.mem_of_getElem? (i := 1477) (by decide +kernel)⟩⟩
theorem lk_681 : xLq RX6 (2, 72, 25, 0, 126) := ⟨by decide, _, rfl, ⟨rfl, "less", rfl, List.mem_of_getElem? (i := 1478) (by decide +kernel)⟩⟩
theorem lk_682 : xLq RX7 (3, 1, 7, 0, 22) := ⟨by decide, _, rfl, ⟨rfl, (RX7, TX7, 5), rfl, by decide, xtb 556 (by decide +kernel) rfl⟩⟩
theorem lk_683 : xLq RX7 (3, 1, 1, 5, 33) := ⟨by decide, _, rfl, ⟨rfl, (RX1, TX1, 10), rfl, by decide, xtb 212 (by decide +kernel) rfl⟩⟩
theorem lk_684 : xLq RX7 (3, 1, 1, 6, 39) := ⟨by decide, _, rfl, ⟨rfl, (RX1, TX1, 10), rfl, by decide, xtb 216 (by decide +kernel) rfl⟩⟩
theorem lk_685 : xLq RX7 (3, 13, 301, 56, 50) := ⟨by decide, _, rfl, ⟨rfl, mX7_hasFlaw, rfl, xtb 1266 (by decide +kernel) rfl, xtb 1268 (by decide +kernel) rfl, xtb 39 (by decide +kernel) rfl, (RX7, TX7, 5), rfl, rfl⟩⟩
theorem lk_686 : xLq RX7 (3, 1, 7, 1, 9) := ⟨by decide, _, rfl, ⟨rfl, (RX7, TX7, 5), rfl, by decide, xtb 557 (by decide +kernel) rfl⟩⟩
theorem lk_687 : xLq RX7 (3, 13, 304, 58, 54) := ⟨by decide, _, rfl, ⟨rfl, mX7_pieceOf, rfl, xtb 1270 (by decide +kernel) rfl, xtb 1271 (by decide +kernel) rfl⟩⟩
theorem lk_688 : xLq RX7 (3, 13, 309, 56, 58) := ⟨by decide, _, rfl, ⟨rfl, mX7_worthCut, rfl, xtb 1275 (by decide +kernel) rfl, xtb 1277 (by decide +kernel) rfl, xtb 40 (by decide +kernel) rfl, (RX7, TX7, 5), rfl, rfl⟩⟩
theorem lk_689 : xLq RX7 (3, 62, 0, 0, 61) := ⟨by decide, _, rfl, ⟨rfl, xtb 1261 (by decide +kernel) rfl⟩⟩
theorem lk_690 : xLq RX7 (3, 59, 7, 3, 26) := ⟨by decide, _, rfl, ⟨rfl, (RX7, TX7, 5), .boolean, rfl, by decide, xtb 560 (by decide +kernel) rfl, rfl, (fun h => by cases h), by decide +kernel, rfl⟩⟩
theorem lk_691 : xLq RX7 (3, 59, 7, 4, 30) := ⟨by decide, _, rfl, ⟨rfl, (RX7, TX7, 5), .boolean, rfl, by decide, xtb 561 (by decide +kernel) rfl, rfl, (fun h => by cases h), by decide +kernel, rfl⟩⟩
theorem lk_692 : xLq RX7 (3, 1, 1, 4, 82) := ⟨by decide, _, rfl, ⟨rfl, (RX1, TX1, 10), rfl, by decide, xtb 209 (by decide +kernel) rfl⟩⟩
theorem lk_693 : xLq RX7 (3, 1, 5, 3, 72) := ⟨by decide, _, rfl, ⟨rfl, (RX5, TX5, 4), rfl, by decide, xtb 184 (by decide +kernel) rfl⟩⟩
theorem lk_694 : xLq RX7 (3, 13, 285, 40, 79) := ⟨by decide, _, rfl, ⟨rfl, mX5_get, rfl, xtb 1260 (by decide +kernel) rfl, xtb 807 (by decide +kernel) rfl, xtb 808 (by decide +kernel) rfl, (RX5, TX5, 4), rfl, rfl⟩⟩
theorem lk_695 : xLq RX7 (3, 25, 0, 0, 1) := ⟨by decide, _, rfl, ⟨rfl, xtb 553 (by decide +kernel) rfl⟩⟩
theorem lk_696 : xLq RX7 (3, 61, 7, 1, 9) := ⟨by decide, _, rfl, ⟨rfl, (RX7, TX7, 5), .array .int, rfl, by decide, xtb 557 (by decide +kernel) rfl, rfl, (fun _ => rfl), by decide +kernel, Or.inr ⟨_, rfl⟩⟩⟩
theorem lk_697 : xLq RX7 (3, 24, 5, 0, 13) := ⟨by decide, _, rfl, ⟨rfl, (RX5, TX5, 4), rfl, xtb 554 (by decide +kernel) rfl, xtb 168 (by decide +kernel) rfl, xtb 129 (by decide +kernel) rfl⟩⟩
theorem lk_698 : xLq RX7 (3, 13, 288, 44, 15) := ⟨by decide, _, rfl, ⟨rfl, mX5_init, rfl, xtb 555 (by decide +kernel) rfl, rfl, rfl, rfl, xtb 170 (by decide +kernel) rfl⟩⟩
theorem lk_699 : xLq RX7 (3, 61, 7, 2, 18) := ⟨by decide, _, rfl, ⟨rfl, (RX7, TX7, 5), .object "BentScreens$Rows", rfl, by decide, xtb 558 (by decide +kernel) rfl, rfl, (fun _ => rfl), by decide +kernel, Or.inl ⟨_, rfl⟩⟩⟩
theorem lk_700 : xLq RX7 (3, 61, 7, 0, 22) := ⟨by decide, _, rfl, ⟨rfl, (RX7, TX7, 5), .object "BentScreens$Film", rfl, by decide, xtb 556 (by decide +kernel) rfl, rfl, (fun _ => rfl), by decide +kernel, Or.inl ⟨_, rfl⟩⟩⟩
theorem lk_701 : xLq RX7 (3, 1, 1, 3, 69) := ⟨by decide, _, rfl, ⟨rfl, (RX1, TX1, 10), rfl, by decide, xtb 207 (by decide +kernel) rfl⟩⟩
theorem lk_702 : xLq RX7 (3, 37, 0, 0, 66) := ⟨by decide, _, rfl, ⟨rfl, _, rfl, xtb 1273 (by decide +kernel) rfl⟩⟩
theorem lk_703 : xLq RX7 (3, 13, 303, 56, 75) := ⟨by decide, _, rfl, ⟨rfl, mX7_isAsLarge, rfl, xtb 1256 (by decide +kernel) rfl, xtb 1258 (by decide +kernel) rfl, xtb 37 (by decide +kernel) rfl, (RX7, TX7, 5), rfl, rfl⟩⟩
theorem lk_704 : xLq RX7 (3, 1, 7, 2, 18) := ⟨by decide, _, rfl, ⟨rfl, (RX7, TX7, 5), rfl, by decide, xtb 558 (by decide +kernel) rfl⟩⟩
theorem lk_705 : xLq RX7 (3, 13, 286, 40, 102) := ⟨by decide, _, rfl, ⟨rfl, mX5_grow, rfl, xtb 1301 (by decide +kernel) rfl, xtb 822 (by decide +kernel) rfl, xtb 823 (by decide +kernel) rfl, (RX5, TX5, 4), rfl, rfl⟩⟩
theorem lk_706 : xLq RX7 (3, 13, 290, 40, 106) := ⟨by decide, _, rfl, ⟨rfl, mX5_put, rfl, xtb 1302 (by decide +kernel) rfl, xtb 827 (by decide +kernel) rfl, xtb 828 (by decide +kernel) rfl, (RX5, TX5, 4), rfl, rfl⟩⟩
theorem lk_707 : xLq RX7 (3, 13, 310, 56, 95) := ⟨by decide, _, rfl, ⟨rfl, mX7_worthOf, rfl, xtb 1296 (by decide +kernel) rfl, xtb 1280 (by decide +kernel) rfl, xtb 1281 (by decide +kernel) rfl, (RX7, TX7, 5), rfl, rfl⟩⟩
theorem lk_708 : xLq RX7 (3, 13, 311, 56, 42) := ⟨by decide, _, rfl, ⟨rfl, mX7_worthOfSize, rfl, xtb 1252 (by decide +kernel) rfl, xtb 1254 (by decide +kernel) rfl, xtb 36 (by decide +kernel) rfl, (RX7, TX7, 5), rfl, rfl⟩⟩
theorem lk_709 : xLq RX7 (3, 13, 305, 56, 98) := ⟨by decide, _, rfl, ⟨rfl, mX7_planPanel, rfl, xtb 1297 (by decide +kernel) rfl, xtb 1299 (by decide +kernel) rfl, xtb 41 (by decide +kernel) rfl, (RX7, TX7, 5), rfl, rfl⟩⟩
theorem lk_710 : xLq RX7 (3, 13, 306, 58, 91) := ⟨by decide, _, rfl, ⟨rfl, mX7_planPiece, rfl, xtb 1293 (by decide +kernel) rfl, xtb 1294 (by decide +kernel) rfl⟩⟩
theorem lk_711 : xLq RX7 (3, 1, 7, 4, 30) := ⟨by decide, _, rfl, ⟨rfl, (RX7, TX7, 5), rfl, by decide, xtb 561 (by decide +kernel) rfl⟩⟩
theorem lk_712 : xLq RX7 (3, 13, 308, 56, 85) := ⟨by decide, _, rfl, ⟨rfl, mX7_refreshWorth, rfl, xtb 1291 (by decide +kernel) rfl, xtb 1249 (by decide +kernel) rfl, xtb 1250 (by decide +kernel) rfl, (RX7, TX7, 5), rfl, rfl⟩⟩
theorem lk_713 : xLq RX7 (3, 13, 283, 40, 88) := ⟨by decide, _, rfl, ⟨rfl, mX5_clear, rfl, xtb 1292 (by decide +kernel) rfl, xtb 679 (by decide +kernel) rfl, xtb 680 (by decide +kernel) rfl, (RX5, TX5, 4), rfl, rfl⟩⟩
theorem lk_714 : xLq RX7 (3, 1, 7, 3, 26) := ⟨by decide, _, rfl, ⟨rfl, (RX7, TX7, 5), rfl, by decide, xtb 560 (by decide +kernel) rfl⟩⟩
theorem lk_715 : xLq RX7 (3, 13, 299, 56, 46) := ⟨by decide, _, rfl, ⟨rfl, mX7_fillWorths, rfl, xtb 1262 (by decide +kernel) rfl, xtb 1264 (by decide +kernel) rfl, xtb 38 (by decide +kernel) rfl, (RX7, TX7, 5), rfl, rfl⟩⟩
theorem lk_716 : xLq RX8 (3, 1, 8, 4, 23) := ⟨by decide, _, rfl, ⟨rfl, (RX8, TX8, 6), rfl, by decide, xtb 348 (by decide +kernel) rfl⟩⟩
theorem lk_717 : xLq RX8 (3, 1, 8, 1, 19) := ⟨by decide, _, rfl, ⟨rfl, (RX8, TX8, 6), rfl, by decide, xtb 341 (by decide +kernel) rfl⟩⟩
theorem lk_718 : xLq RX8 (3, 1, 8, 0, 7) := ⟨by decide, _, rfl, ⟨rfl, (RX8, TX8, 6), rfl, by decide, xtb 340 (by decide +kernel) rfl⟩⟩
theorem lk_719 : xLq RX8 (3, 14, 8, 4, 23) := ⟨by decide, _, rfl, ⟨rfl, (RX8, TX8, 6), .int, rfl, by decide, xtb 348 (by decide +kernel) rfl, rfl, (fun h => by cases h), by decide +kernel, rfl⟩⟩
theorem lk_720 : xLq RX8 (3, 14, 8, 3, 29) := ⟨by decide, _, rfl, ⟨rfl, (RX8, TX8, 6), .int, rfl, by decide, xtb 347 (by decide +kernel) rfl, rfl, (fun h => by cases h), by decide +kernel, rfl⟩⟩
theorem lk_721 : xLq RX8 (3, 14, 8, 2, 32) := ⟨by decide, _, rfl, ⟨rfl, (RX8, TX8, 6), .int, rfl, by decide, xtb 344 (by decide +kernel) rfl, rfl, (fun h => by cases h), by decide +kernel, rfl⟩⟩
theorem lk_722 : xLq RX8 (3, 13, 315, 66, 35) := ⟨by decide, _, rfl, ⟨rfl, mX8_isLetter, rfl, xtb 693 (by decide +kernel) rfl, xtb 694 (by decide +kernel) rfl⟩⟩
theorem lk_723 : xLq RX8 (3, 13, 314, 66, 39) := ⟨by decide, _, rfl, ⟨rfl, mX8_isDigit, rfl, xtb 696 (by decide +kernel) rfl, xtb 697 (by decide +kernel) rfl⟩⟩
theorem lk_724 : xLq RX8 (3, 13, 320, 64, 42) := ⟨by decide, _, rfl, ⟨rfl, mX8_takeDigits, rfl, xtb 699 (by decide +kernel) rfl, xtb 701 (by decide +kernel) rfl, xtb 0 (by decide +kernel) rfl, (RX8, TX8, 6), rfl, rfl⟩⟩
theorem lk_725 : xLq RX8 (3, 13, 317, 66, 45) := ⟨by decide, _, rfl, ⟨rfl, mX8_isSignByte, rfl, xtb 703 (by decide +kernel) rfl, xtb 704 (by decide +kernel) rfl⟩⟩
theorem lk_726 : xLq RX8 (3, 25, 0, 0, 1) := ⟨by decide, _, rfl, ⟨rfl, xtb 339 (by decide +kernel) rfl⟩⟩
theorem lk_727 : xLq RX8 (3, 61, 8, 0, 7) := ⟨by decide, _, rfl, ⟨rfl, (RX8, TX8, 6), .array .byte, rfl, by decide, xtb 340 (by decide +kernel) rfl, rfl, (fun _ => rfl), by decide +kernel, Or.inr ⟨_, rfl⟩⟩⟩
theorem lk_728 : xLq RX8 (3, 1, 8, 2, 32) := ⟨by decide, _, rfl, ⟨rfl, (RX8, TX8, 6), rfl, by decide, xtb 344 (by decide +kernel) rfl⟩⟩
theorem lk_729 : xLq RX8 (3, 1, 8, 3, 29) := ⟨by decide, _, rfl, ⟨rfl, (RX8, TX8, 6), rfl, by decide, xtb 347 (by decide +kernel) rfl⟩⟩
theorem lk_730 : xLq RX8 (3, 73, 0, 0, 51) := ⟨by decide, _, rfl, ⟨rfl, xtb 719 (by decide +kernel) rfl⟩⟩
theorem lk_731 : xLq RX8 (3, 74, 0, 0, 56) := ⟨by decide, _, rfl, ⟨rfl, xtb 729 (by decide +kernel) rfl⟩⟩
theorem lk_732 : xLq RX8 (3, 63, 0, 0, 13) := ⟨by decide, _, rfl, ⟨rfl, xtb 686 (by decide +kernel) rfl⟩⟩
theorem lk_733 : xLq RX8 (3, 14, 8, 1, 19) := ⟨by decide, _, rfl, ⟨rfl, (RX8, TX8, 6), .int, rfl, by decide, xtb 341 (by decide +kernel) rfl, rfl, (fun h => by cases h), by decide +kernel, rfl⟩⟩
theorem lk_734 : xLq RX8 (3, 13, 312, 64, 26) := ⟨by decide, _, rfl, ⟨rfl, mX8_advance, rfl, xtb 689 (by decide +kernel) rfl, xtb 690 (by decide +kernel) rfl, xtb 691 (by decide +kernel) rfl, (RX8, TX8, 6), rfl, rfl⟩⟩
theorem lk_735 : xLq RX8 (3, 14, 8, 5, 48) := ⟨by decide, _, rfl, ⟨rfl, (RX8, TX8, 6), .int, rfl, by decide, xtb 351 (by decide +kernel) rfl, rfl, (fun h => by cases h), by decide +kernel, rfl⟩⟩
theorem lk_736 : xLq RX8 (3, 1, 8, 5, 48) := ⟨by decide, _, rfl, ⟨rfl, (RX8, TX8, 6), rfl, by decide, xtb 351 (by decide +kernel) rfl⟩⟩
theorem lk_737 : xLq RX9 (3, 1, 9, 1, 57) := ⟨by decide, _, rfl, ⟨rfl, (RX9, TX9, 14), rfl, by decide, xtb 259 (by decide +kernel) rfl⟩⟩
theorem lk_738 : xLq RX9 (3, 1, 9, 0, 11) := ⟨by decide, _, rfl, ⟨rfl, (RX9, TX9, 14), rfl, by decide, xtb 255 (by decide +kernel) rfl⟩⟩
theorem lk_739 : xLq RX9 (3, 14, 9, 1, 57) := ⟨by decide, _, rfl, ⟨rfl, (RX9, TX9, 14), .int, rfl, by decide, xtb 259 (by decide +kernel) rfl, rfl, (fun h => by cases h), by decide +kernel, rfl⟩⟩
theorem lk_740 : xLq RX9 (3, 58, 0, 0, 70) := ⟨by decide, _, rfl, ⟨rfl, xtb 1525 (by decide +kernel) rfl⟩⟩
theorem lk_741 : xLq RX9 (3, 1, 9, 2, 60) := ⟨by decide, _, rfl, ⟨rfl, (RX9, TX9, 14), rfl, by decide, xtb 262 (by decide +kernel) rfl⟩⟩
theorem lk_742 : xLq RX9 (3, 14, 9, 2, 60) := ⟨by decide, _, rfl, ⟨rfl, (RX9, TX9, 14), .int, rfl, by decide, xtb 262 (by decide +kernel) rfl, rfl, (fun h => by cases h), by decide +kernel, rfl⟩⟩
theorem lk_743 : xLq RX9 (3, 1, 9, 3, 15) := ⟨by decide, _, rfl, ⟨rfl, (RX9, TX9, 14), rfl, by decide, xtb 264 (by decide +kernel) rfl⟩⟩
theorem lk_744 : xLq RX9 (3, 14, 9, 3, 15) := ⟨by decide, _, rfl, ⟨rfl, (RX9, TX9, 14), .int, rfl, by decide, xtb 264 (by decide +kernel) rfl, rfl, (fun h => by cases h), by decide +kernel, rfl⟩⟩
theorem lk_745 : xLq RX9 (3, 1, 9, 4, 22) := ⟨by decide, _, rfl, ⟨rfl, (RX9, TX9, 14), rfl, by decide, xtb 266 (by decide +kernel) rfl⟩⟩
theorem lk_746 : xLq RX9 (3, 13, 241, 8, 76) := ⟨by decide, _, rfl, ⟨rfl, mX1_copy, rfl, xtb 1526 (by decide +kernel) rfl, xtb 843 (by decide +kernel) rfl, xtb 844 (by decide +kernel) rfl, (RX1, TX1, 10), rfl, rfl⟩⟩
theorem lk_747 : xLq RX9 (3, 1, 9, 5, 31) := ⟨by decide, _, rfl, ⟨rfl, (RX9, TX9, 14), rfl, by decide, xtb 271 (by decide +kernel) rfl⟩⟩
theorem lk_748 : xLq RX9 (3, 13, 284, 40, 80) := ⟨by decide, _, rfl, ⟨rfl, mX5_copy, rfl, xtb 1527 (by decide +kernel) rfl, xtb 847 (by decide +kernel) rfl, xtb 848 (by decide +kernel) rfl, (RX5, TX5, 4), rfl, rfl⟩⟩
theorem lk_749 : xLq RX9 (3, 1, 9, 6, 83) := ⟨by decide, _, rfl, ⟨rfl, (RX9, TX9, 14), rfl, by decide, xtb 275 (by decide +kernel) rfl⟩⟩
theorem lk_750 : xLq RX9 (3, 14, 9, 6, 83) := ⟨by decide, _, rfl, ⟨rfl, (RX9, TX9, 14), .int, rfl, by decide, xtb 275 (by decide +kernel) rfl, rfl, (fun h => by cases h), by decide +kernel, rfl⟩⟩
theorem lk_751 : xLq RX9 (3, 1, 9, 7, 35) := ⟨by decide, _, rfl, ⟨rfl, (RX9, TX9, 14), rfl, by decide, xtb 277 (by decide +kernel) rfl⟩⟩
theorem lk_752 : xLq RX9 (3, 14, 9, 7, 35) := ⟨by decide, _, rfl, ⟨rfl, (RX9, TX9, 14), .int, rfl, by decide, xtb 277 (by decide +kernel) rfl, rfl, (fun h => by cases h), by decide +kernel, rfl⟩⟩
theorem lk_753 : xLq RX9 (3, 1, 9, 8, 38) := ⟨by decide, _, rfl, ⟨rfl, (RX9, TX9, 14), rfl, by decide, xtb 279 (by decide +kernel) rfl⟩⟩
theorem lk_754 : xLq RX9 (3, 1, 9, 9, 86) := ⟨by decide, _, rfl, ⟨rfl, (RX9, TX9, 14), rfl, by decide, xtb 283 (by decide +kernel) rfl⟩⟩
theorem lk_755 : xLq RX9 (3, 14, 9, 9, 86) := ⟨by decide, _, rfl, ⟨rfl, (RX9, TX9, 14), .int, rfl, by decide, xtb 283 (by decide +kernel) rfl, rfl, (fun h => by cases h), by decide +kernel, rfl⟩⟩
theorem lk_756 : xLq RX9 (3, 1, 9, 10, 41) := ⟨by decide, _, rfl, ⟨rfl, (RX9, TX9, 14), rfl, by decide, xtb 286 (by decide +kernel) rfl⟩⟩
theorem lk_757 : xLq RX9 (3, 1, 9, 11, 46) := ⟨by decide, _, rfl, ⟨rfl, (RX9, TX9, 14), rfl, by decide, xtb 288 (by decide +kernel) rfl⟩⟩
theorem lk_758 : xLq RX9 (3, 1, 9, 12, 51) := ⟨by decide, _, rfl, ⟨rfl, (RX9, TX9, 14), rfl, by decide, xtb 290 (by decide +kernel) rfl⟩⟩
theorem lk_759 : xLq RX9 (3, 1, 9, 13, 54) := ⟨by decide, _, rfl, ⟨rfl, (RX9, TX9, 14), rfl, by decide, xtb 293 (by decide +kernel) rfl⟩⟩
theorem lk_760 : xLq RX9 (3, 1, 5, 3, 63) := ⟨by decide, _, rfl, ⟨rfl, (RX5, TX5, 4), rfl, by decide, xtb 181 (by decide +kernel) rfl⟩⟩
theorem lk_761 : xLq RX9 (3, 13, 285, 40, 66) := ⟨by decide, _, rfl, ⟨rfl, mX5_get, rfl, xtb 1049 (by decide +kernel) rfl, xtb 807 (by decide +kernel) rfl, xtb 808 (by decide +kernel) rfl, (RX5, TX5, 4), rfl, rfl⟩⟩
theorem lk_762 : xLq RX9 (3, 25, 0, 0, 3) := ⟨by decide, _, rfl, ⟨rfl, xtb 160 (by decide +kernel) rfl⟩⟩
theorem lk_763 : xLq RX9 (3, 61, 9, 0, 11) := ⟨by decide, _, rfl, ⟨rfl, (RX9, TX9, 14), .array .byte, rfl, by decide, xtb 255 (by decide +kernel) rfl, rfl, (fun _ => rfl), by decide +kernel, Or.inr ⟨_, rfl⟩⟩⟩
theorem lk_764 : xLq RX9 (3, 24, 1, 0, 19) := ⟨by decide, _, rfl, ⟨rfl, (RX1, TX1, 10), rfl, xtb 161 (by decide +kernel) rfl, xtb 162 (by decide +kernel) rfl, xtb 128 (by decide +kernel) rfl⟩⟩
theorem lk_765 : xLq RX9 (3, 13, 242, 13, 21) := ⟨by decide, _, rfl, ⟨rfl, mX1_init, rfl, "BentScreens", List.mem_of_getElem? (i := 163) (by decide +kernel), rfl, rfl, rfl, xtb 164 (by decide +kernel) rfl⟩⟩
theorem lk_766 : xLq RX9 (3, 61, 9, 4, 22) := ⟨by decide, _, rfl, ⟨rfl, (RX9, TX9, 14), .object "BentScreens$Film", rfl, by decide, xtb 266 (by decide +kernel) rfl, rfl, (fun _ => rfl), by decide +kernel, Or.inl ⟨_, rfl⟩⟩⟩
theorem lk_767 : xLq RX9 (3, 24, 5, 0, 26) := ⟨by decide, _, rfl, ⟨rfl, (RX5, TX5, 4), rfl, xtb 253 (by decide +kernel) rfl, xtb 168 (by decide +kernel) rfl, xtb 129 (by decide +kernel) rfl⟩⟩
theorem lk_768 : xLq RX9 (3, 13, 288, 44, 28) := ⟨by decide, _, rfl, ⟨rfl, mX5_init, rfl, xtb 254 (by decide +kernel) rfl, rfl, rfl, rfl, xtb 170 (by decide +kernel) rfl⟩⟩
theorem lk_769 : xLq RX9 (3, 61, 9, 5, 31) := ⟨by decide, _, rfl, ⟨rfl, (RX9, TX9, 14), .object "BentScreens$Rows", rfl, by decide, xtb 271 (by decide +kernel) rfl, rfl, (fun _ => rfl), by decide +kernel, Or.inl ⟨_, rfl⟩⟩⟩
theorem lk_770 : xLq RX9 (3, 61, 9, 8, 38) := ⟨by decide, _, rfl, ⟨rfl, (RX9, TX9, 14), .object "BentScreens$Rows", rfl, by decide, xtb 279 (by decide +kernel) rfl, rfl, (fun _ => rfl), by decide +kernel, Or.inl ⟨_, rfl⟩⟩⟩
theorem lk_771 : xLq RX9 (3, 61, 9, 10, 41) := ⟨by decide, _, rfl, ⟨rfl, (RX9, TX9, 14), .object "BentScreens$Rows", rfl, by decide, xtb 286 (by decide +kernel) rfl, rfl, (fun _ => rfl), by decide +kernel, Or.inl ⟨_, rfl⟩⟩⟩
theorem lk_772 : xLq RX9 (3, 61, 9, 11, 46) := ⟨by decide, _, rfl, ⟨rfl, (RX9, TX9, 14), .object "BentScreens$Rows", rfl, by decide, xtb 288 (by decide +kernel) rfl, rfl, (fun _ => rfl), by decide +kernel, Or.inl ⟨_, rfl⟩⟩⟩
theorem lk_773 : xLq RX9 (3, 61, 9, 12, 51) := ⟨by decide, _, rfl, ⟨rfl, (RX9, TX9, 14), .object "BentScreens$Rows", rfl, by decide, xtb 290 (by decide +kernel) rfl, rfl, (fun _ => rfl), by decide +kernel, Or.inl ⟨_, rfl⟩⟩⟩
theorem lk_774 : xLq RX9 (3, 61, 9, 13, 54) := ⟨by decide, _, rfl, ⟨rfl, (RX9, TX9, 14), .object "BentScreens$Rows", rfl, by decide, xtb 293 (by decide +kernel) rfl, rfl, (fun _ => rfl), by decide +kernel, Or.inl ⟨_, rfl⟩⟩⟩
