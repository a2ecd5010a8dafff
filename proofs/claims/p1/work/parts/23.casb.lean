-- film
theorem cs_2 : xgood (xrun 100000 1000 mLa (338, [], xlo0 (7, 0), [], xhp1)) = true := by decide +kernel
-- most
theorem cs_17 : xgood (xrun 100000 1000 mLa (775, [], xlo0 (7, 0), [], xhp1)) = true := by decide +kernel
-- fed
theorem cs_18 : xgood (xrun 100000 1000 mLa (788, [], xlo0 (7, 0), [], xhp1)) = true := by decide +kernel
-- inCut
theorem cs_20 : xgood (xrun 100000 1000 mLa (834, [], xlo0 (7, 0), [], xhp1)) = true := by decide +kernel
-- dark
theorem cs_26 : xgood (xrun 100000 1000 mLa (1054, [], xlo0 (7, 0), [], xhp1)) = true := by decide +kernel
-- darks
theorem cs_27 : xgood (xrun 100000 1000 mLa (1087, [], xlo0 (7, 0), [], xhp1)) = true := by decide +kernel
-- mend
theorem cs_32 : xgood (xrun 100000 1000 mLa (1232, [], xlo0 (7, 0), [], xhp1)) = true := by decide +kernel
-- promise
theorem cs_36 : xgood (xrun 100000 1000 mLa (1354, [], xlo0 (7, 0), [], xhp1)) = true := by decide +kernel
-- test
theorem cs_39 : xgood (xrun 100000 1000 mLa (1413, [], xlo0 (7, 0), [], xhp1)) = true := by decide +kernel
-- kept
theorem cs_40 : xgood (xrun 100000 1000 mLa (1466, [], xlo0 (7, 0), [], xhp1)) = true := by decide +kernel
-- quarrel
theorem cs_43 : xgood (xrun 100000 1000 mLa (1551, [], xlo0 (7, 0), [], xhp1)) = true := by decide +kernel
-- rules
theorem cs_45 : xgood (xrun 100000 1000 mLa (1597, [], xlo0 (7, 0), [], xhp1)) = true := by decide +kernel
-- barred
theorem cs_46 : xgood (xrun 100000 1000 mLa (1610, [], xlo0 (7, 0), [], xhp1)) = true := by decide +kernel
-- price
theorem cs_47 : xgood (xrun 100000 1000 mLa (1623, [], xlo0 (7, 0), [], xhp1)) = true := by decide +kernel
