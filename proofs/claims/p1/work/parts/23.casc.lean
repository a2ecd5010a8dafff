-- picture
theorem cs_21 : xbox (fun hp => xgood (xrun 100000 1000 mLa (877, [], xlo0 (7, 0), [], hp))) [(2, 2147483648), (2, 2147483649), (4, 2147483648), (4, 2147483649)] xhp1 = true := by decide +kernel
-- again
theorem cs_50 : xbox (fun hp => xgood (xrun 100000 1000 mLa (1682, [], xlo0 (7, 0), [], hp))) [(1, 2147483648), (1, 2147483649), (1, 2147483650), (1, 2147483651)] xhp1 = true := by decide +kernel
