-- image
theorem cs_49 : xbox (fun hp => xgood (xrun 100000 1000 mLa (1659, [], xlo0 (7, 0), [], hp))) [(1, 2147483648), (1, 2147483649), (1, 2147483650), (1, 2147483651)] xhp1 = true := by decide +kernel
