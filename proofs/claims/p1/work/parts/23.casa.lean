/-! every case of the law, run by the kernel -/
noncomputable def xgoodF (φ : xS) : Bool := decide (xret 4 φ = some [(0, 1)]) && (Nat.ble φ.2.2.2.2.2.2.2.1 600000 && Nat.ble φ.2.2.2.2.2.2.2.2.1 7302250)
noncomputable def xgood (o : Option (List xS)) : Bool := Option.rec false (fun fs => fs.all xgoodF) o
theorem cs_d : xgood (xrun 100000 1000 mLa (1705, [], xlo0 (7, 0), [], xhp1)) = true := by decide +kernel
-- feed
theorem cs_0 : xgood (xrun 100000 1000 mLa (252, [], xlo0 (7, 0), [], xhp1)) = true := by decide +kernel
-- end
theorem cs_1 : xgood (xrun 100000 1000 mLa (315, [], xlo0 (7, 0), [], xhp1)) = true := by decide +kernel
-- fault
theorem cs_3 : xgood (xrun 100000 1000 mLa (351, [], xlo0 (7, 0), [], xhp1)) = true := by decide +kernel
-- layer
theorem cs_4 : xgood (xrun 100000 1000 mLa (374, [], xlo0 (7, 0), [], xhp1)) = true := by decide +kernel
-- neutral
theorem cs_5 : xgood (xrun 100000 1000 mLa (407, [], xlo0 (7, 0), [], xhp1)) = true := by decide +kernel
-- stretch
theorem cs_6 : xgood (xrun 100000 1000 mLa (430, [], xlo0 (7, 0), [], xhp1)) = true := by decide +kernel
-- bears
theorem cs_7 : xgood (xrun 100000 1000 mLa (463, [], xlo0 (7, 0), [], xhp1)) = true := by decide +kernel
-- least
theorem cs_8 : xgood (xrun 100000 1000 mLa (496, [], xlo0 (7, 0), [], xhp1)) = true := by decide +kernel
-- worst
theorem cs_9 : xgood (xrun 100000 1000 mLa (509, [], xlo0 (7, 0), [], xhp1)) = true := by decide +kernel
-- order
theorem cs_10 : xgood (xrun 100000 1000 mLa (532, [], xlo0 (7, 0), [], xhp1)) = true := by decide +kernel
-- tired
theorem cs_11 : xgood (xrun 100000 1000 mLa (555, [], xlo0 (7, 0), [], xhp1)) = true := by decide +kernel
-- cracks
theorem cs_12 : xgood (xrun 100000 1000 mLa (588, [], xlo0 (7, 0), [], xhp1)) = true := by decide +kernel
-- day
theorem cs_13 : xgood (xrun 100000 1000 mLa (611, [], xlo0 (7, 0), [], xhp1)) = true := by decide +kernel
-- view
theorem cs_14 : xgood (xrun 100000 1000 mLa (634, [], xlo0 (7, 0), [], xhp1)) = true := by decide +kernel
-- crack
theorem cs_15 : xgood (xrun 100000 1000 mLa (657, [], xlo0 (7, 0), [], xhp1)) = true := by decide +kernel
-- leads
theorem cs_16 : xgood (xrun 100000 1000 mLa (716, [], xlo0 (7, 0), [], xhp1)) = true := by decide +kernel
-- left
theorem cs_22 : xgood (xrun 100000 1000 mLa (952, [], xlo0 (7, 0), [], xhp1)) = true := by decide +kernel
-- unlike
theorem cs_23 : xgood (xrun 100000 1000 mLa (985, [], xlo0 (7, 0), [], xhp1)) = true := by decide +kernel
-- wet
theorem cs_24 : xgood (xrun 100000 1000 mLa (998, [], xlo0 (7, 0), [], xhp1)) = true := by decide +kernel
-- damp
theorem cs_25 : xgood (xrun 100000 1000 mLa (1021, [], xlo0 (7, 0), [], xhp1)) = true := by decide +kernel
-- value
theorem cs_28 : xgood (xrun 100000 1000 mLa (1100, [], xlo0 (7, 0), [], xhp1)) = true := by decide +kernel
-- panels
theorem cs_29 : xgood (xrun 100000 1000 mLa (1153, [], xlo0 (7, 0), [], xhp1)) = true := by decide +kernel
-- panel
theorem cs_30 : xgood (xrun 100000 1000 mLa (1166, [], xlo0 (7, 0), [], xhp1)) = true := by decide +kernel
-- cost
theorem cs_31 : xgood (xrun 100000 1000 mLa (1199, [], xlo0 (7, 0), [], xhp1)) = true := by decide +kernel
-- hand
theorem cs_33 : xgood (xrun 100000 1000 mLa (1255, [], xlo0 (7, 0), [], xhp1)) = true := by decide +kernel
-- broken
theorem cs_34 : xgood (xrun 100000 1000 mLa (1298, [], xlo0 (7, 0), [], xhp1)) = true := by decide +kernel
-- share
theorem cs_35 : xgood (xrun 100000 1000 mLa (1331, [], xlo0 (7, 0), [], xhp1)) = true := by decide +kernel
-- lasts
theorem cs_37 : xgood (xrun 100000 1000 mLa (1377, [], xlo0 (7, 0), [], xhp1)) = true := by decide +kernel
-- shift
theorem cs_38 : xgood (xrun 100000 1000 mLa (1400, [], xlo0 (7, 0), [], xhp1)) = true := by decide +kernel
-- count
theorem cs_48 : xgood (xrun 100000 1000 mLa (1636, [], xlo0 (7, 0), [], xhp1)) = true := by decide +kernel
