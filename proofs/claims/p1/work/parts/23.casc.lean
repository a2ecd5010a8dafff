/-! cases that want a split of their numbers first -/
/-- the bounds split at places: every box is run; an empty one needs nothing -/
noncomputable def xbox (f : xH → Bool) (ks : List (Nat × Nat)) : xH → Bool := List.rec f (fun k _ r hp => Option.rec (f hp) (fun q => cond (Nat.blt q.1 k.2 && Nat.ble k.2 q.2) (r (hp.1, xset (q.1, k.2 - 1) hp.2.1 k.1, hp.2.2) && r (hp.1, xset (k.2, q.2) hp.2.1 k.1, hp.2.2)) (r hp)) (xget hp.2.1 k.1)) ks
-- picture
theorem cs_21 : xbox (fun hp => xgood (xrun 100000 1000 mLa (877, [], xlo0 (7, 0), [], hp))) [(2, 2147483648), (2, 2147483649), (4, 2147483648), (4, 2147483649)] xhp1 = true := by decide +kernel
-- again
theorem cs_50 : xbox (fun hp => xgood (xrun 100000 1000 mLa (1682, [], xlo0 (7, 0), [], hp))) [(1, 2147483648), (1, 2147483649), (1, 2147483650), (1, 2147483651)] xhp1 = true := by decide +kernel
-- image
theorem cs_49 : xbox (fun hp => xgood (xrun 100000 1000 mLa (1659, [], xlo0 (7, 0), [], hp))) [(1, 2147483648), (1, 2147483649), (1, 2147483650), (1, 2147483651)] xhp1 = true := by decide +kernel
