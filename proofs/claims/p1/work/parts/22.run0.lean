theorem xrunP (v : xV) (hv : v = (7, 0) ∨ v = (8, 99)) : xrun 2000 1000 mLp (0, [], [(0, v)], [], ([], xbd0, [], 0, 0, 0, 0)) = some [(18, [], xlo0 v, [], xhp0)] := by
  rcases hv with rfl | rfl
  · decide +kernel
  · decide +kernel
theorem xrunS : xrun 100 1000 mLa (18, [], xlo0 (7, 0), [], xhp0) = some [(33, [], xlo0 (7, 0), [(1, 7)], xhp1)] := by decide +kernel
