theorem xmall : xMall := by
  intro k M h
  unfold mget at h
  cases hc : xget mtab (k / 16) with
  | none => rw [hc] at h; cases h
  | some c =>
    rw [hc] at h
    have h : xget c (k % 16) = some M := h
    rw [xget_eq] at hc h
    exact vtab c (List.mem_of_getElem? hc) M (List.mem_of_getElem? h)
