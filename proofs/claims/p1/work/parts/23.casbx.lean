/-! cases that want a split of their numbers first -/
/-- the bounds split at places: every box is run; an empty one needs nothing -/
noncomputable def xbox (f : xH → Bool) (ks : List (Nat × Nat)) : xH → Bool := List.rec f (fun k _ r hp => Option.rec (f hp) (fun q => cond (Nat.blt q.1 k.2 && Nat.ble k.2 q.2) (r (hp.1, xset (q.1, k.2 - 1) hp.2.1 k.1, hp.2.2) && r (hp.1, xset (k.2, q.2) hp.2.1 k.1, hp.2.2)) (r hp)) (xget hp.2.1 k.1)) ks
