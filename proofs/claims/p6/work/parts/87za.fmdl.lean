section
/-! the model: texts, to the last number -/
/-- the tape's bytes -/
def bsm (w : List (List xE)) (B : Nat → Nat) (nn : Nat) : Prop := nn ≤ 500 ∧ ∀ j, j < nn → rwv w 83 (400 + j) = B j ∧ B j ≤ 255
theorem bsm.fr {w w' : List (List xE)} {B : Nat → Nat} {nn : Nat} (h : bsm w B nn) (e : ∀ j, 400 ≤ j → j < 900 → rwv w' 83 j = rwv w 83 j) : bsm w' B nn := ⟨h.1, fun j hj => by rw [e (400 + j) (by omega) (by have := h.1; omega)]; exact h.2 j hj⟩
/-- the token at hand begins its reading at p -/
def TKM (ir : Nat) (B : Nat → Nat) (nn : Nat) (w : List (List xE)) (p : Nat) : Prop := (fld w 82 2 = ir ∧ fld w 82 4 = nn ∧ fld w 82 5 = tf B nn p ∧ fld w 82 6 = tq B nn p ∧ fld w 82 7 = mkd ir B nn p ∧ p ≤ nn) ∧ (tkd B nn p = 2 → fld w 82 8 = tnu B nn p) ∧ (tkd B nn p = 1 → fld w 82 9 = wix ir (twk B nn p)) ∧ (tkd B nn p = 3 → fld w 82 3 = B (tq B nn p))
theorem TKM.fr {ir : Nat} {B : Nat → Nat} {nn p : Nat} {w w' : List (List xE)} (h : TKM ir B nn w p) (e : wget w' 82 = wget w 82) : TKM ir B nn w' p := by
  unfold TKM
  simp only [show ∀ j, fld w' 82 j = fld w 82 j from fun j => fld_eq e]
  exact h
/-- the fault as it was found so far -/
def FP (w : List (List xE)) (fp : Nat × Nat) : Prop := rwv w 83 16 = fp.1 ∧ (fp.1 ≠ 0 → rwv w 83 17 = fp.2 ∧ fp.2 ≤ 500) ∧ fp.1 ≤ 9 ∧ (fp.1 = 0 → rwv w 83 17 = 4294967295)
theorem FP.k83 {w w' : List (List xE)} {fp : Nat × Nat} (h : FP w fp) (e16 : rwv w' 83 16 = rwv w 83 16) (e17 : rwv w' 83 17 = rwv w 83 17) : FP w' fp := by
  unfold FP
  rw [e16, e17]
  exact h
def WRG (w : List (List xE)) (pl : Nat) : Prop := fld w 82 10 = 1 ∧ rwv w 83 16 = 1 ∧ rwv w 83 17 = pl
section XFMA
variable {d : Nat} {w : List (List xE)} {bd : List (Nat × Nat)} {fc : List (Nat × Nat × Bool)} {rr : Nat × Nat}
theorem xg_kz {Z p0 p1 : Nat} {M : xM} {cs cs1 : List xI} {lo l1 : xLo} {st st1 : List xV} {hp : xH} {P : xS → Prop} (h : xLd d M (p0, cs, lo, st, hp) [(p1, cs1, l1, (0, Z) :: st1, hp)]) (hZ : Z = 0) (K : xTo d M (p1, cs1, l1, (0, 0) :: st1, hp) P) : xTo d M (p0, cs, lo, st, hp) P := by
  subst hZ
  exact xg_t h K
theorem xg_kn {Z p0 p1 : Nat} {M : xM} {cs cs1 : List xI} {lo l1 : xLo} {st st1 : List xV} {hp : xH} {P : xS → Prop} (h : xLd d M (p0, cs, lo, st, hp) [(p1, cs1, l1, (0, Z) :: st1, hp)]) (hZ : Z < 4294967296) (hn : Z ≠ 0) (K : ∀ z, z < 4294967296 → z ≠ 0 → xTo d M (p1, cs1, l1, (0, z) :: st1, hp) P) : xTo d M (p0, cs, lo, st, hp) P := xg_t h (K Z hZ hn)
theorem xlc_eq {u v : Nat} (h : u = v) : xpt (lg_cmp (lN u) (lN v)) = 0 := by
  subst h
  have e : lg_cmp (lN u) (lN u) = 0 := (lg_cmp_eq _ _).mpr rfl
  rw [e]
  exact xpt_zero
theorem xlc_ne {u v : Nat} (hu : u < 18446744073709551616) (hv : v < 18446744073709551616) (h : ¬ u = v) : xpt (lg_cmp (lN u) (lN v)) ≠ 0 := by
  intro z
  have e := xpt_eq (lg_cmp (lN u) (lN v))
  rw [z] at e
  have e2 : lg_cmp (lN u) (lN v) = 0 := e.symm
  have e3 := (lg_cmp_eq _ _).mp e2
  have e4 : (lN u).toBitVec.toNat = (lN v).toBitVec.toNat := congrArg (fun x : Int64 => x.toBitVec.toNat) e3
  have e5 : ∀ x, (lN x).toBitVec.toNat = x % 18446744073709551616 := fun x => by
    show (BitVec.ofNat 64 x).toNat = _
    rw [BitVec.toNat_ofNat]
  rw [e5, e5] at e4
  omega
theorem mL_three_108_97_121 : xPr d mX12_three [(0, 108), (0, 97), (0, 121)] w bd fc rr [(4, 12345)] w := by
  refine xPr.of ?_
  show xTo d mX12_three (0, [], [(0, (0, 108)), (1, (0, 97)), (2, (0, 121))], [], (w, bd, fc, 0, 0, rr)) (xEnd 2 [(4, 12345)] (w, bd, fc, 0, 0, rr))
  refine xg_t (xg_blq rfl) ?_
  refine xg_t (xg_ldc2) ?_
  refine xg_t (xg_iload (va := (0, 108)) rfl rfl) ?_
  refine xg_t (xg_bip) ?_
  refine xg_t (xg_isub (u := 108) (v := 96) (z := 12) xnm0 xnm0 (by decide)) ?_
  refine xg_t (xg_i2l (u := 12) xnm0) ?_
  refine xg_t (xg_lre (b := 12) (by rw [xlp_eq]; exact nI_l (by omega))) ?_
  refine xg_t (xg_lmul (u := 32) (v := 12)) ?_
  refine xg_t (xg_lre (b := 384) (by rw [xlp_eq]; exact lN_mul _ _)) ?_
  refine xg_t (xg_iload (va := (0, 97)) rfl rfl) ?_
  refine xg_t (xg_i2l (u := 97) xnm0) ?_
  refine xg_t (xg_lre (b := 97) (by rw [xlp_eq]; exact nI_l (by omega))) ?_
  refine xg_t (xg_ladd (u := 384) (v := 97)) ?_
  refine xg_t (xg_lre (b := 481) (by rw [xlp_eq]; exact lN_add _ _)) ?_
  refine xg_t (xg_ldc2) ?_
  refine xg_t (xg_lsub (u := 481) (v := 96)) ?_
  refine xg_t (xg_lre (b := 385) (by rw [xlp_eq]; exact lN_sub (by omega))) ?_
  refine xg_t (xg_ldc2) ?_
  refine xg_t (xg_lmul (u := 385) (v := 32)) ?_
  refine xg_t (xg_lre (b := 12320) (by rw [xlp_eq]; exact lN_mul _ _)) ?_
  refine xg_t (xg_iload (va := (0, 121)) rfl rfl) ?_
  refine xg_t (xg_i2l (u := 121) xnm0) ?_
  refine xg_t (xg_lre (b := 121) (by rw [xlp_eq]; exact nI_l (by omega))) ?_
  refine xg_t (xg_ladd (u := 12320) (v := 121)) ?_
  refine xg_t (xg_lre (b := 12441) (by rw [xlp_eq]; exact lN_add _ _)) ?_
  refine xg_t (xg_ldc2) ?_
  refine xg_t (xg_lsub (u := 12441) (v := 96)) ?_
  refine xg_t (xg_lre (b := 12345) (by rw [xlp_eq]; exact lN_sub (by omega))) ?_
  exact xg_e ⟨rfl, rfl⟩
theorem mL_four_108_97_121_101 : xPr (d + 1) mX12_four [(0, 108), (0, 97), (0, 121), (0, 101)] w bd fc rr [(4, 395045)] w := by
  refine xPr.of ?_
  show xTo (d + 1) mX12_four (0, [], [(0, (0, 108)), (1, (0, 97)), (2, (0, 121)), (3, (0, 101))], [], (w, bd, fc, 0, 0, rr)) (xEnd 2 [(4, 395045)] (w, bd, fc, 0, 0, rr))
  refine xg_t (xg_blq rfl) ?_
  refine xg_t (xg_iload (va := (0, 108)) rfl rfl) ?_
  refine xg_t (xg_iload (va := (0, 97)) rfl rfl) ?_
  refine xg_t (xg_iload (va := (0, 121)) rfl rfl) ?_
  refine xg_t (xg_cSr mX12_three (vs := [(0, 108), (0, 97), (0, 121)]) (rest := []) (rs := [(4, 12345)]) (cn1 := 0) (sl1 := 0) rfl (mL_three_108_97_121) rfl rfl rfl rfl rfl rfl rfl rfl) ?_
  refine xg_t (xg_ldc2) ?_
  refine xg_t (xg_lmul (u := 12345) (v := 32)) ?_
  refine xg_t (xg_lre (b := 395040) (by rw [xlp_eq]; exact lN_mul _ _)) ?_
  refine xg_t (xg_iload (va := (0, 101)) rfl rfl) ?_
  refine xg_t (xg_i2l (u := 101) xnm0) ?_
  refine xg_t (xg_lre (b := 101) (by rw [xlp_eq]; exact nI_l (by omega))) ?_
  refine xg_t (xg_ladd (u := 395040) (v := 101)) ?_
  refine xg_t (xg_lre (b := 395141) (by rw [xlp_eq]; exact lN_add _ _)) ?_
  refine xg_t (xg_ldc2) ?_
  refine xg_t (xg_lsub (u := 395141) (v := 96)) ?_
  refine xg_t (xg_lre (b := 395045) (by rw [xlp_eq]; exact lN_sub (by omega))) ?_
  exact xg_e ⟨rfl, rfl⟩
theorem mL_five_108_97_121_101_114 : xPr (d + 2) mX12_five [(0, 108), (0, 97), (0, 121), (0, 101), (0, 114)] w bd fc rr [(4, 12641458)] w := by
  refine xPr.of ?_
  show xTo (d + 2) mX12_five (0, [], [(0, (0, 108)), (1, (0, 97)), (2, (0, 121)), (3, (0, 101)), (4, (0, 114))], [], (w, bd, fc, 0, 0, rr)) (xEnd 2 [(4, 12641458)] (w, bd, fc, 0, 0, rr))
  refine xg_t (xg_blq rfl) ?_
  refine xg_t (xg_iload (va := (0, 108)) rfl rfl) ?_
  refine xg_t (xg_iload (va := (0, 97)) rfl rfl) ?_
  refine xg_t (xg_iload (va := (0, 121)) rfl rfl) ?_
  refine xg_t (xg_iload (va := (0, 101)) rfl rfl) ?_
  refine xg_t (xg_cSr mX12_four (vs := [(0, 108), (0, 97), (0, 121), (0, 101)]) (rest := []) (rs := [(4, 395045)]) (cn1 := 0) (sl1 := 0) rfl (mL_four_108_97_121_101) rfl rfl rfl rfl rfl rfl rfl rfl) ?_
  refine xg_t (xg_ldc2) ?_
  refine xg_t (xg_lmul (u := 395045) (v := 32)) ?_
  refine xg_t (xg_lre (b := 12641440) (by rw [xlp_eq]; exact lN_mul _ _)) ?_
  refine xg_t (xg_iload (va := (0, 114)) rfl rfl) ?_
  refine xg_t (xg_i2l (u := 114) xnm0) ?_
  refine xg_t (xg_lre (b := 114) (by rw [xlp_eq]; exact nI_l (by omega))) ?_
  refine xg_t (xg_ladd (u := 12641440) (v := 114)) ?_
  refine xg_t (xg_lre (b := 12641554) (by rw [xlp_eq]; exact lN_add _ _)) ?_
  refine xg_t (xg_ldc2) ?_
  refine xg_t (xg_lsub (u := 12641554) (v := 96)) ?_
  refine xg_t (xg_lre (b := 12641458) (by rw [xlp_eq]; exact lN_sub (by omega))) ?_
  exact xg_e ⟨rfl, rfl⟩
theorem mL_three_108_105_102 : xPr d mX12_three [(0, 108), (0, 105), (0, 102)] w bd fc rr [(4, 12582)] w := by
  refine xPr.of ?_
  show xTo d mX12_three (0, [], [(0, (0, 108)), (1, (0, 105)), (2, (0, 102))], [], (w, bd, fc, 0, 0, rr)) (xEnd 2 [(4, 12582)] (w, bd, fc, 0, 0, rr))
  refine xg_t (xg_blq rfl) ?_
  refine xg_t (xg_ldc2) ?_
  refine xg_t (xg_iload (va := (0, 108)) rfl rfl) ?_
  refine xg_t (xg_bip) ?_
  refine xg_t (xg_isub (u := 108) (v := 96) (z := 12) xnm0 xnm0 (by decide)) ?_
  refine xg_t (xg_i2l (u := 12) xnm0) ?_
  refine xg_t (xg_lre (b := 12) (by rw [xlp_eq]; exact nI_l (by omega))) ?_
  refine xg_t (xg_lmul (u := 32) (v := 12)) ?_
  refine xg_t (xg_lre (b := 384) (by rw [xlp_eq]; exact lN_mul _ _)) ?_
  refine xg_t (xg_iload (va := (0, 105)) rfl rfl) ?_
  refine xg_t (xg_i2l (u := 105) xnm0) ?_
  refine xg_t (xg_lre (b := 105) (by rw [xlp_eq]; exact nI_l (by omega))) ?_
  refine xg_t (xg_ladd (u := 384) (v := 105)) ?_
  refine xg_t (xg_lre (b := 489) (by rw [xlp_eq]; exact lN_add _ _)) ?_
  refine xg_t (xg_ldc2) ?_
  refine xg_t (xg_lsub (u := 489) (v := 96)) ?_
  refine xg_t (xg_lre (b := 393) (by rw [xlp_eq]; exact lN_sub (by omega))) ?_
  refine xg_t (xg_ldc2) ?_
  refine xg_t (xg_lmul (u := 393) (v := 32)) ?_
  refine xg_t (xg_lre (b := 12576) (by rw [xlp_eq]; exact lN_mul _ _)) ?_
  refine xg_t (xg_iload (va := (0, 102)) rfl rfl) ?_
  refine xg_t (xg_i2l (u := 102) xnm0) ?_
  refine xg_t (xg_lre (b := 102) (by rw [xlp_eq]; exact nI_l (by omega))) ?_
  refine xg_t (xg_ladd (u := 12576) (v := 102)) ?_
  refine xg_t (xg_lre (b := 12678) (by rw [xlp_eq]; exact lN_add _ _)) ?_
  refine xg_t (xg_ldc2) ?_
  refine xg_t (xg_lsub (u := 12678) (v := 96)) ?_
  refine xg_t (xg_lre (b := 12582) (by rw [xlp_eq]; exact lN_sub (by omega))) ?_
  exact xg_e ⟨rfl, rfl⟩
theorem mL_four_108_105_102_101 : xPr (d + 1) mX12_four [(0, 108), (0, 105), (0, 102), (0, 101)] w bd fc rr [(4, 402629)] w := by
  refine xPr.of ?_
  show xTo (d + 1) mX12_four (0, [], [(0, (0, 108)), (1, (0, 105)), (2, (0, 102)), (3, (0, 101))], [], (w, bd, fc, 0, 0, rr)) (xEnd 2 [(4, 402629)] (w, bd, fc, 0, 0, rr))
  refine xg_t (xg_blq rfl) ?_
  refine xg_t (xg_iload (va := (0, 108)) rfl rfl) ?_
  refine xg_t (xg_iload (va := (0, 105)) rfl rfl) ?_
  refine xg_t (xg_iload (va := (0, 102)) rfl rfl) ?_
  refine xg_t (xg_cSr mX12_three (vs := [(0, 108), (0, 105), (0, 102)]) (rest := []) (rs := [(4, 12582)]) (cn1 := 0) (sl1 := 0) rfl (mL_three_108_105_102) rfl rfl rfl rfl rfl rfl rfl rfl) ?_
  refine xg_t (xg_ldc2) ?_
  refine xg_t (xg_lmul (u := 12582) (v := 32)) ?_
  refine xg_t (xg_lre (b := 402624) (by rw [xlp_eq]; exact lN_mul _ _)) ?_
  refine xg_t (xg_iload (va := (0, 101)) rfl rfl) ?_
  refine xg_t (xg_i2l (u := 101) xnm0) ?_
  refine xg_t (xg_lre (b := 101) (by rw [xlp_eq]; exact nI_l (by omega))) ?_
  refine xg_t (xg_ladd (u := 402624) (v := 101)) ?_
  refine xg_t (xg_lre (b := 402725) (by rw [xlp_eq]; exact lN_add _ _)) ?_
  refine xg_t (xg_ldc2) ?_
  refine xg_t (xg_lsub (u := 402725) (v := 96)) ?_
  refine xg_t (xg_lre (b := 402629) (by rw [xlp_eq]; exact lN_sub (by omega))) ?_
  exact xg_e ⟨rfl, rfl⟩
theorem mL_three_102_111_108 : xPr d mX12_three [(0, 102), (0, 111), (0, 108)] w bd fc rr [(4, 6636)] w := by
  refine xPr.of ?_
  show xTo d mX12_three (0, [], [(0, (0, 102)), (1, (0, 111)), (2, (0, 108))], [], (w, bd, fc, 0, 0, rr)) (xEnd 2 [(4, 6636)] (w, bd, fc, 0, 0, rr))
  refine xg_t (xg_blq rfl) ?_
  refine xg_t (xg_ldc2) ?_
  refine xg_t (xg_iload (va := (0, 102)) rfl rfl) ?_
  refine xg_t (xg_bip) ?_
  refine xg_t (xg_isub (u := 102) (v := 96) (z := 6) xnm0 xnm0 (by decide)) ?_
  refine xg_t (xg_i2l (u := 6) xnm0) ?_
  refine xg_t (xg_lre (b := 6) (by rw [xlp_eq]; exact nI_l (by omega))) ?_
  refine xg_t (xg_lmul (u := 32) (v := 6)) ?_
  refine xg_t (xg_lre (b := 192) (by rw [xlp_eq]; exact lN_mul _ _)) ?_
  refine xg_t (xg_iload (va := (0, 111)) rfl rfl) ?_
  refine xg_t (xg_i2l (u := 111) xnm0) ?_
  refine xg_t (xg_lre (b := 111) (by rw [xlp_eq]; exact nI_l (by omega))) ?_
  refine xg_t (xg_ladd (u := 192) (v := 111)) ?_
  refine xg_t (xg_lre (b := 303) (by rw [xlp_eq]; exact lN_add _ _)) ?_
  refine xg_t (xg_ldc2) ?_
  refine xg_t (xg_lsub (u := 303) (v := 96)) ?_
  refine xg_t (xg_lre (b := 207) (by rw [xlp_eq]; exact lN_sub (by omega))) ?_
  refine xg_t (xg_ldc2) ?_
  refine xg_t (xg_lmul (u := 207) (v := 32)) ?_
  refine xg_t (xg_lre (b := 6624) (by rw [xlp_eq]; exact lN_mul _ _)) ?_
  refine xg_t (xg_iload (va := (0, 108)) rfl rfl) ?_
  refine xg_t (xg_i2l (u := 108) xnm0) ?_
  refine xg_t (xg_lre (b := 108) (by rw [xlp_eq]; exact nI_l (by omega))) ?_
  refine xg_t (xg_ladd (u := 6624) (v := 108)) ?_
  refine xg_t (xg_lre (b := 6732) (by rw [xlp_eq]; exact lN_add _ _)) ?_
  refine xg_t (xg_ldc2) ?_
  refine xg_t (xg_lsub (u := 6732) (v := 96)) ?_
  refine xg_t (xg_lre (b := 6636) (by rw [xlp_eq]; exact lN_sub (by omega))) ?_
  exact xg_e ⟨rfl, rfl⟩
theorem mL_four_102_111_108_100 : xPr (d + 1) mX12_four [(0, 102), (0, 111), (0, 108), (0, 100)] w bd fc rr [(4, 212356)] w := by
  refine xPr.of ?_
  show xTo (d + 1) mX12_four (0, [], [(0, (0, 102)), (1, (0, 111)), (2, (0, 108)), (3, (0, 100))], [], (w, bd, fc, 0, 0, rr)) (xEnd 2 [(4, 212356)] (w, bd, fc, 0, 0, rr))
  refine xg_t (xg_blq rfl) ?_
  refine xg_t (xg_iload (va := (0, 102)) rfl rfl) ?_
  refine xg_t (xg_iload (va := (0, 111)) rfl rfl) ?_
  refine xg_t (xg_iload (va := (0, 108)) rfl rfl) ?_
  refine xg_t (xg_cSr mX12_three (vs := [(0, 102), (0, 111), (0, 108)]) (rest := []) (rs := [(4, 6636)]) (cn1 := 0) (sl1 := 0) rfl (mL_three_102_111_108) rfl rfl rfl rfl rfl rfl rfl rfl) ?_
  refine xg_t (xg_ldc2) ?_
  refine xg_t (xg_lmul (u := 6636) (v := 32)) ?_
  refine xg_t (xg_lre (b := 212352) (by rw [xlp_eq]; exact lN_mul _ _)) ?_
  refine xg_t (xg_iload (va := (0, 100)) rfl rfl) ?_
  refine xg_t (xg_i2l (u := 100) xnm0) ?_
  refine xg_t (xg_lre (b := 100) (by rw [xlp_eq]; exact nI_l (by omega))) ?_
  refine xg_t (xg_ladd (u := 212352) (v := 100)) ?_
  refine xg_t (xg_lre (b := 212452) (by rw [xlp_eq]; exact lN_add _ _)) ?_
  refine xg_t (xg_ldc2) ?_
  refine xg_t (xg_lsub (u := 212452) (v := 96)) ?_
  refine xg_t (xg_lre (b := 212356) (by rw [xlp_eq]; exact lN_sub (by omega))) ?_
  exact xg_e ⟨rfl, rfl⟩
theorem mL_five_102_111_108_100_115 : xPr (d + 2) mX12_five [(0, 102), (0, 111), (0, 108), (0, 100), (0, 115)] w bd fc rr [(4, 6795411)] w := by
  refine xPr.of ?_
  show xTo (d + 2) mX12_five (0, [], [(0, (0, 102)), (1, (0, 111)), (2, (0, 108)), (3, (0, 100)), (4, (0, 115))], [], (w, bd, fc, 0, 0, rr)) (xEnd 2 [(4, 6795411)] (w, bd, fc, 0, 0, rr))
  refine xg_t (xg_blq rfl) ?_
  refine xg_t (xg_iload (va := (0, 102)) rfl rfl) ?_
  refine xg_t (xg_iload (va := (0, 111)) rfl rfl) ?_
  refine xg_t (xg_iload (va := (0, 108)) rfl rfl) ?_
  refine xg_t (xg_iload (va := (0, 100)) rfl rfl) ?_
  refine xg_t (xg_cSr mX12_four (vs := [(0, 102), (0, 111), (0, 108), (0, 100)]) (rest := []) (rs := [(4, 212356)]) (cn1 := 0) (sl1 := 0) rfl (mL_four_102_111_108_100) rfl rfl rfl rfl rfl rfl rfl rfl) ?_
  refine xg_t (xg_ldc2) ?_
  refine xg_t (xg_lmul (u := 212356) (v := 32)) ?_
  refine xg_t (xg_lre (b := 6795392) (by rw [xlp_eq]; exact lN_mul _ _)) ?_
  refine xg_t (xg_iload (va := (0, 115)) rfl rfl) ?_
  refine xg_t (xg_i2l (u := 115) xnm0) ?_
  refine xg_t (xg_lre (b := 115) (by rw [xlp_eq]; exact nI_l (by omega))) ?_
  refine xg_t (xg_ladd (u := 6795392) (v := 115)) ?_
  refine xg_t (xg_lre (b := 6795507) (by rw [xlp_eq]; exact lN_add _ _)) ?_
  refine xg_t (xg_ldc2) ?_
  refine xg_t (xg_lsub (u := 6795507) (v := 96)) ?_
  refine xg_t (xg_lre (b := 6795411) (by rw [xlp_eq]; exact lN_sub (by omega))) ?_
  exact xg_e ⟨rfl, rfl⟩
theorem mL_three_112_97_110 : xPr d mX12_three [(0, 112), (0, 97), (0, 110)] w bd fc rr [(4, 16430)] w := by
  refine xPr.of ?_
  show xTo d mX12_three (0, [], [(0, (0, 112)), (1, (0, 97)), (2, (0, 110))], [], (w, bd, fc, 0, 0, rr)) (xEnd 2 [(4, 16430)] (w, bd, fc, 0, 0, rr))
  refine xg_t (xg_blq rfl) ?_
  refine xg_t (xg_ldc2) ?_
  refine xg_t (xg_iload (va := (0, 112)) rfl rfl) ?_
  refine xg_t (xg_bip) ?_
  refine xg_t (xg_isub (u := 112) (v := 96) (z := 16) xnm0 xnm0 (by decide)) ?_
  refine xg_t (xg_i2l (u := 16) xnm0) ?_
  refine xg_t (xg_lre (b := 16) (by rw [xlp_eq]; exact nI_l (by omega))) ?_
  refine xg_t (xg_lmul (u := 32) (v := 16)) ?_
  refine xg_t (xg_lre (b := 512) (by rw [xlp_eq]; exact lN_mul _ _)) ?_
  refine xg_t (xg_iload (va := (0, 97)) rfl rfl) ?_
  refine xg_t (xg_i2l (u := 97) xnm0) ?_
  refine xg_t (xg_lre (b := 97) (by rw [xlp_eq]; exact nI_l (by omega))) ?_
  refine xg_t (xg_ladd (u := 512) (v := 97)) ?_
  refine xg_t (xg_lre (b := 609) (by rw [xlp_eq]; exact lN_add _ _)) ?_
  refine xg_t (xg_ldc2) ?_
  refine xg_t (xg_lsub (u := 609) (v := 96)) ?_
  refine xg_t (xg_lre (b := 513) (by rw [xlp_eq]; exact lN_sub (by omega))) ?_
  refine xg_t (xg_ldc2) ?_
  refine xg_t (xg_lmul (u := 513) (v := 32)) ?_
  refine xg_t (xg_lre (b := 16416) (by rw [xlp_eq]; exact lN_mul _ _)) ?_
  refine xg_t (xg_iload (va := (0, 110)) rfl rfl) ?_
  refine xg_t (xg_i2l (u := 110) xnm0) ?_
  refine xg_t (xg_lre (b := 110) (by rw [xlp_eq]; exact nI_l (by omega))) ?_
  refine xg_t (xg_ladd (u := 16416) (v := 110)) ?_
  refine xg_t (xg_lre (b := 16526) (by rw [xlp_eq]; exact lN_add _ _)) ?_
  refine xg_t (xg_ldc2) ?_
  refine xg_t (xg_lsub (u := 16526) (v := 96)) ?_
  refine xg_t (xg_lre (b := 16430) (by rw [xlp_eq]; exact lN_sub (by omega))) ?_
  exact xg_e ⟨rfl, rfl⟩
theorem mL_four_112_97_110_101 : xPr (d + 1) mX12_four [(0, 112), (0, 97), (0, 110), (0, 101)] w bd fc rr [(4, 525765)] w := by
  refine xPr.of ?_
  show xTo (d + 1) mX12_four (0, [], [(0, (0, 112)), (1, (0, 97)), (2, (0, 110)), (3, (0, 101))], [], (w, bd, fc, 0, 0, rr)) (xEnd 2 [(4, 525765)] (w, bd, fc, 0, 0, rr))
  refine xg_t (xg_blq rfl) ?_
  refine xg_t (xg_iload (va := (0, 112)) rfl rfl) ?_
  refine xg_t (xg_iload (va := (0, 97)) rfl rfl) ?_
  refine xg_t (xg_iload (va := (0, 110)) rfl rfl) ?_
  refine xg_t (xg_cSr mX12_three (vs := [(0, 112), (0, 97), (0, 110)]) (rest := []) (rs := [(4, 16430)]) (cn1 := 0) (sl1 := 0) rfl (mL_three_112_97_110) rfl rfl rfl rfl rfl rfl rfl rfl) ?_
  refine xg_t (xg_ldc2) ?_
  refine xg_t (xg_lmul (u := 16430) (v := 32)) ?_
  refine xg_t (xg_lre (b := 525760) (by rw [xlp_eq]; exact lN_mul _ _)) ?_
  refine xg_t (xg_iload (va := (0, 101)) rfl rfl) ?_
  refine xg_t (xg_i2l (u := 101) xnm0) ?_
  refine xg_t (xg_lre (b := 101) (by rw [xlp_eq]; exact nI_l (by omega))) ?_
  refine xg_t (xg_ladd (u := 525760) (v := 101)) ?_
  refine xg_t (xg_lre (b := 525861) (by rw [xlp_eq]; exact lN_add _ _)) ?_
  refine xg_t (xg_ldc2) ?_
  refine xg_t (xg_lsub (u := 525861) (v := 96)) ?_
  refine xg_t (xg_lre (b := 525765) (by rw [xlp_eq]; exact lN_sub (by omega))) ?_
  exact xg_e ⟨rfl, rfl⟩
theorem mL_five_112_97_110_101_108 : xPr (d + 2) mX12_five [(0, 112), (0, 97), (0, 110), (0, 101), (0, 108)] w bd fc rr [(4, 16824492)] w := by
  refine xPr.of ?_
  show xTo (d + 2) mX12_five (0, [], [(0, (0, 112)), (1, (0, 97)), (2, (0, 110)), (3, (0, 101)), (4, (0, 108))], [], (w, bd, fc, 0, 0, rr)) (xEnd 2 [(4, 16824492)] (w, bd, fc, 0, 0, rr))
  refine xg_t (xg_blq rfl) ?_
  refine xg_t (xg_iload (va := (0, 112)) rfl rfl) ?_
  refine xg_t (xg_iload (va := (0, 97)) rfl rfl) ?_
  refine xg_t (xg_iload (va := (0, 110)) rfl rfl) ?_
  refine xg_t (xg_iload (va := (0, 101)) rfl rfl) ?_
  refine xg_t (xg_cSr mX12_four (vs := [(0, 112), (0, 97), (0, 110), (0, 101)]) (rest := []) (rs := [(4, 525765)]) (cn1 := 0) (sl1 := 0) rfl (mL_four_112_97_110_101) rfl rfl rfl rfl rfl rfl rfl rfl) ?_
  refine xg_t (xg_ldc2) ?_
  refine xg_t (xg_lmul (u := 525765) (v := 32)) ?_
  refine xg_t (xg_lre (b := 16824480) (by rw [xlp_eq]; exact lN_mul _ _)) ?_
  refine xg_t (xg_iload (va := (0, 108)) rfl rfl) ?_
  refine xg_t (xg_i2l (u := 108) xnm0) ?_
  refine xg_t (xg_lre (b := 108) (by rw [xlp_eq]; exact nI_l (by omega))) ?_
  refine xg_t (xg_ladd (u := 16824480) (v := 108)) ?_
  refine xg_t (xg_lre (b := 16824588) (by rw [xlp_eq]; exact lN_add _ _)) ?_
  refine xg_t (xg_ldc2) ?_
  refine xg_t (xg_lsub (u := 16824588) (v := 96)) ?_
  refine xg_t (xg_lre (b := 16824492) (by rw [xlp_eq]; exact lN_sub (by omega))) ?_
  exact xg_e ⟨rfl, rfl⟩
theorem mL_three_102_108_97 : xPr d mX12_three [(0, 102), (0, 108), (0, 97)] w bd fc rr [(4, 6529)] w := by
  refine xPr.of ?_
  show xTo d mX12_three (0, [], [(0, (0, 102)), (1, (0, 108)), (2, (0, 97))], [], (w, bd, fc, 0, 0, rr)) (xEnd 2 [(4, 6529)] (w, bd, fc, 0, 0, rr))
  refine xg_t (xg_blq rfl) ?_
  refine xg_t (xg_ldc2) ?_
  refine xg_t (xg_iload (va := (0, 102)) rfl rfl) ?_
  refine xg_t (xg_bip) ?_
  refine xg_t (xg_isub (u := 102) (v := 96) (z := 6) xnm0 xnm0 (by decide)) ?_
  refine xg_t (xg_i2l (u := 6) xnm0) ?_
  refine xg_t (xg_lre (b := 6) (by rw [xlp_eq]; exact nI_l (by omega))) ?_
  refine xg_t (xg_lmul (u := 32) (v := 6)) ?_
  refine xg_t (xg_lre (b := 192) (by rw [xlp_eq]; exact lN_mul _ _)) ?_
  refine xg_t (xg_iload (va := (0, 108)) rfl rfl) ?_
  refine xg_t (xg_i2l (u := 108) xnm0) ?_
  refine xg_t (xg_lre (b := 108) (by rw [xlp_eq]; exact nI_l (by omega))) ?_
  refine xg_t (xg_ladd (u := 192) (v := 108)) ?_
  refine xg_t (xg_lre (b := 300) (by rw [xlp_eq]; exact lN_add _ _)) ?_
  refine xg_t (xg_ldc2) ?_
  refine xg_t (xg_lsub (u := 300) (v := 96)) ?_
  refine xg_t (xg_lre (b := 204) (by rw [xlp_eq]; exact lN_sub (by omega))) ?_
  refine xg_t (xg_ldc2) ?_
  refine xg_t (xg_lmul (u := 204) (v := 32)) ?_
  refine xg_t (xg_lre (b := 6528) (by rw [xlp_eq]; exact lN_mul _ _)) ?_
  refine xg_t (xg_iload (va := (0, 97)) rfl rfl) ?_
  refine xg_t (xg_i2l (u := 97) xnm0) ?_
  refine xg_t (xg_lre (b := 97) (by rw [xlp_eq]; exact nI_l (by omega))) ?_
  refine xg_t (xg_ladd (u := 6528) (v := 97)) ?_
  refine xg_t (xg_lre (b := 6625) (by rw [xlp_eq]; exact lN_add _ _)) ?_
  refine xg_t (xg_ldc2) ?_
  refine xg_t (xg_lsub (u := 6625) (v := 96)) ?_
  refine xg_t (xg_lre (b := 6529) (by rw [xlp_eq]; exact lN_sub (by omega))) ?_
  exact xg_e ⟨rfl, rfl⟩
theorem mL_four_102_108_97_119 : xPr (d + 1) mX12_four [(0, 102), (0, 108), (0, 97), (0, 119)] w bd fc rr [(4, 208951)] w := by
  refine xPr.of ?_
  show xTo (d + 1) mX12_four (0, [], [(0, (0, 102)), (1, (0, 108)), (2, (0, 97)), (3, (0, 119))], [], (w, bd, fc, 0, 0, rr)) (xEnd 2 [(4, 208951)] (w, bd, fc, 0, 0, rr))
  refine xg_t (xg_blq rfl) ?_
  refine xg_t (xg_iload (va := (0, 102)) rfl rfl) ?_
  refine xg_t (xg_iload (va := (0, 108)) rfl rfl) ?_
  refine xg_t (xg_iload (va := (0, 97)) rfl rfl) ?_
  refine xg_t (xg_cSr mX12_three (vs := [(0, 102), (0, 108), (0, 97)]) (rest := []) (rs := [(4, 6529)]) (cn1 := 0) (sl1 := 0) rfl (mL_three_102_108_97) rfl rfl rfl rfl rfl rfl rfl rfl) ?_
  refine xg_t (xg_ldc2) ?_
  refine xg_t (xg_lmul (u := 6529) (v := 32)) ?_
  refine xg_t (xg_lre (b := 208928) (by rw [xlp_eq]; exact lN_mul _ _)) ?_
  refine xg_t (xg_iload (va := (0, 119)) rfl rfl) ?_
  refine xg_t (xg_i2l (u := 119) xnm0) ?_
  refine xg_t (xg_lre (b := 119) (by rw [xlp_eq]; exact nI_l (by omega))) ?_
  refine xg_t (xg_ladd (u := 208928) (v := 119)) ?_
  refine xg_t (xg_lre (b := 209047) (by rw [xlp_eq]; exact lN_add _ _)) ?_
  refine xg_t (xg_ldc2) ?_
  refine xg_t (xg_lsub (u := 209047) (v := 96)) ?_
  refine xg_t (xg_lre (b := 208951) (by rw [xlp_eq]; exact lN_sub (by omega))) ?_
  exact xg_e ⟨rfl, rfl⟩
theorem mL_three_115_104_101 : xPr d mX12_three [(0, 115), (0, 104), (0, 101)] w bd fc rr [(4, 19717)] w := by
  refine xPr.of ?_
  show xTo d mX12_three (0, [], [(0, (0, 115)), (1, (0, 104)), (2, (0, 101))], [], (w, bd, fc, 0, 0, rr)) (xEnd 2 [(4, 19717)] (w, bd, fc, 0, 0, rr))
  refine xg_t (xg_blq rfl) ?_
  refine xg_t (xg_ldc2) ?_
  refine xg_t (xg_iload (va := (0, 115)) rfl rfl) ?_
  refine xg_t (xg_bip) ?_
  refine xg_t (xg_isub (u := 115) (v := 96) (z := 19) xnm0 xnm0 (by decide)) ?_
  refine xg_t (xg_i2l (u := 19) xnm0) ?_
  refine xg_t (xg_lre (b := 19) (by rw [xlp_eq]; exact nI_l (by omega))) ?_
  refine xg_t (xg_lmul (u := 32) (v := 19)) ?_
  refine xg_t (xg_lre (b := 608) (by rw [xlp_eq]; exact lN_mul _ _)) ?_
  refine xg_t (xg_iload (va := (0, 104)) rfl rfl) ?_
  refine xg_t (xg_i2l (u := 104) xnm0) ?_
  refine xg_t (xg_lre (b := 104) (by rw [xlp_eq]; exact nI_l (by omega))) ?_
  refine xg_t (xg_ladd (u := 608) (v := 104)) ?_
  refine xg_t (xg_lre (b := 712) (by rw [xlp_eq]; exact lN_add _ _)) ?_
  refine xg_t (xg_ldc2) ?_
  refine xg_t (xg_lsub (u := 712) (v := 96)) ?_
  refine xg_t (xg_lre (b := 616) (by rw [xlp_eq]; exact lN_sub (by omega))) ?_
  refine xg_t (xg_ldc2) ?_
  refine xg_t (xg_lmul (u := 616) (v := 32)) ?_
  refine xg_t (xg_lre (b := 19712) (by rw [xlp_eq]; exact lN_mul _ _)) ?_
  refine xg_t (xg_iload (va := (0, 101)) rfl rfl) ?_
  refine xg_t (xg_i2l (u := 101) xnm0) ?_
  refine xg_t (xg_lre (b := 101) (by rw [xlp_eq]; exact nI_l (by omega))) ?_
  refine xg_t (xg_ladd (u := 19712) (v := 101)) ?_
  refine xg_t (xg_lre (b := 19813) (by rw [xlp_eq]; exact lN_add _ _)) ?_
  refine xg_t (xg_ldc2) ?_
  refine xg_t (xg_lsub (u := 19813) (v := 96)) ?_
  refine xg_t (xg_lre (b := 19717) (by rw [xlp_eq]; exact lN_sub (by omega))) ?_
  exact xg_e ⟨rfl, rfl⟩
theorem mL_four_115_104_101_101 : xPr (d + 1) mX12_four [(0, 115), (0, 104), (0, 101), (0, 101)] w bd fc rr [(4, 630949)] w := by
  refine xPr.of ?_
  show xTo (d + 1) mX12_four (0, [], [(0, (0, 115)), (1, (0, 104)), (2, (0, 101)), (3, (0, 101))], [], (w, bd, fc, 0, 0, rr)) (xEnd 2 [(4, 630949)] (w, bd, fc, 0, 0, rr))
  refine xg_t (xg_blq rfl) ?_
  refine xg_t (xg_iload (va := (0, 115)) rfl rfl) ?_
  refine xg_t (xg_iload (va := (0, 104)) rfl rfl) ?_
  refine xg_t (xg_iload (va := (0, 101)) rfl rfl) ?_
  refine xg_t (xg_cSr mX12_three (vs := [(0, 115), (0, 104), (0, 101)]) (rest := []) (rs := [(4, 19717)]) (cn1 := 0) (sl1 := 0) rfl (mL_three_115_104_101) rfl rfl rfl rfl rfl rfl rfl rfl) ?_
  refine xg_t (xg_ldc2) ?_
  refine xg_t (xg_lmul (u := 19717) (v := 32)) ?_
  refine xg_t (xg_lre (b := 630944) (by rw [xlp_eq]; exact lN_mul _ _)) ?_
  refine xg_t (xg_iload (va := (0, 101)) rfl rfl) ?_
  refine xg_t (xg_i2l (u := 101) xnm0) ?_
  refine xg_t (xg_lre (b := 101) (by rw [xlp_eq]; exact nI_l (by omega))) ?_
  refine xg_t (xg_ladd (u := 630944) (v := 101)) ?_
  refine xg_t (xg_lre (b := 631045) (by rw [xlp_eq]; exact lN_add _ _)) ?_
  refine xg_t (xg_ldc2) ?_
  refine xg_t (xg_lsub (u := 631045) (v := 96)) ?_
  refine xg_t (xg_lre (b := 630949) (by rw [xlp_eq]; exact lN_sub (by omega))) ?_
  exact xg_e ⟨rfl, rfl⟩
theorem mL_five_115_104_101_101_116 : xPr (d + 2) mX12_five [(0, 115), (0, 104), (0, 101), (0, 101), (0, 116)] w bd fc rr [(4, 20190388)] w := by
  refine xPr.of ?_
  show xTo (d + 2) mX12_five (0, [], [(0, (0, 115)), (1, (0, 104)), (2, (0, 101)), (3, (0, 101)), (4, (0, 116))], [], (w, bd, fc, 0, 0, rr)) (xEnd 2 [(4, 20190388)] (w, bd, fc, 0, 0, rr))
  refine xg_t (xg_blq rfl) ?_
  refine xg_t (xg_iload (va := (0, 115)) rfl rfl) ?_
  refine xg_t (xg_iload (va := (0, 104)) rfl rfl) ?_
  refine xg_t (xg_iload (va := (0, 101)) rfl rfl) ?_
  refine xg_t (xg_iload (va := (0, 101)) rfl rfl) ?_
  refine xg_t (xg_cSr mX12_four (vs := [(0, 115), (0, 104), (0, 101), (0, 101)]) (rest := []) (rs := [(4, 630949)]) (cn1 := 0) (sl1 := 0) rfl (mL_four_115_104_101_101) rfl rfl rfl rfl rfl rfl rfl rfl) ?_
  refine xg_t (xg_ldc2) ?_
  refine xg_t (xg_lmul (u := 630949) (v := 32)) ?_
  refine xg_t (xg_lre (b := 20190368) (by rw [xlp_eq]; exact lN_mul _ _)) ?_
  refine xg_t (xg_iload (va := (0, 116)) rfl rfl) ?_
  refine xg_t (xg_i2l (u := 116) xnm0) ?_
  refine xg_t (xg_lre (b := 116) (by rw [xlp_eq]; exact nI_l (by omega))) ?_
  refine xg_t (xg_ladd (u := 20190368) (v := 116)) ?_
  refine xg_t (xg_lre (b := 20190484) (by rw [xlp_eq]; exact lN_add _ _)) ?_
  refine xg_t (xg_ldc2) ?_
  refine xg_t (xg_lsub (u := 20190484) (v := 96)) ?_
  refine xg_t (xg_lre (b := 20190388) (by rw [xlp_eq]; exact lN_sub (by omega))) ?_
  exact xg_e ⟨rfl, rfl⟩
theorem mL_three_110_101_116 : xPr d mX12_three [(0, 110), (0, 101), (0, 116)] w bd fc rr [(4, 14516)] w := by
  refine xPr.of ?_
  show xTo d mX12_three (0, [], [(0, (0, 110)), (1, (0, 101)), (2, (0, 116))], [], (w, bd, fc, 0, 0, rr)) (xEnd 2 [(4, 14516)] (w, bd, fc, 0, 0, rr))
  refine xg_t (xg_blq rfl) ?_
  refine xg_t (xg_ldc2) ?_
  refine xg_t (xg_iload (va := (0, 110)) rfl rfl) ?_
  refine xg_t (xg_bip) ?_
  refine xg_t (xg_isub (u := 110) (v := 96) (z := 14) xnm0 xnm0 (by decide)) ?_
  refine xg_t (xg_i2l (u := 14) xnm0) ?_
  refine xg_t (xg_lre (b := 14) (by rw [xlp_eq]; exact nI_l (by omega))) ?_
  refine xg_t (xg_lmul (u := 32) (v := 14)) ?_
  refine xg_t (xg_lre (b := 448) (by rw [xlp_eq]; exact lN_mul _ _)) ?_
  refine xg_t (xg_iload (va := (0, 101)) rfl rfl) ?_
  refine xg_t (xg_i2l (u := 101) xnm0) ?_
  refine xg_t (xg_lre (b := 101) (by rw [xlp_eq]; exact nI_l (by omega))) ?_
  refine xg_t (xg_ladd (u := 448) (v := 101)) ?_
  refine xg_t (xg_lre (b := 549) (by rw [xlp_eq]; exact lN_add _ _)) ?_
  refine xg_t (xg_ldc2) ?_
  refine xg_t (xg_lsub (u := 549) (v := 96)) ?_
  refine xg_t (xg_lre (b := 453) (by rw [xlp_eq]; exact lN_sub (by omega))) ?_
  refine xg_t (xg_ldc2) ?_
  refine xg_t (xg_lmul (u := 453) (v := 32)) ?_
  refine xg_t (xg_lre (b := 14496) (by rw [xlp_eq]; exact lN_mul _ _)) ?_
  refine xg_t (xg_iload (va := (0, 116)) rfl rfl) ?_
  refine xg_t (xg_i2l (u := 116) xnm0) ?_
  refine xg_t (xg_lre (b := 116) (by rw [xlp_eq]; exact nI_l (by omega))) ?_
  refine xg_t (xg_ladd (u := 14496) (v := 116)) ?_
  refine xg_t (xg_lre (b := 14612) (by rw [xlp_eq]; exact lN_add _ _)) ?_
  refine xg_t (xg_ldc2) ?_
  refine xg_t (xg_lsub (u := 14612) (v := 96)) ?_
  refine xg_t (xg_lre (b := 14516) (by rw [xlp_eq]; exact lN_sub (by omega))) ?_
  exact xg_e ⟨rfl, rfl⟩
theorem mL_three_104_111_108 : xPr d mX12_three [(0, 104), (0, 111), (0, 108)] w bd fc rr [(4, 8684)] w := by
  refine xPr.of ?_
  show xTo d mX12_three (0, [], [(0, (0, 104)), (1, (0, 111)), (2, (0, 108))], [], (w, bd, fc, 0, 0, rr)) (xEnd 2 [(4, 8684)] (w, bd, fc, 0, 0, rr))
  refine xg_t (xg_blq rfl) ?_
  refine xg_t (xg_ldc2) ?_
  refine xg_t (xg_iload (va := (0, 104)) rfl rfl) ?_
  refine xg_t (xg_bip) ?_
  refine xg_t (xg_isub (u := 104) (v := 96) (z := 8) xnm0 xnm0 (by decide)) ?_
  refine xg_t (xg_i2l (u := 8) xnm0) ?_
  refine xg_t (xg_lre (b := 8) (by rw [xlp_eq]; exact nI_l (by omega))) ?_
  refine xg_t (xg_lmul (u := 32) (v := 8)) ?_
  refine xg_t (xg_lre (b := 256) (by rw [xlp_eq]; exact lN_mul _ _)) ?_
  refine xg_t (xg_iload (va := (0, 111)) rfl rfl) ?_
  refine xg_t (xg_i2l (u := 111) xnm0) ?_
  refine xg_t (xg_lre (b := 111) (by rw [xlp_eq]; exact nI_l (by omega))) ?_
  refine xg_t (xg_ladd (u := 256) (v := 111)) ?_
  refine xg_t (xg_lre (b := 367) (by rw [xlp_eq]; exact lN_add _ _)) ?_
  refine xg_t (xg_ldc2) ?_
  refine xg_t (xg_lsub (u := 367) (v := 96)) ?_
  refine xg_t (xg_lre (b := 271) (by rw [xlp_eq]; exact lN_sub (by omega))) ?_
  refine xg_t (xg_ldc2) ?_
  refine xg_t (xg_lmul (u := 271) (v := 32)) ?_
  refine xg_t (xg_lre (b := 8672) (by rw [xlp_eq]; exact lN_mul _ _)) ?_
  refine xg_t (xg_iload (va := (0, 108)) rfl rfl) ?_
  refine xg_t (xg_i2l (u := 108) xnm0) ?_
  refine xg_t (xg_lre (b := 108) (by rw [xlp_eq]; exact nI_l (by omega))) ?_
  refine xg_t (xg_ladd (u := 8672) (v := 108)) ?_
  refine xg_t (xg_lre (b := 8780) (by rw [xlp_eq]; exact lN_add _ _)) ?_
  refine xg_t (xg_ldc2) ?_
  refine xg_t (xg_lsub (u := 8780) (v := 96)) ?_
  refine xg_t (xg_lre (b := 8684) (by rw [xlp_eq]; exact lN_sub (by omega))) ?_
  exact xg_e ⟨rfl, rfl⟩
theorem mL_four_104_111_108_100 : xPr (d + 1) mX12_four [(0, 104), (0, 111), (0, 108), (0, 100)] w bd fc rr [(4, 277892)] w := by
  refine xPr.of ?_
  show xTo (d + 1) mX12_four (0, [], [(0, (0, 104)), (1, (0, 111)), (2, (0, 108)), (3, (0, 100))], [], (w, bd, fc, 0, 0, rr)) (xEnd 2 [(4, 277892)] (w, bd, fc, 0, 0, rr))
  refine xg_t (xg_blq rfl) ?_
  refine xg_t (xg_iload (va := (0, 104)) rfl rfl) ?_
  refine xg_t (xg_iload (va := (0, 111)) rfl rfl) ?_
  refine xg_t (xg_iload (va := (0, 108)) rfl rfl) ?_
  refine xg_t (xg_cSr mX12_three (vs := [(0, 104), (0, 111), (0, 108)]) (rest := []) (rs := [(4, 8684)]) (cn1 := 0) (sl1 := 0) rfl (mL_three_104_111_108) rfl rfl rfl rfl rfl rfl rfl rfl) ?_
  refine xg_t (xg_ldc2) ?_
  refine xg_t (xg_lmul (u := 8684) (v := 32)) ?_
  refine xg_t (xg_lre (b := 277888) (by rw [xlp_eq]; exact lN_mul _ _)) ?_
  refine xg_t (xg_iload (va := (0, 100)) rfl rfl) ?_
  refine xg_t (xg_i2l (u := 100) xnm0) ?_
  refine xg_t (xg_lre (b := 100) (by rw [xlp_eq]; exact nI_l (by omega))) ?_
  refine xg_t (xg_ladd (u := 277888) (v := 100)) ?_
  refine xg_t (xg_lre (b := 277988) (by rw [xlp_eq]; exact lN_add _ _)) ?_
  refine xg_t (xg_ldc2) ?_
  refine xg_t (xg_lsub (u := 277988) (v := 96)) ?_
  refine xg_t (xg_lre (b := 277892) (by rw [xlp_eq]; exact lN_sub (by omega))) ?_
  exact xg_e ⟨rfl, rfl⟩
theorem mL_three_115_108_105 : xPr d mX12_three [(0, 115), (0, 108), (0, 105)] w bd fc rr [(4, 19849)] w := by
  refine xPr.of ?_
  show xTo d mX12_three (0, [], [(0, (0, 115)), (1, (0, 108)), (2, (0, 105))], [], (w, bd, fc, 0, 0, rr)) (xEnd 2 [(4, 19849)] (w, bd, fc, 0, 0, rr))
  refine xg_t (xg_blq rfl) ?_
  refine xg_t (xg_ldc2) ?_
  refine xg_t (xg_iload (va := (0, 115)) rfl rfl) ?_
  refine xg_t (xg_bip) ?_
  refine xg_t (xg_isub (u := 115) (v := 96) (z := 19) xnm0 xnm0 (by decide)) ?_
  refine xg_t (xg_i2l (u := 19) xnm0) ?_
  refine xg_t (xg_lre (b := 19) (by rw [xlp_eq]; exact nI_l (by omega))) ?_
  refine xg_t (xg_lmul (u := 32) (v := 19)) ?_
  refine xg_t (xg_lre (b := 608) (by rw [xlp_eq]; exact lN_mul _ _)) ?_
  refine xg_t (xg_iload (va := (0, 108)) rfl rfl) ?_
  refine xg_t (xg_i2l (u := 108) xnm0) ?_
  refine xg_t (xg_lre (b := 108) (by rw [xlp_eq]; exact nI_l (by omega))) ?_
  refine xg_t (xg_ladd (u := 608) (v := 108)) ?_
  refine xg_t (xg_lre (b := 716) (by rw [xlp_eq]; exact lN_add _ _)) ?_
  refine xg_t (xg_ldc2) ?_
  refine xg_t (xg_lsub (u := 716) (v := 96)) ?_
  refine xg_t (xg_lre (b := 620) (by rw [xlp_eq]; exact lN_sub (by omega))) ?_
  refine xg_t (xg_ldc2) ?_
  refine xg_t (xg_lmul (u := 620) (v := 32)) ?_
  refine xg_t (xg_lre (b := 19840) (by rw [xlp_eq]; exact lN_mul _ _)) ?_
  refine xg_t (xg_iload (va := (0, 105)) rfl rfl) ?_
  refine xg_t (xg_i2l (u := 105) xnm0) ?_
  refine xg_t (xg_lre (b := 105) (by rw [xlp_eq]; exact nI_l (by omega))) ?_
  refine xg_t (xg_ladd (u := 19840) (v := 105)) ?_
  refine xg_t (xg_lre (b := 19945) (by rw [xlp_eq]; exact lN_add _ _)) ?_
  refine xg_t (xg_ldc2) ?_
  refine xg_t (xg_lsub (u := 19945) (v := 96)) ?_
  refine xg_t (xg_lre (b := 19849) (by rw [xlp_eq]; exact lN_sub (by omega))) ?_
  exact xg_e ⟨rfl, rfl⟩
theorem mL_four_115_108_105_100 : xPr (d + 1) mX12_four [(0, 115), (0, 108), (0, 105), (0, 100)] w bd fc rr [(4, 635172)] w := by
  refine xPr.of ?_
  show xTo (d + 1) mX12_four (0, [], [(0, (0, 115)), (1, (0, 108)), (2, (0, 105)), (3, (0, 100))], [], (w, bd, fc, 0, 0, rr)) (xEnd 2 [(4, 635172)] (w, bd, fc, 0, 0, rr))
  refine xg_t (xg_blq rfl) ?_
  refine xg_t (xg_iload (va := (0, 115)) rfl rfl) ?_
  refine xg_t (xg_iload (va := (0, 108)) rfl rfl) ?_
  refine xg_t (xg_iload (va := (0, 105)) rfl rfl) ?_
  refine xg_t (xg_cSr mX12_three (vs := [(0, 115), (0, 108), (0, 105)]) (rest := []) (rs := [(4, 19849)]) (cn1 := 0) (sl1 := 0) rfl (mL_three_115_108_105) rfl rfl rfl rfl rfl rfl rfl rfl) ?_
  refine xg_t (xg_ldc2) ?_
  refine xg_t (xg_lmul (u := 19849) (v := 32)) ?_
  refine xg_t (xg_lre (b := 635168) (by rw [xlp_eq]; exact lN_mul _ _)) ?_
  refine xg_t (xg_iload (va := (0, 100)) rfl rfl) ?_
  refine xg_t (xg_i2l (u := 100) xnm0) ?_
  refine xg_t (xg_lre (b := 100) (by rw [xlp_eq]; exact nI_l (by omega))) ?_
  refine xg_t (xg_ladd (u := 635168) (v := 100)) ?_
  refine xg_t (xg_lre (b := 635268) (by rw [xlp_eq]; exact lN_add _ _)) ?_
  refine xg_t (xg_ldc2) ?_
  refine xg_t (xg_lsub (u := 635268) (v := 96)) ?_
  refine xg_t (xg_lre (b := 635172) (by rw [xlp_eq]; exact lN_sub (by omega))) ?_
  exact xg_e ⟨rfl, rfl⟩
theorem mL_five_115_108_105_100_101 : xPr (d + 2) mX12_five [(0, 115), (0, 108), (0, 105), (0, 100), (0, 101)] w bd fc rr [(4, 20325509)] w := by
  refine xPr.of ?_
  show xTo (d + 2) mX12_five (0, [], [(0, (0, 115)), (1, (0, 108)), (2, (0, 105)), (3, (0, 100)), (4, (0, 101))], [], (w, bd, fc, 0, 0, rr)) (xEnd 2 [(4, 20325509)] (w, bd, fc, 0, 0, rr))
  refine xg_t (xg_blq rfl) ?_
  refine xg_t (xg_iload (va := (0, 115)) rfl rfl) ?_
  refine xg_t (xg_iload (va := (0, 108)) rfl rfl) ?_
  refine xg_t (xg_iload (va := (0, 105)) rfl rfl) ?_
  refine xg_t (xg_iload (va := (0, 100)) rfl rfl) ?_
  refine xg_t (xg_cSr mX12_four (vs := [(0, 115), (0, 108), (0, 105), (0, 100)]) (rest := []) (rs := [(4, 635172)]) (cn1 := 0) (sl1 := 0) rfl (mL_four_115_108_105_100) rfl rfl rfl rfl rfl rfl rfl rfl) ?_
  refine xg_t (xg_ldc2) ?_
  refine xg_t (xg_lmul (u := 635172) (v := 32)) ?_
  refine xg_t (xg_lre (b := 20325504) (by rw [xlp_eq]; exact lN_mul _ _)) ?_
  refine xg_t (xg_iload (va := (0, 101)) rfl rfl) ?_
  refine xg_t (xg_i2l (u := 101) xnm0) ?_
  refine xg_t (xg_lre (b := 101) (by rw [xlp_eq]; exact nI_l (by omega))) ?_
  refine xg_t (xg_ladd (u := 20325504) (v := 101)) ?_
  refine xg_t (xg_lre (b := 20325605) (by rw [xlp_eq]; exact lN_add _ _)) ?_
  refine xg_t (xg_ldc2) ?_
  refine xg_t (xg_lsub (u := 20325605) (v := 96)) ?_
  refine xg_t (xg_lre (b := 20325509) (by rw [xlp_eq]; exact lN_sub (by omega))) ?_
  exact xg_e ⟨rfl, rfl⟩
theorem mWordX {vv : Nat} (hI : xMnv w) (hv : vv < 34359738368) : xPi (d + 3) mX12_wordOf [(4, vv)] w bd fc rr (fun n w' => (n = wixF vv) ∧ xMnv w' ∧ xFr [] w w') := by
  refine xPi.of ?_
  show xTo (d + 3) mX12_wordOf (0, [], [(0, (4, vv))], [], (w, bd, fc, 0, 0, rr)) (fun φ => ∃ n w', xEnd 1 [(0, n)] (w', bd, fc, 0, 0, rr) φ ∧ (n = wixF vv) ∧ xMnv w' ∧ xFr [] w w')
  refine xg_t (xg_blq rfl) ?_
  refine xg_t (xg_lload (u := vv) rfl) ?_
  refine xg_t (xg_bip) ?_
  refine xg_t (xg_bip) ?_
  refine xg_t (xg_bip) ?_
  refine xg_t (xg_bip) ?_
  refine xg_t (xg_bip) ?_
  refine xg_t (xg_cSr mX12_five (vs := [(0, 108), (0, 97), (0, 121), (0, 101), (0, 114)]) (rest := [(4, vv)]) (rs := [(4, 12641458), (4, vv)]) (cn1 := 0) (sl1 := 0) rfl (mL_five_108_97_121_101_114) rfl rfl rfl rfl rfl rfl rfl rfl) ?_
  by_cases hc1 : vv = 12641458
  · refine xg_kz (xg_lcmp (u := vv) (v := 12641458)) (xlc_eq hc1) ?_
    refine xg_t (xg_ifF (u := 0) rfl xnm0 (by decide)) ?_
    refine xg_t (xg_const) ?_
    have hw2 : wixF vv = 0 := by
      unfold wixF
      rw [if_pos hc1]
    exact xg_e ⟨0, w, ⟨rfl, rfl⟩, hw2.symm, hI, xFr.rf⟩
  · refine xg_kn (xg_lcmp (u := vv) (v := 12641458)) (xpt_lt _) (xlc_ne (by omega) (by omega) hc1) (fun z3 hz4 hz5 => ?_)
    refine xg_t (xg_ifT (u := z3) rfl xnm0 (xj_neT hz5)) ?_
    refine xg_t (xg_blq rfl) ?_
    refine xg_t (xg_lload (u := vv) rfl) ?_
    refine xg_t (xg_bip) ?_
    refine xg_t (xg_bip) ?_
    refine xg_t (xg_bip) ?_
    refine xg_t (xg_bip) ?_
    refine xg_t (xg_cSr mX12_four (vs := [(0, 108), (0, 105), (0, 102), (0, 101)]) (rest := [(4, vv)]) (rs := [(4, 402629), (4, vv)]) (cn1 := 0) (sl1 := 0) rfl (mL_four_108_105_102_101) rfl rfl rfl rfl rfl rfl rfl rfl) ?_
    by_cases hc6 : vv = 402629
    · refine xg_kz (xg_lcmp (u := vv) (v := 402629)) (xlc_eq hc6) ?_
      refine xg_t (xg_ifF (u := 0) rfl xnm0 (by decide)) ?_
      refine xg_t (xg_const) ?_
      have hw7 : wixF vv = 1 := by
        unfold wixF
        rw [if_neg hc1, if_pos hc6]
      exact xg_e ⟨1, w, ⟨rfl, rfl⟩, hw7.symm, hI, xFr.rf⟩
    · refine xg_kn (xg_lcmp (u := vv) (v := 402629)) (xpt_lt _) (xlc_ne (by omega) (by omega) hc6) (fun z8 hz9 hz10 => ?_)
      refine xg_t (xg_ifT (u := z8) rfl xnm0 (xj_neT hz10)) ?_
      refine xg_t (xg_blq rfl) ?_
      refine xg_t (xg_lload (u := vv) rfl) ?_
      refine xg_t (xg_bip) ?_
      refine xg_t (xg_bip) ?_
      refine xg_t (xg_bip) ?_
      refine xg_t (xg_bip) ?_
      refine xg_t (xg_bip) ?_
      refine xg_t (xg_cSr mX12_five (vs := [(0, 102), (0, 111), (0, 108), (0, 100), (0, 115)]) (rest := [(4, vv)]) (rs := [(4, 6795411), (4, vv)]) (cn1 := 0) (sl1 := 0) rfl (mL_five_102_111_108_100_115) rfl rfl rfl rfl rfl rfl rfl rfl) ?_
      by_cases hc11 : vv = 6795411
      · refine xg_kz (xg_lcmp (u := vv) (v := 6795411)) (xlc_eq hc11) ?_
        refine xg_t (xg_ifF (u := 0) rfl xnm0 (by decide)) ?_
        refine xg_t (xg_const) ?_
        have hw12 : wixF vv = 2 := by
          unfold wixF
          rw [if_neg hc1, if_neg hc6, if_pos hc11]
        exact xg_e ⟨2, w, ⟨rfl, rfl⟩, hw12.symm, hI, xFr.rf⟩
      · refine xg_kn (xg_lcmp (u := vv) (v := 6795411)) (xpt_lt _) (xlc_ne (by omega) (by omega) hc11) (fun z13 hz14 hz15 => ?_)
        refine xg_t (xg_ifT (u := z13) rfl xnm0 (xj_neT hz15)) ?_
        refine xg_t (xg_blq rfl) ?_
        refine xg_t (xg_lload (u := vv) rfl) ?_
        refine xg_t (xg_bip) ?_
        refine xg_t (xg_bip) ?_
        refine xg_t (xg_bip) ?_
        refine xg_t (xg_bip) ?_
        refine xg_t (xg_bip) ?_
        refine xg_t (xg_cSr mX12_five (vs := [(0, 112), (0, 97), (0, 110), (0, 101), (0, 108)]) (rest := [(4, vv)]) (rs := [(4, 16824492), (4, vv)]) (cn1 := 0) (sl1 := 0) rfl (mL_five_112_97_110_101_108) rfl rfl rfl rfl rfl rfl rfl rfl) ?_
        by_cases hc16 : vv = 16824492
        · refine xg_kz (xg_lcmp (u := vv) (v := 16824492)) (xlc_eq hc16) ?_
          refine xg_t (xg_ifF (u := 0) rfl xnm0 (by decide)) ?_
          refine xg_t (xg_const) ?_
          have hw17 : wixF vv = 3 := by
            unfold wixF
            rw [if_neg hc1, if_neg hc6, if_neg hc11, if_pos hc16]
          exact xg_e ⟨3, w, ⟨rfl, rfl⟩, hw17.symm, hI, xFr.rf⟩
        · refine xg_kn (xg_lcmp (u := vv) (v := 16824492)) (xpt_lt _) (xlc_ne (by omega) (by omega) hc16) (fun z18 hz19 hz20 => ?_)
          refine xg_t (xg_ifT (u := z18) rfl xnm0 (xj_neT hz20)) ?_
          refine xg_t (xg_blq rfl) ?_
          refine xg_t (xg_lload (u := vv) rfl) ?_
          refine xg_t (xg_bip) ?_
          refine xg_t (xg_bip) ?_
          refine xg_t (xg_bip) ?_
          refine xg_t (xg_bip) ?_
          refine xg_t (xg_cSr mX12_four (vs := [(0, 102), (0, 108), (0, 97), (0, 119)]) (rest := [(4, vv)]) (rs := [(4, 208951), (4, vv)]) (cn1 := 0) (sl1 := 0) rfl (mL_four_102_108_97_119) rfl rfl rfl rfl rfl rfl rfl rfl) ?_
          by_cases hc21 : vv = 208951
          · refine xg_kz (xg_lcmp (u := vv) (v := 208951)) (xlc_eq hc21) ?_
            refine xg_t (xg_ifF (u := 0) rfl xnm0 (by decide)) ?_
            refine xg_t (xg_const) ?_
            have hw22 : wixF vv = 4 := by
              unfold wixF
              rw [if_neg hc1, if_neg hc6, if_neg hc11, if_neg hc16, if_pos hc21]
            exact xg_e ⟨4, w, ⟨rfl, rfl⟩, hw22.symm, hI, xFr.rf⟩
          · refine xg_kn (xg_lcmp (u := vv) (v := 208951)) (xpt_lt _) (xlc_ne (by omega) (by omega) hc21) (fun z23 hz24 hz25 => ?_)
            refine xg_t (xg_ifT (u := z23) rfl xnm0 (xj_neT hz25)) ?_
            refine xg_t (xg_blq rfl) ?_
            refine xg_t (xg_lload (u := vv) rfl) ?_
            refine xg_t (xg_bip) ?_
            refine xg_t (xg_bip) ?_
            refine xg_t (xg_bip) ?_
            refine xg_t (xg_bip) ?_
            refine xg_t (xg_bip) ?_
            refine xg_t (xg_cSr mX12_five (vs := [(0, 115), (0, 104), (0, 101), (0, 101), (0, 116)]) (rest := [(4, vv)]) (rs := [(4, 20190388), (4, vv)]) (cn1 := 0) (sl1 := 0) rfl (mL_five_115_104_101_101_116) rfl rfl rfl rfl rfl rfl rfl rfl) ?_
            by_cases hc26 : vv = 20190388
            · refine xg_kz (xg_lcmp (u := vv) (v := 20190388)) (xlc_eq hc26) ?_
              refine xg_t (xg_ifF (u := 0) rfl xnm0 (by decide)) ?_
              refine xg_t (xg_const) ?_
              have hw27 : wixF vv = 5 := by
                unfold wixF
                rw [if_neg hc1, if_neg hc6, if_neg hc11, if_neg hc16, if_neg hc21, if_pos hc26]
              exact xg_e ⟨5, w, ⟨rfl, rfl⟩, hw27.symm, hI, xFr.rf⟩
            · refine xg_kn (xg_lcmp (u := vv) (v := 20190388)) (xpt_lt _) (xlc_ne (by omega) (by omega) hc26) (fun z28 hz29 hz30 => ?_)
              refine xg_t (xg_ifT (u := z28) rfl xnm0 (xj_neT hz30)) ?_
              refine xg_t (xg_blq rfl) ?_
              refine xg_t (xg_lload (u := vv) rfl) ?_
              refine xg_t (xg_bip) ?_
              refine xg_t (xg_bip) ?_
              refine xg_t (xg_bip) ?_
              refine xg_t (xg_cSr mX12_three (vs := [(0, 110), (0, 101), (0, 116)]) (rest := [(4, vv)]) (rs := [(4, 14516), (4, vv)]) (cn1 := 0) (sl1 := 0) rfl (mL_three_110_101_116) rfl rfl rfl rfl rfl rfl rfl rfl) ?_
              by_cases hc31 : vv = 14516
              · refine xg_kz (xg_lcmp (u := vv) (v := 14516)) (xlc_eq hc31) ?_
                refine xg_t (xg_ifF (u := 0) rfl xnm0 (by decide)) ?_
                refine xg_t (xg_bip) ?_
                have hw32 : wixF vv = 6 := by
                  unfold wixF
                  rw [if_neg hc1, if_neg hc6, if_neg hc11, if_neg hc16, if_neg hc21, if_neg hc26, if_pos hc31]
                exact xg_e ⟨6, w, ⟨rfl, rfl⟩, hw32.symm, hI, xFr.rf⟩
              · refine xg_kn (xg_lcmp (u := vv) (v := 14516)) (xpt_lt _) (xlc_ne (by omega) (by omega) hc31) (fun z33 hz34 hz35 => ?_)
                refine xg_t (xg_ifT (u := z33) rfl xnm0 (xj_neT hz35)) ?_
                refine xg_t (xg_blq rfl) ?_
                refine xg_t (xg_lload (u := vv) rfl) ?_
                refine xg_t (xg_bip) ?_
                refine xg_t (xg_bip) ?_
                refine xg_t (xg_bip) ?_
                refine xg_t (xg_bip) ?_
                refine xg_t (xg_cSr mX12_four (vs := [(0, 104), (0, 111), (0, 108), (0, 100)]) (rest := [(4, vv)]) (rs := [(4, 277892), (4, vv)]) (cn1 := 0) (sl1 := 0) rfl (mL_four_104_111_108_100) rfl rfl rfl rfl rfl rfl rfl rfl) ?_
                by_cases hc36 : vv = 277892
                · refine xg_kz (xg_lcmp (u := vv) (v := 277892)) (xlc_eq hc36) ?_
                  refine xg_t (xg_ifF (u := 0) rfl xnm0 (by decide)) ?_
                  refine xg_t (xg_bip) ?_
                  have hw37 : wixF vv = 7 := by
                    unfold wixF
                    rw [if_neg hc1, if_neg hc6, if_neg hc11, if_neg hc16, if_neg hc21, if_neg hc26, if_neg hc31, if_pos hc36]
                  exact xg_e ⟨7, w, ⟨rfl, rfl⟩, hw37.symm, hI, xFr.rf⟩
                · refine xg_kn (xg_lcmp (u := vv) (v := 277892)) (xpt_lt _) (xlc_ne (by omega) (by omega) hc36) (fun z38 hz39 hz40 => ?_)
                  refine xg_t (xg_ifT (u := z38) rfl xnm0 (xj_neT hz40)) ?_
                  refine xg_t (xg_blq rfl) ?_
                  refine xg_t (xg_lload (u := vv) rfl) ?_
                  refine xg_t (xg_bip) ?_
                  refine xg_t (xg_bip) ?_
                  refine xg_t (xg_bip) ?_
                  refine xg_t (xg_bip) ?_
                  refine xg_t (xg_bip) ?_
                  refine xg_t (xg_cSr mX12_five (vs := [(0, 115), (0, 108), (0, 105), (0, 100), (0, 101)]) (rest := [(4, vv)]) (rs := [(4, 20325509), (4, vv)]) (cn1 := 0) (sl1 := 0) rfl (mL_five_115_108_105_100_101) rfl rfl rfl rfl rfl rfl rfl rfl) ?_
                  by_cases hc41 : vv = 20325509
                  · refine xg_kz (xg_lcmp (u := vv) (v := 20325509)) (xlc_eq hc41) ?_
                    refine xg_t (xg_ifF (u := 0) rfl xnm0 (by decide)) ?_
                    refine xg_t (xg_bip) ?_
                    have hw42 : wixF vv = 8 := by
                      unfold wixF
                      rw [if_neg hc1, if_neg hc6, if_neg hc11, if_neg hc16, if_neg hc21, if_neg hc26, if_neg hc31, if_neg hc36, if_pos hc41]
                    exact xg_e ⟨8, w, ⟨rfl, rfl⟩, hw42.symm, hI, xFr.rf⟩
                  · refine xg_kn (xg_lcmp (u := vv) (v := 20325509)) (xpt_lt _) (xlc_ne (by omega) (by omega) hc41) (fun z43 hz44 hz45 => ?_)
                    refine xg_t (xg_ifT (u := z43) rfl xnm0 (xj_neT hz45)) ?_
                    refine xg_t (xg_blq rfl) ?_
                    refine xg_t (xg_bip) ?_
                    have hw46 : wixF vv = 99 := by
                      unfold wixF
                      rw [if_neg hc1, if_neg hc6, if_neg hc11, if_neg hc16, if_neg hc21, if_neg hc26, if_neg hc31, if_neg hc36, if_neg hc41]
                    exact xg_e ⟨99, w, ⟨rfl, rfl⟩, hw46.symm, hI, xFr.rf⟩
theorem mL_three_100_101_115 : xPr d mX12_three [(0, 100), (0, 101), (0, 115)] w bd fc rr [(4, 4275)] w := by
  refine xPr.of ?_
  show xTo d mX12_three (0, [], [(0, (0, 100)), (1, (0, 101)), (2, (0, 115))], [], (w, bd, fc, 0, 0, rr)) (xEnd 2 [(4, 4275)] (w, bd, fc, 0, 0, rr))
  refine xg_t (xg_blq rfl) ?_
  refine xg_t (xg_ldc2) ?_
  refine xg_t (xg_iload (va := (0, 100)) rfl rfl) ?_
  refine xg_t (xg_bip) ?_
  refine xg_t (xg_isub (u := 100) (v := 96) (z := 4) xnm0 xnm0 (by decide)) ?_
  refine xg_t (xg_i2l (u := 4) xnm0) ?_
  refine xg_t (xg_lre (b := 4) (by rw [xlp_eq]; exact nI_l (by omega))) ?_
  refine xg_t (xg_lmul (u := 32) (v := 4)) ?_
  refine xg_t (xg_lre (b := 128) (by rw [xlp_eq]; exact lN_mul _ _)) ?_
  refine xg_t (xg_iload (va := (0, 101)) rfl rfl) ?_
  refine xg_t (xg_i2l (u := 101) xnm0) ?_
  refine xg_t (xg_lre (b := 101) (by rw [xlp_eq]; exact nI_l (by omega))) ?_
  refine xg_t (xg_ladd (u := 128) (v := 101)) ?_
  refine xg_t (xg_lre (b := 229) (by rw [xlp_eq]; exact lN_add _ _)) ?_
  refine xg_t (xg_ldc2) ?_
  refine xg_t (xg_lsub (u := 229) (v := 96)) ?_
  refine xg_t (xg_lre (b := 133) (by rw [xlp_eq]; exact lN_sub (by omega))) ?_
  refine xg_t (xg_ldc2) ?_
  refine xg_t (xg_lmul (u := 133) (v := 32)) ?_
  refine xg_t (xg_lre (b := 4256) (by rw [xlp_eq]; exact lN_mul _ _)) ?_
  refine xg_t (xg_iload (va := (0, 115)) rfl rfl) ?_
  refine xg_t (xg_i2l (u := 115) xnm0) ?_
  refine xg_t (xg_lre (b := 115) (by rw [xlp_eq]; exact nI_l (by omega))) ?_
  refine xg_t (xg_ladd (u := 4256) (v := 115)) ?_
  refine xg_t (xg_lre (b := 4371) (by rw [xlp_eq]; exact lN_add _ _)) ?_
  refine xg_t (xg_ldc2) ?_
  refine xg_t (xg_lsub (u := 4371) (v := 96)) ?_
  refine xg_t (xg_lre (b := 4275) (by rw [xlp_eq]; exact lN_sub (by omega))) ?_
  exact xg_e ⟨rfl, rfl⟩
theorem mL_six_19849_4275 : xPr d mX12_six [(4, 19849), (4, 4275)] w bd fc rr [(4, 650416307)] w := by
  refine xPr.of ?_
  show xTo d mX12_six (0, [], [(0, (4, 19849)), (2, (4, 4275))], [], (w, bd, fc, 0, 0, rr)) (xEnd 2 [(4, 650416307)] (w, bd, fc, 0, 0, rr))
  refine xg_t (xg_blq rfl) ?_
  refine xg_t (xg_lload (u := 19849) rfl) ?_
  refine xg_t (xg_ldc2) ?_
  refine xg_t (xg_lmul (u := 19849) (v := 32768)) ?_
  refine xg_t (xg_lre (b := 650412032) (by rw [xlp_eq]; exact lN_mul _ _)) ?_
  refine xg_t (xg_lload (u := 4275) rfl) ?_
  refine xg_t (xg_ladd (u := 650412032) (v := 4275)) ?_
  refine xg_t (xg_lre (b := 650416307) (by rw [xlp_eq]; exact lN_add _ _)) ?_
  exact xg_e ⟨rfl, rfl⟩
theorem mL_three_119_104_111 : xPr d mX12_three [(0, 119), (0, 104), (0, 111)] w bd fc rr [(4, 23823)] w := by
  refine xPr.of ?_
  show xTo d mX12_three (0, [], [(0, (0, 119)), (1, (0, 104)), (2, (0, 111))], [], (w, bd, fc, 0, 0, rr)) (xEnd 2 [(4, 23823)] (w, bd, fc, 0, 0, rr))
  refine xg_t (xg_blq rfl) ?_
  refine xg_t (xg_ldc2) ?_
  refine xg_t (xg_iload (va := (0, 119)) rfl rfl) ?_
  refine xg_t (xg_bip) ?_
  refine xg_t (xg_isub (u := 119) (v := 96) (z := 23) xnm0 xnm0 (by decide)) ?_
  refine xg_t (xg_i2l (u := 23) xnm0) ?_
  refine xg_t (xg_lre (b := 23) (by rw [xlp_eq]; exact nI_l (by omega))) ?_
  refine xg_t (xg_lmul (u := 32) (v := 23)) ?_
  refine xg_t (xg_lre (b := 736) (by rw [xlp_eq]; exact lN_mul _ _)) ?_
  refine xg_t (xg_iload (va := (0, 104)) rfl rfl) ?_
  refine xg_t (xg_i2l (u := 104) xnm0) ?_
  refine xg_t (xg_lre (b := 104) (by rw [xlp_eq]; exact nI_l (by omega))) ?_
  refine xg_t (xg_ladd (u := 736) (v := 104)) ?_
  refine xg_t (xg_lre (b := 840) (by rw [xlp_eq]; exact lN_add _ _)) ?_
  refine xg_t (xg_ldc2) ?_
  refine xg_t (xg_lsub (u := 840) (v := 96)) ?_
  refine xg_t (xg_lre (b := 744) (by rw [xlp_eq]; exact lN_sub (by omega))) ?_
  refine xg_t (xg_ldc2) ?_
  refine xg_t (xg_lmul (u := 744) (v := 32)) ?_
  refine xg_t (xg_lre (b := 23808) (by rw [xlp_eq]; exact lN_mul _ _)) ?_
  refine xg_t (xg_iload (va := (0, 111)) rfl rfl) ?_
  refine xg_t (xg_i2l (u := 111) xnm0) ?_
  refine xg_t (xg_lre (b := 111) (by rw [xlp_eq]; exact nI_l (by omega))) ?_
  refine xg_t (xg_ladd (u := 23808) (v := 111)) ?_
  refine xg_t (xg_lre (b := 23919) (by rw [xlp_eq]; exact lN_add _ _)) ?_
  refine xg_t (xg_ldc2) ?_
  refine xg_t (xg_lsub (u := 23919) (v := 96)) ?_
  refine xg_t (xg_lre (b := 23823) (by rw [xlp_eq]; exact lN_sub (by omega))) ?_
  exact xg_e ⟨rfl, rfl⟩
theorem mL_four_119_104_111_108 : xPr (d + 1) mX12_four [(0, 119), (0, 104), (0, 111), (0, 108)] w bd fc rr [(4, 762348)] w := by
  refine xPr.of ?_
  show xTo (d + 1) mX12_four (0, [], [(0, (0, 119)), (1, (0, 104)), (2, (0, 111)), (3, (0, 108))], [], (w, bd, fc, 0, 0, rr)) (xEnd 2 [(4, 762348)] (w, bd, fc, 0, 0, rr))
  refine xg_t (xg_blq rfl) ?_
  refine xg_t (xg_iload (va := (0, 119)) rfl rfl) ?_
  refine xg_t (xg_iload (va := (0, 104)) rfl rfl) ?_
  refine xg_t (xg_iload (va := (0, 111)) rfl rfl) ?_
  refine xg_t (xg_cSr mX12_three (vs := [(0, 119), (0, 104), (0, 111)]) (rest := []) (rs := [(4, 23823)]) (cn1 := 0) (sl1 := 0) rfl (mL_three_119_104_111) rfl rfl rfl rfl rfl rfl rfl rfl) ?_
  refine xg_t (xg_ldc2) ?_
  refine xg_t (xg_lmul (u := 23823) (v := 32)) ?_
  refine xg_t (xg_lre (b := 762336) (by rw [xlp_eq]; exact lN_mul _ _)) ?_
  refine xg_t (xg_iload (va := (0, 108)) rfl rfl) ?_
  refine xg_t (xg_i2l (u := 108) xnm0) ?_
  refine xg_t (xg_lre (b := 108) (by rw [xlp_eq]; exact nI_l (by omega))) ?_
  refine xg_t (xg_ladd (u := 762336) (v := 108)) ?_
  refine xg_t (xg_lre (b := 762444) (by rw [xlp_eq]; exact lN_add _ _)) ?_
  refine xg_t (xg_ldc2) ?_
  refine xg_t (xg_lsub (u := 762444) (v := 96)) ?_
  refine xg_t (xg_lre (b := 762348) (by rw [xlp_eq]; exact lN_sub (by omega))) ?_
  exact xg_e ⟨rfl, rfl⟩
theorem mL_five_119_104_111_108_101 : xPr (d + 2) mX12_five [(0, 119), (0, 104), (0, 111), (0, 108), (0, 101)] w bd fc rr [(4, 24395141)] w := by
  refine xPr.of ?_
  show xTo (d + 2) mX12_five (0, [], [(0, (0, 119)), (1, (0, 104)), (2, (0, 111)), (3, (0, 108)), (4, (0, 101))], [], (w, bd, fc, 0, 0, rr)) (xEnd 2 [(4, 24395141)] (w, bd, fc, 0, 0, rr))
  refine xg_t (xg_blq rfl) ?_
  refine xg_t (xg_iload (va := (0, 119)) rfl rfl) ?_
  refine xg_t (xg_iload (va := (0, 104)) rfl rfl) ?_
  refine xg_t (xg_iload (va := (0, 111)) rfl rfl) ?_
  refine xg_t (xg_iload (va := (0, 108)) rfl rfl) ?_
  refine xg_t (xg_cSr mX12_four (vs := [(0, 119), (0, 104), (0, 111), (0, 108)]) (rest := []) (rs := [(4, 762348)]) (cn1 := 0) (sl1 := 0) rfl (mL_four_119_104_111_108) rfl rfl rfl rfl rfl rfl rfl rfl) ?_
  refine xg_t (xg_ldc2) ?_
  refine xg_t (xg_lmul (u := 762348) (v := 32)) ?_
  refine xg_t (xg_lre (b := 24395136) (by rw [xlp_eq]; exact lN_mul _ _)) ?_
  refine xg_t (xg_iload (va := (0, 101)) rfl rfl) ?_
  refine xg_t (xg_i2l (u := 101) xnm0) ?_
  refine xg_t (xg_lre (b := 101) (by rw [xlp_eq]; exact nI_l (by omega))) ?_
  refine xg_t (xg_ladd (u := 24395136) (v := 101)) ?_
  refine xg_t (xg_lre (b := 24395237) (by rw [xlp_eq]; exact lN_add _ _)) ?_
  refine xg_t (xg_ldc2) ?_
  refine xg_t (xg_lsub (u := 24395237) (v := 96)) ?_
  refine xg_t (xg_lre (b := 24395141) (by rw [xlp_eq]; exact lN_sub (by omega))) ?_
  exact xg_e ⟨rfl, rfl⟩
theorem mL_three_101_114_115 : xPr d mX12_three [(0, 101), (0, 114), (0, 115)] w bd fc rr [(4, 5715)] w := by
  refine xPr.of ?_
  show xTo d mX12_three (0, [], [(0, (0, 101)), (1, (0, 114)), (2, (0, 115))], [], (w, bd, fc, 0, 0, rr)) (xEnd 2 [(4, 5715)] (w, bd, fc, 0, 0, rr))
  refine xg_t (xg_blq rfl) ?_
  refine xg_t (xg_ldc2) ?_
  refine xg_t (xg_iload (va := (0, 101)) rfl rfl) ?_
  refine xg_t (xg_bip) ?_
  refine xg_t (xg_isub (u := 101) (v := 96) (z := 5) xnm0 xnm0 (by decide)) ?_
  refine xg_t (xg_i2l (u := 5) xnm0) ?_
  refine xg_t (xg_lre (b := 5) (by rw [xlp_eq]; exact nI_l (by omega))) ?_
  refine xg_t (xg_lmul (u := 32) (v := 5)) ?_
  refine xg_t (xg_lre (b := 160) (by rw [xlp_eq]; exact lN_mul _ _)) ?_
  refine xg_t (xg_iload (va := (0, 114)) rfl rfl) ?_
  refine xg_t (xg_i2l (u := 114) xnm0) ?_
  refine xg_t (xg_lre (b := 114) (by rw [xlp_eq]; exact nI_l (by omega))) ?_
  refine xg_t (xg_ladd (u := 160) (v := 114)) ?_
  refine xg_t (xg_lre (b := 274) (by rw [xlp_eq]; exact lN_add _ _)) ?_
  refine xg_t (xg_ldc2) ?_
  refine xg_t (xg_lsub (u := 274) (v := 96)) ?_
  refine xg_t (xg_lre (b := 178) (by rw [xlp_eq]; exact lN_sub (by omega))) ?_
  refine xg_t (xg_ldc2) ?_
  refine xg_t (xg_lmul (u := 178) (v := 32)) ?_
  refine xg_t (xg_lre (b := 5696) (by rw [xlp_eq]; exact lN_mul _ _)) ?_
  refine xg_t (xg_iload (va := (0, 115)) rfl rfl) ?_
  refine xg_t (xg_i2l (u := 115) xnm0) ?_
  refine xg_t (xg_lre (b := 115) (by rw [xlp_eq]; exact nI_l (by omega))) ?_
  refine xg_t (xg_ladd (u := 5696) (v := 115)) ?_
  refine xg_t (xg_lre (b := 5811) (by rw [xlp_eq]; exact lN_add _ _)) ?_
  refine xg_t (xg_ldc2) ?_
  refine xg_t (xg_lsub (u := 5811) (v := 96)) ?_
  refine xg_t (xg_lre (b := 5715) (by rw [xlp_eq]; exact lN_sub (by omega))) ?_
  exact xg_e ⟨rfl, rfl⟩
theorem mL_six_12345_5715 : xPr d mX12_six [(4, 12345), (4, 5715)] w bd fc rr [(4, 404526675)] w := by
  refine xPr.of ?_
  show xTo d mX12_six (0, [], [(0, (4, 12345)), (2, (4, 5715))], [], (w, bd, fc, 0, 0, rr)) (xEnd 2 [(4, 404526675)] (w, bd, fc, 0, 0, rr))
  refine xg_t (xg_blq rfl) ?_
  refine xg_t (xg_lload (u := 12345) rfl) ?_
  refine xg_t (xg_ldc2) ?_
  refine xg_t (xg_lmul (u := 12345) (v := 32768)) ?_
  refine xg_t (xg_lre (b := 404520960) (by rw [xlp_eq]; exact lN_mul _ _)) ?_
  refine xg_t (xg_lload (u := 5715) rfl) ?_
  refine xg_t (xg_ladd (u := 404520960) (v := 5715)) ?_
  refine xg_t (xg_lre (b := 404526675) (by rw [xlp_eq]; exact lN_add _ _)) ?_
  exact xg_e ⟨rfl, rfl⟩
theorem mL_three_108_101_97 : xPr d mX12_three [(0, 108), (0, 101), (0, 97)] w bd fc rr [(4, 12449)] w := by
  refine xPr.of ?_
  show xTo d mX12_three (0, [], [(0, (0, 108)), (1, (0, 101)), (2, (0, 97))], [], (w, bd, fc, 0, 0, rr)) (xEnd 2 [(4, 12449)] (w, bd, fc, 0, 0, rr))
  refine xg_t (xg_blq rfl) ?_
  refine xg_t (xg_ldc2) ?_
  refine xg_t (xg_iload (va := (0, 108)) rfl rfl) ?_
  refine xg_t (xg_bip) ?_
  refine xg_t (xg_isub (u := 108) (v := 96) (z := 12) xnm0 xnm0 (by decide)) ?_
  refine xg_t (xg_i2l (u := 12) xnm0) ?_
  refine xg_t (xg_lre (b := 12) (by rw [xlp_eq]; exact nI_l (by omega))) ?_
  refine xg_t (xg_lmul (u := 32) (v := 12)) ?_
  refine xg_t (xg_lre (b := 384) (by rw [xlp_eq]; exact lN_mul _ _)) ?_
  refine xg_t (xg_iload (va := (0, 101)) rfl rfl) ?_
  refine xg_t (xg_i2l (u := 101) xnm0) ?_
  refine xg_t (xg_lre (b := 101) (by rw [xlp_eq]; exact nI_l (by omega))) ?_
  refine xg_t (xg_ladd (u := 384) (v := 101)) ?_
  refine xg_t (xg_lre (b := 485) (by rw [xlp_eq]; exact lN_add _ _)) ?_
  refine xg_t (xg_ldc2) ?_
  refine xg_t (xg_lsub (u := 485) (v := 96)) ?_
  refine xg_t (xg_lre (b := 389) (by rw [xlp_eq]; exact lN_sub (by omega))) ?_
  refine xg_t (xg_ldc2) ?_
  refine xg_t (xg_lmul (u := 389) (v := 32)) ?_
  refine xg_t (xg_lre (b := 12448) (by rw [xlp_eq]; exact lN_mul _ _)) ?_
  refine xg_t (xg_iload (va := (0, 97)) rfl rfl) ?_
  refine xg_t (xg_i2l (u := 97) xnm0) ?_
  refine xg_t (xg_lre (b := 97) (by rw [xlp_eq]; exact nI_l (by omega))) ?_
  refine xg_t (xg_ladd (u := 12448) (v := 97)) ?_
  refine xg_t (xg_lre (b := 12545) (by rw [xlp_eq]; exact lN_add _ _)) ?_
  refine xg_t (xg_ldc2) ?_
  refine xg_t (xg_lsub (u := 12545) (v := 96)) ?_
  refine xg_t (xg_lre (b := 12449) (by rw [xlp_eq]; exact lN_sub (by omega))) ?_
  exact xg_e ⟨rfl, rfl⟩
theorem mL_four_108_101_97_115 : xPr (d + 1) mX12_four [(0, 108), (0, 101), (0, 97), (0, 115)] w bd fc rr [(4, 398387)] w := by
  refine xPr.of ?_
  show xTo (d + 1) mX12_four (0, [], [(0, (0, 108)), (1, (0, 101)), (2, (0, 97)), (3, (0, 115))], [], (w, bd, fc, 0, 0, rr)) (xEnd 2 [(4, 398387)] (w, bd, fc, 0, 0, rr))
  refine xg_t (xg_blq rfl) ?_
  refine xg_t (xg_iload (va := (0, 108)) rfl rfl) ?_
  refine xg_t (xg_iload (va := (0, 101)) rfl rfl) ?_
  refine xg_t (xg_iload (va := (0, 97)) rfl rfl) ?_
  refine xg_t (xg_cSr mX12_three (vs := [(0, 108), (0, 101), (0, 97)]) (rest := []) (rs := [(4, 12449)]) (cn1 := 0) (sl1 := 0) rfl (mL_three_108_101_97) rfl rfl rfl rfl rfl rfl rfl rfl) ?_
  refine xg_t (xg_ldc2) ?_
  refine xg_t (xg_lmul (u := 12449) (v := 32)) ?_
  refine xg_t (xg_lre (b := 398368) (by rw [xlp_eq]; exact lN_mul _ _)) ?_
  refine xg_t (xg_iload (va := (0, 115)) rfl rfl) ?_
  refine xg_t (xg_i2l (u := 115) xnm0) ?_
  refine xg_t (xg_lre (b := 115) (by rw [xlp_eq]; exact nI_l (by omega))) ?_
  refine xg_t (xg_ladd (u := 398368) (v := 115)) ?_
  refine xg_t (xg_lre (b := 398483) (by rw [xlp_eq]; exact lN_add _ _)) ?_
  refine xg_t (xg_ldc2) ?_
  refine xg_t (xg_lsub (u := 398483) (v := 96)) ?_
  refine xg_t (xg_lre (b := 398387) (by rw [xlp_eq]; exact lN_sub (by omega))) ?_
  exact xg_e ⟨rfl, rfl⟩
theorem mL_five_108_101_97_115_116 : xPr (d + 2) mX12_five [(0, 108), (0, 101), (0, 97), (0, 115), (0, 116)] w bd fc rr [(4, 12748404)] w := by
  refine xPr.of ?_
  show xTo (d + 2) mX12_five (0, [], [(0, (0, 108)), (1, (0, 101)), (2, (0, 97)), (3, (0, 115)), (4, (0, 116))], [], (w, bd, fc, 0, 0, rr)) (xEnd 2 [(4, 12748404)] (w, bd, fc, 0, 0, rr))
  refine xg_t (xg_blq rfl) ?_
  refine xg_t (xg_iload (va := (0, 108)) rfl rfl) ?_
  refine xg_t (xg_iload (va := (0, 101)) rfl rfl) ?_
  refine xg_t (xg_iload (va := (0, 97)) rfl rfl) ?_
  refine xg_t (xg_iload (va := (0, 115)) rfl rfl) ?_
  refine xg_t (xg_cSr mX12_four (vs := [(0, 108), (0, 101), (0, 97), (0, 115)]) (rest := []) (rs := [(4, 398387)]) (cn1 := 0) (sl1 := 0) rfl (mL_four_108_101_97_115) rfl rfl rfl rfl rfl rfl rfl rfl) ?_
  refine xg_t (xg_ldc2) ?_
  refine xg_t (xg_lmul (u := 398387) (v := 32)) ?_
  refine xg_t (xg_lre (b := 12748384) (by rw [xlp_eq]; exact lN_mul _ _)) ?_
  refine xg_t (xg_iload (va := (0, 116)) rfl rfl) ?_
  refine xg_t (xg_i2l (u := 116) xnm0) ?_
  refine xg_t (xg_lre (b := 116) (by rw [xlp_eq]; exact nI_l (by omega))) ?_
  refine xg_t (xg_ladd (u := 12748384) (v := 116)) ?_
  refine xg_t (xg_lre (b := 12748500) (by rw [xlp_eq]; exact lN_add _ _)) ?_
  refine xg_t (xg_ldc2) ?_
  refine xg_t (xg_lsub (u := 12748500) (v := 96)) ?_
  refine xg_t (xg_lre (b := 12748404) (by rw [xlp_eq]; exact lN_sub (by omega))) ?_
  exact xg_e ⟨rfl, rfl⟩
theorem mL_three_114_111_119 : xPr d mX12_three [(0, 114), (0, 111), (0, 119)] w bd fc rr [(4, 18935)] w := by
  refine xPr.of ?_
  show xTo d mX12_three (0, [], [(0, (0, 114)), (1, (0, 111)), (2, (0, 119))], [], (w, bd, fc, 0, 0, rr)) (xEnd 2 [(4, 18935)] (w, bd, fc, 0, 0, rr))
  refine xg_t (xg_blq rfl) ?_
  refine xg_t (xg_ldc2) ?_
  refine xg_t (xg_iload (va := (0, 114)) rfl rfl) ?_
  refine xg_t (xg_bip) ?_
  refine xg_t (xg_isub (u := 114) (v := 96) (z := 18) xnm0 xnm0 (by decide)) ?_
  refine xg_t (xg_i2l (u := 18) xnm0) ?_
  refine xg_t (xg_lre (b := 18) (by rw [xlp_eq]; exact nI_l (by omega))) ?_
  refine xg_t (xg_lmul (u := 32) (v := 18)) ?_
  refine xg_t (xg_lre (b := 576) (by rw [xlp_eq]; exact lN_mul _ _)) ?_
  refine xg_t (xg_iload (va := (0, 111)) rfl rfl) ?_
  refine xg_t (xg_i2l (u := 111) xnm0) ?_
  refine xg_t (xg_lre (b := 111) (by rw [xlp_eq]; exact nI_l (by omega))) ?_
  refine xg_t (xg_ladd (u := 576) (v := 111)) ?_
  refine xg_t (xg_lre (b := 687) (by rw [xlp_eq]; exact lN_add _ _)) ?_
  refine xg_t (xg_ldc2) ?_
  refine xg_t (xg_lsub (u := 687) (v := 96)) ?_
  refine xg_t (xg_lre (b := 591) (by rw [xlp_eq]; exact lN_sub (by omega))) ?_
  refine xg_t (xg_ldc2) ?_
  refine xg_t (xg_lmul (u := 591) (v := 32)) ?_
  refine xg_t (xg_lre (b := 18912) (by rw [xlp_eq]; exact lN_mul _ _)) ?_
  refine xg_t (xg_iload (va := (0, 119)) rfl rfl) ?_
  refine xg_t (xg_i2l (u := 119) xnm0) ?_
  refine xg_t (xg_lre (b := 119) (by rw [xlp_eq]; exact nI_l (by omega))) ?_
  refine xg_t (xg_ladd (u := 18912) (v := 119)) ?_
  refine xg_t (xg_lre (b := 19031) (by rw [xlp_eq]; exact lN_add _ _)) ?_
  refine xg_t (xg_ldc2) ?_
  refine xg_t (xg_lsub (u := 19031) (v := 96)) ?_
  refine xg_t (xg_lre (b := 18935) (by rw [xlp_eq]; exact lN_sub (by omega))) ?_
  exact xg_e ⟨rfl, rfl⟩
theorem mL_four_114_111_119_115 : xPr (d + 1) mX12_four [(0, 114), (0, 111), (0, 119), (0, 115)] w bd fc rr [(4, 605939)] w := by
  refine xPr.of ?_
  show xTo (d + 1) mX12_four (0, [], [(0, (0, 114)), (1, (0, 111)), (2, (0, 119)), (3, (0, 115))], [], (w, bd, fc, 0, 0, rr)) (xEnd 2 [(4, 605939)] (w, bd, fc, 0, 0, rr))
  refine xg_t (xg_blq rfl) ?_
  refine xg_t (xg_iload (va := (0, 114)) rfl rfl) ?_
  refine xg_t (xg_iload (va := (0, 111)) rfl rfl) ?_
  refine xg_t (xg_iload (va := (0, 119)) rfl rfl) ?_
  refine xg_t (xg_cSr mX12_three (vs := [(0, 114), (0, 111), (0, 119)]) (rest := []) (rs := [(4, 18935)]) (cn1 := 0) (sl1 := 0) rfl (mL_three_114_111_119) rfl rfl rfl rfl rfl rfl rfl rfl) ?_
  refine xg_t (xg_ldc2) ?_
  refine xg_t (xg_lmul (u := 18935) (v := 32)) ?_
  refine xg_t (xg_lre (b := 605920) (by rw [xlp_eq]; exact lN_mul _ _)) ?_
  refine xg_t (xg_iload (va := (0, 115)) rfl rfl) ?_
  refine xg_t (xg_i2l (u := 115) xnm0) ?_
  refine xg_t (xg_lre (b := 115) (by rw [xlp_eq]; exact nI_l (by omega))) ?_
  refine xg_t (xg_ladd (u := 605920) (v := 115)) ?_
  refine xg_t (xg_lre (b := 606035) (by rw [xlp_eq]; exact lN_add _ _)) ?_
  refine xg_t (xg_ldc2) ?_
  refine xg_t (xg_lsub (u := 606035) (v := 96)) ?_
  refine xg_t (xg_lre (b := 605939) (by rw [xlp_eq]; exact lN_sub (by omega))) ?_
  exact xg_e ⟨rfl, rfl⟩
theorem mL_three_102_101_100 : xPr d mX12_three [(0, 102), (0, 101), (0, 100)] w bd fc rr [(4, 6308)] w := by
  refine xPr.of ?_
  show xTo d mX12_three (0, [], [(0, (0, 102)), (1, (0, 101)), (2, (0, 100))], [], (w, bd, fc, 0, 0, rr)) (xEnd 2 [(4, 6308)] (w, bd, fc, 0, 0, rr))
  refine xg_t (xg_blq rfl) ?_
  refine xg_t (xg_ldc2) ?_
  refine xg_t (xg_iload (va := (0, 102)) rfl rfl) ?_
  refine xg_t (xg_bip) ?_
  refine xg_t (xg_isub (u := 102) (v := 96) (z := 6) xnm0 xnm0 (by decide)) ?_
  refine xg_t (xg_i2l (u := 6) xnm0) ?_
  refine xg_t (xg_lre (b := 6) (by rw [xlp_eq]; exact nI_l (by omega))) ?_
  refine xg_t (xg_lmul (u := 32) (v := 6)) ?_
  refine xg_t (xg_lre (b := 192) (by rw [xlp_eq]; exact lN_mul _ _)) ?_
  refine xg_t (xg_iload (va := (0, 101)) rfl rfl) ?_
  refine xg_t (xg_i2l (u := 101) xnm0) ?_
  refine xg_t (xg_lre (b := 101) (by rw [xlp_eq]; exact nI_l (by omega))) ?_
  refine xg_t (xg_ladd (u := 192) (v := 101)) ?_
  refine xg_t (xg_lre (b := 293) (by rw [xlp_eq]; exact lN_add _ _)) ?_
  refine xg_t (xg_ldc2) ?_
  refine xg_t (xg_lsub (u := 293) (v := 96)) ?_
  refine xg_t (xg_lre (b := 197) (by rw [xlp_eq]; exact lN_sub (by omega))) ?_
  refine xg_t (xg_ldc2) ?_
  refine xg_t (xg_lmul (u := 197) (v := 32)) ?_
  refine xg_t (xg_lre (b := 6304) (by rw [xlp_eq]; exact lN_mul _ _)) ?_
  refine xg_t (xg_iload (va := (0, 100)) rfl rfl) ?_
  refine xg_t (xg_i2l (u := 100) xnm0) ?_
  refine xg_t (xg_lre (b := 100) (by rw [xlp_eq]; exact nI_l (by omega))) ?_
  refine xg_t (xg_ladd (u := 6304) (v := 100)) ?_
  refine xg_t (xg_lre (b := 6404) (by rw [xlp_eq]; exact lN_add _ _)) ?_
  refine xg_t (xg_ldc2) ?_
  refine xg_t (xg_lsub (u := 6404) (v := 96)) ?_
  refine xg_t (xg_lre (b := 6308) (by rw [xlp_eq]; exact lN_sub (by omega))) ?_
  exact xg_e ⟨rfl, rfl⟩
theorem mL_three_100_97_114 : xPr d mX12_three [(0, 100), (0, 97), (0, 114)] w bd fc rr [(4, 4146)] w := by
  refine xPr.of ?_
  show xTo d mX12_three (0, [], [(0, (0, 100)), (1, (0, 97)), (2, (0, 114))], [], (w, bd, fc, 0, 0, rr)) (xEnd 2 [(4, 4146)] (w, bd, fc, 0, 0, rr))
  refine xg_t (xg_blq rfl) ?_
  refine xg_t (xg_ldc2) ?_
  refine xg_t (xg_iload (va := (0, 100)) rfl rfl) ?_
  refine xg_t (xg_bip) ?_
  refine xg_t (xg_isub (u := 100) (v := 96) (z := 4) xnm0 xnm0 (by decide)) ?_
  refine xg_t (xg_i2l (u := 4) xnm0) ?_
  refine xg_t (xg_lre (b := 4) (by rw [xlp_eq]; exact nI_l (by omega))) ?_
  refine xg_t (xg_lmul (u := 32) (v := 4)) ?_
  refine xg_t (xg_lre (b := 128) (by rw [xlp_eq]; exact lN_mul _ _)) ?_
  refine xg_t (xg_iload (va := (0, 97)) rfl rfl) ?_
  refine xg_t (xg_i2l (u := 97) xnm0) ?_
  refine xg_t (xg_lre (b := 97) (by rw [xlp_eq]; exact nI_l (by omega))) ?_
  refine xg_t (xg_ladd (u := 128) (v := 97)) ?_
  refine xg_t (xg_lre (b := 225) (by rw [xlp_eq]; exact lN_add _ _)) ?_
  refine xg_t (xg_ldc2) ?_
  refine xg_t (xg_lsub (u := 225) (v := 96)) ?_
  refine xg_t (xg_lre (b := 129) (by rw [xlp_eq]; exact lN_sub (by omega))) ?_
  refine xg_t (xg_ldc2) ?_
  refine xg_t (xg_lmul (u := 129) (v := 32)) ?_
  refine xg_t (xg_lre (b := 4128) (by rw [xlp_eq]; exact lN_mul _ _)) ?_
  refine xg_t (xg_iload (va := (0, 114)) rfl rfl) ?_
  refine xg_t (xg_i2l (u := 114) xnm0) ?_
  refine xg_t (xg_lre (b := 114) (by rw [xlp_eq]; exact nI_l (by omega))) ?_
  refine xg_t (xg_ladd (u := 4128) (v := 114)) ?_
  refine xg_t (xg_lre (b := 4242) (by rw [xlp_eq]; exact lN_add _ _)) ?_
  refine xg_t (xg_ldc2) ?_
  refine xg_t (xg_lsub (u := 4242) (v := 96)) ?_
  refine xg_t (xg_lre (b := 4146) (by rw [xlp_eq]; exact lN_sub (by omega))) ?_
  exact xg_e ⟨rfl, rfl⟩
theorem mL_four_100_97_114_107 : xPr (d + 1) mX12_four [(0, 100), (0, 97), (0, 114), (0, 107)] w bd fc rr [(4, 132683)] w := by
  refine xPr.of ?_
  show xTo (d + 1) mX12_four (0, [], [(0, (0, 100)), (1, (0, 97)), (2, (0, 114)), (3, (0, 107))], [], (w, bd, fc, 0, 0, rr)) (xEnd 2 [(4, 132683)] (w, bd, fc, 0, 0, rr))
  refine xg_t (xg_blq rfl) ?_
  refine xg_t (xg_iload (va := (0, 100)) rfl rfl) ?_
  refine xg_t (xg_iload (va := (0, 97)) rfl rfl) ?_
  refine xg_t (xg_iload (va := (0, 114)) rfl rfl) ?_
  refine xg_t (xg_cSr mX12_three (vs := [(0, 100), (0, 97), (0, 114)]) (rest := []) (rs := [(4, 4146)]) (cn1 := 0) (sl1 := 0) rfl (mL_three_100_97_114) rfl rfl rfl rfl rfl rfl rfl rfl) ?_
  refine xg_t (xg_ldc2) ?_
  refine xg_t (xg_lmul (u := 4146) (v := 32)) ?_
  refine xg_t (xg_lre (b := 132672) (by rw [xlp_eq]; exact lN_mul _ _)) ?_
  refine xg_t (xg_iload (va := (0, 107)) rfl rfl) ?_
  refine xg_t (xg_i2l (u := 107) xnm0) ?_
  refine xg_t (xg_lre (b := 107) (by rw [xlp_eq]; exact nI_l (by omega))) ?_
  refine xg_t (xg_ladd (u := 132672) (v := 107)) ?_
  refine xg_t (xg_lre (b := 132779) (by rw [xlp_eq]; exact lN_add _ _)) ?_
  refine xg_t (xg_ldc2) ?_
  refine xg_t (xg_lsub (u := 132779) (v := 96)) ?_
  refine xg_t (xg_lre (b := 132683) (by rw [xlp_eq]; exact lN_sub (by omega))) ?_
  exact xg_e ⟨rfl, rfl⟩
theorem mL_five_100_97_114_107_115 : xPr (d + 2) mX12_five [(0, 100), (0, 97), (0, 114), (0, 107), (0, 115)] w bd fc rr [(4, 4245875)] w := by
  refine xPr.of ?_
  show xTo (d + 2) mX12_five (0, [], [(0, (0, 100)), (1, (0, 97)), (2, (0, 114)), (3, (0, 107)), (4, (0, 115))], [], (w, bd, fc, 0, 0, rr)) (xEnd 2 [(4, 4245875)] (w, bd, fc, 0, 0, rr))
  refine xg_t (xg_blq rfl) ?_
  refine xg_t (xg_iload (va := (0, 100)) rfl rfl) ?_
  refine xg_t (xg_iload (va := (0, 97)) rfl rfl) ?_
  refine xg_t (xg_iload (va := (0, 114)) rfl rfl) ?_
  refine xg_t (xg_iload (va := (0, 107)) rfl rfl) ?_
  refine xg_t (xg_cSr mX12_four (vs := [(0, 100), (0, 97), (0, 114), (0, 107)]) (rest := []) (rs := [(4, 132683)]) (cn1 := 0) (sl1 := 0) rfl (mL_four_100_97_114_107) rfl rfl rfl rfl rfl rfl rfl rfl) ?_
  refine xg_t (xg_ldc2) ?_
  refine xg_t (xg_lmul (u := 132683) (v := 32)) ?_
  refine xg_t (xg_lre (b := 4245856) (by rw [xlp_eq]; exact lN_mul _ _)) ?_
  refine xg_t (xg_iload (va := (0, 115)) rfl rfl) ?_
  refine xg_t (xg_i2l (u := 115) xnm0) ?_
  refine xg_t (xg_lre (b := 115) (by rw [xlp_eq]; exact nI_l (by omega))) ?_
  refine xg_t (xg_ladd (u := 4245856) (v := 115)) ?_
  refine xg_t (xg_lre (b := 4245971) (by rw [xlp_eq]; exact lN_add _ _)) ?_
  refine xg_t (xg_ldc2) ?_
  refine xg_t (xg_lsub (u := 4245971) (v := 96)) ?_
  refine xg_t (xg_lre (b := 4245875) (by rw [xlp_eq]; exact lN_sub (by omega))) ?_
  exact xg_e ⟨rfl, rfl⟩
theorem mL_three_119_111_114 : xPr d mX12_three [(0, 119), (0, 111), (0, 114)] w bd fc rr [(4, 24050)] w := by
  refine xPr.of ?_
  show xTo d mX12_three (0, [], [(0, (0, 119)), (1, (0, 111)), (2, (0, 114))], [], (w, bd, fc, 0, 0, rr)) (xEnd 2 [(4, 24050)] (w, bd, fc, 0, 0, rr))
  refine xg_t (xg_blq rfl) ?_
  refine xg_t (xg_ldc2) ?_
  refine xg_t (xg_iload (va := (0, 119)) rfl rfl) ?_
  refine xg_t (xg_bip) ?_
  refine xg_t (xg_isub (u := 119) (v := 96) (z := 23) xnm0 xnm0 (by decide)) ?_
  refine xg_t (xg_i2l (u := 23) xnm0) ?_
  refine xg_t (xg_lre (b := 23) (by rw [xlp_eq]; exact nI_l (by omega))) ?_
  refine xg_t (xg_lmul (u := 32) (v := 23)) ?_
  refine xg_t (xg_lre (b := 736) (by rw [xlp_eq]; exact lN_mul _ _)) ?_
  refine xg_t (xg_iload (va := (0, 111)) rfl rfl) ?_
  refine xg_t (xg_i2l (u := 111) xnm0) ?_
  refine xg_t (xg_lre (b := 111) (by rw [xlp_eq]; exact nI_l (by omega))) ?_
  refine xg_t (xg_ladd (u := 736) (v := 111)) ?_
  refine xg_t (xg_lre (b := 847) (by rw [xlp_eq]; exact lN_add _ _)) ?_
  refine xg_t (xg_ldc2) ?_
  refine xg_t (xg_lsub (u := 847) (v := 96)) ?_
  refine xg_t (xg_lre (b := 751) (by rw [xlp_eq]; exact lN_sub (by omega))) ?_
  refine xg_t (xg_ldc2) ?_
  refine xg_t (xg_lmul (u := 751) (v := 32)) ?_
  refine xg_t (xg_lre (b := 24032) (by rw [xlp_eq]; exact lN_mul _ _)) ?_
  refine xg_t (xg_iload (va := (0, 114)) rfl rfl) ?_
  refine xg_t (xg_i2l (u := 114) xnm0) ?_
  refine xg_t (xg_lre (b := 114) (by rw [xlp_eq]; exact nI_l (by omega))) ?_
  refine xg_t (xg_ladd (u := 24032) (v := 114)) ?_
  refine xg_t (xg_lre (b := 24146) (by rw [xlp_eq]; exact lN_add _ _)) ?_
  refine xg_t (xg_ldc2) ?_
  refine xg_t (xg_lsub (u := 24146) (v := 96)) ?_
  refine xg_t (xg_lre (b := 24050) (by rw [xlp_eq]; exact lN_sub (by omega))) ?_
  exact xg_e ⟨rfl, rfl⟩
theorem mL_four_119_111_114_116 : xPr (d + 1) mX12_four [(0, 119), (0, 111), (0, 114), (0, 116)] w bd fc rr [(4, 769620)] w := by
  refine xPr.of ?_
  show xTo (d + 1) mX12_four (0, [], [(0, (0, 119)), (1, (0, 111)), (2, (0, 114)), (3, (0, 116))], [], (w, bd, fc, 0, 0, rr)) (xEnd 2 [(4, 769620)] (w, bd, fc, 0, 0, rr))
  refine xg_t (xg_blq rfl) ?_
  refine xg_t (xg_iload (va := (0, 119)) rfl rfl) ?_
  refine xg_t (xg_iload (va := (0, 111)) rfl rfl) ?_
  refine xg_t (xg_iload (va := (0, 114)) rfl rfl) ?_
  refine xg_t (xg_cSr mX12_three (vs := [(0, 119), (0, 111), (0, 114)]) (rest := []) (rs := [(4, 24050)]) (cn1 := 0) (sl1 := 0) rfl (mL_three_119_111_114) rfl rfl rfl rfl rfl rfl rfl rfl) ?_
  refine xg_t (xg_ldc2) ?_
  refine xg_t (xg_lmul (u := 24050) (v := 32)) ?_
  refine xg_t (xg_lre (b := 769600) (by rw [xlp_eq]; exact lN_mul _ _)) ?_
  refine xg_t (xg_iload (va := (0, 116)) rfl rfl) ?_
  refine xg_t (xg_i2l (u := 116) xnm0) ?_
  refine xg_t (xg_lre (b := 116) (by rw [xlp_eq]; exact nI_l (by omega))) ?_
  refine xg_t (xg_ladd (u := 769600) (v := 116)) ?_
  refine xg_t (xg_lre (b := 769716) (by rw [xlp_eq]; exact lN_add _ _)) ?_
  refine xg_t (xg_ldc2) ?_
  refine xg_t (xg_lsub (u := 769716) (v := 96)) ?_
  refine xg_t (xg_lre (b := 769620) (by rw [xlp_eq]; exact lN_sub (by omega))) ?_
  exact xg_e ⟨rfl, rfl⟩
theorem mL_five_119_111_114_116_104 : xPr (d + 2) mX12_five [(0, 119), (0, 111), (0, 114), (0, 116), (0, 104)] w bd fc rr [(4, 24627848)] w := by
  refine xPr.of ?_
  show xTo (d + 2) mX12_five (0, [], [(0, (0, 119)), (1, (0, 111)), (2, (0, 114)), (3, (0, 116)), (4, (0, 104))], [], (w, bd, fc, 0, 0, rr)) (xEnd 2 [(4, 24627848)] (w, bd, fc, 0, 0, rr))
  refine xg_t (xg_blq rfl) ?_
  refine xg_t (xg_iload (va := (0, 119)) rfl rfl) ?_
  refine xg_t (xg_iload (va := (0, 111)) rfl rfl) ?_
  refine xg_t (xg_iload (va := (0, 114)) rfl rfl) ?_
  refine xg_t (xg_iload (va := (0, 116)) rfl rfl) ?_
  refine xg_t (xg_cSr mX12_four (vs := [(0, 119), (0, 111), (0, 114), (0, 116)]) (rest := []) (rs := [(4, 769620)]) (cn1 := 0) (sl1 := 0) rfl (mL_four_119_111_114_116) rfl rfl rfl rfl rfl rfl rfl rfl) ?_
  refine xg_t (xg_ldc2) ?_
  refine xg_t (xg_lmul (u := 769620) (v := 32)) ?_
  refine xg_t (xg_lre (b := 24627840) (by rw [xlp_eq]; exact lN_mul _ _)) ?_
  refine xg_t (xg_iload (va := (0, 104)) rfl rfl) ?_
  refine xg_t (xg_i2l (u := 104) xnm0) ?_
  refine xg_t (xg_lre (b := 104) (by rw [xlp_eq]; exact nI_l (by omega))) ?_
  refine xg_t (xg_ladd (u := 24627840) (v := 104)) ?_
  refine xg_t (xg_lre (b := 24627944) (by rw [xlp_eq]; exact lN_add _ _)) ?_
  refine xg_t (xg_ldc2) ?_
  refine xg_t (xg_lsub (u := 24627944) (v := 96)) ?_
  refine xg_t (xg_lre (b := 24627848) (by rw [xlp_eq]; exact lN_sub (by omega))) ?_
  exact xg_e ⟨rfl, rfl⟩
theorem mL_three_99_114_97 : xPr d mX12_three [(0, 99), (0, 114), (0, 97)] w bd fc rr [(4, 3649)] w := by
  refine xPr.of ?_
  show xTo d mX12_three (0, [], [(0, (0, 99)), (1, (0, 114)), (2, (0, 97))], [], (w, bd, fc, 0, 0, rr)) (xEnd 2 [(4, 3649)] (w, bd, fc, 0, 0, rr))
  refine xg_t (xg_blq rfl) ?_
  refine xg_t (xg_ldc2) ?_
  refine xg_t (xg_iload (va := (0, 99)) rfl rfl) ?_
  refine xg_t (xg_bip) ?_
  refine xg_t (xg_isub (u := 99) (v := 96) (z := 3) xnm0 xnm0 (by decide)) ?_
  refine xg_t (xg_i2l (u := 3) xnm0) ?_
  refine xg_t (xg_lre (b := 3) (by rw [xlp_eq]; exact nI_l (by omega))) ?_
  refine xg_t (xg_lmul (u := 32) (v := 3)) ?_
  refine xg_t (xg_lre (b := 96) (by rw [xlp_eq]; exact lN_mul _ _)) ?_
  refine xg_t (xg_iload (va := (0, 114)) rfl rfl) ?_
  refine xg_t (xg_i2l (u := 114) xnm0) ?_
  refine xg_t (xg_lre (b := 114) (by rw [xlp_eq]; exact nI_l (by omega))) ?_
  refine xg_t (xg_ladd (u := 96) (v := 114)) ?_
  refine xg_t (xg_lre (b := 210) (by rw [xlp_eq]; exact lN_add _ _)) ?_
  refine xg_t (xg_ldc2) ?_
  refine xg_t (xg_lsub (u := 210) (v := 96)) ?_
  refine xg_t (xg_lre (b := 114) (by rw [xlp_eq]; exact lN_sub (by omega))) ?_
  refine xg_t (xg_ldc2) ?_
  refine xg_t (xg_lmul (u := 114) (v := 32)) ?_
  refine xg_t (xg_lre (b := 3648) (by rw [xlp_eq]; exact lN_mul _ _)) ?_
  refine xg_t (xg_iload (va := (0, 97)) rfl rfl) ?_
  refine xg_t (xg_i2l (u := 97) xnm0) ?_
  refine xg_t (xg_lre (b := 97) (by rw [xlp_eq]; exact nI_l (by omega))) ?_
  refine xg_t (xg_ladd (u := 3648) (v := 97)) ?_
  refine xg_t (xg_lre (b := 3745) (by rw [xlp_eq]; exact lN_add _ _)) ?_
  refine xg_t (xg_ldc2) ?_
  refine xg_t (xg_lsub (u := 3745) (v := 96)) ?_
  refine xg_t (xg_lre (b := 3649) (by rw [xlp_eq]; exact lN_sub (by omega))) ?_
  exact xg_e ⟨rfl, rfl⟩
theorem mL_three_99_107_115 : xPr d mX12_three [(0, 99), (0, 107), (0, 115)] w bd fc rr [(4, 3443)] w := by
  refine xPr.of ?_
  show xTo d mX12_three (0, [], [(0, (0, 99)), (1, (0, 107)), (2, (0, 115))], [], (w, bd, fc, 0, 0, rr)) (xEnd 2 [(4, 3443)] (w, bd, fc, 0, 0, rr))
  refine xg_t (xg_blq rfl) ?_
  refine xg_t (xg_ldc2) ?_
  refine xg_t (xg_iload (va := (0, 99)) rfl rfl) ?_
  refine xg_t (xg_bip) ?_
  refine xg_t (xg_isub (u := 99) (v := 96) (z := 3) xnm0 xnm0 (by decide)) ?_
  refine xg_t (xg_i2l (u := 3) xnm0) ?_
  refine xg_t (xg_lre (b := 3) (by rw [xlp_eq]; exact nI_l (by omega))) ?_
  refine xg_t (xg_lmul (u := 32) (v := 3)) ?_
  refine xg_t (xg_lre (b := 96) (by rw [xlp_eq]; exact lN_mul _ _)) ?_
  refine xg_t (xg_iload (va := (0, 107)) rfl rfl) ?_
  refine xg_t (xg_i2l (u := 107) xnm0) ?_
  refine xg_t (xg_lre (b := 107) (by rw [xlp_eq]; exact nI_l (by omega))) ?_
  refine xg_t (xg_ladd (u := 96) (v := 107)) ?_
  refine xg_t (xg_lre (b := 203) (by rw [xlp_eq]; exact lN_add _ _)) ?_
  refine xg_t (xg_ldc2) ?_
  refine xg_t (xg_lsub (u := 203) (v := 96)) ?_
  refine xg_t (xg_lre (b := 107) (by rw [xlp_eq]; exact lN_sub (by omega))) ?_
  refine xg_t (xg_ldc2) ?_
  refine xg_t (xg_lmul (u := 107) (v := 32)) ?_
  refine xg_t (xg_lre (b := 3424) (by rw [xlp_eq]; exact lN_mul _ _)) ?_
  refine xg_t (xg_iload (va := (0, 115)) rfl rfl) ?_
  refine xg_t (xg_i2l (u := 115) xnm0) ?_
  refine xg_t (xg_lre (b := 115) (by rw [xlp_eq]; exact nI_l (by omega))) ?_
  refine xg_t (xg_ladd (u := 3424) (v := 115)) ?_
  refine xg_t (xg_lre (b := 3539) (by rw [xlp_eq]; exact lN_add _ _)) ?_
  refine xg_t (xg_ldc2) ?_
  refine xg_t (xg_lsub (u := 3539) (v := 96)) ?_
  refine xg_t (xg_lre (b := 3443) (by rw [xlp_eq]; exact lN_sub (by omega))) ?_
  exact xg_e ⟨rfl, rfl⟩
theorem mL_six_3649_3443 : xPr d mX12_six [(4, 3649), (4, 3443)] w bd fc rr [(4, 119573875)] w := by
  refine xPr.of ?_
  show xTo d mX12_six (0, [], [(0, (4, 3649)), (2, (4, 3443))], [], (w, bd, fc, 0, 0, rr)) (xEnd 2 [(4, 119573875)] (w, bd, fc, 0, 0, rr))
  refine xg_t (xg_blq rfl) ?_
  refine xg_t (xg_lload (u := 3649) rfl) ?_
  refine xg_t (xg_ldc2) ?_
  refine xg_t (xg_lmul (u := 3649) (v := 32768)) ?_
  refine xg_t (xg_lre (b := 119570432) (by rw [xlp_eq]; exact lN_mul _ _)) ?_
  refine xg_t (xg_lload (u := 3443) rfl) ?_
  refine xg_t (xg_ladd (u := 119570432) (v := 3443)) ?_
  refine xg_t (xg_lre (b := 119573875) (by rw [xlp_eq]; exact lN_add _ _)) ?_
  exact xg_e ⟨rfl, rfl⟩
theorem mL_three_107_101_112 : xPr d mX12_three [(0, 107), (0, 101), (0, 112)] w bd fc rr [(4, 11440)] w := by
  refine xPr.of ?_
  show xTo d mX12_three (0, [], [(0, (0, 107)), (1, (0, 101)), (2, (0, 112))], [], (w, bd, fc, 0, 0, rr)) (xEnd 2 [(4, 11440)] (w, bd, fc, 0, 0, rr))
  refine xg_t (xg_blq rfl) ?_
  refine xg_t (xg_ldc2) ?_
  refine xg_t (xg_iload (va := (0, 107)) rfl rfl) ?_
  refine xg_t (xg_bip) ?_
  refine xg_t (xg_isub (u := 107) (v := 96) (z := 11) xnm0 xnm0 (by decide)) ?_
  refine xg_t (xg_i2l (u := 11) xnm0) ?_
  refine xg_t (xg_lre (b := 11) (by rw [xlp_eq]; exact nI_l (by omega))) ?_
  refine xg_t (xg_lmul (u := 32) (v := 11)) ?_
  refine xg_t (xg_lre (b := 352) (by rw [xlp_eq]; exact lN_mul _ _)) ?_
  refine xg_t (xg_iload (va := (0, 101)) rfl rfl) ?_
  refine xg_t (xg_i2l (u := 101) xnm0) ?_
  refine xg_t (xg_lre (b := 101) (by rw [xlp_eq]; exact nI_l (by omega))) ?_
  refine xg_t (xg_ladd (u := 352) (v := 101)) ?_
  refine xg_t (xg_lre (b := 453) (by rw [xlp_eq]; exact lN_add _ _)) ?_
  refine xg_t (xg_ldc2) ?_
  refine xg_t (xg_lsub (u := 453) (v := 96)) ?_
  refine xg_t (xg_lre (b := 357) (by rw [xlp_eq]; exact lN_sub (by omega))) ?_
  refine xg_t (xg_ldc2) ?_
  refine xg_t (xg_lmul (u := 357) (v := 32)) ?_
  refine xg_t (xg_lre (b := 11424) (by rw [xlp_eq]; exact lN_mul _ _)) ?_
  refine xg_t (xg_iload (va := (0, 112)) rfl rfl) ?_
  refine xg_t (xg_i2l (u := 112) xnm0) ?_
  refine xg_t (xg_lre (b := 112) (by rw [xlp_eq]; exact nI_l (by omega))) ?_
  refine xg_t (xg_ladd (u := 11424) (v := 112)) ?_
  refine xg_t (xg_lre (b := 11536) (by rw [xlp_eq]; exact lN_add _ _)) ?_
  refine xg_t (xg_ldc2) ?_
  refine xg_t (xg_lsub (u := 11536) (v := 96)) ?_
  refine xg_t (xg_lre (b := 11440) (by rw [xlp_eq]; exact lN_sub (by omega))) ?_
  exact xg_e ⟨rfl, rfl⟩
theorem mL_four_107_101_112_116 : xPr (d + 1) mX12_four [(0, 107), (0, 101), (0, 112), (0, 116)] w bd fc rr [(4, 366100)] w := by
  refine xPr.of ?_
  show xTo (d + 1) mX12_four (0, [], [(0, (0, 107)), (1, (0, 101)), (2, (0, 112)), (3, (0, 116))], [], (w, bd, fc, 0, 0, rr)) (xEnd 2 [(4, 366100)] (w, bd, fc, 0, 0, rr))
  refine xg_t (xg_blq rfl) ?_
  refine xg_t (xg_iload (va := (0, 107)) rfl rfl) ?_
  refine xg_t (xg_iload (va := (0, 101)) rfl rfl) ?_
  refine xg_t (xg_iload (va := (0, 112)) rfl rfl) ?_
  refine xg_t (xg_cSr mX12_three (vs := [(0, 107), (0, 101), (0, 112)]) (rest := []) (rs := [(4, 11440)]) (cn1 := 0) (sl1 := 0) rfl (mL_three_107_101_112) rfl rfl rfl rfl rfl rfl rfl rfl) ?_
  refine xg_t (xg_ldc2) ?_
  refine xg_t (xg_lmul (u := 11440) (v := 32)) ?_
  refine xg_t (xg_lre (b := 366080) (by rw [xlp_eq]; exact lN_mul _ _)) ?_
  refine xg_t (xg_iload (va := (0, 116)) rfl rfl) ?_
  refine xg_t (xg_i2l (u := 116) xnm0) ?_
  refine xg_t (xg_lre (b := 116) (by rw [xlp_eq]; exact nI_l (by omega))) ?_
  refine xg_t (xg_ladd (u := 366080) (v := 116)) ?_
  refine xg_t (xg_lre (b := 366196) (by rw [xlp_eq]; exact lN_add _ _)) ?_
  refine xg_t (xg_ldc2) ?_
  refine xg_t (xg_lsub (u := 366196) (v := 96)) ?_
  refine xg_t (xg_lre (b := 366100) (by rw [xlp_eq]; exact lN_sub (by omega))) ?_
  exact xg_e ⟨rfl, rfl⟩
theorem mL_three_100_97_121 : xPr d mX12_three [(0, 100), (0, 97), (0, 121)] w bd fc rr [(4, 4153)] w := by
  refine xPr.of ?_
  show xTo d mX12_three (0, [], [(0, (0, 100)), (1, (0, 97)), (2, (0, 121))], [], (w, bd, fc, 0, 0, rr)) (xEnd 2 [(4, 4153)] (w, bd, fc, 0, 0, rr))
  refine xg_t (xg_blq rfl) ?_
  refine xg_t (xg_ldc2) ?_
  refine xg_t (xg_iload (va := (0, 100)) rfl rfl) ?_
  refine xg_t (xg_bip) ?_
  refine xg_t (xg_isub (u := 100) (v := 96) (z := 4) xnm0 xnm0 (by decide)) ?_
  refine xg_t (xg_i2l (u := 4) xnm0) ?_
  refine xg_t (xg_lre (b := 4) (by rw [xlp_eq]; exact nI_l (by omega))) ?_
  refine xg_t (xg_lmul (u := 32) (v := 4)) ?_
  refine xg_t (xg_lre (b := 128) (by rw [xlp_eq]; exact lN_mul _ _)) ?_
  refine xg_t (xg_iload (va := (0, 97)) rfl rfl) ?_
  refine xg_t (xg_i2l (u := 97) xnm0) ?_
  refine xg_t (xg_lre (b := 97) (by rw [xlp_eq]; exact nI_l (by omega))) ?_
  refine xg_t (xg_ladd (u := 128) (v := 97)) ?_
  refine xg_t (xg_lre (b := 225) (by rw [xlp_eq]; exact lN_add _ _)) ?_
  refine xg_t (xg_ldc2) ?_
  refine xg_t (xg_lsub (u := 225) (v := 96)) ?_
  refine xg_t (xg_lre (b := 129) (by rw [xlp_eq]; exact lN_sub (by omega))) ?_
  refine xg_t (xg_ldc2) ?_
  refine xg_t (xg_lmul (u := 129) (v := 32)) ?_
  refine xg_t (xg_lre (b := 4128) (by rw [xlp_eq]; exact lN_mul _ _)) ?_
  refine xg_t (xg_iload (va := (0, 121)) rfl rfl) ?_
  refine xg_t (xg_i2l (u := 121) xnm0) ?_
  refine xg_t (xg_lre (b := 121) (by rw [xlp_eq]; exact nI_l (by omega))) ?_
  refine xg_t (xg_ladd (u := 4128) (v := 121)) ?_
  refine xg_t (xg_lre (b := 4249) (by rw [xlp_eq]; exact lN_add _ _)) ?_
  refine xg_t (xg_ldc2) ?_
  refine xg_t (xg_lsub (u := 4249) (v := 96)) ?_
  refine xg_t (xg_lre (b := 4153) (by rw [xlp_eq]; exact lN_sub (by omega))) ?_
  exact xg_e ⟨rfl, rfl⟩
theorem mL_three_98_97_114 : xPr d mX12_three [(0, 98), (0, 97), (0, 114)] w bd fc rr [(4, 2098)] w := by
  refine xPr.of ?_
  show xTo d mX12_three (0, [], [(0, (0, 98)), (1, (0, 97)), (2, (0, 114))], [], (w, bd, fc, 0, 0, rr)) (xEnd 2 [(4, 2098)] (w, bd, fc, 0, 0, rr))
  refine xg_t (xg_blq rfl) ?_
  refine xg_t (xg_ldc2) ?_
  refine xg_t (xg_iload (va := (0, 98)) rfl rfl) ?_
  refine xg_t (xg_bip) ?_
  refine xg_t (xg_isub (u := 98) (v := 96) (z := 2) xnm0 xnm0 (by decide)) ?_
  refine xg_t (xg_i2l (u := 2) xnm0) ?_
  refine xg_t (xg_lre (b := 2) (by rw [xlp_eq]; exact nI_l (by omega))) ?_
  refine xg_t (xg_lmul (u := 32) (v := 2)) ?_
  refine xg_t (xg_lre (b := 64) (by rw [xlp_eq]; exact lN_mul _ _)) ?_
  refine xg_t (xg_iload (va := (0, 97)) rfl rfl) ?_
  refine xg_t (xg_i2l (u := 97) xnm0) ?_
  refine xg_t (xg_lre (b := 97) (by rw [xlp_eq]; exact nI_l (by omega))) ?_
  refine xg_t (xg_ladd (u := 64) (v := 97)) ?_
  refine xg_t (xg_lre (b := 161) (by rw [xlp_eq]; exact lN_add _ _)) ?_
  refine xg_t (xg_ldc2) ?_
  refine xg_t (xg_lsub (u := 161) (v := 96)) ?_
  refine xg_t (xg_lre (b := 65) (by rw [xlp_eq]; exact lN_sub (by omega))) ?_
  refine xg_t (xg_ldc2) ?_
  refine xg_t (xg_lmul (u := 65) (v := 32)) ?_
  refine xg_t (xg_lre (b := 2080) (by rw [xlp_eq]; exact lN_mul _ _)) ?_
  refine xg_t (xg_iload (va := (0, 114)) rfl rfl) ?_
  refine xg_t (xg_i2l (u := 114) xnm0) ?_
  refine xg_t (xg_lre (b := 114) (by rw [xlp_eq]; exact nI_l (by omega))) ?_
  refine xg_t (xg_ladd (u := 2080) (v := 114)) ?_
  refine xg_t (xg_lre (b := 2194) (by rw [xlp_eq]; exact lN_add _ _)) ?_
  refine xg_t (xg_ldc2) ?_
  refine xg_t (xg_lsub (u := 2194) (v := 96)) ?_
  refine xg_t (xg_lre (b := 2098) (by rw [xlp_eq]; exact lN_sub (by omega))) ?_
  exact xg_e ⟨rfl, rfl⟩
theorem mL_three_112_114_105 : xPr d mX12_three [(0, 112), (0, 114), (0, 105)] w bd fc rr [(4, 16969)] w := by
  refine xPr.of ?_
  show xTo d mX12_three (0, [], [(0, (0, 112)), (1, (0, 114)), (2, (0, 105))], [], (w, bd, fc, 0, 0, rr)) (xEnd 2 [(4, 16969)] (w, bd, fc, 0, 0, rr))
  refine xg_t (xg_blq rfl) ?_
  refine xg_t (xg_ldc2) ?_
  refine xg_t (xg_iload (va := (0, 112)) rfl rfl) ?_
  refine xg_t (xg_bip) ?_
  refine xg_t (xg_isub (u := 112) (v := 96) (z := 16) xnm0 xnm0 (by decide)) ?_
  refine xg_t (xg_i2l (u := 16) xnm0) ?_
  refine xg_t (xg_lre (b := 16) (by rw [xlp_eq]; exact nI_l (by omega))) ?_
  refine xg_t (xg_lmul (u := 32) (v := 16)) ?_
  refine xg_t (xg_lre (b := 512) (by rw [xlp_eq]; exact lN_mul _ _)) ?_
  refine xg_t (xg_iload (va := (0, 114)) rfl rfl) ?_
  refine xg_t (xg_i2l (u := 114) xnm0) ?_
  refine xg_t (xg_lre (b := 114) (by rw [xlp_eq]; exact nI_l (by omega))) ?_
  refine xg_t (xg_ladd (u := 512) (v := 114)) ?_
  refine xg_t (xg_lre (b := 626) (by rw [xlp_eq]; exact lN_add _ _)) ?_
  refine xg_t (xg_ldc2) ?_
  refine xg_t (xg_lsub (u := 626) (v := 96)) ?_
  refine xg_t (xg_lre (b := 530) (by rw [xlp_eq]; exact lN_sub (by omega))) ?_
  refine xg_t (xg_ldc2) ?_
  refine xg_t (xg_lmul (u := 530) (v := 32)) ?_
  refine xg_t (xg_lre (b := 16960) (by rw [xlp_eq]; exact lN_mul _ _)) ?_
  refine xg_t (xg_iload (va := (0, 105)) rfl rfl) ?_
  refine xg_t (xg_i2l (u := 105) xnm0) ?_
  refine xg_t (xg_lre (b := 105) (by rw [xlp_eq]; exact nI_l (by omega))) ?_
  refine xg_t (xg_ladd (u := 16960) (v := 105)) ?_
  refine xg_t (xg_lre (b := 17065) (by rw [xlp_eq]; exact lN_add _ _)) ?_
  refine xg_t (xg_ldc2) ?_
  refine xg_t (xg_lsub (u := 17065) (v := 96)) ?_
  refine xg_t (xg_lre (b := 16969) (by rw [xlp_eq]; exact lN_sub (by omega))) ?_
  exact xg_e ⟨rfl, rfl⟩
theorem mL_four_112_114_105_99 : xPr (d + 1) mX12_four [(0, 112), (0, 114), (0, 105), (0, 99)] w bd fc rr [(4, 543011)] w := by
  refine xPr.of ?_
  show xTo (d + 1) mX12_four (0, [], [(0, (0, 112)), (1, (0, 114)), (2, (0, 105)), (3, (0, 99))], [], (w, bd, fc, 0, 0, rr)) (xEnd 2 [(4, 543011)] (w, bd, fc, 0, 0, rr))
  refine xg_t (xg_blq rfl) ?_
  refine xg_t (xg_iload (va := (0, 112)) rfl rfl) ?_
  refine xg_t (xg_iload (va := (0, 114)) rfl rfl) ?_
  refine xg_t (xg_iload (va := (0, 105)) rfl rfl) ?_
  refine xg_t (xg_cSr mX12_three (vs := [(0, 112), (0, 114), (0, 105)]) (rest := []) (rs := [(4, 16969)]) (cn1 := 0) (sl1 := 0) rfl (mL_three_112_114_105) rfl rfl rfl rfl rfl rfl rfl rfl) ?_
  refine xg_t (xg_ldc2) ?_
  refine xg_t (xg_lmul (u := 16969) (v := 32)) ?_
  refine xg_t (xg_lre (b := 543008) (by rw [xlp_eq]; exact lN_mul _ _)) ?_
  refine xg_t (xg_iload (va := (0, 99)) rfl rfl) ?_
  refine xg_t (xg_i2l (u := 99) xnm0) ?_
  refine xg_t (xg_lre (b := 99) (by rw [xlp_eq]; exact nI_l (by omega))) ?_
  refine xg_t (xg_ladd (u := 543008) (v := 99)) ?_
  refine xg_t (xg_lre (b := 543107) (by rw [xlp_eq]; exact lN_add _ _)) ?_
  refine xg_t (xg_ldc2) ?_
  refine xg_t (xg_lsub (u := 543107) (v := 96)) ?_
  refine xg_t (xg_lre (b := 543011) (by rw [xlp_eq]; exact lN_sub (by omega))) ?_
  exact xg_e ⟨rfl, rfl⟩
theorem mL_five_112_114_105_99_101 : xPr (d + 2) mX12_five [(0, 112), (0, 114), (0, 105), (0, 99), (0, 101)] w bd fc rr [(4, 17376357)] w := by
  refine xPr.of ?_
  show xTo (d + 2) mX12_five (0, [], [(0, (0, 112)), (1, (0, 114)), (2, (0, 105)), (3, (0, 99)), (4, (0, 101))], [], (w, bd, fc, 0, 0, rr)) (xEnd 2 [(4, 17376357)] (w, bd, fc, 0, 0, rr))
  refine xg_t (xg_blq rfl) ?_
  refine xg_t (xg_iload (va := (0, 112)) rfl rfl) ?_
  refine xg_t (xg_iload (va := (0, 114)) rfl rfl) ?_
  refine xg_t (xg_iload (va := (0, 105)) rfl rfl) ?_
  refine xg_t (xg_iload (va := (0, 99)) rfl rfl) ?_
  refine xg_t (xg_cSr mX12_four (vs := [(0, 112), (0, 114), (0, 105), (0, 99)]) (rest := []) (rs := [(4, 543011)]) (cn1 := 0) (sl1 := 0) rfl (mL_four_112_114_105_99) rfl rfl rfl rfl rfl rfl rfl rfl) ?_
  refine xg_t (xg_ldc2) ?_
  refine xg_t (xg_lmul (u := 543011) (v := 32)) ?_
  refine xg_t (xg_lre (b := 17376352) (by rw [xlp_eq]; exact lN_mul _ _)) ?_
  refine xg_t (xg_iload (va := (0, 101)) rfl rfl) ?_
  refine xg_t (xg_i2l (u := 101) xnm0) ?_
  refine xg_t (xg_lre (b := 101) (by rw [xlp_eq]; exact nI_l (by omega))) ?_
  refine xg_t (xg_ladd (u := 17376352) (v := 101)) ?_
  refine xg_t (xg_lre (b := 17376453) (by rw [xlp_eq]; exact lN_add _ _)) ?_
  refine xg_t (xg_ldc2) ?_
  refine xg_t (xg_lsub (u := 17376453) (v := 96)) ?_
  refine xg_t (xg_lre (b := 17376357) (by rw [xlp_eq]; exact lN_sub (by omega))) ?_
  exact xg_e ⟨rfl, rfl⟩
theorem mL_three_108_101_115 : xPr d mX12_three [(0, 108), (0, 101), (0, 115)] w bd fc rr [(4, 12467)] w := by
  refine xPr.of ?_
  show xTo d mX12_three (0, [], [(0, (0, 108)), (1, (0, 101)), (2, (0, 115))], [], (w, bd, fc, 0, 0, rr)) (xEnd 2 [(4, 12467)] (w, bd, fc, 0, 0, rr))
  refine xg_t (xg_blq rfl) ?_
  refine xg_t (xg_ldc2) ?_
  refine xg_t (xg_iload (va := (0, 108)) rfl rfl) ?_
  refine xg_t (xg_bip) ?_
  refine xg_t (xg_isub (u := 108) (v := 96) (z := 12) xnm0 xnm0 (by decide)) ?_
  refine xg_t (xg_i2l (u := 12) xnm0) ?_
  refine xg_t (xg_lre (b := 12) (by rw [xlp_eq]; exact nI_l (by omega))) ?_
  refine xg_t (xg_lmul (u := 32) (v := 12)) ?_
  refine xg_t (xg_lre (b := 384) (by rw [xlp_eq]; exact lN_mul _ _)) ?_
  refine xg_t (xg_iload (va := (0, 101)) rfl rfl) ?_
  refine xg_t (xg_i2l (u := 101) xnm0) ?_
  refine xg_t (xg_lre (b := 101) (by rw [xlp_eq]; exact nI_l (by omega))) ?_
  refine xg_t (xg_ladd (u := 384) (v := 101)) ?_
  refine xg_t (xg_lre (b := 485) (by rw [xlp_eq]; exact lN_add _ _)) ?_
  refine xg_t (xg_ldc2) ?_
  refine xg_t (xg_lsub (u := 485) (v := 96)) ?_
  refine xg_t (xg_lre (b := 389) (by rw [xlp_eq]; exact lN_sub (by omega))) ?_
  refine xg_t (xg_ldc2) ?_
  refine xg_t (xg_lmul (u := 389) (v := 32)) ?_
  refine xg_t (xg_lre (b := 12448) (by rw [xlp_eq]; exact lN_mul _ _)) ?_
  refine xg_t (xg_iload (va := (0, 115)) rfl rfl) ?_
  refine xg_t (xg_i2l (u := 115) xnm0) ?_
  refine xg_t (xg_lre (b := 115) (by rw [xlp_eq]; exact nI_l (by omega))) ?_
  refine xg_t (xg_ladd (u := 12448) (v := 115)) ?_
  refine xg_t (xg_lre (b := 12563) (by rw [xlp_eq]; exact lN_add _ _)) ?_
  refine xg_t (xg_ldc2) ?_
  refine xg_t (xg_lsub (u := 12563) (v := 96)) ?_
  refine xg_t (xg_lre (b := 12467) (by rw [xlp_eq]; exact lN_sub (by omega))) ?_
  exact xg_e ⟨rfl, rfl⟩
theorem mL_four_108_101_115_115 : xPr (d + 1) mX12_four [(0, 108), (0, 101), (0, 115), (0, 115)] w bd fc rr [(4, 398963)] w := by
  refine xPr.of ?_
  show xTo (d + 1) mX12_four (0, [], [(0, (0, 108)), (1, (0, 101)), (2, (0, 115)), (3, (0, 115))], [], (w, bd, fc, 0, 0, rr)) (xEnd 2 [(4, 398963)] (w, bd, fc, 0, 0, rr))
  refine xg_t (xg_blq rfl) ?_
  refine xg_t (xg_iload (va := (0, 108)) rfl rfl) ?_
  refine xg_t (xg_iload (va := (0, 101)) rfl rfl) ?_
  refine xg_t (xg_iload (va := (0, 115)) rfl rfl) ?_
  refine xg_t (xg_cSr mX12_three (vs := [(0, 108), (0, 101), (0, 115)]) (rest := []) (rs := [(4, 12467)]) (cn1 := 0) (sl1 := 0) rfl (mL_three_108_101_115) rfl rfl rfl rfl rfl rfl rfl rfl) ?_
  refine xg_t (xg_ldc2) ?_
  refine xg_t (xg_lmul (u := 12467) (v := 32)) ?_
  refine xg_t (xg_lre (b := 398944) (by rw [xlp_eq]; exact lN_mul _ _)) ?_
  refine xg_t (xg_iload (va := (0, 115)) rfl rfl) ?_
  refine xg_t (xg_i2l (u := 115) xnm0) ?_
  refine xg_t (xg_lre (b := 115) (by rw [xlp_eq]; exact nI_l (by omega))) ?_
  refine xg_t (xg_ladd (u := 398944) (v := 115)) ?_
  refine xg_t (xg_lre (b := 399059) (by rw [xlp_eq]; exact lN_add _ _)) ?_
  refine xg_t (xg_ldc2) ?_
  refine xg_t (xg_lsub (u := 399059) (v := 96)) ?_
  refine xg_t (xg_lre (b := 398963) (by rw [xlp_eq]; exact lN_sub (by omega))) ?_
  exact xg_e ⟨rfl, rfl⟩
theorem mL_three_97_110_100 : xPr d mX12_three [(0, 97), (0, 110), (0, 100)] w bd fc rr [(4, 1476)] w := by
  refine xPr.of ?_
  show xTo d mX12_three (0, [], [(0, (0, 97)), (1, (0, 110)), (2, (0, 100))], [], (w, bd, fc, 0, 0, rr)) (xEnd 2 [(4, 1476)] (w, bd, fc, 0, 0, rr))
  refine xg_t (xg_blq rfl) ?_
  refine xg_t (xg_ldc2) ?_
  refine xg_t (xg_iload (va := (0, 97)) rfl rfl) ?_
  refine xg_t (xg_bip) ?_
  refine xg_t (xg_isub (u := 97) (v := 96) (z := 1) xnm0 xnm0 (by decide)) ?_
  refine xg_t (xg_i2l (u := 1) xnm0) ?_
  refine xg_t (xg_lre (b := 1) (by rw [xlp_eq]; exact nI_l (by omega))) ?_
  refine xg_t (xg_lmul (u := 32) (v := 1)) ?_
  refine xg_t (xg_lre (b := 32) (by rw [xlp_eq]; exact lN_mul _ _)) ?_
  refine xg_t (xg_iload (va := (0, 110)) rfl rfl) ?_
  refine xg_t (xg_i2l (u := 110) xnm0) ?_
  refine xg_t (xg_lre (b := 110) (by rw [xlp_eq]; exact nI_l (by omega))) ?_
  refine xg_t (xg_ladd (u := 32) (v := 110)) ?_
  refine xg_t (xg_lre (b := 142) (by rw [xlp_eq]; exact lN_add _ _)) ?_
  refine xg_t (xg_ldc2) ?_
  refine xg_t (xg_lsub (u := 142) (v := 96)) ?_
  refine xg_t (xg_lre (b := 46) (by rw [xlp_eq]; exact lN_sub (by omega))) ?_
  refine xg_t (xg_ldc2) ?_
  refine xg_t (xg_lmul (u := 46) (v := 32)) ?_
  refine xg_t (xg_lre (b := 1472) (by rw [xlp_eq]; exact lN_mul _ _)) ?_
  refine xg_t (xg_iload (va := (0, 100)) rfl rfl) ?_
  refine xg_t (xg_i2l (u := 100) xnm0) ?_
  refine xg_t (xg_lre (b := 100) (by rw [xlp_eq]; exact nI_l (by omega))) ?_
  refine xg_t (xg_ladd (u := 1472) (v := 100)) ?_
  refine xg_t (xg_lre (b := 1572) (by rw [xlp_eq]; exact lN_add _ _)) ?_
  refine xg_t (xg_ldc2) ?_
  refine xg_t (xg_lsub (u := 1572) (v := 96)) ?_
  refine xg_t (xg_lre (b := 1476) (by rw [xlp_eq]; exact lN_sub (by omega))) ?_
  exact xg_e ⟨rfl, rfl⟩
theorem mL_three_110_111_116 : xPr d mX12_three [(0, 110), (0, 111), (0, 116)] w bd fc rr [(4, 14836)] w := by
  refine xPr.of ?_
  show xTo d mX12_three (0, [], [(0, (0, 110)), (1, (0, 111)), (2, (0, 116))], [], (w, bd, fc, 0, 0, rr)) (xEnd 2 [(4, 14836)] (w, bd, fc, 0, 0, rr))
  refine xg_t (xg_blq rfl) ?_
  refine xg_t (xg_ldc2) ?_
  refine xg_t (xg_iload (va := (0, 110)) rfl rfl) ?_
  refine xg_t (xg_bip) ?_
  refine xg_t (xg_isub (u := 110) (v := 96) (z := 14) xnm0 xnm0 (by decide)) ?_
  refine xg_t (xg_i2l (u := 14) xnm0) ?_
  refine xg_t (xg_lre (b := 14) (by rw [xlp_eq]; exact nI_l (by omega))) ?_
  refine xg_t (xg_lmul (u := 32) (v := 14)) ?_
  refine xg_t (xg_lre (b := 448) (by rw [xlp_eq]; exact lN_mul _ _)) ?_
  refine xg_t (xg_iload (va := (0, 111)) rfl rfl) ?_
  refine xg_t (xg_i2l (u := 111) xnm0) ?_
  refine xg_t (xg_lre (b := 111) (by rw [xlp_eq]; exact nI_l (by omega))) ?_
  refine xg_t (xg_ladd (u := 448) (v := 111)) ?_
  refine xg_t (xg_lre (b := 559) (by rw [xlp_eq]; exact lN_add _ _)) ?_
  refine xg_t (xg_ldc2) ?_
  refine xg_t (xg_lsub (u := 559) (v := 96)) ?_
  refine xg_t (xg_lre (b := 463) (by rw [xlp_eq]; exact lN_sub (by omega))) ?_
  refine xg_t (xg_ldc2) ?_
  refine xg_t (xg_lmul (u := 463) (v := 32)) ?_
  refine xg_t (xg_lre (b := 14816) (by rw [xlp_eq]; exact lN_mul _ _)) ?_
  refine xg_t (xg_iload (va := (0, 116)) rfl rfl) ?_
  refine xg_t (xg_i2l (u := 116) xnm0) ?_
  refine xg_t (xg_lre (b := 116) (by rw [xlp_eq]; exact nI_l (by omega))) ?_
  refine xg_t (xg_ladd (u := 14816) (v := 116)) ?_
  refine xg_t (xg_lre (b := 14932) (by rw [xlp_eq]; exact lN_add _ _)) ?_
  refine xg_t (xg_ldc2) ?_
  refine xg_t (xg_lsub (u := 14932) (v := 96)) ?_
  refine xg_t (xg_lre (b := 14836) (by rw [xlp_eq]; exact lN_sub (by omega))) ?_
  exact xg_e ⟨rfl, rfl⟩
theorem mRuleWX {vv : Nat} (hI : xMnv w) (hv : vv < 34359738368) : xPi (d + 3) mX12_ruleWordOf [(4, vv)] w bd fc rr (fun n w' => (n = wixR vv) ∧ xMnv w' ∧ xFr [] w w') := by
  refine xPi.of ?_
  show xTo (d + 3) mX12_ruleWordOf (0, [], [(0, (4, vv))], [], (w, bd, fc, 0, 0, rr)) (fun φ => ∃ n w', xEnd 1 [(0, n)] (w', bd, fc, 0, 0, rr) φ ∧ (n = wixR vv) ∧ xMnv w' ∧ xFr [] w w')
  refine xg_t (xg_blq rfl) ?_
  refine xg_t (xg_lload (u := vv) rfl) ?_
  refine xg_t (xg_bip) ?_
  refine xg_t (xg_bip) ?_
  refine xg_t (xg_bip) ?_
  refine xg_t (xg_cSr mX12_three (vs := [(0, 115), (0, 108), (0, 105)]) (rest := [(4, vv)]) (rs := [(4, 19849), (4, vv)]) (cn1 := 0) (sl1 := 0) rfl (mL_three_115_108_105) rfl rfl rfl rfl rfl rfl rfl rfl) ?_
  refine xg_t (xg_bip) ?_
  refine xg_t (xg_bip) ?_
  refine xg_t (xg_bip) ?_
  refine xg_t (xg_cSr mX12_three (vs := [(0, 100), (0, 101), (0, 115)]) (rest := [(4, 19849), (4, vv)]) (rs := [(4, 4275), (4, 19849), (4, vv)]) (cn1 := 0) (sl1 := 0) rfl (mL_three_100_101_115) rfl rfl rfl rfl rfl rfl rfl rfl) ?_
  refine xg_t (xg_cSr mX12_six (vs := [(4, 19849), (4, 4275)]) (rest := [(4, vv)]) (rs := [(4, 650416307), (4, vv)]) (cn1 := 0) (sl1 := 0) rfl (mL_six_19849_4275) rfl rfl rfl rfl rfl rfl rfl rfl) ?_
  by_cases hc1 : vv = 650416307
  · refine xg_kz (xg_lcmp (u := vv) (v := 650416307)) (xlc_eq hc1) ?_
    refine xg_t (xg_ifF (u := 0) rfl xnm0 (by decide)) ?_
    refine xg_t (xg_bip) ?_
    have hw2 : wixR vv = 20 := by
      unfold wixR
      rw [if_pos hc1]
    exact xg_e ⟨20, w, ⟨rfl, rfl⟩, hw2.symm, hI, xFr.rf⟩
  · refine xg_kn (xg_lcmp (u := vv) (v := 650416307)) (xpt_lt _) (xlc_ne (by omega) (by omega) hc1) (fun z3 hz4 hz5 => ?_)
    refine xg_t (xg_ifT (u := z3) rfl xnm0 (xj_neT hz5)) ?_
    refine xg_t (xg_blq rfl) ?_
    refine xg_t (xg_lload (u := vv) rfl) ?_
    refine xg_t (xg_bip) ?_
    refine xg_t (xg_bip) ?_
    refine xg_t (xg_bip) ?_
    refine xg_t (xg_bip) ?_
    refine xg_t (xg_bip) ?_
    refine xg_t (xg_cSr mX12_five (vs := [(0, 119), (0, 104), (0, 111), (0, 108), (0, 101)]) (rest := [(4, vv)]) (rs := [(4, 24395141), (4, vv)]) (cn1 := 0) (sl1 := 0) rfl (mL_five_119_104_111_108_101) rfl rfl rfl rfl rfl rfl rfl rfl) ?_
    by_cases hc6 : vv = 24395141
    · refine xg_kz (xg_lcmp (u := vv) (v := 24395141)) (xlc_eq hc6) ?_
      refine xg_t (xg_ifF (u := 0) rfl xnm0 (by decide)) ?_
      refine xg_t (xg_bip) ?_
      have hw7 : wixR vv = 21 := by
        unfold wixR
        rw [if_neg hc1, if_pos hc6]
      exact xg_e ⟨21, w, ⟨rfl, rfl⟩, hw7.symm, hI, xFr.rf⟩
    · refine xg_kn (xg_lcmp (u := vv) (v := 24395141)) (xpt_lt _) (xlc_ne (by omega) (by omega) hc6) (fun z8 hz9 hz10 => ?_)
      refine xg_t (xg_ifT (u := z8) rfl xnm0 (xj_neT hz10)) ?_
      refine xg_t (xg_blq rfl) ?_
      refine xg_t (xg_lload (u := vv) rfl) ?_
      refine xg_t (xg_bip) ?_
      refine xg_t (xg_bip) ?_
      refine xg_t (xg_bip) ?_
      refine xg_t (xg_cSr mX12_three (vs := [(0, 108), (0, 97), (0, 121)]) (rest := [(4, vv)]) (rs := [(4, 12345), (4, vv)]) (cn1 := 0) (sl1 := 0) rfl (mL_three_108_97_121) rfl rfl rfl rfl rfl rfl rfl rfl) ?_
      refine xg_t (xg_bip) ?_
      refine xg_t (xg_bip) ?_
      refine xg_t (xg_bip) ?_
      refine xg_t (xg_cSr mX12_three (vs := [(0, 101), (0, 114), (0, 115)]) (rest := [(4, 12345), (4, vv)]) (rs := [(4, 5715), (4, 12345), (4, vv)]) (cn1 := 0) (sl1 := 0) rfl (mL_three_101_114_115) rfl rfl rfl rfl rfl rfl rfl rfl) ?_
      refine xg_t (xg_cSr mX12_six (vs := [(4, 12345), (4, 5715)]) (rest := [(4, vv)]) (rs := [(4, 404526675), (4, vv)]) (cn1 := 0) (sl1 := 0) rfl (mL_six_12345_5715) rfl rfl rfl rfl rfl rfl rfl rfl) ?_
      by_cases hc11 : vv = 404526675
      · refine xg_kz (xg_lcmp (u := vv) (v := 404526675)) (xlc_eq hc11) ?_
        refine xg_t (xg_ifF (u := 0) rfl xnm0 (by decide)) ?_
        refine xg_t (xg_bip) ?_
        have hw12 : wixR vv = 22 := by
          unfold wixR
          rw [if_neg hc1, if_neg hc6, if_pos hc11]
        exact xg_e ⟨22, w, ⟨rfl, rfl⟩, hw12.symm, hI, xFr.rf⟩
      · refine xg_kn (xg_lcmp (u := vv) (v := 404526675)) (xpt_lt _) (xlc_ne (by omega) (by omega) hc11) (fun z13 hz14 hz15 => ?_)
        refine xg_t (xg_ifT (u := z13) rfl xnm0 (xj_neT hz15)) ?_
        refine xg_t (xg_blq rfl) ?_
        refine xg_t (xg_lload (u := vv) rfl) ?_
        refine xg_t (xg_bip) ?_
        refine xg_t (xg_bip) ?_
        refine xg_t (xg_bip) ?_
        refine xg_t (xg_bip) ?_
        refine xg_t (xg_bip) ?_
        refine xg_t (xg_cSr mX12_five (vs := [(0, 108), (0, 101), (0, 97), (0, 115), (0, 116)]) (rest := [(4, vv)]) (rs := [(4, 12748404), (4, vv)]) (cn1 := 0) (sl1 := 0) rfl (mL_five_108_101_97_115_116) rfl rfl rfl rfl rfl rfl rfl rfl) ?_
        by_cases hc16 : vv = 12748404
        · refine xg_kz (xg_lcmp (u := vv) (v := 12748404)) (xlc_eq hc16) ?_
          refine xg_t (xg_ifF (u := 0) rfl xnm0 (by decide)) ?_
          refine xg_t (xg_bip) ?_
          have hw17 : wixR vv = 23 := by
            unfold wixR
            rw [if_neg hc1, if_neg hc6, if_neg hc11, if_pos hc16]
          exact xg_e ⟨23, w, ⟨rfl, rfl⟩, hw17.symm, hI, xFr.rf⟩
        · refine xg_kn (xg_lcmp (u := vv) (v := 12748404)) (xpt_lt _) (xlc_ne (by omega) (by omega) hc16) (fun z18 hz19 hz20 => ?_)
          refine xg_t (xg_ifT (u := z18) rfl xnm0 (xj_neT hz20)) ?_
          refine xg_t (xg_blq rfl) ?_
          refine xg_t (xg_lload (u := vv) rfl) ?_
          refine xg_t (xg_bip) ?_
          refine xg_t (xg_bip) ?_
          refine xg_t (xg_bip) ?_
          refine xg_t (xg_bip) ?_
          refine xg_t (xg_cSr mX12_four (vs := [(0, 114), (0, 111), (0, 119), (0, 115)]) (rest := [(4, vv)]) (rs := [(4, 605939), (4, vv)]) (cn1 := 0) (sl1 := 0) rfl (mL_four_114_111_119_115) rfl rfl rfl rfl rfl rfl rfl rfl) ?_
          by_cases hc21 : vv = 605939
          · refine xg_kz (xg_lcmp (u := vv) (v := 605939)) (xlc_eq hc21) ?_
            refine xg_t (xg_ifF (u := 0) rfl xnm0 (by decide)) ?_
            refine xg_t (xg_bip) ?_
            have hw22 : wixR vv = 24 := by
              unfold wixR
              rw [if_neg hc1, if_neg hc6, if_neg hc11, if_neg hc16, if_pos hc21]
            exact xg_e ⟨24, w, ⟨rfl, rfl⟩, hw22.symm, hI, xFr.rf⟩
          · refine xg_kn (xg_lcmp (u := vv) (v := 605939)) (xpt_lt _) (xlc_ne (by omega) (by omega) hc21) (fun z23 hz24 hz25 => ?_)
            refine xg_t (xg_ifT (u := z23) rfl xnm0 (xj_neT hz25)) ?_
            refine xg_t (xg_blq rfl) ?_
            refine xg_t (xg_lload (u := vv) rfl) ?_
            refine xg_t (xg_bip) ?_
            refine xg_t (xg_bip) ?_
            refine xg_t (xg_bip) ?_
            refine xg_t (xg_cSr mX12_three (vs := [(0, 102), (0, 101), (0, 100)]) (rest := [(4, vv)]) (rs := [(4, 6308), (4, vv)]) (cn1 := 0) (sl1 := 0) rfl (mL_three_102_101_100) rfl rfl rfl rfl rfl rfl rfl rfl) ?_
            by_cases hc26 : vv = 6308
            · refine xg_kz (xg_lcmp (u := vv) (v := 6308)) (xlc_eq hc26) ?_
              refine xg_t (xg_ifF (u := 0) rfl xnm0 (by decide)) ?_
              refine xg_t (xg_bip) ?_
              have hw27 : wixR vv = 25 := by
                unfold wixR
                rw [if_neg hc1, if_neg hc6, if_neg hc11, if_neg hc16, if_neg hc21, if_pos hc26]
              exact xg_e ⟨25, w, ⟨rfl, rfl⟩, hw27.symm, hI, xFr.rf⟩
            · refine xg_kn (xg_lcmp (u := vv) (v := 6308)) (xpt_lt _) (xlc_ne (by omega) (by omega) hc26) (fun z28 hz29 hz30 => ?_)
              refine xg_t (xg_ifT (u := z28) rfl xnm0 (xj_neT hz30)) ?_
              refine xg_t (xg_blq rfl) ?_
              refine xg_t (xg_lload (u := vv) rfl) ?_
              refine xg_t (xg_bip) ?_
              refine xg_t (xg_bip) ?_
              refine xg_t (xg_bip) ?_
              refine xg_t (xg_bip) ?_
              refine xg_t (xg_bip) ?_
              refine xg_t (xg_cSr mX12_five (vs := [(0, 100), (0, 97), (0, 114), (0, 107), (0, 115)]) (rest := [(4, vv)]) (rs := [(4, 4245875), (4, vv)]) (cn1 := 0) (sl1 := 0) rfl (mL_five_100_97_114_107_115) rfl rfl rfl rfl rfl rfl rfl rfl) ?_
              by_cases hc31 : vv = 4245875
              · refine xg_kz (xg_lcmp (u := vv) (v := 4245875)) (xlc_eq hc31) ?_
                refine xg_t (xg_ifF (u := 0) rfl xnm0 (by decide)) ?_
                refine xg_t (xg_bip) ?_
                have hw32 : wixR vv = 26 := by
                  unfold wixR
                  rw [if_neg hc1, if_neg hc6, if_neg hc11, if_neg hc16, if_neg hc21, if_neg hc26, if_pos hc31]
                exact xg_e ⟨26, w, ⟨rfl, rfl⟩, hw32.symm, hI, xFr.rf⟩
              · refine xg_kn (xg_lcmp (u := vv) (v := 4245875)) (xpt_lt _) (xlc_ne (by omega) (by omega) hc31) (fun z33 hz34 hz35 => ?_)
                refine xg_t (xg_ifT (u := z33) rfl xnm0 (xj_neT hz35)) ?_
                refine xg_t (xg_blq rfl) ?_
                refine xg_t (xg_lload (u := vv) rfl) ?_
                refine xg_t (xg_bip) ?_
                refine xg_t (xg_bip) ?_
                refine xg_t (xg_bip) ?_
                refine xg_t (xg_bip) ?_
                refine xg_t (xg_bip) ?_
                refine xg_t (xg_cSr mX12_five (vs := [(0, 119), (0, 111), (0, 114), (0, 116), (0, 104)]) (rest := [(4, vv)]) (rs := [(4, 24627848), (4, vv)]) (cn1 := 0) (sl1 := 0) rfl (mL_five_119_111_114_116_104) rfl rfl rfl rfl rfl rfl rfl rfl) ?_
                by_cases hc36 : vv = 24627848
                · refine xg_kz (xg_lcmp (u := vv) (v := 24627848)) (xlc_eq hc36) ?_
                  refine xg_t (xg_ifF (u := 0) rfl xnm0 (by decide)) ?_
                  refine xg_t (xg_bip) ?_
                  have hw37 : wixR vv = 27 := by
                    unfold wixR
                    rw [if_neg hc1, if_neg hc6, if_neg hc11, if_neg hc16, if_neg hc21, if_neg hc26, if_neg hc31, if_pos hc36]
                  exact xg_e ⟨27, w, ⟨rfl, rfl⟩, hw37.symm, hI, xFr.rf⟩
                · refine xg_kn (xg_lcmp (u := vv) (v := 24627848)) (xpt_lt _) (xlc_ne (by omega) (by omega) hc36) (fun z38 hz39 hz40 => ?_)
                  refine xg_t (xg_ifT (u := z38) rfl xnm0 (xj_neT hz40)) ?_
                  refine xg_t (xg_blq rfl) ?_
                  refine xg_t (xg_lload (u := vv) rfl) ?_
                  refine xg_t (xg_bip) ?_
                  refine xg_t (xg_bip) ?_
                  refine xg_t (xg_bip) ?_
                  refine xg_t (xg_cSr mX12_three (vs := [(0, 99), (0, 114), (0, 97)]) (rest := [(4, vv)]) (rs := [(4, 3649), (4, vv)]) (cn1 := 0) (sl1 := 0) rfl (mL_three_99_114_97) rfl rfl rfl rfl rfl rfl rfl rfl) ?_
                  refine xg_t (xg_bip) ?_
                  refine xg_t (xg_bip) ?_
                  refine xg_t (xg_bip) ?_
                  refine xg_t (xg_cSr mX12_three (vs := [(0, 99), (0, 107), (0, 115)]) (rest := [(4, 3649), (4, vv)]) (rs := [(4, 3443), (4, 3649), (4, vv)]) (cn1 := 0) (sl1 := 0) rfl (mL_three_99_107_115) rfl rfl rfl rfl rfl rfl rfl rfl) ?_
                  refine xg_t (xg_cSr mX12_six (vs := [(4, 3649), (4, 3443)]) (rest := [(4, vv)]) (rs := [(4, 119573875), (4, vv)]) (cn1 := 0) (sl1 := 0) rfl (mL_six_3649_3443) rfl rfl rfl rfl rfl rfl rfl rfl) ?_
                  by_cases hc41 : vv = 119573875
                  · refine xg_kz (xg_lcmp (u := vv) (v := 119573875)) (xlc_eq hc41) ?_
                    refine xg_t (xg_ifF (u := 0) rfl xnm0 (by decide)) ?_
                    refine xg_t (xg_bip) ?_
                    have hw42 : wixR vv = 28 := by
                      unfold wixR
                      rw [if_neg hc1, if_neg hc6, if_neg hc11, if_neg hc16, if_neg hc21, if_neg hc26, if_neg hc31, if_neg hc36, if_pos hc41]
                    exact xg_e ⟨28, w, ⟨rfl, rfl⟩, hw42.symm, hI, xFr.rf⟩
                  · refine xg_kn (xg_lcmp (u := vv) (v := 119573875)) (xpt_lt _) (xlc_ne (by omega) (by omega) hc41) (fun z43 hz44 hz45 => ?_)
                    refine xg_t (xg_ifT (u := z43) rfl xnm0 (xj_neT hz45)) ?_
                    refine xg_t (xg_blq rfl) ?_
                    refine xg_t (xg_lload (u := vv) rfl) ?_
                    refine xg_t (xg_bip) ?_
                    refine xg_t (xg_bip) ?_
                    refine xg_t (xg_bip) ?_
                    refine xg_t (xg_bip) ?_
                    refine xg_t (xg_cSr mX12_four (vs := [(0, 107), (0, 101), (0, 112), (0, 116)]) (rest := [(4, vv)]) (rs := [(4, 366100), (4, vv)]) (cn1 := 0) (sl1 := 0) rfl (mL_four_107_101_112_116) rfl rfl rfl rfl rfl rfl rfl rfl) ?_
                    by_cases hc46 : vv = 366100
                    · refine xg_kz (xg_lcmp (u := vv) (v := 366100)) (xlc_eq hc46) ?_
                      refine xg_t (xg_ifF (u := 0) rfl xnm0 (by decide)) ?_
                      refine xg_t (xg_bip) ?_
                      have hw47 : wixR vv = 29 := by
                        unfold wixR
                        rw [if_neg hc1, if_neg hc6, if_neg hc11, if_neg hc16, if_neg hc21, if_neg hc26, if_neg hc31, if_neg hc36, if_neg hc41, if_pos hc46]
                      exact xg_e ⟨29, w, ⟨rfl, rfl⟩, hw47.symm, hI, xFr.rf⟩
                    · refine xg_kn (xg_lcmp (u := vv) (v := 366100)) (xpt_lt _) (xlc_ne (by omega) (by omega) hc46) (fun z48 hz49 hz50 => ?_)
                      refine xg_t (xg_ifT (u := z48) rfl xnm0 (xj_neT hz50)) ?_
                      refine xg_t (xg_blq rfl) ?_
                      refine xg_t (xg_lload (u := vv) rfl) ?_
                      refine xg_t (xg_bip) ?_
                      refine xg_t (xg_bip) ?_
                      refine xg_t (xg_bip) ?_
                      refine xg_t (xg_cSr mX12_three (vs := [(0, 100), (0, 97), (0, 121)]) (rest := [(4, vv)]) (rs := [(4, 4153), (4, vv)]) (cn1 := 0) (sl1 := 0) rfl (mL_three_100_97_121) rfl rfl rfl rfl rfl rfl rfl rfl) ?_
                      by_cases hc51 : vv = 4153
                      · refine xg_kz (xg_lcmp (u := vv) (v := 4153)) (xlc_eq hc51) ?_
                        refine xg_t (xg_ifF (u := 0) rfl xnm0 (by decide)) ?_
                        refine xg_t (xg_bip) ?_
                        have hw52 : wixR vv = 30 := by
                          unfold wixR
                          rw [if_neg hc1, if_neg hc6, if_neg hc11, if_neg hc16, if_neg hc21, if_neg hc26, if_neg hc31, if_neg hc36, if_neg hc41, if_neg hc46, if_pos hc51]
                        exact xg_e ⟨30, w, ⟨rfl, rfl⟩, hw52.symm, hI, xFr.rf⟩
                      · refine xg_kn (xg_lcmp (u := vv) (v := 4153)) (xpt_lt _) (xlc_ne (by omega) (by omega) hc51) (fun z53 hz54 hz55 => ?_)
                        refine xg_t (xg_ifT (u := z53) rfl xnm0 (xj_neT hz55)) ?_
                        refine xg_t (xg_blq rfl) ?_
                        refine xg_t (xg_lload (u := vv) rfl) ?_
                        refine xg_t (xg_bip) ?_
                        refine xg_t (xg_bip) ?_
                        refine xg_t (xg_bip) ?_
                        refine xg_t (xg_cSr mX12_three (vs := [(0, 98), (0, 97), (0, 114)]) (rest := [(4, vv)]) (rs := [(4, 2098), (4, vv)]) (cn1 := 0) (sl1 := 0) rfl (mL_three_98_97_114) rfl rfl rfl rfl rfl rfl rfl rfl) ?_
                        by_cases hc56 : vv = 2098
                        · refine xg_kz (xg_lcmp (u := vv) (v := 2098)) (xlc_eq hc56) ?_
                          refine xg_t (xg_ifF (u := 0) rfl xnm0 (by decide)) ?_
                          refine xg_t (xg_bip) ?_
                          have hw57 : wixR vv = 40 := by
                            unfold wixR
                            rw [if_neg hc1, if_neg hc6, if_neg hc11, if_neg hc16, if_neg hc21, if_neg hc26, if_neg hc31, if_neg hc36, if_neg hc41, if_neg hc46, if_neg hc51, if_pos hc56]
                          exact xg_e ⟨40, w, ⟨rfl, rfl⟩, hw57.symm, hI, xFr.rf⟩
                        · refine xg_kn (xg_lcmp (u := vv) (v := 2098)) (xpt_lt _) (xlc_ne (by omega) (by omega) hc56) (fun z58 hz59 hz60 => ?_)
                          refine xg_t (xg_ifT (u := z58) rfl xnm0 (xj_neT hz60)) ?_
                          refine xg_t (xg_blq rfl) ?_
                          refine xg_t (xg_lload (u := vv) rfl) ?_
                          refine xg_t (xg_bip) ?_
                          refine xg_t (xg_bip) ?_
                          refine xg_t (xg_bip) ?_
                          refine xg_t (xg_bip) ?_
                          refine xg_t (xg_bip) ?_
                          refine xg_t (xg_cSr mX12_five (vs := [(0, 112), (0, 114), (0, 105), (0, 99), (0, 101)]) (rest := [(4, vv)]) (rs := [(4, 17376357), (4, vv)]) (cn1 := 0) (sl1 := 0) rfl (mL_five_112_114_105_99_101) rfl rfl rfl rfl rfl rfl rfl rfl) ?_
                          by_cases hc61 : vv = 17376357
                          · refine xg_kz (xg_lcmp (u := vv) (v := 17376357)) (xlc_eq hc61) ?_
                            refine xg_t (xg_ifF (u := 0) rfl xnm0 (by decide)) ?_
                            refine xg_t (xg_bip) ?_
                            have hw62 : wixR vv = 41 := by
                              unfold wixR
                              rw [if_neg hc1, if_neg hc6, if_neg hc11, if_neg hc16, if_neg hc21, if_neg hc26, if_neg hc31, if_neg hc36, if_neg hc41, if_neg hc46, if_neg hc51, if_neg hc56, if_pos hc61]
                            exact xg_e ⟨41, w, ⟨rfl, rfl⟩, hw62.symm, hI, xFr.rf⟩
                          · refine xg_kn (xg_lcmp (u := vv) (v := 17376357)) (xpt_lt _) (xlc_ne (by omega) (by omega) hc61) (fun z63 hz64 hz65 => ?_)
                            refine xg_t (xg_ifT (u := z63) rfl xnm0 (xj_neT hz65)) ?_
                            refine xg_t (xg_blq rfl) ?_
                            refine xg_t (xg_lload (u := vv) rfl) ?_
                            refine xg_t (xg_bip) ?_
                            refine xg_t (xg_bip) ?_
                            refine xg_t (xg_bip) ?_
                            refine xg_t (xg_bip) ?_
                            refine xg_t (xg_cSr mX12_four (vs := [(0, 108), (0, 101), (0, 115), (0, 115)]) (rest := [(4, vv)]) (rs := [(4, 398963), (4, vv)]) (cn1 := 0) (sl1 := 0) rfl (mL_four_108_101_115_115) rfl rfl rfl rfl rfl rfl rfl rfl) ?_
                            by_cases hc66 : vv = 398963
                            · refine xg_kz (xg_lcmp (u := vv) (v := 398963)) (xlc_eq hc66) ?_
                              refine xg_t (xg_ifF (u := 0) rfl xnm0 (by decide)) ?_
                              refine xg_t (xg_bip) ?_
                              have hw67 : wixR vv = 42 := by
                                unfold wixR
                                rw [if_neg hc1, if_neg hc6, if_neg hc11, if_neg hc16, if_neg hc21, if_neg hc26, if_neg hc31, if_neg hc36, if_neg hc41, if_neg hc46, if_neg hc51, if_neg hc56, if_neg hc61, if_pos hc66]
                              exact xg_e ⟨42, w, ⟨rfl, rfl⟩, hw67.symm, hI, xFr.rf⟩
                            · refine xg_kn (xg_lcmp (u := vv) (v := 398963)) (xpt_lt _) (xlc_ne (by omega) (by omega) hc66) (fun z68 hz69 hz70 => ?_)
                              refine xg_t (xg_ifT (u := z68) rfl xnm0 (xj_neT hz70)) ?_
                              refine xg_t (xg_blq rfl) ?_
                              refine xg_t (xg_lload (u := vv) rfl) ?_
                              refine xg_t (xg_ldc2) ?_
                              by_cases hc71 : vv = 294
                              · refine xg_kz (xg_lcmp (u := vv) (v := 294)) (xlc_eq hc71) ?_
                                refine xg_t (xg_ifF (u := 0) rfl xnm0 (by decide)) ?_
                                refine xg_t (xg_bip) ?_
                                have hw72 : wixR vv = 50 := by
                                  unfold wixR
                                  rw [if_neg hc1, if_neg hc6, if_neg hc11, if_neg hc16, if_neg hc21, if_neg hc26, if_neg hc31, if_neg hc36, if_neg hc41, if_neg hc46, if_neg hc51, if_neg hc56, if_neg hc61, if_neg hc66, if_pos hc71]
                                exact xg_e ⟨50, w, ⟨rfl, rfl⟩, hw72.symm, hI, xFr.rf⟩
                              · refine xg_kn (xg_lcmp (u := vv) (v := 294)) (xpt_lt _) (xlc_ne (by omega) (by omega) hc71) (fun z73 hz74 hz75 => ?_)
                                refine xg_t (xg_ifT (u := z73) rfl xnm0 (xj_neT hz75)) ?_
                                refine xg_t (xg_blq rfl) ?_
                                refine xg_t (xg_lload (u := vv) rfl) ?_
                                refine xg_t (xg_bip) ?_
                                refine xg_t (xg_bip) ?_
                                refine xg_t (xg_bip) ?_
                                refine xg_t (xg_cSr mX12_three (vs := [(0, 97), (0, 110), (0, 100)]) (rest := [(4, vv)]) (rs := [(4, 1476), (4, vv)]) (cn1 := 0) (sl1 := 0) rfl (mL_three_97_110_100) rfl rfl rfl rfl rfl rfl rfl rfl) ?_
                                by_cases hc76 : vv = 1476
                                · refine xg_kz (xg_lcmp (u := vv) (v := 1476)) (xlc_eq hc76) ?_
                                  refine xg_t (xg_ifF (u := 0) rfl xnm0 (by decide)) ?_
                                  refine xg_t (xg_bip) ?_
                                  have hw77 : wixR vv = 51 := by
                                    unfold wixR
                                    rw [if_neg hc1, if_neg hc6, if_neg hc11, if_neg hc16, if_neg hc21, if_neg hc26, if_neg hc31, if_neg hc36, if_neg hc41, if_neg hc46, if_neg hc51, if_neg hc56, if_neg hc61, if_neg hc66, if_neg hc71, if_pos hc76]
                                  exact xg_e ⟨51, w, ⟨rfl, rfl⟩, hw77.symm, hI, xFr.rf⟩
                                · refine xg_kn (xg_lcmp (u := vv) (v := 1476)) (xpt_lt _) (xlc_ne (by omega) (by omega) hc76) (fun z78 hz79 hz80 => ?_)
                                  refine xg_t (xg_ifT (u := z78) rfl xnm0 (xj_neT hz80)) ?_
                                  refine xg_t (xg_blq rfl) ?_
                                  refine xg_t (xg_lload (u := vv) rfl) ?_
                                  refine xg_t (xg_bip) ?_
                                  refine xg_t (xg_bip) ?_
                                  refine xg_t (xg_bip) ?_
                                  refine xg_t (xg_cSr mX12_three (vs := [(0, 110), (0, 111), (0, 116)]) (rest := [(4, vv)]) (rs := [(4, 14836), (4, vv)]) (cn1 := 0) (sl1 := 0) rfl (mL_three_110_111_116) rfl rfl rfl rfl rfl rfl rfl rfl) ?_
                                  by_cases hc81 : vv = 14836
                                  · refine xg_kz (xg_lcmp (u := vv) (v := 14836)) (xlc_eq hc81) ?_
                                    refine xg_t (xg_ifF (u := 0) rfl xnm0 (by decide)) ?_
                                    refine xg_t (xg_bip) ?_
                                    have hw82 : wixR vv = 52 := by
                                      unfold wixR
                                      rw [if_neg hc1, if_neg hc6, if_neg hc11, if_neg hc16, if_neg hc21, if_neg hc26, if_neg hc31, if_neg hc36, if_neg hc41, if_neg hc46, if_neg hc51, if_neg hc56, if_neg hc61, if_neg hc66, if_neg hc71, if_neg hc76, if_pos hc81]
                                    exact xg_e ⟨52, w, ⟨rfl, rfl⟩, hw82.symm, hI, xFr.rf⟩
                                  · refine xg_kn (xg_lcmp (u := vv) (v := 14836)) (xpt_lt _) (xlc_ne (by omega) (by omega) hc81) (fun z83 hz84 hz85 => ?_)
                                    refine xg_t (xg_ifT (u := z83) rfl xnm0 (xj_neT hz85)) ?_
                                    refine xg_t (xg_blq rfl) ?_
                                    refine xg_t (xg_bip) ?_
                                    have hw86 : wixR vv = 99 := by
                                      unfold wixR
                                      rw [if_neg hc1, if_neg hc6, if_neg hc11, if_neg hc16, if_neg hc21, if_neg hc26, if_neg hc31, if_neg hc36, if_neg hc41, if_neg hc46, if_neg hc51, if_neg hc56, if_neg hc61, if_neg hc66, if_neg hc71, if_neg hc76, if_neg hc81]
                                    exact xg_e ⟨99, w, ⟨rfl, rfl⟩, hw86.symm, hI, xFr.rf⟩
theorem mByteX {B : Nat → Nat} {nn : Nat} {pp : Nat} (hI : xMnv w) (hpp : pp ≤ 500) (hB : bsm w B nn) (h4 : fld w 82 4 = nn) : xPi d mX12_byteAt [(2, 82), (0, pp)] w bd fc rr (fun n w' => ((pp < nn ∧ n = B pp ∧ n ≤ 255) ∨ (nn ≤ pp ∧ n = 4294967295)) ∧ xMnv w' ∧ xFr [] w w') := by
  refine xPi.of ?_
  show xTo d mX12_byteAt (0, [], [(0, (2, 82)), (1, (0, pp))], [], (w, bd, fc, 0, 0, rr)) (fun φ => ∃ n w', xEnd 1 [(0, n)] (w', bd, fc, 0, 0, rr) φ ∧ ((pp < nn ∧ n = B pp ∧ n ≤ 255) ∨ (nn ≤ pp ∧ n = 4294967295)) ∧ xMnv w' ∧ xFr [] w w')
  refine xoCh82 (xqc82 hI : cp82 (wget w 82)) (fun f82_1 f82_3 f82_5 f82_7 f82_9 f82_11 f82_13 f82_15 f82_17 f82_19 f82_21 f82_22 f82_23 f82_25 f82_27 f82_29 h82_31 hb2 hb4 hb6 hb8 hb10 hb12 hb14 hb16 hb18 hb20 hb24 hb26 hb28 hb30 hb32 => ?_)
  refine xoX83 (xqc83 hI : cpx83 (wget w 83)) (fun g83_33 h83_34 hb35 hx36 => ?_)
  have hf37 : fld w 82 4 = f82_5 := fld_of h82_31
  have hBn := hB.1
  refine xg_t (xg_blq rfl) ?_
  refine xg_t (xg_iload (va := (0, pp)) rfl rfl) ?_
  refine xg_t (xg_aload (va := (2, 82)) rfl rfl) ?_
  refine xg_t (xg_getf (va := (0, f82_5)) h82_31 rfl) ?_
  by_cases hc38 : pp < f82_5
  · refine xg_t (xg_icF (u := pp) (v := f82_5) rfl xnm0 xnm0 (xj_geF hc38 (by omega))) ?_
    refine xg_t (xg_aload (va := (2, 82)) rfl rfl) ?_
    refine xg_t (xg_getf (va := (2, 83)) h82_31 rfl) ?_
    refine xg_t (xg_sip) ?_
    refine xg_t (xg_iload (va := (0, pp)) rfl rfl) ?_
    refine xg_t (xg_iadd (u := 400) (v := pp) (z := 400 + pp) xnm0 xnm0 (by omega)) ?_
    refine xg_ialdB (n := 400 + pp) (B := 4294967295) h83_34 (hb35) xnm0 (by omega) (fun u39 hu40 he41 => ?_)
    have hb42 : B pp = u39 ∧ B pp ≤ 255 := by
      obtain ⟨q1, q2⟩ := hB.2 pp (by omega)
      rw [rwv_of h83_34 (by omega)] at q1
      exact ⟨q1.symm.trans he41, q2⟩
    refine xg_t (xg_goto) ?_
    refine xg_t (xg_blq rfl) ?_
    exact xg_e ⟨u39, w, ⟨rfl, rfl⟩, by omega, hI, xFr.rf⟩
  · refine xg_t (xg_icT (u := pp) (v := f82_5) rfl xnm0 xnm0 (xj_geT (by omega) (by omega))) ?_
    refine xg_t (xg_blq rfl) ?_
    refine xg_t (xg_const) ?_
    refine xg_t (xg_blq rfl) ?_
    exact xg_e ⟨4294967295, w, ⟨rfl, rfl⟩, by first | decide | omega, hI, xFr.rf⟩
theorem mSgnX {ir : Nat} {cc : Nat} (hI : xMnv w) (hcc : cc ≤ 4294967295) (h2 : fld w 82 2 = ir) : xPi d mX12_isSignByte [(2, 82), (0, cc)] w bd fc rr (fun n w' => ((n = 1 ∧ (cc = 59 ∨ (ir ≠ 0 ∧ (cc = 58 ∨ cc = 60 ∨ cc = 62 ∨ cc = 61)))) ∨ (n = 0 ∧ ¬ (cc = 59 ∨ (ir ≠ 0 ∧ (cc = 58 ∨ cc = 60 ∨ cc = 62 ∨ cc = 61))))) ∧ xMnv w' ∧ xFr [] w w') := by
  refine xPi.of ?_
  show xTo d mX12_isSignByte (0, [], [(0, (2, 82)), (1, (0, cc))], [], (w, bd, fc, 0, 0, rr)) (fun φ => ∃ n w', xEnd 4 [(0, n)] (w', bd, fc, 0, 0, rr) φ ∧ ((n = 1 ∧ (cc = 59 ∨ (ir ≠ 0 ∧ (cc = 58 ∨ cc = 60 ∨ cc = 62 ∨ cc = 61)))) ∨ (n = 0 ∧ ¬ (cc = 59 ∨ (ir ≠ 0 ∧ (cc = 58 ∨ cc = 60 ∨ cc = 62 ∨ cc = 61))))) ∧ xMnv w' ∧ xFr [] w w')
  refine xoCh82 (xqc82 hI : cp82 (wget w 82)) (fun f82_1 f82_3 f82_5 f82_7 f82_9 f82_11 f82_13 f82_15 f82_17 f82_19 f82_21 f82_22 f82_23 f82_25 f82_27 f82_29 h82_31 hb2 hb4 hb6 hb8 hb10 hb12 hb14 hb16 hb18 hb20 hb24 hb26 hb28 hb30 hb32 => ?_)
  have hf33 : fld w 82 2 = f82_1 := fld_of h82_31
  refine xg_t (xg_blq rfl) ?_
  refine xg_t (xg_iload (va := (0, cc)) rfl rfl) ?_
  refine xg_t (xg_bip) ?_
  by_cases hc34 : cc = 59
  · refine xg_t (xg_icT (u := cc) (v := 59) rfl xnm0 xnm0 (xj_eqT hc34)) ?_
    refine xg_t (xg_blq rfl) ?_
    refine xg_t (xg_const) ?_
    refine xg_t (xg_goto) ?_
    refine xg_t (xg_blq rfl) ?_
    exact xg_e ⟨1, w, ⟨rfl, rfl⟩, by first | decide | omega, hI, xFr.rf⟩
  · refine xg_t (xg_icF (u := cc) (v := 59) rfl xnm0 xnm0 (xj_eqF hc34)) ?_
    refine xg_t (xg_aload (va := (2, 82)) rfl rfl) ?_
    refine xg_t (xg_getf (va := (0, f82_1)) h82_31 rfl) ?_
    by_cases hc35 : f82_1 = 0
    · refine xg_t (xg_ifT (u := f82_1) rfl xnm0 (xj_eqT hc35)) ?_
      refine xg_t (xg_blq rfl) ?_
      refine xg_t (xg_const) ?_
      refine xg_t (xg_blq rfl) ?_
      exact xg_e ⟨0, w, ⟨rfl, rfl⟩, by first | decide | omega, hI, xFr.rf⟩
    · refine xg_t (xg_ifF (u := f82_1) rfl xnm0 (xj_eqF hc35)) ?_
      refine xg_t (xg_iload (va := (0, cc)) rfl rfl) ?_
      refine xg_t (xg_bip) ?_
      by_cases hc36 : cc = 58
      · refine xg_t (xg_icT (u := cc) (v := 58) rfl xnm0 xnm0 (xj_eqT hc36)) ?_
        refine xg_t (xg_blq rfl) ?_
        refine xg_t (xg_const) ?_
        refine xg_t (xg_goto) ?_
        refine xg_t (xg_blq rfl) ?_
        exact xg_e ⟨1, w, ⟨rfl, rfl⟩, by first | decide | omega, hI, xFr.rf⟩
      · refine xg_t (xg_icF (u := cc) (v := 58) rfl xnm0 xnm0 (xj_eqF hc36)) ?_
        refine xg_t (xg_iload (va := (0, cc)) rfl rfl) ?_
        refine xg_t (xg_bip) ?_
        by_cases hc37 : cc = 60
        · refine xg_t (xg_icT (u := cc) (v := 60) rfl xnm0 xnm0 (xj_eqT hc37)) ?_
          refine xg_t (xg_blq rfl) ?_
          refine xg_t (xg_const) ?_
          refine xg_t (xg_goto) ?_
          refine xg_t (xg_blq rfl) ?_
          exact xg_e ⟨1, w, ⟨rfl, rfl⟩, by first | decide | omega, hI, xFr.rf⟩
        · refine xg_t (xg_icF (u := cc) (v := 60) rfl xnm0 xnm0 (xj_eqF hc37)) ?_
          refine xg_t (xg_iload (va := (0, cc)) rfl rfl) ?_
          refine xg_t (xg_bip) ?_
          by_cases hc38 : cc = 62
          · refine xg_t (xg_icT (u := cc) (v := 62) rfl xnm0 xnm0 (xj_eqT hc38)) ?_
            refine xg_t (xg_blq rfl) ?_
            refine xg_t (xg_const) ?_
            refine xg_t (xg_goto) ?_
            refine xg_t (xg_blq rfl) ?_
            exact xg_e ⟨1, w, ⟨rfl, rfl⟩, by first | decide | omega, hI, xFr.rf⟩
          · refine xg_t (xg_icF (u := cc) (v := 62) rfl xnm0 xnm0 (xj_eqF hc38)) ?_
            refine xg_t (xg_iload (va := (0, cc)) rfl rfl) ?_
            refine xg_t (xg_bip) ?_
            by_cases hc39 : cc = 61
            · refine xg_t (xg_icF (u := cc) (v := 61) rfl xnm0 xnm0 (xj_neF hc39)) ?_
              refine xg_t (xg_blq rfl) ?_
              refine xg_t (xg_const) ?_
              refine xg_t (xg_goto) ?_
              refine xg_t (xg_blq rfl) ?_
              exact xg_e ⟨1, w, ⟨rfl, rfl⟩, by first | decide | omega, hI, xFr.rf⟩
            · refine xg_t (xg_icT (u := cc) (v := 61) rfl xnm0 xnm0 (xj_neT hc39)) ?_
              refine xg_t (xg_blq rfl) ?_
              refine xg_t (xg_const) ?_
              refine xg_t (xg_blq rfl) ?_
              exact xg_e ⟨0, w, ⟨rfl, rfl⟩, by first | decide | omega, hI, xFr.rf⟩
theorem wixF_le {v : Nat} : wixF v ≤ 99 := by
  unfold wixF
  repeat' split
  all_goals omega
theorem xile {p : Prop} [Decidable p] {a b m : Nat} (ha : a ≤ m) (hb : b ≤ m) : (if p then a else b) ≤ m := by
  split
  · exact ha
  · exact hb
theorem wixR_le {v : Nat} : wixR v ≤ 99 := xile (by decide) (xile (by decide) (xile (by decide) (xile (by decide) (xile (by decide) (xile (by decide) (xile (by decide) (xile (by decide) (xile (by decide) (xile (by decide) (xile (by decide) (xile (by decide) (xile (by decide) (xile (by decide) (xile (by decide) (xile (by decide) (xile (by decide) (by decide)))))))))))))))))
set_option maxHeartbeats 60000000 in
theorem mAdvX {B : Nat → Nat} {nn ir : Nat} (hI : xMnv w) (hB : bsm w B nn) (h2 : fld w 82 2 = ir) (h4 : fld w 82 4 = nn) (h5 : fld w 82 5 ≤ nn) : xPq (d + 4) mX12_advance [(2, 82)] w bd fc rr [] (fun w' => xMnv w' ∧ xFr [82] w w' ∧ (TKM ir B nn w' (fld w 82 5) ∧ fld w' 82 10 = fld w 82 10 ∧ fld w' 82 14 = fld w 82 14)) := by
  refine xPq.of ?_
  show xTo (d + 4) mX12_advance (0, [], [(0, (2, 82))], [], (w, bd, fc, 0, 0, rr)) (fun φ => ∃ w', xEnd 0 [] (w', bd, fc, 0, 0, rr) φ ∧ xMnv w' ∧ xFr [82] w w' ∧ (TKM ir B nn w' (fld w 82 5) ∧ fld w' 82 10 = fld w 82 10 ∧ fld w' 82 14 = fld w 82 14))
  refine xoCh82 (xqc82 hI : cp82 (wget w 82)) (fun f82_1 f82_3 f82_5 f82_7 f82_9 f82_11 f82_13 f82_15 f82_17 f82_19 f82_21 f82_22 f82_23 f82_25 f82_27 f82_29 h82_31 hb2 hb4 hb6 hb8 hb10 hb12 hb14 hb16 hb18 hb20 hb24 hb26 hb28 hb30 hb32 => ?_)
  refine xoX83 (xqc83 hI : cpx83 (wget w 83)) (fun g83_33 h83_34 hb35 hx36 => ?_)
  have q2_ : fld w 82 2 = f82_1 := fld_of h82_31
  have q4_ : fld w 82 4 = f82_5 := fld_of h82_31
  have q5_ : fld w 82 5 = f82_7 := fld_of h82_31
  have q10_ : fld w 82 10 = f82_17 := fld_of h82_31
  have q14_ : fld w 82 14 = f82_19 := fld_of h82_31
  have hBn := hB.1
  have h82 : f82_7 ≤ 500 := by omega
  have key37 : ∀ (m39 : Nat) (ir0 sg0 sz0 nx0 wr0 tk0 nu0 wo0 wg0 ln0 pt0 wh0 me0 mt0 pl0 ps0 : Nat) (w40 : List (List xE)), 500 - nx0 < m39 → ir0 ≤ 1 → sg0 ≤ 4294967295 → sz0 ≤ 500 → nx0 ≤ 500 → wr0 ≤ 4294967295 → tk0 ≤ 4 → nu0 ≤ 4294967295 → wo0 ≤ 4294967295 → wg0 ≤ 1 → ln0 ≤ 4294967295 → me0 ≤ 4294967295 → mt0 ≤ 36 → pl0 ≤ 100 → ps0 ≤ 200 → wget w40 82 = some (.inl (12, [(2, 83), (2, 84), (0, ir0), (0, sg0), (0, sz0), (0, nx0), (0, wr0), (0, tk0), (0, nu0), (0, wo0), (0, wg0), (2, 85), (2, 86), (2, 87), (0, ln0), (2, 88), (2, 89), (2, 90), (2, 91), (2, 92), (2, 93), (2, 94), (4, pt0), (4, wh0), (0, me0), (2, 95), (2, 96), (2, 97), (2, 98), (2, 99), (2, 100), (2, 101), (2, 102), (0, mt0), (2, 103), (2, 104), (2, 105), (2, 106), (2, 107), (2, 108), (2, 109), (0, pl0), (0, ps0), (2, 110), (2, 111), (2, 112), (2, 113)])) → (nx0 ≤ sz0) → xMnv w40 → xFr [82] w w40 → (sz0 = nn ∧ ir0 = f82_1 ∧ wg0 = f82_17 ∧ ln0 = f82_19 ∧ nx0 ≤ nn ∧ prn cB B nn nx0 = prn cB B nn f82_7) → xTo (d + 4) mX12_advance (0, [], [(0, (2, 82))], [], (w40, bd, fc, 0, 0, rr)) (fun φ => ∃ w', xEnd 0 [] (w', bd, fc, 0, 0, rr) φ ∧ xMnv w' ∧ xFr [82] w w' ∧ (TKM ir B nn w' (fld w 82 5) ∧ fld w' 82 10 = fld w 82 10 ∧ fld w' 82 14 = fld w 82 14)) := by
    intro m39
    induction m39 with
    | zero => intro ir0 sg0 sz0 nx0 wr0 tk0 nu0 wo0 wg0 ln0 pt0 wh0 me0 mt0 pl0 ps0 w40 hz; exact absurd hz (Nat.not_lt_zero _)
    | succ m39 ih38 =>
      intro ir0 sg0 sz0 nx0 wr0 tk0 nu0 wo0 wg0 ln0 pt0 wh0 me0 mt0 pl0 ps0 w40 hm60 hn43 hn44 hn45 hn46 hn47 hn48 hn49 hn50 hn51 hn52 hn53 hn54 hn55 hn56 hcl57 hx58 hI41 hF42 he59
      replace hn44 := xHid.of hn44
      replace hn47 := xHid.of hn47
      replace hn49 := xHid.of hn49
      replace hn50 := xHid.of hn50
      replace hn52 := xHid.of hn52
      replace hn53 := xHid.of hn53
      replace hn54 := xHid.of hn54
      replace hn55 := xHid.of hn55
      replace hn56 := xHid.of hn56
      obtain ⟨he61, he62, he63, he64, he65, he66⟩ := he59
      refine xg_t (xg_blq rfl) ?_
      refine xg_t (xg_aload (va := (2, 82)) rfl rfl) ?_
      refine xg_t (xg_aload (va := (2, 82)) rfl rfl) ?_
      refine xg_t (xg_getf (va := (0, nx0)) hcl57 rfl) ?_
      have hf67 : fld w40 82 4 = sz0 := fld_of hcl57
      refine xg_cVi mX12_byteAt (vs := [(0, nx0)]) (rest := []) (cn1 := 0) (sl1 := 0) rfl (mByteX (nn := nn) (hI41) (by omega) (hB.fr (fun j _ _ => rwv_eq (hF42.1 83 (by decide)))) (by omega)) rfl hcl57 rfl rfl rfl rfl rfl rfl (fun n72 w68 hq69 => ?_)
      obtain ⟨hn73, hI70, hF71⟩ := hq69
      have hl74 : n72 ≤ 4294967295 := by have q := hn73; omega
      refine xg_t (xg_bip) ?_
      by_cases hc75 : n72 = 10
      · refine xg_t (xg_icT (u := n72) (v := 10) rfl xnm0 xnm0 (xj_eqT hc75)) ?_
        refine xg_t (xg_blq rfl) ?_
        refine xg_t (xg_aload (va := (2, 82)) rfl rfl) ?_
        refine xg_t (xg_dup rfl) ?_
        refine xg_t (xg_getf (va := (0, nx0)) (hF71.get (by decide) hcl57) rfl) ?_
        refine xg_t (xg_const) ?_
        refine xg_t (xg_iadd (u := nx0) (v := 1) (z := nx0 + 1) xnm0 xnm0 (by omega)) ?_
        refine xg_putI (fl1 := [(2, 83), (2, 84), (0, ir0), (0, sg0), (0, sz0), (0, nx0 + 1), (0, wr0), (0, tk0), (0, nu0), (0, wo0), (0, wg0), (2, 85), (2, 86), (2, 87), (0, ln0), (2, 88), (2, 89), (2, 90), (2, 91), (2, 92), (2, 93), (2, 94), (4, pt0), (4, wh0), (0, me0), (2, 95), (2, 96), (2, 97), (2, 98), (2, 99), (2, 100), (2, 101), (2, 102), (0, mt0), (2, 103), (2, 104), (2, 105), (2, 106), (2, 107), (2, 108), (2, 109), (0, pl0), (0, ps0), (2, 110), (2, 111), (2, 112), (2, 113)]) (hF71.get (by decide) hcl57) rfl rfl rfl (fun w76 hk77 hb78 => ?_)
        refine xg_t (xg_goto) ?_
        have hy79 := prn_y (c := cB) (B := B) (n := nn) (p := nx0) (by omega) (cB_t (by omega))
        exact ih38 ir0 sg0 sz0 (nx0 + 1) wr0 tk0 nu0 wo0 wg0 ln0 pt0 wh0 me0 mt0 pl0 ps0 w76 (by omega) (hn43) (hn44) (hn45) (by omega) (hn47) (hn48) (hn49) (hn50) (hn51) (hn52) (hn53) (hn54) (hn55) (hn56) hk77 (by omega) (xMnv.up (S := [82]) hI70 (xFr.of (S := [82]) hb78 (by decide)) (List.forall_mem_cons.mpr ⟨xqu82 (show cp82 (wget w76 82) from xmC82 ir0 sg0 sz0 (nx0 + 1) wr0 tk0 nu0 wo0 wg0 ln0 pt0 wh0 me0 mt0 pl0 ps0 hk77 hn43 hn44 hn45 (by omega) hn47 hn48 hn49 hn50 hn51 hn52 hn53 hn54 hn55 hn56 (by omega)), fun _ h => absurd h List.not_mem_nil⟩)) (((hF42.tr (hF71.up (by decide))).tr (xFr.of (S := [82]) hb78 (by decide)))) (⟨by omega, by omega, by omega, by omega, by omega, by omega⟩)
      · refine xg_t (xg_icF (u := n72) (v := 10) rfl xnm0 xnm0 (xj_eqF hc75)) ?_
        refine xg_t (xg_aload (va := (2, 82)) rfl rfl) ?_
        refine xg_t (xg_aload (va := (2, 82)) rfl rfl) ?_
        refine xg_t (xg_getf (va := (0, nx0)) (hF71.get (by decide) hcl57) rfl) ?_
        have hf80 : fld w68 82 4 = sz0 := fld_of (hF71.get (by decide) hcl57)
        refine xg_cVi mX12_byteAt (vs := [(0, nx0)]) (rest := []) (cn1 := 0) (sl1 := 0) rfl (mByteX (nn := nn) (hI70) (by omega) (hB.fr (fun j _ _ => rwv_eq ((hF71.1 83 (by decide)).trans (hF42.1 83 (by decide))))) (by omega)) rfl (hF71.get (by decide) hcl57) rfl rfl rfl rfl rfl rfl (fun n85 w81 hq82 => ?_)
        obtain ⟨hn86, hI83, hF84⟩ := hq82
        have hl87 : n85 ≤ 4294967295 := by have q := hn86; omega
        refine xg_t (xg_bip) ?_
        by_cases hc88 : n85 = 32
        · refine xg_t (xg_icF (u := n85) (v := 32) rfl xnm0 xnm0 (xj_neF hc88)) ?_
          refine xg_t (xg_blq rfl) ?_
          refine xg_t (xg_aload (va := (2, 82)) rfl rfl) ?_
          refine xg_t (xg_dup rfl) ?_
          refine xg_t (xg_getf (va := (0, nx0)) (hF84.get (by decide) (hF71.get (by decide) hcl57)) rfl) ?_
          refine xg_t (xg_const) ?_
          refine xg_t (xg_iadd (u := nx0) (v := 1) (z := nx0 + 1) xnm0 xnm0 (by omega)) ?_
          refine xg_putI (fl1 := [(2, 83), (2, 84), (0, ir0), (0, sg0), (0, sz0), (0, nx0 + 1), (0, wr0), (0, tk0), (0, nu0), (0, wo0), (0, wg0), (2, 85), (2, 86), (2, 87), (0, ln0), (2, 88), (2, 89), (2, 90), (2, 91), (2, 92), (2, 93), (2, 94), (4, pt0), (4, wh0), (0, me0), (2, 95), (2, 96), (2, 97), (2, 98), (2, 99), (2, 100), (2, 101), (2, 102), (0, mt0), (2, 103), (2, 104), (2, 105), (2, 106), (2, 107), (2, 108), (2, 109), (0, pl0), (0, ps0), (2, 110), (2, 111), (2, 112), (2, 113)]) (hF84.get (by decide) (hF71.get (by decide) hcl57)) rfl rfl rfl (fun w89 hk90 hb91 => ?_)
          refine xg_t (xg_goto) ?_
          have hy92 := prn_y (c := cB) (B := B) (n := nn) (p := nx0) (by omega) (cB_t (by omega))
          exact ih38 ir0 sg0 sz0 (nx0 + 1) wr0 tk0 nu0 wo0 wg0 ln0 pt0 wh0 me0 mt0 pl0 ps0 w89 (by omega) (hn43) (hn44) (hn45) (by omega) (hn47) (hn48) (hn49) (hn50) (hn51) (hn52) (hn53) (hn54) (hn55) (hn56) hk90 (by omega) (xMnv.up (S := [82]) hI83 (xFr.of (S := [82]) hb91 (by decide)) (List.forall_mem_cons.mpr ⟨xqu82 (show cp82 (wget w89 82) from xmC82 ir0 sg0 sz0 (nx0 + 1) wr0 tk0 nu0 wo0 wg0 ln0 pt0 wh0 me0 mt0 pl0 ps0 hk90 hn43 hn44 hn45 (by omega) hn47 hn48 hn49 hn50 hn51 hn52 hn53 hn54 hn55 hn56 (by omega)), fun _ h => absurd h List.not_mem_nil⟩)) ((((hF42.tr (hF71.up (by decide))).tr (hF84.up (by decide))).tr (xFr.of (S := [82]) hb91 (by decide)))) (⟨by omega, by omega, by omega, by omega, by omega, by omega⟩)
        · refine xg_t (xg_icT (u := n85) (v := 32) rfl xnm0 xnm0 (xj_neT hc88)) ?_
          refine xg_t (xg_blq rfl) ?_
          have hq : tq B nn f82_7 = nx0 := by
            have z : prn cB B nn nx0 = nx0 := by
              rcases Nat.lt_or_ge nx0 nn with y | y
              · exact prn_n (cB_f (by omega))
              · exact prn_e y
            show prn cB B nn f82_7 = nx0
            omega
          refine xg_t (xg_aload (va := (2, 82)) rfl rfl) ?_
          refine xg_t (xg_aload (va := (2, 82)) rfl rfl) ?_
          refine xg_t (xg_getf (va := (0, nx0)) (hF84.get (by decide) (hF71.get (by decide) hcl57)) rfl) ?_
          refine xg_putI (fl1 := [(2, 83), (2, 84), (0, ir0), (0, sg0), (0, sz0), (0, nx0), (0, nx0), (0, tk0), (0, nu0), (0, wo0), (0, wg0), (2, 85), (2, 86), (2, 87), (0, ln0), (2, 88), (2, 89), (2, 90), (2, 91), (2, 92), (2, 93), (2, 94), (4, pt0), (4, wh0), (0, me0), (2, 95), (2, 96), (2, 97), (2, 98), (2, 99), (2, 100), (2, 101), (2, 102), (0, mt0), (2, 103), (2, 104), (2, 105), (2, 106), (2, 107), (2, 108), (2, 109), (0, pl0), (0, ps0), (2, 110), (2, 111), (2, 112), (2, 113)]) (hF84.get (by decide) (hF71.get (by decide) hcl57)) rfl rfl rfl (fun w93 hk94 hb95 => ?_)
          refine xg_t (xg_aload (va := (2, 82)) rfl rfl) ?_
          refine xg_t (xg_aload (va := (2, 82)) rfl rfl) ?_
          refine xg_t (xg_getf (va := (0, nx0)) hk94 rfl) ?_
          have hf96 : fld w93 82 4 = sz0 := fld_of hk94
          refine xg_cVi mX12_byteAt (vs := [(0, nx0)]) (rest := []) (cn1 := 0) (sl1 := 0) rfl (mByteX (nn := nn) (xMnv.up (S := [82]) hI83 (xFr.of (S := [82]) hb95 (by decide)) (List.forall_mem_cons.mpr ⟨xqu82 (show cp82 (wget w93 82) from xmC82 ir0 sg0 sz0 nx0 nx0 tk0 nu0 wo0 wg0 ln0 pt0 wh0 me0 mt0 pl0 ps0 hk94 hn43 hn44 hn45 hn46 (by omega) hn48 hn49 hn50 hn51 hn52 hn53 hn54 hn55 hn56 (by omega)), fun _ h => absurd h List.not_mem_nil⟩)) (by omega) (hB.fr (fun j _ _ => rwv_eq ((hb95.1 83 (by decide)).trans ((hF84.1 83 (by decide)).trans ((hF71.1 83 (by decide)).trans (hF42.1 83 (by decide))))))) (by omega)) rfl hk94 rfl rfl rfl rfl rfl rfl (fun n101 w97 hq98 => ?_)
          obtain ⟨hn102, hI99, hF100⟩ := hq98
          have hl103 : n101 ≤ 4294967295 := by have q := hn102; omega
          refine xg_t (xg_istore (l1 := [(0, (2, 82))]) rfl rfl rfl) ?_
          refine xg_t (xg_iload (va := (0, n101)) rfl rfl) ?_
          by_cases hc104 : n101 < 2147483648
          · refine xg_t (xg_ifT (u := n101) rfl xnm0 (xjz_geT hc104)) ?_
            refine xg_t (xg_blq rfl) ?_
            refine xg_t (xg_iload (va := (0, n101)) rfl rfl) ?_
            refine xg_cSi mX12_isLetter (vs := [(0, n101)]) (rest := []) (cn1 := 0) (sl1 := 0) rfl (mLetter (hI99) (by omega)) rfl rfl rfl rfl rfl rfl rfl (fun n109 w105 hq106 => ?_)
            obtain ⟨hn110, hI107, hF108⟩ := hq106
            by_cases hc111 : n109 = 0
            · refine xg_t (xg_ifT (u := n109) rfl xnm0 (xj_eqT hc111)) ?_
              refine xg_t (xg_blq rfl) ?_
              refine xg_t (xg_iload (va := (0, n101)) rfl rfl) ?_
              refine xg_cSi mX12_isDigit (vs := [(0, n101)]) (rest := []) (cn1 := 0) (sl1 := 0) rfl (mDigit (hI107) (by omega)) rfl rfl rfl rfl rfl rfl rfl (fun n116 w112 hq113 => ?_)
              obtain ⟨hn117, hI114, hF115⟩ := hq113
              by_cases hc118 : n116 = 0
              · refine xg_t (xg_ifT (u := n116) rfl xnm0 (xj_eqT hc118)) ?_
                refine xg_t (xg_blq rfl) ?_
                have hlt : nx0 < nn := by omega
                have hcl : cL (B nx0) = false := cL_f (by omega)
                have hcd : cD (B nx0) = false := cD_f (by omega)
                refine xg_t (xg_aload (va := (2, 82)) rfl rfl) ?_
                refine xg_t (xg_dup rfl) ?_
                refine xg_t (xg_getf (va := (0, nx0)) (hF115.get (by decide) (hF108.get (by decide) (hF100.get (by decide) hk94))) rfl) ?_
                refine xg_t (xg_const) ?_
                refine xg_t (xg_iadd (u := nx0) (v := 1) (z := nx0 + 1) xnm0 xnm0 (by omega)) ?_
                refine xg_putI (fl1 := [(2, 83), (2, 84), (0, ir0), (0, sg0), (0, sz0), (0, nx0 + 1), (0, nx0), (0, tk0), (0, nu0), (0, wo0), (0, wg0), (2, 85), (2, 86), (2, 87), (0, ln0), (2, 88), (2, 89), (2, 90), (2, 91), (2, 92), (2, 93), (2, 94), (4, pt0), (4, wh0), (0, me0), (2, 95), (2, 96), (2, 97), (2, 98), (2, 99), (2, 100), (2, 101), (2, 102), (0, mt0), (2, 103), (2, 104), (2, 105), (2, 106), (2, 107), (2, 108), (2, 109), (0, pl0), (0, ps0), (2, 110), (2, 111), (2, 112), (2, 113)]) (hF115.get (by decide) (hF108.get (by decide) (hF100.get (by decide) hk94))) rfl rfl rfl (fun w119 hk120 hb121 => ?_)
                refine xg_t (xg_aload (va := (2, 82)) rfl rfl) ?_
                refine xg_t (xg_iload (va := (0, n101)) rfl rfl) ?_
                refine xg_putI (fl1 := [(2, 83), (2, 84), (0, ir0), (0, n101), (0, sz0), (0, nx0 + 1), (0, nx0), (0, tk0), (0, nu0), (0, wo0), (0, wg0), (2, 85), (2, 86), (2, 87), (0, ln0), (2, 88), (2, 89), (2, 90), (2, 91), (2, 92), (2, 93), (2, 94), (4, pt0), (4, wh0), (0, me0), (2, 95), (2, 96), (2, 97), (2, 98), (2, 99), (2, 100), (2, 101), (2, 102), (0, mt0), (2, 103), (2, 104), (2, 105), (2, 106), (2, 107), (2, 108), (2, 109), (0, pl0), (0, ps0), (2, 110), (2, 111), (2, 112), (2, 113)]) hk120 rfl rfl rfl (fun w122 hk123 hb124 => ?_)
                refine xg_t (xg_aload (va := (2, 82)) rfl rfl) ?_
                refine xg_t (xg_aload (va := (2, 82)) rfl rfl) ?_
                refine xg_t (xg_iload (va := (0, n101)) rfl rfl) ?_
                have hf125 : fld w122 82 2 = ir0 := fld_of hk123
                refine xg_cVi mX12_isSignByte (vs := [(0, n101)]) (rest := [(2, 82)]) (cn1 := 0) (sl1 := 0) rfl (mSgnX (ir := ir) (xMnv.up (S := [82]) hI114 ((xFr.of (S := [82]) hb121 (by decide)).tr (xFr.of (S := [82]) hb124 (by decide))) (List.forall_mem_cons.mpr ⟨xqu82 (show cp82 (wget w122 82) from xmC82 ir0 n101 sz0 (nx0 + 1) nx0 tk0 nu0 wo0 wg0 ln0 pt0 wh0 me0 mt0 pl0 ps0 hk123 hn43 (by omega) hn45 (by omega) (by omega) hn48 hn49 hn50 hn51 hn52 hn53 hn54 hn55 hn56 (by omega)), fun _ h => absurd h List.not_mem_nil⟩)) (by omega) (by have := hf125; omega)) rfl hk123 rfl rfl rfl rfl rfl rfl (fun n130 w126 hq127 => ?_)
                obtain ⟨hn131, hI128, hF129⟩ := hq127
                by_cases hc132 : n130 = 0
                · refine xg_t (xg_ifT (u := n130) rfl xnm0 (xj_eqT hc132)) ?_
                  refine xg_t (xg_blq rfl) ?_
                  refine xg_t (xg_const) ?_
                  refine xg_t (xg_blq rfl) ?_
                  refine xg_putI (fl1 := [(2, 83), (2, 84), (0, ir0), (0, n101), (0, sz0), (0, nx0 + 1), (0, nx0), (0, 4), (0, nu0), (0, wo0), (0, wg0), (2, 85), (2, 86), (2, 87), (0, ln0), (2, 88), (2, 89), (2, 90), (2, 91), (2, 92), (2, 93), (2, 94), (4, pt0), (4, wh0), (0, me0), (2, 95), (2, 96), (2, 97), (2, 98), (2, 99), (2, 100), (2, 101), (2, 102), (0, mt0), (2, 103), (2, 104), (2, 105), (2, 106), (2, 107), (2, 108), (2, 109), (0, pl0), (0, ps0), (2, 110), (2, 111), (2, 112), (2, 113)]) (hF129.get (by decide) hk123) rfl rfl rfl (fun w133 hk134 hb135 => ?_)
                  refine xg_t (xg_blq rfl) ?_
                  have hf136 : fld w133 82 2 = ir0 := fld_of hk134
                  have hf137 : fld w133 82 3 = n101 := fld_of hk134
                  have hf138 : fld w133 82 4 = sz0 := fld_of hk134
                  have hf139 : fld w133 82 5 = nx0 + 1 := fld_of hk134
                  have hf140 : fld w133 82 6 = nx0 := fld_of hk134
                  have hf141 : fld w133 82 7 = 4 := fld_of hk134
                  have hf142 : fld w133 82 8 = nu0 := fld_of hk134
                  have hf143 : fld w133 82 9 = wo0 := fld_of hk134
                  have hf144 : fld w133 82 10 = wg0 := fld_of hk134
                  have hf145 : fld w133 82 14 = ln0 := fld_of hk134
                  obtain ⟨k1, k2⟩ := tk_sign (B := B) (n := nn) (p := f82_7) (by omega) (by rw [hq]; exact hcl) (by rw [hq]; exact hcd)
                  rw [hq] at k1 k2
                  have km : mkd ir B nn f82_7 = 4 := by
                    by_cases y : B nx0 = 59 ∨ B nx0 = 58 ∨ B nx0 = 60 ∨ B nx0 = 62 ∨ B nx0 = 61
                    · rw [cS_t y, if_pos rfl] at k1
                      exact mkd_2n k1 (by rw [hq]; omega)
                    · rw [cS_f y, if_neg Bool.false_ne_true] at k1
                      exact mkd_4 k1
                  have k4 : tkd B nn f82_7 = 3 ∨ tkd B nn f82_7 = 4 := by rw [k1]; split <;> omega
                  have hT : TKM ir B nn w133 f82_7 := ⟨⟨by omega, by omega, by omega, by omega, by omega, by omega⟩, fun z => by omega, fun z => by omega, fun z => by rw [hq]; omega⟩
                  exact xg_e ⟨w133, ⟨rfl, rfl⟩, xMnv.up (S := [82]) hI128 (xFr.of (S := [82]) hb135 (by decide)) (List.forall_mem_cons.mpr ⟨xqu82 (show cp82 (wget w133 82) from xmC82 ir0 n101 sz0 (nx0 + 1) nx0 4 nu0 wo0 wg0 ln0 pt0 wh0 me0 mt0 pl0 ps0 hk134 hn43 (by omega) hn45 (by omega) (by omega) (by decide) hn49 hn50 hn51 hn52 hn53 hn54 hn55 hn56 (by omega)), fun _ h => absurd h List.not_mem_nil⟩), (((((((((hF42.tr (hF71.up (by decide))).tr (hF84.up (by decide))).tr (xFr.of (S := [82]) hb95 (by decide))).tr (hF100.up (by decide))).tr (hF108.up (by decide))).tr (hF115.up (by decide))).tr ((xFr.of (S := [82]) hb121 (by decide)).tr (xFr.of (S := [82]) hb124 (by decide)))).tr (hF129.up (by decide))).tr (xFr.of (S := [82]) hb135 (by decide))), ⟨by rw [q5_]; exact hT, by omega, by omega⟩⟩
                · refine xg_t (xg_ifF (u := n130) rfl xnm0 (xj_eqF hc132)) ?_
                  refine xg_t (xg_const) ?_
                  refine xg_t (xg_goto) ?_
                  refine xg_t (xg_blq rfl) ?_
                  refine xg_putI (fl1 := [(2, 83), (2, 84), (0, ir0), (0, n101), (0, sz0), (0, nx0 + 1), (0, nx0), (0, 2), (0, nu0), (0, wo0), (0, wg0), (2, 85), (2, 86), (2, 87), (0, ln0), (2, 88), (2, 89), (2, 90), (2, 91), (2, 92), (2, 93), (2, 94), (4, pt0), (4, wh0), (0, me0), (2, 95), (2, 96), (2, 97), (2, 98), (2, 99), (2, 100), (2, 101), (2, 102), (0, mt0), (2, 103), (2, 104), (2, 105), (2, 106), (2, 107), (2, 108), (2, 109), (0, pl0), (0, ps0), (2, 110), (2, 111), (2, 112), (2, 113)]) (hF129.get (by decide) hk123) rfl rfl rfl (fun w146 hk147 hb148 => ?_)
                  refine xg_t (xg_blq rfl) ?_
                  have hf149 : fld w146 82 2 = ir0 := fld_of hk147
                  have hf150 : fld w146 82 3 = n101 := fld_of hk147
                  have hf151 : fld w146 82 4 = sz0 := fld_of hk147
                  have hf152 : fld w146 82 5 = nx0 + 1 := fld_of hk147
                  have hf153 : fld w146 82 6 = nx0 := fld_of hk147
                  have hf154 : fld w146 82 7 = 2 := fld_of hk147
                  have hf155 : fld w146 82 8 = nu0 := fld_of hk147
                  have hf156 : fld w146 82 9 = wo0 := fld_of hk147
                  have hf157 : fld w146 82 10 = wg0 := fld_of hk147
                  have hf158 : fld w146 82 14 = ln0 := fld_of hk147
                  obtain ⟨k1, k2⟩ := tk_sign (B := B) (n := nn) (p := f82_7) (by omega) (by rw [hq]; exact hcl) (by rw [hq]; exact hcd)
                  rw [hq] at k1 k2
                  have km : mkd ir B nn f82_7 = 2 := by
                    by_cases y : B nx0 = 59 ∨ B nx0 = 58 ∨ B nx0 = 60 ∨ B nx0 = 62 ∨ B nx0 = 61
                    · rw [cS_t y, if_pos rfl] at k1
                      exact mkd_2 k1 (by rw [hq]; omega)
                    · omega
                  have k4 : tkd B nn f82_7 = 3 ∨ tkd B nn f82_7 = 4 := by rw [k1]; split <;> omega
                  have hT : TKM ir B nn w146 f82_7 := ⟨⟨by omega, by omega, by omega, by omega, by omega, by omega⟩, fun z => by omega, fun z => by omega, fun z => by rw [hq]; omega⟩
                  exact xg_e ⟨w146, ⟨rfl, rfl⟩, xMnv.up (S := [82]) hI128 (xFr.of (S := [82]) hb148 (by decide)) (List.forall_mem_cons.mpr ⟨xqu82 (show cp82 (wget w146 82) from xmC82 ir0 n101 sz0 (nx0 + 1) nx0 2 nu0 wo0 wg0 ln0 pt0 wh0 me0 mt0 pl0 ps0 hk147 hn43 (by omega) hn45 (by omega) (by omega) (by decide) hn49 hn50 hn51 hn52 hn53 hn54 hn55 hn56 (by omega)), fun _ h => absurd h List.not_mem_nil⟩), (((((((((hF42.tr (hF71.up (by decide))).tr (hF84.up (by decide))).tr (xFr.of (S := [82]) hb95 (by decide))).tr (hF100.up (by decide))).tr (hF108.up (by decide))).tr (hF115.up (by decide))).tr ((xFr.of (S := [82]) hb121 (by decide)).tr (xFr.of (S := [82]) hb124 (by decide)))).tr (hF129.up (by decide))).tr (xFr.of (S := [82]) hb148 (by decide))), ⟨by rw [q5_]; exact hT, by omega, by omega⟩⟩
              · refine xg_t (xg_ifF (u := n116) rfl xnm0 (xj_eqF hc118)) ?_
                have hlt : nx0 < nn := by omega
                have hcl : cL (B nx0) = false := cL_f (by omega)
                have hcd : cD (B nx0) = true := cD_t (by omega)
                refine xg_t (xg_aload (va := (2, 82)) rfl rfl) ?_
                refine xg_t (xg_const) ?_
                refine xg_putI (fl1 := [(2, 83), (2, 84), (0, ir0), (0, sg0), (0, sz0), (0, nx0), (0, nx0), (0, tk0), (0, 0), (0, wo0), (0, wg0), (2, 85), (2, 86), (2, 87), (0, ln0), (2, 88), (2, 89), (2, 90), (2, 91), (2, 92), (2, 93), (2, 94), (4, pt0), (4, wh0), (0, me0), (2, 95), (2, 96), (2, 97), (2, 98), (2, 99), (2, 100), (2, 101), (2, 102), (0, mt0), (2, 103), (2, 104), (2, 105), (2, 106), (2, 107), (2, 108), (2, 109), (0, pl0), (0, ps0), (2, 110), (2, 111), (2, 112), (2, 113)]) (hF115.get (by decide) (hF108.get (by decide) (hF100.get (by decide) hk94))) rfl rfl rfl (fun w159 hk160 hb161 => ?_)
                refine xg_t (xg_drop (l1 := [(0, (2, 82)), (1, (0, n101))]) (List.forall_mem_cons.mpr ⟨List.mem_cons_of_mem _ (List.mem_cons_self), List.forall_mem_cons.mpr ⟨List.mem_cons_self, fun _ h => absurd h List.not_mem_nil⟩⟩)) ?_
                have key162 : ∀ (m164 : Nat) (ir2 sg2 sz2 nx2 wr2 tk2 nu2 wo2 wg2 ln2 pt2 wh2 me2 mt2 pl2 ps2 : Nat) (w165 : List (List xE)), 500 - nx2 < m164 → ir2 ≤ 1 → sg2 ≤ 4294967295 → sz2 ≤ 500 → nx2 ≤ 500 → wr2 ≤ 4294967295 → tk2 ≤ 4 → nu2 ≤ 4294967295 → wo2 ≤ 4294967295 → wg2 ≤ 1 → ln2 ≤ 4294967295 → me2 ≤ 4294967295 → mt2 ≤ 36 → pl2 ≤ 100 → ps2 ≤ 200 → wget w165 82 = some (.inl (12, [(2, 83), (2, 84), (0, ir2), (0, sg2), (0, sz2), (0, nx2), (0, wr2), (0, tk2), (0, nu2), (0, wo2), (0, wg2), (2, 85), (2, 86), (2, 87), (0, ln2), (2, 88), (2, 89), (2, 90), (2, 91), (2, 92), (2, 93), (2, 94), (4, pt2), (4, wh2), (0, me2), (2, 95), (2, 96), (2, 97), (2, 98), (2, 99), (2, 100), (2, 101), (2, 102), (0, mt2), (2, 103), (2, 104), (2, 105), (2, 106), (2, 107), (2, 108), (2, 109), (0, pl2), (0, ps2), (2, 110), (2, 111), (2, 112), (2, 113)])) → (nx2 ≤ sz2) → xMnv w165 → xFr [82] w w165 → (sz2 = nn ∧ ir2 = f82_1 ∧ wg2 = f82_17 ∧ ln2 = f82_19 ∧ wr2 = nx0 ∧ nx0 ≤ nx2 ∧ nx2 ≤ nn ∧ prn cD B nn nx2 = prn cD B nn nx0 ∧ nu2 = dgv B nx0 (min 4 (nx2 - nx0))) → xTo (d + 4) mX12_advance (212, [], [(0, (2, 82)), (1, (0, n101))], [], (w165, bd, fc, 0, 0, rr)) (fun φ => ∃ w', xEnd 0 [] (w', bd, fc, 0, 0, rr) φ ∧ xMnv w' ∧ xFr [82] w w' ∧ (TKM ir B nn w' (fld w 82 5) ∧ fld w' 82 10 = fld w 82 10 ∧ fld w' 82 14 = fld w 82 14)) := by
                  intro m164
                  induction m164 with
                  | zero => intro ir2 sg2 sz2 nx2 wr2 tk2 nu2 wo2 wg2 ln2 pt2 wh2 me2 mt2 pl2 ps2 w165 hz; exact absurd hz (Nat.not_lt_zero _)
                  | succ m164 ih163 =>
                    intro ir2 sg2 sz2 nx2 wr2 tk2 nu2 wo2 wg2 ln2 pt2 wh2 me2 mt2 pl2 ps2 w165 hm185 hn168 hn169 hn170 hn171 hn172 hn173 hn174 hn175 hn176 hn177 hn178 hn179 hn180 hn181 hcl182 hx183 hI166 hF167 he184
                    replace hn169 := xHid.of hn169
                    replace hn172 := xHid.of hn172
                    replace hn174 := xHid.of hn174
                    replace hn175 := xHid.of hn175
                    replace hn177 := xHid.of hn177
                    replace hn178 := xHid.of hn178
                    replace hn179 := xHid.of hn179
                    replace hn180 := xHid.of hn180
                    replace hn181 := xHid.of hn181
                    obtain ⟨he186, he187, he188, he189, he190, he191, he192, he193, he194⟩ := he184
                    have hg195 := prn_ge (c := cD) (B := B) (n := nn) (p := nx2)
                    obtain ⟨hd196, hd197, -, -⟩ := dgv_le (B := B) (q := nx0) (min 4 (nx2 - nx0)) (fun j hj => (cD_of (prn_all (c := cD) (B := B) (n := nn) (p := nx0) (j := nx0 + j) (by omega) (by omega)).2).2) (by omega)
                    refine xg_t (xg_blq rfl) ?_
                    refine xg_t (xg_aload (va := (2, 82)) rfl rfl) ?_
                    refine xg_t (xg_aload (va := (2, 82)) rfl rfl) ?_
                    refine xg_t (xg_getf (va := (0, nx2)) hcl182 rfl) ?_
                    have hf198 : fld w165 82 4 = sz2 := fld_of hcl182
                    refine xg_cVi mX12_byteAt (vs := [(0, nx2)]) (rest := []) (cn1 := 0) (sl1 := 0) rfl (mByteX (nn := nn) (hI166) (by omega) (hB.fr (fun j _ _ => rwv_eq (hF167.1 83 (by decide)))) (by omega)) rfl hcl182 rfl rfl rfl rfl rfl rfl (fun n203 w199 hq200 => ?_)
                    obtain ⟨hn204, hI201, hF202⟩ := hq200
                    have hl205 : n203 ≤ 4294967295 := by have q := hn204; omega
                    refine xg_cSi mX12_isDigit (vs := [(0, n203)]) (rest := []) (cn1 := 0) (sl1 := 0) rfl (mDigit (hI201) (by omega)) rfl rfl rfl rfl rfl rfl rfl (fun n210 w206 hq207 => ?_)
                    obtain ⟨hn211, hI208, hF209⟩ := hq207
                    by_cases hc212 : n210 = 0
                    · refine xg_t (xg_ifT (u := n210) rfl xnm0 (xj_eqT hc212)) ?_
                      refine xg_t (xg_blq rfl) ?_
                      have ha : prn cD B nn nx2 = nx2 := by
                        rcases Nat.lt_or_ge nx2 nn with y | y
                        · exact prn_n (cD_f (by omega))
                        · exact prn_e y
                      refine xg_t (xg_aload (va := (2, 82)) rfl rfl) ?_
                      refine xg_t (xg_aload (va := (2, 82)) rfl rfl) ?_
                      refine xg_t (xg_getf (va := (0, nx2)) (hF209.get (by decide) (hF202.get (by decide) hcl182)) rfl) ?_
                      refine xg_t (xg_aload (va := (2, 82)) rfl rfl) ?_
                      refine xg_t (xg_getf (va := (0, wr2)) (hF209.get (by decide) (hF202.get (by decide) hcl182)) rfl) ?_
                      have hn213 : wr2 ≤ 4294967295 := hn172
                      refine xg_t (xg_isub (u := nx2) (v := wr2) (z := (nx2 + (4294967296 - wr2)) % 4294967296) xnm0 xnm0 (rfl)) ?_
                      refine xg_t (xg_const) ?_
                      by_cases hc214 : xbs 4 < xbs ((nx2 + (4294967296 - wr2)) % 4294967296)
                      · have hc214u := hc214
                        unfold xbs at hc214u
                        have hn215 : (nx2 + (4294967296 - wr2)) % 4294967296 ≤ 2147483647 := by omega
                        refine xg_t (xg_icF (u := (nx2 + (4294967296 - wr2)) % 4294967296) (v := 4) rfl xnm0 xnm0 (xjs_leF hc214)) ?_
                        refine xg_t (xg_const) ?_
                        refine xg_t (xg_goto) ?_
                        refine xg_t (xg_blq rfl) ?_
                        refine xg_putI (fl1 := [(2, 83), (2, 84), (0, ir2), (0, sg2), (0, sz2), (0, nx2), (0, wr2), (0, 4), (0, nu2), (0, wo2), (0, wg2), (2, 85), (2, 86), (2, 87), (0, ln2), (2, 88), (2, 89), (2, 90), (2, 91), (2, 92), (2, 93), (2, 94), (4, pt2), (4, wh2), (0, me2), (2, 95), (2, 96), (2, 97), (2, 98), (2, 99), (2, 100), (2, 101), (2, 102), (0, mt2), (2, 103), (2, 104), (2, 105), (2, 106), (2, 107), (2, 108), (2, 109), (0, pl2), (0, ps2), (2, 110), (2, 111), (2, 112), (2, 113)]) (hF209.get (by decide) (hF202.get (by decide) hcl182)) rfl rfl rfl (fun w216 hk217 hb218 => ?_)
                        refine xg_t (xg_goto) ?_
                        refine xg_t (xg_blq rfl) ?_
                        have hf219 : fld w216 82 2 = ir2 := fld_of hk217
                        have hf220 : fld w216 82 3 = sg2 := fld_of hk217
                        have hf221 : fld w216 82 4 = sz2 := fld_of hk217
                        have hf222 : fld w216 82 5 = nx2 := fld_of hk217
                        have hf223 : fld w216 82 6 = wr2 := fld_of hk217
                        have hf224 : fld w216 82 7 = 4 := fld_of hk217
                        have hf225 : fld w216 82 8 = nu2 := fld_of hk217
                        have hf226 : fld w216 82 9 = wo2 := fld_of hk217
                        have hf227 : fld w216 82 10 = wg2 := fld_of hk217
                        have hf228 : fld w216 82 14 = ln2 := fld_of hk217
                        obtain ⟨k1, k2⟩ := tk_num (B := B) (n := nn) (p := f82_7) (by omega) (by rw [hq]; exact hcl) (by rw [hq]; exact hcd)
                        rw [hq] at k2
                        have k3 : tf B nn f82_7 = nx2 := by omega
                        rw [k3, hq] at k1
                        rw [if_pos (by omega)] at k1
                        have hv : tnu B nn f82_7 = dgv B nx0 (min 4 (nx2 - nx0)) := by unfold tnu; rw [k3, hq]
                        have km := mkd_4 (ir := ir) k1
                        have hT : TKM ir B nn w216 f82_7 := ⟨⟨by omega, by omega, by omega, by omega, by omega, by omega⟩, fun z => by omega, fun z => by omega, fun z => by omega⟩
                        exact xg_e ⟨w216, ⟨rfl, rfl⟩, xMnv.up (S := [82]) hI208 (xFr.of (S := [82]) hb218 (by decide)) (List.forall_mem_cons.mpr ⟨xqu82 (show cp82 (wget w216 82) from xmC82 ir2 sg2 sz2 nx2 wr2 4 nu2 wo2 wg2 ln2 pt2 wh2 me2 mt2 pl2 ps2 hk217 hn168 hn169 hn170 hn171 hn172 (by decide) hn174 hn175 hn176 hn177 hn178 hn179 hn180 hn181 (by omega)), fun _ h => absurd h List.not_mem_nil⟩), (((hF167.tr (hF202.up (by decide))).tr (hF209.up (by decide))).tr (xFr.of (S := [82]) hb218 (by decide))), ⟨by rw [q5_]; exact hT, by omega, by omega⟩⟩
                      · have hc214u := hc214
                        unfold xbs at hc214u
                        refine xg_t (xg_icT (u := (nx2 + (4294967296 - wr2)) % 4294967296) (v := 4) rfl xnm0 xnm0 (xjs_leT hc214)) ?_
                        refine xg_t (xg_blq rfl) ?_
                        refine xg_t (xg_const) ?_
                        refine xg_t (xg_blq rfl) ?_
                        refine xg_putI (fl1 := [(2, 83), (2, 84), (0, ir2), (0, sg2), (0, sz2), (0, nx2), (0, wr2), (0, 1), (0, nu2), (0, wo2), (0, wg2), (2, 85), (2, 86), (2, 87), (0, ln2), (2, 88), (2, 89), (2, 90), (2, 91), (2, 92), (2, 93), (2, 94), (4, pt2), (4, wh2), (0, me2), (2, 95), (2, 96), (2, 97), (2, 98), (2, 99), (2, 100), (2, 101), (2, 102), (0, mt2), (2, 103), (2, 104), (2, 105), (2, 106), (2, 107), (2, 108), (2, 109), (0, pl2), (0, ps2), (2, 110), (2, 111), (2, 112), (2, 113)]) (hF209.get (by decide) (hF202.get (by decide) hcl182)) rfl rfl rfl (fun w229 hk230 hb231 => ?_)
                        refine xg_t (xg_goto) ?_
                        refine xg_t (xg_blq rfl) ?_
                        have hf232 : fld w229 82 2 = ir2 := fld_of hk230
                        have hf233 : fld w229 82 3 = sg2 := fld_of hk230
                        have hf234 : fld w229 82 4 = sz2 := fld_of hk230
                        have hf235 : fld w229 82 5 = nx2 := fld_of hk230
                        have hf236 : fld w229 82 6 = wr2 := fld_of hk230
                        have hf237 : fld w229 82 7 = 1 := fld_of hk230
                        have hf238 : fld w229 82 8 = nu2 := fld_of hk230
                        have hf239 : fld w229 82 9 = wo2 := fld_of hk230
                        have hf240 : fld w229 82 10 = wg2 := fld_of hk230
                        have hf241 : fld w229 82 14 = ln2 := fld_of hk230
                        obtain ⟨k1, k2⟩ := tk_num (B := B) (n := nn) (p := f82_7) (by omega) (by rw [hq]; exact hcl) (by rw [hq]; exact hcd)
                        rw [hq] at k2
                        have k3 : tf B nn f82_7 = nx2 := by omega
                        rw [k3, hq] at k1
                        rw [if_neg (by omega)] at k1
                        have hv : tnu B nn f82_7 = dgv B nx0 (min 4 (nx2 - nx0)) := by unfold tnu; rw [k3, hq]
                        have km := mkd_1 (ir := ir) k1
                        have hT : TKM ir B nn w229 f82_7 := ⟨⟨by omega, by omega, by omega, by omega, by omega, by omega⟩, fun z => by omega, fun z => by omega, fun z => by omega⟩
                        exact xg_e ⟨w229, ⟨rfl, rfl⟩, xMnv.up (S := [82]) hI208 (xFr.of (S := [82]) hb231 (by decide)) (List.forall_mem_cons.mpr ⟨xqu82 (show cp82 (wget w229 82) from xmC82 ir2 sg2 sz2 nx2 wr2 1 nu2 wo2 wg2 ln2 pt2 wh2 me2 mt2 pl2 ps2 hk230 hn168 hn169 hn170 hn171 hn172 (by decide) hn174 hn175 hn176 hn177 hn178 hn179 hn180 hn181 (by omega)), fun _ h => absurd h List.not_mem_nil⟩), (((hF167.tr (hF202.up (by decide))).tr (hF209.up (by decide))).tr (xFr.of (S := [82]) hb231 (by decide))), ⟨by rw [q5_]; exact hT, by omega, by omega⟩⟩
                    · refine xg_t (xg_ifF (u := n210) rfl xnm0 (xj_eqF hc212)) ?_
                      refine xg_t (xg_aload (va := (2, 82)) rfl rfl) ?_
                      refine xg_t (xg_getf (va := (0, nx2)) (hF209.get (by decide) (hF202.get (by decide) hcl182)) rfl) ?_
                      refine xg_t (xg_aload (va := (2, 82)) rfl rfl) ?_
                      refine xg_t (xg_getf (va := (0, wr2)) (hF209.get (by decide) (hF202.get (by decide) hcl182)) rfl) ?_
                      have hn242 : wr2 ≤ 4294967295 := hn172
                      refine xg_t (xg_isub (u := nx2) (v := wr2) (z := (nx2 + (4294967296 - wr2)) % 4294967296) xnm0 xnm0 (rfl)) ?_
                      refine xg_t (xg_const) ?_
                      by_cases hc243 : xbs ((nx2 + (4294967296 - wr2)) % 4294967296) < xbs 4
                      · have hc243u := hc243
                        unfold xbs at hc243u
                        refine xg_t (xg_icF (u := (nx2 + (4294967296 - wr2)) % 4294967296) (v := 4) rfl xnm0 xnm0 (xjs_geF hc243)) ?_
                        refine xg_t (xg_aload (va := (2, 82)) rfl rfl) ?_
                        refine xg_t (xg_bip) ?_
                        refine xg_t (xg_aload (va := (2, 82)) rfl rfl) ?_
                        refine xg_t (xg_getf (va := (0, nu2)) (hF209.get (by decide) (hF202.get (by decide) hcl182)) rfl) ?_
                        have hn244 : nu2 ≤ 4294967295 := hn174
                        have hd245 := hd197 (by omega)
                        refine xg_t (xg_imul (u := 10) (v := nu2) (z := 10 * nu2) xnm0 xnm0 (Nat.mod_eq_of_lt (by omega))) ?_
                        refine xg_t (xg_aload (va := (2, 82)) rfl rfl) ?_
                        refine xg_t (xg_aload (va := (2, 82)) rfl rfl) ?_
                        refine xg_t (xg_getf (va := (0, nx2)) (hF209.get (by decide) (hF202.get (by decide) hcl182)) rfl) ?_
                        have hf246 : fld w206 82 4 = sz2 := fld_of (hF209.get (by decide) (hF202.get (by decide) hcl182))
                        refine xg_cVi mX12_byteAt (vs := [(0, nx2)]) (rest := [(0, 10 * nu2), (2, 82)]) (cn1 := 0) (sl1 := 0) rfl (mByteX (nn := nn) (hI208) (by omega) (hB.fr (fun j _ _ => rwv_eq ((hF209.1 83 (by decide)).trans ((hF202.1 83 (by decide)).trans (hF167.1 83 (by decide)))))) (by omega)) rfl (hF209.get (by decide) (hF202.get (by decide) hcl182)) rfl rfl rfl rfl rfl rfl (fun n251 w247 hq248 => ?_)
                        obtain ⟨hn252, hI249, hF250⟩ := hq248
                        have hl253 : n251 ≤ 4294967295 := by have q := hn252; omega
                        have hd254 : 48 ≤ n251 ∧ n251 ≤ 57 := by omega
                        refine xg_t (xg_iadd (u := 10 * nu2) (v := n251) (z := 10 * nu2 + n251) xnm0 xnm0 (Nat.mod_eq_of_lt (by omega))) ?_
                        refine xg_t (xg_bip) ?_
                        refine xg_t (xg_isub (u := 10 * nu2 + n251) (v := 48) (z := (10 * nu2 + n251) - 48) xnm0 xnm0 (by omega)) ?_
                        refine xg_putI (fl1 := [(2, 83), (2, 84), (0, ir2), (0, sg2), (0, sz2), (0, nx2), (0, wr2), (0, tk2), (0, (10 * nu2 + n251) - 48), (0, wo2), (0, wg2), (2, 85), (2, 86), (2, 87), (0, ln2), (2, 88), (2, 89), (2, 90), (2, 91), (2, 92), (2, 93), (2, 94), (4, pt2), (4, wh2), (0, me2), (2, 95), (2, 96), (2, 97), (2, 98), (2, 99), (2, 100), (2, 101), (2, 102), (0, mt2), (2, 103), (2, 104), (2, 105), (2, 106), (2, 107), (2, 108), (2, 109), (0, pl2), (0, ps2), (2, 110), (2, 111), (2, 112), (2, 113)]) (hF250.get (by decide) (hF209.get (by decide) (hF202.get (by decide) hcl182))) rfl rfl rfl (fun w255 hk256 hb257 => ?_)
                        refine xg_t (xg_blq rfl) ?_
                        refine xg_t (xg_aload (va := (2, 82)) rfl rfl) ?_
                        refine xg_t (xg_dup rfl) ?_
                        refine xg_t (xg_getf (va := (0, nx2)) hk256 rfl) ?_
                        refine xg_t (xg_const) ?_
                        refine xg_t (xg_iadd (u := nx2) (v := 1) (z := nx2 + 1) xnm0 xnm0 (by omega)) ?_
                        refine xg_putI (fl1 := [(2, 83), (2, 84), (0, ir2), (0, sg2), (0, sz2), (0, nx2 + 1), (0, wr2), (0, tk2), (0, (10 * nu2 + n251) - 48), (0, wo2), (0, wg2), (2, 85), (2, 86), (2, 87), (0, ln2), (2, 88), (2, 89), (2, 90), (2, 91), (2, 92), (2, 93), (2, 94), (4, pt2), (4, wh2), (0, me2), (2, 95), (2, 96), (2, 97), (2, 98), (2, 99), (2, 100), (2, 101), (2, 102), (0, mt2), (2, 103), (2, 104), (2, 105), (2, 106), (2, 107), (2, 108), (2, 109), (0, pl2), (0, ps2), (2, 110), (2, 111), (2, 112), (2, 113)]) hk256 rfl rfl rfl (fun w258 hk259 hb260 => ?_)
                        refine xg_t (xg_goto) ?_
                        have hy261 := dgv_y (B := B) (p := nx0) (a := nx2) (by omega) (by omega)
                        have hy262 := prn_y (c := cD) (B := B) (n := nn) (p := nx2) (by omega) (cD_t (by omega))
                        exact ih163 ir2 sg2 sz2 (nx2 + 1) wr2 tk2 ((10 * nu2 + n251) - 48) wo2 wg2 ln2 pt2 wh2 me2 mt2 pl2 ps2 w258 (by omega) (hn168) (hn169) (hn170) (by omega) (hn172) (hn173) (by omega) (hn175) (hn176) (hn177) (hn178) (hn179) (hn180) (hn181) hk259 (by omega) (xMnv.up (S := [82]) hI249 ((xFr.of (S := [82]) hb257 (by decide)).tr (xFr.of (S := [82]) hb260 (by decide))) (List.forall_mem_cons.mpr ⟨xqu82 (show cp82 (wget w258 82) from xmC82 ir2 sg2 sz2 (nx2 + 1) wr2 tk2 ((10 * nu2 + n251) - 48) wo2 wg2 ln2 pt2 wh2 me2 mt2 pl2 ps2 hk259 hn168 hn169 hn170 (by omega) hn172 hn173 (by omega) hn175 hn176 hn177 hn178 hn179 hn180 hn181 (by omega)), fun _ h => absurd h List.not_mem_nil⟩)) (((((hF167.tr (hF202.up (by decide))).tr (hF209.up (by decide))).tr (hF250.up (by decide))).tr ((xFr.of (S := [82]) hb257 (by decide)).tr (xFr.of (S := [82]) hb260 (by decide))))) (⟨by omega, by omega, by omega, by omega, by omega, by omega, by omega, by omega, by omega⟩)
                      · have hc243u := hc243
                        unfold xbs at hc243u
                        have hn263 : (nx2 + (4294967296 - wr2)) % 4294967296 ≤ 2147483647 := by omega
                        refine xg_t (xg_icT (u := (nx2 + (4294967296 - wr2)) % 4294967296) (v := 4) rfl xnm0 xnm0 (xjs_geT hc243)) ?_
                        refine xg_t (xg_blq rfl) ?_
                        refine xg_t (xg_aload (va := (2, 82)) rfl rfl) ?_
                        refine xg_t (xg_dup rfl) ?_
                        refine xg_t (xg_getf (va := (0, nx2)) (hF209.get (by decide) (hF202.get (by decide) hcl182)) rfl) ?_
                        refine xg_t (xg_const) ?_
                        refine xg_t (xg_iadd (u := nx2) (v := 1) (z := nx2 + 1) xnm0 xnm0 (by omega)) ?_
                        refine xg_putI (fl1 := [(2, 83), (2, 84), (0, ir2), (0, sg2), (0, sz2), (0, nx2 + 1), (0, wr2), (0, tk2), (0, nu2), (0, wo2), (0, wg2), (2, 85), (2, 86), (2, 87), (0, ln2), (2, 88), (2, 89), (2, 90), (2, 91), (2, 92), (2, 93), (2, 94), (4, pt2), (4, wh2), (0, me2), (2, 95), (2, 96), (2, 97), (2, 98), (2, 99), (2, 100), (2, 101), (2, 102), (0, mt2), (2, 103), (2, 104), (2, 105), (2, 106), (2, 107), (2, 108), (2, 109), (0, pl2), (0, ps2), (2, 110), (2, 111), (2, 112), (2, 113)]) (hF209.get (by decide) (hF202.get (by decide) hcl182)) rfl rfl rfl (fun w264 hk265 hb266 => ?_)
                        refine xg_t (xg_goto) ?_
                        have hy267 := dgv_n (B := B) (p := nx0) (a := nx2) (by omega)
                        have hy268 := prn_y (c := cD) (B := B) (n := nn) (p := nx2) (by omega) (cD_t (by omega))
                        exact ih163 ir2 sg2 sz2 (nx2 + 1) wr2 tk2 nu2 wo2 wg2 ln2 pt2 wh2 me2 mt2 pl2 ps2 w264 (by omega) (hn168) (hn169) (hn170) (by omega) (hn172) (hn173) (hn174) (hn175) (hn176) (hn177) (hn178) (hn179) (hn180) (hn181) hk265 (by omega) (xMnv.up (S := [82]) hI208 (xFr.of (S := [82]) hb266 (by decide)) (List.forall_mem_cons.mpr ⟨xqu82 (show cp82 (wget w264 82) from xmC82 ir2 sg2 sz2 (nx2 + 1) wr2 tk2 nu2 wo2 wg2 ln2 pt2 wh2 me2 mt2 pl2 ps2 hk265 hn168 hn169 hn170 (by omega) hn172 hn173 hn174 hn175 hn176 hn177 hn178 hn179 hn180 hn181 (by omega)), fun _ h => absurd h List.not_mem_nil⟩)) ((((hF167.tr (hF202.up (by decide))).tr (hF209.up (by decide))).tr (xFr.of (S := [82]) hb266 (by decide)))) (⟨by omega, by omega, by omega, by omega, by omega, by omega, by omega, by omega, by omega⟩)
                exact key162 _ ir0 sg0 sz0 nx0 nx0 tk0 0 wo0 wg0 ln0 pt0 wh0 me0 mt0 pl0 ps0 w159 (Nat.lt_succ_self _) (hn43) (hn44) (hn45) (hn46) (by omega) (hn48) (by decide) (hn50) (hn51) (hn52) (hn53) (hn54) (hn55) (hn56) hk160 (by omega) (xMnv.up (S := [82]) hI114 (xFr.of (S := [82]) hb161 (by decide)) (List.forall_mem_cons.mpr ⟨xqu82 (show cp82 (wget w159 82) from xmC82 ir0 sg0 sz0 nx0 nx0 tk0 0 wo0 wg0 ln0 pt0 wh0 me0 mt0 pl0 ps0 hk160 hn43 hn44 hn45 hn46 (by omega) hn48 (by decide) hn50 hn51 hn52 hn53 hn54 hn55 hn56 (by omega)), fun _ h => absurd h List.not_mem_nil⟩)) ((((((((hF42.tr (hF71.up (by decide))).tr (hF84.up (by decide))).tr (xFr.of (S := [82]) hb95 (by decide))).tr (hF100.up (by decide))).tr (hF108.up (by decide))).tr (hF115.up (by decide))).tr (xFr.of (S := [82]) hb161 (by decide)))) (⟨by omega, by omega, by omega, by omega, by omega, by omega, by omega, rfl, by rw [Nat.sub_self]; rfl⟩)
            · refine xg_t (xg_ifF (u := n109) rfl xnm0 (xj_eqF hc111)) ?_
              have hlt : nx0 < nn := by omega
              have hcl : cL (B nx0) = true := cL_t (by omega)
              refine xg_t (xg_lconst) ?_
              refine xg_t (xg_lstore (l1 := [(1, (0, n101)), (0, (2, 82))]) rfl rfl) ?_
              refine xg_t (xg_drop (l1 := [(0, (2, 82)), (1, (0, n101)), (2, (4, 0))]) (List.forall_mem_cons.mpr ⟨List.mem_cons_of_mem _ (List.mem_cons_of_mem _ (List.mem_cons_self)), List.forall_mem_cons.mpr ⟨List.mem_cons_of_mem _ (List.mem_cons_self), List.forall_mem_cons.mpr ⟨List.mem_cons_self, fun _ h => absurd h List.not_mem_nil⟩⟩⟩)) ?_
              have key269 : ∀ (m271 : Nat) (v7 ir7 sg7 sz7 nx7 wr7 tk7 nu7 wo7 wg7 ln7 pt7 wh7 me7 mt7 pl7 ps7 : Nat) (w272 : List (List xE)), 500 - nx7 < m271 → v7 = v7 → ir7 ≤ 1 → sg7 ≤ 4294967295 → sz7 ≤ 500 → nx7 ≤ 500 → wr7 ≤ 4294967295 → tk7 ≤ 4 → nu7 ≤ 4294967295 → wo7 ≤ 4294967295 → wg7 ≤ 1 → ln7 ≤ 4294967295 → me7 ≤ 4294967295 → mt7 ≤ 36 → pl7 ≤ 100 → ps7 ≤ 200 → wget w272 82 = some (.inl (12, [(2, 83), (2, 84), (0, ir7), (0, sg7), (0, sz7), (0, nx7), (0, wr7), (0, tk7), (0, nu7), (0, wo7), (0, wg7), (2, 85), (2, 86), (2, 87), (0, ln7), (2, 88), (2, 89), (2, 90), (2, 91), (2, 92), (2, 93), (2, 94), (4, pt7), (4, wh7), (0, me7), (2, 95), (2, 96), (2, 97), (2, 98), (2, 99), (2, 100), (2, 101), (2, 102), (0, mt7), (2, 103), (2, 104), (2, 105), (2, 106), (2, 107), (2, 108), (2, 109), (0, pl7), (0, ps7), (2, 110), (2, 111), (2, 112), (2, 113)])) → (nx7 ≤ sz7) → xMnv w272 → xFr [82] w w272 → (sz7 = nn ∧ ir7 = f82_1 ∧ wg7 = f82_17 ∧ ln7 = f82_19 ∧ wr7 = nx0 ∧ nx0 ≤ nx7 ∧ nx7 ≤ nn ∧ prn cL B nn nx7 = prn cL B nn nx0 ∧ v7 = wvv B nx0 (min 7 (nx7 - nx0))) → xTo (d + 4) mX12_advance (77, [], [(0, (2, 82)), (1, (0, n101)), (2, (4, v7))], [], (w272, bd, fc, 0, 0, rr)) (fun φ => ∃ w', xEnd 0 [] (w', bd, fc, 0, 0, rr) φ ∧ xMnv w' ∧ xFr [82] w w' ∧ (TKM ir B nn w' (fld w 82 5) ∧ fld w' 82 10 = fld w 82 10 ∧ fld w' 82 14 = fld w 82 14)) := by
                intro m271
                induction m271 with
                | zero => intro v7 ir7 sg7 sz7 nx7 wr7 tk7 nu7 wo7 wg7 ln7 pt7 wh7 me7 mt7 pl7 ps7 w272 hz; exact absurd hz (Nat.not_lt_zero _)
                | succ m271 ih270 =>
                  intro v7 ir7 sg7 sz7 nx7 wr7 tk7 nu7 wo7 wg7 ln7 pt7 wh7 me7 mt7 pl7 ps7 w272 hm293 hn275 hn276 hn277 hn278 hn279 hn280 hn281 hn282 hn283 hn284 hn285 hn286 hn287 hn288 hn289 hcl290 hx291 hI273 hF274 he292
                  replace hn277 := xHid.of hn277
                  replace hn280 := xHid.of hn280
                  replace hn282 := xHid.of hn282
                  replace hn283 := xHid.of hn283
                  replace hn285 := xHid.of hn285
                  replace hn286 := xHid.of hn286
                  replace hn287 := xHid.of hn287
                  replace hn288 := xHid.of hn288
                  replace hn289 := xHid.of hn289
                  obtain ⟨he294, he295, he296, he297, he298, he299, he300, he301, he302⟩ := he292
                  refine xg_t (xg_blq rfl) ?_
                  refine xg_t (xg_aload (va := (2, 82)) rfl rfl) ?_
                  refine xg_t (xg_aload (va := (2, 82)) rfl rfl) ?_
                  refine xg_t (xg_getf (va := (0, nx7)) hcl290 rfl) ?_
                  have hf303 : fld w272 82 4 = sz7 := fld_of hcl290
                  refine xg_cVi mX12_byteAt (vs := [(0, nx7)]) (rest := []) (cn1 := 0) (sl1 := 0) rfl (mByteX (nn := nn) (hI273) (by omega) (hB.fr (fun j _ _ => rwv_eq (hF274.1 83 (by decide)))) (by omega)) rfl hcl290 rfl rfl rfl rfl rfl rfl (fun n308 w304 hq305 => ?_)
                  obtain ⟨hn309, hI306, hF307⟩ := hq305
                  have hl310 : n308 ≤ 4294967295 := by have q := hn309; omega
                  refine xg_cSi mX12_isLetter (vs := [(0, n308)]) (rest := []) (cn1 := 0) (sl1 := 0) rfl (mLetter (hI306) (by omega)) rfl rfl rfl rfl rfl rfl rfl (fun n315 w311 hq312 => ?_)
                  obtain ⟨hn316, hI313, hF314⟩ := hq312
                  by_cases hc317 : n315 = 0
                  · refine xg_t (xg_ifT (u := n315) rfl xnm0 (xj_eqT hc317)) ?_
                    refine xg_t (xg_blq rfl) ?_
                    have ha : prn cL B nn nx7 = nx7 := by
                      rcases Nat.lt_or_ge nx7 nn with y | y
                      · exact prn_n (cL_f (by omega))
                      · exact prn_e y
                    obtain ⟨hv_, -⟩ := wvv_lt (B := B) (q := nx0) (min 7 (nx7 - nx0)) (fun j hj => (cL_of (prn_all (c := cL) (B := B) (n := nn) (p := nx0) (j := nx0 + j) (by omega) (by omega)).2).2) (by omega)
                    refine xg_t (xg_aload (va := (2, 82)) rfl rfl) ?_
                    refine xg_t (xg_aload (va := (2, 82)) rfl rfl) ?_
                    refine xg_t (xg_getf (va := (0, nx7)) (hF314.get (by decide) (hF307.get (by decide) hcl290)) rfl) ?_
                    refine xg_t (xg_aload (va := (2, 82)) rfl rfl) ?_
                    refine xg_t (xg_getf (va := (0, wr7)) (hF314.get (by decide) (hF307.get (by decide) hcl290)) rfl) ?_
                    have hn318 : wr7 ≤ 4294967295 := hn280
                    refine xg_t (xg_isub (u := nx7) (v := wr7) (z := (nx7 + (4294967296 - wr7)) % 4294967296) xnm0 xnm0 (rfl)) ?_
                    refine xg_t (xg_bip) ?_
                    by_cases hc319 : xbs 6 < xbs ((nx7 + (4294967296 - wr7)) % 4294967296)
                    · have hc319u := hc319
                      unfold xbs at hc319u
                      have hn320 : (nx7 + (4294967296 - wr7)) % 4294967296 ≤ 2147483647 := by omega
                      refine xg_t (xg_icF (u := (nx7 + (4294967296 - wr7)) % 4294967296) (v := 6) rfl xnm0 xnm0 (xjs_leF hc319)) ?_
                      refine xg_t (xg_bip) ?_
                      refine xg_t (xg_goto) ?_
                      refine xg_t (xg_blq rfl) ?_
                      refine xg_putI (fl1 := [(2, 83), (2, 84), (0, ir7), (0, sg7), (0, sz7), (0, nx7), (0, wr7), (0, tk7), (0, nu7), (0, 99), (0, wg7), (2, 85), (2, 86), (2, 87), (0, ln7), (2, 88), (2, 89), (2, 90), (2, 91), (2, 92), (2, 93), (2, 94), (4, pt7), (4, wh7), (0, me7), (2, 95), (2, 96), (2, 97), (2, 98), (2, 99), (2, 100), (2, 101), (2, 102), (0, mt7), (2, 103), (2, 104), (2, 105), (2, 106), (2, 107), (2, 108), (2, 109), (0, pl7), (0, ps7), (2, 110), (2, 111), (2, 112), (2, 113)]) (hF314.get (by decide) (hF307.get (by decide) hcl290)) rfl rfl rfl (fun w321 hk322 hb323 => ?_)
                      refine xg_t (xg_aload (va := (2, 82)) rfl rfl) ?_
                      refine xg_t (xg_aload (va := (2, 82)) rfl rfl) ?_
                      refine xg_t (xg_getf (va := (0, 99)) hk322 rfl) ?_
                      refine xg_t (xg_bip) ?_
                      refine xg_t (xg_icF (u := 99) (v := 99) rfl xnm0 xnm0 (by decide)) ?_
                      refine xg_t (xg_const) ?_
                      refine xg_t (xg_goto) ?_
                      refine xg_t (xg_blq rfl) ?_
                      refine xg_putI (fl1 := [(2, 83), (2, 84), (0, ir7), (0, sg7), (0, sz7), (0, nx7), (0, wr7), (0, 4), (0, nu7), (0, 99), (0, wg7), (2, 85), (2, 86), (2, 87), (0, ln7), (2, 88), (2, 89), (2, 90), (2, 91), (2, 92), (2, 93), (2, 94), (4, pt7), (4, wh7), (0, me7), (2, 95), (2, 96), (2, 97), (2, 98), (2, 99), (2, 100), (2, 101), (2, 102), (0, mt7), (2, 103), (2, 104), (2, 105), (2, 106), (2, 107), (2, 108), (2, 109), (0, pl7), (0, ps7), (2, 110), (2, 111), (2, 112), (2, 113)]) hk322 rfl rfl rfl (fun w324 hk325 hb326 => ?_)
                      refine xg_t (xg_goto) ?_
                      refine xg_t (xg_blq rfl) ?_
                      have hf327 : fld w324 82 2 = ir7 := fld_of hk325
                      have hf328 : fld w324 82 3 = sg7 := fld_of hk325
                      have hf329 : fld w324 82 4 = sz7 := fld_of hk325
                      have hf330 : fld w324 82 5 = nx7 := fld_of hk325
                      have hf331 : fld w324 82 6 = wr7 := fld_of hk325
                      have hf332 : fld w324 82 7 = 4 := fld_of hk325
                      have hf333 : fld w324 82 8 = nu7 := fld_of hk325
                      have hf334 : fld w324 82 9 = 99 := fld_of hk325
                      have hf335 : fld w324 82 10 = wg7 := fld_of hk325
                      have hf336 : fld w324 82 14 = ln7 := fld_of hk325
                      obtain ⟨k1, k2⟩ := tk_word (B := B) (n := nn) (p := f82_7) (by omega) (by rw [hq]; exact hcl)
                      rw [hq] at k2
                      have k3 : tf B nn f82_7 = nx7 := by omega
                      have kw : twk B nn f82_7 = 0 := if_neg (fun z => by have z2 := z.2; rw [k3, hq] at z2; omega)
                      have kx : wix ir (twk B nn f82_7) = 99 := by rw [kw]; unfold wix; split <;> rfl
                      have km := mkd_3n (ir := ir) k1 (by rw [kx] <;> omega)
                      have hT : TKM ir B nn w324 f82_7 := ⟨⟨by omega, by omega, by omega, by omega, by omega, by omega⟩, fun z => by omega, fun _ => by omega, fun z => by omega⟩
                      exact xg_e ⟨w324, ⟨rfl, rfl⟩, xMnv.up (S := [82]) hI313 ((xFr.of (S := [82]) hb323 (by decide)).tr (xFr.of (S := [82]) hb326 (by decide))) (List.forall_mem_cons.mpr ⟨xqu82 (show cp82 (wget w324 82) from xmC82 ir7 sg7 sz7 nx7 wr7 4 nu7 99 wg7 ln7 pt7 wh7 me7 mt7 pl7 ps7 hk325 hn276 hn277 hn278 hn279 hn280 (by decide) hn282 (by decide) hn284 hn285 hn286 hn287 hn288 hn289 (by omega)), fun _ h => absurd h List.not_mem_nil⟩), (((hF274.tr (hF307.up (by decide))).tr (hF314.up (by decide))).tr ((xFr.of (S := [82]) hb323 (by decide)).tr (xFr.of (S := [82]) hb326 (by decide)))), ⟨by rw [q5_]; exact hT, by omega, by omega⟩⟩
                    · have hc319u := hc319
                      unfold xbs at hc319u
                      refine xg_t (xg_icT (u := (nx7 + (4294967296 - wr7)) % 4294967296) (v := 6) rfl xnm0 xnm0 (xjs_leT hc319)) ?_
                      refine xg_t (xg_blq rfl) ?_
                      refine xg_t (xg_aload (va := (2, 82)) rfl rfl) ?_
                      refine xg_t (xg_getf (va := (0, ir7)) (hF314.get (by decide) (hF307.get (by decide) hcl290)) rfl) ?_
                      by_cases hc337 : ir7 = 0
                      · refine xg_t (xg_ifT (u := ir7) rfl xnm0 (xj_eqT hc337)) ?_
                        refine xg_t (xg_blq rfl) ?_
                        refine xg_t (xg_lload (u := v7) rfl) ?_
                        refine xg_cSi mX12_wordOf (vs := [(4, v7)]) (rest := [(2, 82)]) (cn1 := 0) (sl1 := 0) rfl (mWordX (hI313) (by omega)) rfl rfl rfl rfl rfl rfl rfl (fun n342 w338 hq339 => ?_)
                        obtain ⟨hn343, hI340, hF341⟩ := hq339
                        have hl344 : n342 ≤ 99 := by rw [hn343]; exact wixF_le
                        refine xg_t (xg_blq rfl) ?_
                        refine xg_putI (fl1 := [(2, 83), (2, 84), (0, ir7), (0, sg7), (0, sz7), (0, nx7), (0, wr7), (0, tk7), (0, nu7), (0, n342), (0, wg7), (2, 85), (2, 86), (2, 87), (0, ln7), (2, 88), (2, 89), (2, 90), (2, 91), (2, 92), (2, 93), (2, 94), (4, pt7), (4, wh7), (0, me7), (2, 95), (2, 96), (2, 97), (2, 98), (2, 99), (2, 100), (2, 101), (2, 102), (0, mt7), (2, 103), (2, 104), (2, 105), (2, 106), (2, 107), (2, 108), (2, 109), (0, pl7), (0, ps7), (2, 110), (2, 111), (2, 112), (2, 113)]) (hF341.get (by decide) (hF314.get (by decide) (hF307.get (by decide) hcl290))) rfl rfl rfl (fun w345 hk346 hb347 => ?_)
                        refine xg_t (xg_aload (va := (2, 82)) rfl rfl) ?_
                        refine xg_t (xg_aload (va := (2, 82)) rfl rfl) ?_
                        refine xg_t (xg_getf (va := (0, n342)) hk346 rfl) ?_
                        refine xg_t (xg_bip) ?_
                        by_cases hc348 : n342 = 99
                        · refine xg_t (xg_icF (u := n342) (v := 99) rfl xnm0 xnm0 (xj_neF hc348)) ?_
                          refine xg_t (xg_const) ?_
                          refine xg_t (xg_goto) ?_
                          refine xg_t (xg_blq rfl) ?_
                          refine xg_putI (fl1 := [(2, 83), (2, 84), (0, ir7), (0, sg7), (0, sz7), (0, nx7), (0, wr7), (0, 4), (0, nu7), (0, n342), (0, wg7), (2, 85), (2, 86), (2, 87), (0, ln7), (2, 88), (2, 89), (2, 90), (2, 91), (2, 92), (2, 93), (2, 94), (4, pt7), (4, wh7), (0, me7), (2, 95), (2, 96), (2, 97), (2, 98), (2, 99), (2, 100), (2, 101), (2, 102), (0, mt7), (2, 103), (2, 104), (2, 105), (2, 106), (2, 107), (2, 108), (2, 109), (0, pl7), (0, ps7), (2, 110), (2, 111), (2, 112), (2, 113)]) hk346 rfl rfl rfl (fun w349 hk350 hb351 => ?_)
                          refine xg_t (xg_goto) ?_
                          refine xg_t (xg_blq rfl) ?_
                          have hf352 : fld w349 82 2 = ir7 := fld_of hk350
                          have hf353 : fld w349 82 3 = sg7 := fld_of hk350
                          have hf354 : fld w349 82 4 = sz7 := fld_of hk350
                          have hf355 : fld w349 82 5 = nx7 := fld_of hk350
                          have hf356 : fld w349 82 6 = wr7 := fld_of hk350
                          have hf357 : fld w349 82 7 = 4 := fld_of hk350
                          have hf358 : fld w349 82 8 = nu7 := fld_of hk350
                          have hf359 : fld w349 82 9 = n342 := fld_of hk350
                          have hf360 : fld w349 82 10 = wg7 := fld_of hk350
                          have hf361 : fld w349 82 14 = ln7 := fld_of hk350
                          obtain ⟨k1, k2⟩ := tk_word (B := B) (n := nn) (p := f82_7) (by omega) (by rw [hq]; exact hcl)
                          rw [hq] at k2
                          have k3 : tf B nn f82_7 = nx7 := by omega
                          have kw : twk B nn f82_7 = v7 := by
                            unfold twk
                            rw [if_pos ⟨k1, by rw [k3, hq]; omega⟩, k3, hq]
                            rw [show nx7 - nx0 = min 7 (nx7 - nx0) by omega]
                            omega
                          have kx : wix ir (twk B nn f82_7) = n342 := by
                            rw [kw]
                            unfold wix
                            rw [if_pos (by omega)]
                            exact hn343.symm
                          have km := mkd_3n (ir := ir) k1 (by rw [kx] <;> omega)
                          have hT : TKM ir B nn w349 f82_7 := ⟨⟨by omega, by omega, by omega, by omega, by omega, by omega⟩, fun z => by omega, fun _ => by omega, fun z => by omega⟩
                          exact xg_e ⟨w349, ⟨rfl, rfl⟩, xMnv.up (S := [82]) hI340 ((xFr.of (S := [82]) hb347 (by decide)).tr (xFr.of (S := [82]) hb351 (by decide))) (List.forall_mem_cons.mpr ⟨xqu82 (show cp82 (wget w349 82) from xmC82 ir7 sg7 sz7 nx7 wr7 4 nu7 n342 wg7 ln7 pt7 wh7 me7 mt7 pl7 ps7 hk350 hn276 hn277 hn278 hn279 hn280 (by decide) hn282 (by omega) hn284 hn285 hn286 hn287 hn288 hn289 (by omega)), fun _ h => absurd h List.not_mem_nil⟩), ((((hF274.tr (hF307.up (by decide))).tr (hF314.up (by decide))).tr (hF341.up (by decide))).tr ((xFr.of (S := [82]) hb347 (by decide)).tr (xFr.of (S := [82]) hb351 (by decide)))), ⟨by rw [q5_]; exact hT, by omega, by omega⟩⟩
                        · refine xg_t (xg_icT (u := n342) (v := 99) rfl xnm0 xnm0 (xj_neT hc348)) ?_
                          refine xg_t (xg_blq rfl) ?_
                          refine xg_t (xg_const) ?_
                          refine xg_t (xg_blq rfl) ?_
                          refine xg_putI (fl1 := [(2, 83), (2, 84), (0, ir7), (0, sg7), (0, sz7), (0, nx7), (0, wr7), (0, 3), (0, nu7), (0, n342), (0, wg7), (2, 85), (2, 86), (2, 87), (0, ln7), (2, 88), (2, 89), (2, 90), (2, 91), (2, 92), (2, 93), (2, 94), (4, pt7), (4, wh7), (0, me7), (2, 95), (2, 96), (2, 97), (2, 98), (2, 99), (2, 100), (2, 101), (2, 102), (0, mt7), (2, 103), (2, 104), (2, 105), (2, 106), (2, 107), (2, 108), (2, 109), (0, pl7), (0, ps7), (2, 110), (2, 111), (2, 112), (2, 113)]) hk346 rfl rfl rfl (fun w362 hk363 hb364 => ?_)
                          refine xg_t (xg_goto) ?_
                          refine xg_t (xg_blq rfl) ?_
                          have hf365 : fld w362 82 2 = ir7 := fld_of hk363
                          have hf366 : fld w362 82 3 = sg7 := fld_of hk363
                          have hf367 : fld w362 82 4 = sz7 := fld_of hk363
                          have hf368 : fld w362 82 5 = nx7 := fld_of hk363
                          have hf369 : fld w362 82 6 = wr7 := fld_of hk363
                          have hf370 : fld w362 82 7 = 3 := fld_of hk363
                          have hf371 : fld w362 82 8 = nu7 := fld_of hk363
                          have hf372 : fld w362 82 9 = n342 := fld_of hk363
                          have hf373 : fld w362 82 10 = wg7 := fld_of hk363
                          have hf374 : fld w362 82 14 = ln7 := fld_of hk363
                          obtain ⟨k1, k2⟩ := tk_word (B := B) (n := nn) (p := f82_7) (by omega) (by rw [hq]; exact hcl)
                          rw [hq] at k2
                          have k3 : tf B nn f82_7 = nx7 := by omega
                          have kw : twk B nn f82_7 = v7 := by
                            unfold twk
                            rw [if_pos ⟨k1, by rw [k3, hq]; omega⟩, k3, hq]
                            rw [show nx7 - nx0 = min 7 (nx7 - nx0) by omega]
                            omega
                          have kx : wix ir (twk B nn f82_7) = n342 := by
                            rw [kw]
                            unfold wix
                            rw [if_pos (by omega)]
                            exact hn343.symm
                          have km := mkd_3 (ir := ir) k1 (by rw [kx] <;> omega)
                          have hT : TKM ir B nn w362 f82_7 := ⟨⟨by omega, by omega, by omega, by omega, by omega, by omega⟩, fun z => by omega, fun _ => by omega, fun z => by omega⟩
                          exact xg_e ⟨w362, ⟨rfl, rfl⟩, xMnv.up (S := [82]) hI340 ((xFr.of (S := [82]) hb347 (by decide)).tr (xFr.of (S := [82]) hb364 (by decide))) (List.forall_mem_cons.mpr ⟨xqu82 (show cp82 (wget w362 82) from xmC82 ir7 sg7 sz7 nx7 wr7 3 nu7 n342 wg7 ln7 pt7 wh7 me7 mt7 pl7 ps7 hk363 hn276 hn277 hn278 hn279 hn280 (by decide) hn282 (by omega) hn284 hn285 hn286 hn287 hn288 hn289 (by omega)), fun _ h => absurd h List.not_mem_nil⟩), ((((hF274.tr (hF307.up (by decide))).tr (hF314.up (by decide))).tr (hF341.up (by decide))).tr ((xFr.of (S := [82]) hb347 (by decide)).tr (xFr.of (S := [82]) hb364 (by decide)))), ⟨by rw [q5_]; exact hT, by omega, by omega⟩⟩
                      · refine xg_t (xg_ifF (u := ir7) rfl xnm0 (xj_eqF hc337)) ?_
                        refine xg_t (xg_lload (u := v7) rfl) ?_
                        refine xg_cSi mX12_ruleWordOf (vs := [(4, v7)]) (rest := [(2, 82)]) (cn1 := 0) (sl1 := 0) rfl (mRuleWX (hI313) (by omega)) rfl rfl rfl rfl rfl rfl rfl (fun n379 w375 hq376 => ?_)
                        obtain ⟨hn380, hI377, hF378⟩ := hq376
                        have hl381 : n379 ≤ 99 := by rw [hn380]; exact wixR_le
                        refine xg_t (xg_goto) ?_
                        refine xg_t (xg_blq rfl) ?_
                        refine xg_putI (fl1 := [(2, 83), (2, 84), (0, ir7), (0, sg7), (0, sz7), (0, nx7), (0, wr7), (0, tk7), (0, nu7), (0, n379), (0, wg7), (2, 85), (2, 86), (2, 87), (0, ln7), (2, 88), (2, 89), (2, 90), (2, 91), (2, 92), (2, 93), (2, 94), (4, pt7), (4, wh7), (0, me7), (2, 95), (2, 96), (2, 97), (2, 98), (2, 99), (2, 100), (2, 101), (2, 102), (0, mt7), (2, 103), (2, 104), (2, 105), (2, 106), (2, 107), (2, 108), (2, 109), (0, pl7), (0, ps7), (2, 110), (2, 111), (2, 112), (2, 113)]) (hF378.get (by decide) (hF314.get (by decide) (hF307.get (by decide) hcl290))) rfl rfl rfl (fun w382 hk383 hb384 => ?_)
                        refine xg_t (xg_aload (va := (2, 82)) rfl rfl) ?_
                        refine xg_t (xg_aload (va := (2, 82)) rfl rfl) ?_
                        refine xg_t (xg_getf (va := (0, n379)) hk383 rfl) ?_
                        refine xg_t (xg_bip) ?_
                        by_cases hc385 : n379 = 99
                        · refine xg_t (xg_icF (u := n379) (v := 99) rfl xnm0 xnm0 (xj_neF hc385)) ?_
                          refine xg_t (xg_const) ?_
                          refine xg_t (xg_goto) ?_
                          refine xg_t (xg_blq rfl) ?_
                          refine xg_putI (fl1 := [(2, 83), (2, 84), (0, ir7), (0, sg7), (0, sz7), (0, nx7), (0, wr7), (0, 4), (0, nu7), (0, n379), (0, wg7), (2, 85), (2, 86), (2, 87), (0, ln7), (2, 88), (2, 89), (2, 90), (2, 91), (2, 92), (2, 93), (2, 94), (4, pt7), (4, wh7), (0, me7), (2, 95), (2, 96), (2, 97), (2, 98), (2, 99), (2, 100), (2, 101), (2, 102), (0, mt7), (2, 103), (2, 104), (2, 105), (2, 106), (2, 107), (2, 108), (2, 109), (0, pl7), (0, ps7), (2, 110), (2, 111), (2, 112), (2, 113)]) hk383 rfl rfl rfl (fun w386 hk387 hb388 => ?_)
                          refine xg_t (xg_goto) ?_
                          refine xg_t (xg_blq rfl) ?_
                          have hf389 : fld w386 82 2 = ir7 := fld_of hk387
                          have hf390 : fld w386 82 3 = sg7 := fld_of hk387
                          have hf391 : fld w386 82 4 = sz7 := fld_of hk387
                          have hf392 : fld w386 82 5 = nx7 := fld_of hk387
                          have hf393 : fld w386 82 6 = wr7 := fld_of hk387
                          have hf394 : fld w386 82 7 = 4 := fld_of hk387
                          have hf395 : fld w386 82 8 = nu7 := fld_of hk387
                          have hf396 : fld w386 82 9 = n379 := fld_of hk387
                          have hf397 : fld w386 82 10 = wg7 := fld_of hk387
                          have hf398 : fld w386 82 14 = ln7 := fld_of hk387
                          obtain ⟨k1, k2⟩ := tk_word (B := B) (n := nn) (p := f82_7) (by omega) (by rw [hq]; exact hcl)
                          rw [hq] at k2
                          have k3 : tf B nn f82_7 = nx7 := by omega
                          have kw : twk B nn f82_7 = v7 := by
                            unfold twk
                            rw [if_pos ⟨k1, by rw [k3, hq]; omega⟩, k3, hq]
                            rw [show nx7 - nx0 = min 7 (nx7 - nx0) by omega]
                            omega
                          have kx : wix ir (twk B nn f82_7) = n379 := by
                            rw [kw]
                            unfold wix
                            rw [if_neg (by omega)]
                            exact hn380.symm
                          have km := mkd_3n (ir := ir) k1 (by rw [kx] <;> omega)
                          have hT : TKM ir B nn w386 f82_7 := ⟨⟨by omega, by omega, by omega, by omega, by omega, by omega⟩, fun z => by omega, fun _ => by omega, fun z => by omega⟩
                          exact xg_e ⟨w386, ⟨rfl, rfl⟩, xMnv.up (S := [82]) hI377 ((xFr.of (S := [82]) hb384 (by decide)).tr (xFr.of (S := [82]) hb388 (by decide))) (List.forall_mem_cons.mpr ⟨xqu82 (show cp82 (wget w386 82) from xmC82 ir7 sg7 sz7 nx7 wr7 4 nu7 n379 wg7 ln7 pt7 wh7 me7 mt7 pl7 ps7 hk387 hn276 hn277 hn278 hn279 hn280 (by decide) hn282 (by omega) hn284 hn285 hn286 hn287 hn288 hn289 (by omega)), fun _ h => absurd h List.not_mem_nil⟩), ((((hF274.tr (hF307.up (by decide))).tr (hF314.up (by decide))).tr (hF378.up (by decide))).tr ((xFr.of (S := [82]) hb384 (by decide)).tr (xFr.of (S := [82]) hb388 (by decide)))), ⟨by rw [q5_]; exact hT, by omega, by omega⟩⟩
                        · refine xg_t (xg_icT (u := n379) (v := 99) rfl xnm0 xnm0 (xj_neT hc385)) ?_
                          refine xg_t (xg_blq rfl) ?_
                          refine xg_t (xg_const) ?_
                          refine xg_t (xg_blq rfl) ?_
                          refine xg_putI (fl1 := [(2, 83), (2, 84), (0, ir7), (0, sg7), (0, sz7), (0, nx7), (0, wr7), (0, 3), (0, nu7), (0, n379), (0, wg7), (2, 85), (2, 86), (2, 87), (0, ln7), (2, 88), (2, 89), (2, 90), (2, 91), (2, 92), (2, 93), (2, 94), (4, pt7), (4, wh7), (0, me7), (2, 95), (2, 96), (2, 97), (2, 98), (2, 99), (2, 100), (2, 101), (2, 102), (0, mt7), (2, 103), (2, 104), (2, 105), (2, 106), (2, 107), (2, 108), (2, 109), (0, pl7), (0, ps7), (2, 110), (2, 111), (2, 112), (2, 113)]) hk383 rfl rfl rfl (fun w399 hk400 hb401 => ?_)
                          refine xg_t (xg_goto) ?_
                          refine xg_t (xg_blq rfl) ?_
                          have hf402 : fld w399 82 2 = ir7 := fld_of hk400
                          have hf403 : fld w399 82 3 = sg7 := fld_of hk400
                          have hf404 : fld w399 82 4 = sz7 := fld_of hk400
                          have hf405 : fld w399 82 5 = nx7 := fld_of hk400
                          have hf406 : fld w399 82 6 = wr7 := fld_of hk400
                          have hf407 : fld w399 82 7 = 3 := fld_of hk400
                          have hf408 : fld w399 82 8 = nu7 := fld_of hk400
                          have hf409 : fld w399 82 9 = n379 := fld_of hk400
                          have hf410 : fld w399 82 10 = wg7 := fld_of hk400
                          have hf411 : fld w399 82 14 = ln7 := fld_of hk400
                          obtain ⟨k1, k2⟩ := tk_word (B := B) (n := nn) (p := f82_7) (by omega) (by rw [hq]; exact hcl)
                          rw [hq] at k2
                          have k3 : tf B nn f82_7 = nx7 := by omega
                          have kw : twk B nn f82_7 = v7 := by
                            unfold twk
                            rw [if_pos ⟨k1, by rw [k3, hq]; omega⟩, k3, hq]
                            rw [show nx7 - nx0 = min 7 (nx7 - nx0) by omega]
                            omega
                          have kx : wix ir (twk B nn f82_7) = n379 := by
                            rw [kw]
                            unfold wix
                            rw [if_neg (by omega)]
                            exact hn380.symm
                          have km := mkd_3 (ir := ir) k1 (by rw [kx] <;> omega)
                          have hT : TKM ir B nn w399 f82_7 := ⟨⟨by omega, by omega, by omega, by omega, by omega, by omega⟩, fun z => by omega, fun _ => by omega, fun z => by omega⟩
                          exact xg_e ⟨w399, ⟨rfl, rfl⟩, xMnv.up (S := [82]) hI377 ((xFr.of (S := [82]) hb384 (by decide)).tr (xFr.of (S := [82]) hb401 (by decide))) (List.forall_mem_cons.mpr ⟨xqu82 (show cp82 (wget w399 82) from xmC82 ir7 sg7 sz7 nx7 wr7 3 nu7 n379 wg7 ln7 pt7 wh7 me7 mt7 pl7 ps7 hk400 hn276 hn277 hn278 hn279 hn280 (by decide) hn282 (by omega) hn284 hn285 hn286 hn287 hn288 hn289 (by omega)), fun _ h => absurd h List.not_mem_nil⟩), ((((hF274.tr (hF307.up (by decide))).tr (hF314.up (by decide))).tr (hF378.up (by decide))).tr ((xFr.of (S := [82]) hb384 (by decide)).tr (xFr.of (S := [82]) hb401 (by decide)))), ⟨by rw [q5_]; exact hT, by omega, by omega⟩⟩
                  · refine xg_t (xg_ifF (u := n315) rfl xnm0 (xj_eqF hc317)) ?_
                    refine xg_t (xg_aload (va := (2, 82)) rfl rfl) ?_
                    refine xg_t (xg_getf (va := (0, nx7)) (hF314.get (by decide) (hF307.get (by decide) hcl290)) rfl) ?_
                    refine xg_t (xg_aload (va := (2, 82)) rfl rfl) ?_
                    refine xg_t (xg_getf (va := (0, wr7)) (hF314.get (by decide) (hF307.get (by decide) hcl290)) rfl) ?_
                    have hn412 : wr7 ≤ 4294967295 := hn280
                    refine xg_t (xg_isub (u := nx7) (v := wr7) (z := (nx7 + (4294967296 - wr7)) % 4294967296) xnm0 xnm0 (rfl)) ?_
                    refine xg_t (xg_bip) ?_
                    by_cases hc413 : xbs ((nx7 + (4294967296 - wr7)) % 4294967296) < xbs 7
                    · have hc413u := hc413
                      unfold xbs at hc413u
                      refine xg_t (xg_icF (u := (nx7 + (4294967296 - wr7)) % 4294967296) (v := 7) rfl xnm0 xnm0 (xjs_geF hc413)) ?_
                      refine xg_t (xg_ldc2) ?_
                      refine xg_t (xg_lload (u := v7) rfl) ?_
                      refine xg_t (xg_lmul (u := 32) (v := v7)) ?_
                      refine xg_t (xg_lre (b := 32 * v7) (by rw [xlp_eq]; exact lN_mul _ _)) ?_
                      refine xg_t (xg_aload (va := (2, 82)) rfl rfl) ?_
                      refine xg_t (xg_aload (va := (2, 82)) rfl rfl) ?_
                      refine xg_t (xg_getf (va := (0, nx7)) (hF314.get (by decide) (hF307.get (by decide) hcl290)) rfl) ?_
                      have hf414 : fld w311 82 4 = sz7 := fld_of (hF314.get (by decide) (hF307.get (by decide) hcl290))
                      refine xg_cVi mX12_byteAt (vs := [(0, nx7)]) (rest := [(4, 32 * v7)]) (cn1 := 0) (sl1 := 0) rfl (mByteX (nn := nn) (hI313) (by omega) (hB.fr (fun j _ _ => rwv_eq ((hF314.1 83 (by decide)).trans ((hF307.1 83 (by decide)).trans (hF274.1 83 (by decide)))))) (by omega)) rfl (hF314.get (by decide) (hF307.get (by decide) hcl290)) rfl rfl rfl rfl rfl rfl (fun n419 w415 hq416 => ?_)
                      obtain ⟨hn420, hI417, hF418⟩ := hq416
                      have hl421 : n419 ≤ 4294967295 := by have q := hn420; omega
                      refine xg_t (xg_i2l (u := n419) xnm0) ?_
                      refine xg_t (xg_lre (b := n419) (by rw [xlp_eq]; exact nI_l (by omega))) ?_
                      refine xg_t (xg_ladd (u := 32 * v7) (v := n419)) ?_
                      refine xg_t (xg_lre (b := (32 * v7) + n419) (by rw [xlp_eq]; exact lN_add _ _)) ?_
                      refine xg_t (xg_ldc2) ?_
                      refine xg_t (xg_lsub (u := (32 * v7) + n419) (v := 96)) ?_
                      refine xg_t (xg_lre (b := ((32 * v7) + n419) - 96) (by rw [xlp_eq]; exact lN_sub (by omega))) ?_
                      refine xg_t (xg_lstore (l1 := [(0, (2, 82)), (1, (0, n101))]) rfl rfl) ?_
                      refine xg_t (xg_blq rfl) ?_
                      refine xg_t (xg_aload (va := (2, 82)) rfl rfl) ?_
                      refine xg_t (xg_dup rfl) ?_
                      refine xg_t (xg_getf (va := (0, nx7)) (hF418.get (by decide) (hF314.get (by decide) (hF307.get (by decide) hcl290))) rfl) ?_
                      refine xg_t (xg_const) ?_
                      refine xg_t (xg_iadd (u := nx7) (v := 1) (z := nx7 + 1) xnm0 xnm0 (by omega)) ?_
                      refine xg_putI (fl1 := [(2, 83), (2, 84), (0, ir7), (0, sg7), (0, sz7), (0, nx7 + 1), (0, wr7), (0, tk7), (0, nu7), (0, wo7), (0, wg7), (2, 85), (2, 86), (2, 87), (0, ln7), (2, 88), (2, 89), (2, 90), (2, 91), (2, 92), (2, 93), (2, 94), (4, pt7), (4, wh7), (0, me7), (2, 95), (2, 96), (2, 97), (2, 98), (2, 99), (2, 100), (2, 101), (2, 102), (0, mt7), (2, 103), (2, 104), (2, 105), (2, 106), (2, 107), (2, 108), (2, 109), (0, pl7), (0, ps7), (2, 110), (2, 111), (2, 112), (2, 113)]) (hF418.get (by decide) (hF314.get (by decide) (hF307.get (by decide) hcl290))) rfl rfl rfl (fun w422 hk423 hb424 => ?_)
                      refine xg_t (xg_goto) ?_
                      refine xg_t (xg_drop (l1 := [(0, (2, 82)), (1, (0, n101)), (2, (4, ((32 * v7) + n419) - 96))]) (List.forall_mem_cons.mpr ⟨List.mem_cons_of_mem _ (List.mem_cons_self), List.forall_mem_cons.mpr ⟨List.mem_cons_of_mem _ (List.mem_cons_of_mem _ (List.mem_cons_self)), List.forall_mem_cons.mpr ⟨List.mem_cons_self, fun _ h => absurd h List.not_mem_nil⟩⟩⟩)) ?_
                      have hy425 := wvv_y (B := B) (p := nx0) (a := nx7) (by omega) (by omega)
                      have hy426 := prn_y (c := cL) (B := B) (n := nn) (p := nx7) (by omega) (cL_t (by omega))
                      exact ih270 (((32 * v7) + n419) - 96) ir7 sg7 sz7 (nx7 + 1) wr7 tk7 nu7 wo7 wg7 ln7 pt7 wh7 me7 mt7 pl7 ps7 w422 (by omega) (by omega) (hn276) (hn277) (hn278) (by omega) (hn280) (hn281) (hn282) (hn283) (hn284) (hn285) (hn286) (hn287) (hn288) (hn289) hk423 (by omega) (xMnv.up (S := [82]) hI417 (xFr.of (S := [82]) hb424 (by decide)) (List.forall_mem_cons.mpr ⟨xqu82 (show cp82 (wget w422 82) from xmC82 ir7 sg7 sz7 (nx7 + 1) wr7 tk7 nu7 wo7 wg7 ln7 pt7 wh7 me7 mt7 pl7 ps7 hk423 hn276 hn277 hn278 (by omega) hn280 hn281 hn282 hn283 hn284 hn285 hn286 hn287 hn288 hn289 (by omega)), fun _ h => absurd h List.not_mem_nil⟩)) (((((hF274.tr (hF307.up (by decide))).tr (hF314.up (by decide))).tr (hF418.up (by decide))).tr (xFr.of (S := [82]) hb424 (by decide)))) (⟨by omega, by omega, by omega, by omega, by omega, by omega, by omega, by omega, by omega⟩)
                    · have hc413u := hc413
                      unfold xbs at hc413u
                      have hn427 : (nx7 + (4294967296 - wr7)) % 4294967296 ≤ 2147483647 := by omega
                      refine xg_t (xg_icT (u := (nx7 + (4294967296 - wr7)) % 4294967296) (v := 7) rfl xnm0 xnm0 (xjs_geT hc413)) ?_
                      refine xg_t (xg_blq rfl) ?_
                      refine xg_t (xg_aload (va := (2, 82)) rfl rfl) ?_
                      refine xg_t (xg_dup rfl) ?_
                      refine xg_t (xg_getf (va := (0, nx7)) (hF314.get (by decide) (hF307.get (by decide) hcl290)) rfl) ?_
                      refine xg_t (xg_const) ?_
                      refine xg_t (xg_iadd (u := nx7) (v := 1) (z := nx7 + 1) xnm0 xnm0 (by omega)) ?_
                      refine xg_putI (fl1 := [(2, 83), (2, 84), (0, ir7), (0, sg7), (0, sz7), (0, nx7 + 1), (0, wr7), (0, tk7), (0, nu7), (0, wo7), (0, wg7), (2, 85), (2, 86), (2, 87), (0, ln7), (2, 88), (2, 89), (2, 90), (2, 91), (2, 92), (2, 93), (2, 94), (4, pt7), (4, wh7), (0, me7), (2, 95), (2, 96), (2, 97), (2, 98), (2, 99), (2, 100), (2, 101), (2, 102), (0, mt7), (2, 103), (2, 104), (2, 105), (2, 106), (2, 107), (2, 108), (2, 109), (0, pl7), (0, ps7), (2, 110), (2, 111), (2, 112), (2, 113)]) (hF314.get (by decide) (hF307.get (by decide) hcl290)) rfl rfl rfl (fun w428 hk429 hb430 => ?_)
                      refine xg_t (xg_goto) ?_
                      have hy431 := wvv_n (B := B) (p := nx0) (a := nx7) (by omega)
                      have hy432 := prn_y (c := cL) (B := B) (n := nn) (p := nx7) (by omega) (cL_t (by omega))
                      exact ih270 v7 ir7 sg7 sz7 (nx7 + 1) wr7 tk7 nu7 wo7 wg7 ln7 pt7 wh7 me7 mt7 pl7 ps7 w428 (by omega) (by omega) (hn276) (hn277) (hn278) (by omega) (hn280) (hn281) (hn282) (hn283) (hn284) (hn285) (hn286) (hn287) (hn288) (hn289) hk429 (by omega) (xMnv.up (S := [82]) hI313 (xFr.of (S := [82]) hb430 (by decide)) (List.forall_mem_cons.mpr ⟨xqu82 (show cp82 (wget w428 82) from xmC82 ir7 sg7 sz7 (nx7 + 1) wr7 tk7 nu7 wo7 wg7 ln7 pt7 wh7 me7 mt7 pl7 ps7 hk429 hn276 hn277 hn278 (by omega) hn280 hn281 hn282 hn283 hn284 hn285 hn286 hn287 hn288 hn289 (by omega)), fun _ h => absurd h List.not_mem_nil⟩)) ((((hF274.tr (hF307.up (by decide))).tr (hF314.up (by decide))).tr (xFr.of (S := [82]) hb430 (by decide)))) (⟨by omega, by omega, by omega, by omega, by omega, by omega, by omega, by omega, by omega⟩)
              exact key269 _ 0 ir0 sg0 sz0 nx0 nx0 tk0 nu0 wo0 wg0 ln0 pt0 wh0 me0 mt0 pl0 ps0 w105 (Nat.lt_succ_self _) (by omega) (hn43) (hn44) (hn45) (hn46) (by omega) (hn48) (hn49) (hn50) (hn51) (hn52) (hn53) (hn54) (hn55) (hn56) (hF108.get (by decide) (hF100.get (by decide) hk94)) (by omega) (hI107) ((((((hF42.tr (hF71.up (by decide))).tr (hF84.up (by decide))).tr (xFr.of (S := [82]) hb95 (by decide))).tr (hF100.up (by decide))).tr (hF108.up (by decide)))) (⟨by omega, by omega, by omega, by omega, by omega, by omega, by omega, rfl, by rw [Nat.sub_self]; rfl⟩)
          · refine xg_t (xg_ifF (u := n101) rfl xnm0 (xjz_geF (by omega) (by omega))) ?_
            refine xg_t (xg_aload (va := (2, 82)) rfl rfl) ?_
            refine xg_t (xg_const) ?_
            refine xg_putI (fl1 := [(2, 83), (2, 84), (0, ir0), (0, sg0), (0, sz0), (0, nx0), (0, nx0), (0, 0), (0, nu0), (0, wo0), (0, wg0), (2, 85), (2, 86), (2, 87), (0, ln0), (2, 88), (2, 89), (2, 90), (2, 91), (2, 92), (2, 93), (2, 94), (4, pt0), (4, wh0), (0, me0), (2, 95), (2, 96), (2, 97), (2, 98), (2, 99), (2, 100), (2, 101), (2, 102), (0, mt0), (2, 103), (2, 104), (2, 105), (2, 106), (2, 107), (2, 108), (2, 109), (0, pl0), (0, ps0), (2, 110), (2, 111), (2, 112), (2, 113)]) (hF100.get (by decide) hk94) rfl rfl rfl (fun w433 hk434 hb435 => ?_)
            refine xg_t (xg_goto) ?_
            refine xg_t (xg_blq rfl) ?_
            have hf436 : fld w433 82 2 = ir0 := fld_of hk434
            have hf437 : fld w433 82 3 = sg0 := fld_of hk434
            have hf438 : fld w433 82 4 = sz0 := fld_of hk434
            have hf439 : fld w433 82 5 = nx0 := fld_of hk434
            have hf440 : fld w433 82 6 = nx0 := fld_of hk434
            have hf441 : fld w433 82 7 = 0 := fld_of hk434
            have hf442 : fld w433 82 8 = nu0 := fld_of hk434
            have hf443 : fld w433 82 9 = wo0 := fld_of hk434
            have hf444 : fld w433 82 10 = wg0 := fld_of hk434
            have hf445 : fld w433 82 14 = ln0 := fld_of hk434
            obtain ⟨k1, k2⟩ := tk_end (B := B) (n := nn) (p := f82_7) (by omega)
            have km := mkd_0 (ir := ir) k1
            have hT : TKM ir B nn w433 f82_7 := ⟨⟨by omega, by omega, by omega, by omega, by omega, by omega⟩, fun z => by omega, fun z => by omega, fun z => by omega⟩
            exact xg_e ⟨w433, ⟨rfl, rfl⟩, xMnv.up (S := [82]) hI99 (xFr.of (S := [82]) hb435 (by decide)) (List.forall_mem_cons.mpr ⟨xqu82 (show cp82 (wget w433 82) from xmC82 ir0 sg0 sz0 nx0 nx0 0 nu0 wo0 wg0 ln0 pt0 wh0 me0 mt0 pl0 ps0 hk434 hn43 hn44 hn45 hn46 (by omega) (by decide) hn49 hn50 hn51 hn52 hn53 hn54 hn55 hn56 (by omega)), fun _ h => absurd h List.not_mem_nil⟩), (((((hF42.tr (hF71.up (by decide))).tr (hF84.up (by decide))).tr (xFr.of (S := [82]) hb95 (by decide))).tr (hF100.up (by decide))).tr (xFr.of (S := [82]) hb435 (by decide))), ⟨by rw [q5_]; exact hT, by omega, by omega⟩⟩
  exact key37 _ f82_1 f82_3 f82_5 f82_7 f82_9 f82_11 f82_13 f82_15 f82_17 f82_19 f82_21 f82_22 f82_23 f82_25 f82_27 f82_29 w (Nat.lt_succ_self _) (hb2) (hb4) (hb6) (hb8) (hb10) (hb12) (hb14) (hb16) (hb18) (hb20) (hb24) (hb26) (hb28) (hb30) h82_31 (by omega) (hI) (xFr.rf) (⟨by omega, by omega, by omega, by omega, by omega, rfl⟩)
end XFMA
end
section
/-! the model: lines of films, to the last number -/
section XFMB
variable {d : Nat} {w : List (List xE)} {bd : List (Nat × Nat)} {fc : List (Nat × Nat × Bool)} {rr : Nat × Nat}
theorem mEndsX (hI : xMnv w) (h10 : fld w 82 10 = 0) : xPq d mX12_ends [(2, 82)] w bd fc rr [] (fun w' => xMnv w' ∧ xFr [82, 83] w w' ∧ (fld w' 82 10 = 1 ∧ rwv w' 83 16 = 1 ∧ rwv w' 83 17 = fld w 82 6 ∧ fld w' 82 14 = fld w 82 14 ∧ K83 w w')) := by
  refine xPq.of ?_
  show xTo d mX12_ends (0, [], [(0, (2, 82))], [], (w, bd, fc, 0, 0, rr)) (fun φ => ∃ w', xEnd 0 [] (w', bd, fc, 0, 0, rr) φ ∧ xMnv w' ∧ xFr [82, 83] w w' ∧ (fld w' 82 10 = 1 ∧ rwv w' 83 16 = 1 ∧ rwv w' 83 17 = fld w 82 6 ∧ fld w' 82 14 = fld w 82 14 ∧ K83 w w'))
  refine xoCh82 (xqc82 hI : cp82 (wget w 82)) (fun f82_1 f82_3 f82_5 f82_7 f82_9 f82_11 f82_13 f82_15 f82_17 f82_19 f82_21 f82_22 f82_23 f82_25 f82_27 f82_29 h82_31 hb2 hb4 hb6 hb8 hb10 hb12 hb14 hb16 hb18 hb20 hb24 hb26 hb28 hb30 hb32 => ?_)
  refine xoX83 (xqc83 hI : cpx83 (wget w 83)) (fun g83_33 h83_34 hb35 hx36 => ?_)
  have hf37 : fld w 82 6 = f82_9 := fld_of h82_31
  have hf38 : fld w 82 10 = f82_17 := fld_of h82_31
  have hf39 : fld w 82 14 = f82_19 := fld_of h82_31
  refine xg_t (xg_blq rfl) ?_
  refine xg_t (xg_aload (va := (2, 82)) rfl rfl) ?_
  refine xg_t (xg_getf (va := (0, f82_17)) h82_31 rfl) ?_
  refine xg_t (xg_ifT (u := f82_17) rfl xnm0 (xj_eqT (by omega))) ?_
  refine xg_t (xg_blq rfl) ?_
  refine xg_t (xg_aload (va := (2, 82)) rfl rfl) ?_
  refine xg_t (xg_const) ?_
  refine xg_putZ (fl1 := [(2, 83), (2, 84), (0, f82_1), (0, f82_3), (0, f82_5), (0, f82_7), (0, f82_9), (0, f82_11), (0, f82_13), (0, f82_15), (0, 1), (2, 85), (2, 86), (2, 87), (0, f82_19), (2, 88), (2, 89), (2, 90), (2, 91), (2, 92), (2, 93), (2, 94), (4, f82_21), (4, f82_22), (0, f82_23), (2, 95), (2, 96), (2, 97), (2, 98), (2, 99), (2, 100), (2, 101), (2, 102), (0, f82_25), (2, 103), (2, 104), (2, 105), (2, 106), (2, 107), (2, 108), (2, 109), (0, f82_27), (0, f82_29), (2, 110), (2, 111), (2, 112), (2, 113)]) h82_31 rfl rfl rfl (fun w40 hk41 hb42 => ?_)
  refine xg_t (xg_aload (va := (2, 82)) rfl rfl) ?_
  refine xg_t (xg_getf (va := (2, 83)) hk41 rfl) ?_
  refine xg_t (xg_bip) ?_
  refine xg_t (xg_const) ?_
  refine xg_iastK (n := 16) (u := 1) (h83_34.but hb42 (by decide)) xnm0 xnm0 rfl (by first | decide | omega) (fun w43 hr44 hb45 => ?_)
  have hx46 : okA (fun j => if j = 16 then 1 else g83_33 j) := hx36.upd (by omega) (by omega) (by omega) (fun _ => by omega) (by omega) (fun _ => by omega) (fun _ => by omega) (fun _ => by omega) (fun _ => by omega) (by omega) (fun _ _ => by omega)
  have hb47 : ∀ j, (fun j => if j = 16 then 1 else g83_33 j) j ≤ 4294967295 := xrb (by omega) (hb35)
  obtain ⟨g48, hg49⟩ : ∃ g : Nat → Nat, g = (fun j => if j = 16 then 1 else g83_33 j) := ⟨_, rfl⟩
  rw [← hg49] at hr44
  have he50 : g48 16 = 1 := by rw [hg49]; exact if_pos rfl
  have hk51 : ∀ j, j ≠ 16 → g48 j = g83_33 j := fun j hj => by rw [hg49]; exact if_neg hj
  rw [← hg49] at hx46
  rw [← hg49] at hb47
  refine xg_t (xg_aload (va := (2, 82)) rfl rfl) ?_
  refine xg_t (xg_getf (va := (2, 83)) (hb45.get (by decide) hk41) rfl) ?_
  refine xg_t (xg_bip) ?_
  refine xg_t (xg_aload (va := (2, 82)) rfl rfl) ?_
  refine xg_t (xg_getf (va := (0, f82_9)) (hb45.get (by decide) hk41) rfl) ?_
  have hn52 : f82_9 ≤ 4294967295 := hb10
  refine xg_iastK (n := 17) (u := f82_9) hr44 xnm0 xnm0 rfl (by first | decide | omega) (fun w53 hr54 hb55 => ?_)
  have hx56 : okA (fun j => if j = 17 then f82_9 else g48 j) := hx46.upd (by omega) (by omega) (by omega) (fun _ => by omega) (by omega) (fun _ => by omega) (fun _ => by omega) (fun _ => by omega) (fun _ => by omega) (by omega) (fun _ _ => by omega)
  have hb57 : ∀ j, (fun j => if j = 17 then f82_9 else g48 j) j ≤ 4294967295 := xrb (by omega) (hb47)
  obtain ⟨g58, hg59⟩ : ∃ g : Nat → Nat, g = (fun j => if j = 17 then f82_9 else g48 j) := ⟨_, rfl⟩
  rw [← hg59] at hr54
  have he60 : g58 17 = f82_9 := by rw [hg59]; exact if_pos rfl
  have hk61 : ∀ j, j ≠ 17 → g58 j = g48 j := fun j hj => by rw [hg59]; exact if_neg hj
  rw [← hg59] at hx56
  rw [← hg59] at hb57
  have hk62 : g58 16 = g48 16 := hk61 16 (by omega)
  have hq63 : rwv w53 83 16 = 1 := (rwv_of hr54 (by decide)).trans ((hk61 16 (by decide)).trans he50)
  have hq64 : rwv w53 83 17 = f82_9 := (rwv_of hr54 (by decide)).trans he60
  have hf65 : fld w53 82 10 = 1 := fld_of (hb55.get (by decide) (hb45.get (by decide) hk41))
  have hf66 : fld w53 82 14 = f82_19 := fld_of (hb55.get (by decide) (hb45.get (by decide) hk41))
  exact xg_e ⟨w53, ⟨rfl, rfl⟩, xMnv.up (S := [82, 83]) hI (((xFr.of (S := [82, 83]) hb42 (by decide)).tr (xFr.of (S := [82, 83]) hb45 (by decide))).tr (xFr.of (S := [82, 83]) hb55 (by decide))) (List.forall_mem_cons.mpr ⟨xqu82 (show cp82 (wget w53 82) from xmC82 f82_1 f82_3 f82_5 f82_7 f82_9 f82_11 f82_13 f82_15 1 f82_19 f82_21 f82_22 f82_23 f82_25 f82_27 f82_29 (hb55.get (by decide) (hb45.get (by decide) hk41)) hb2 hb4 hb6 hb8 hb10 hb12 hb14 hb16 (by decide) hb20 hb24 hb26 hb28 hb30 (by omega)), List.forall_mem_cons.mpr ⟨xqu83 (show cpx83 (wget w53 83) from ⟨_, hr54, hb57, hx56⟩), fun _ h => absurd h List.not_mem_nil⟩⟩), (((xFr.of (S := [82, 83]) hb42 (by decide)).tr (xFr.of (S := [82, 83]) hb45 (by decide))).tr (xFr.of (S := [82, 83]) hb55 (by decide))), ⟨by omega, by omega, by omega, by omega, K83.st h83_34 hr54 (fun j h16 h17 => by rw [hk61 j (by omega), hk51 j (by omega)])⟩⟩
theorem mEndsW (hI : xMnv w) (h10 : fld w 82 10 ≠ 0) : xPq d mX12_ends [(2, 82)] w bd fc rr [] (fun w' => xMnv w' ∧ xFr [] w w') := by
  refine xPq.of ?_
  show xTo d mX12_ends (0, [], [(0, (2, 82))], [], (w, bd, fc, 0, 0, rr)) (fun φ => ∃ w', xEnd 0 [] (w', bd, fc, 0, 0, rr) φ ∧ xMnv w' ∧ xFr [] w w')
  refine xoCh82 (xqc82 hI : cp82 (wget w 82)) (fun f82_1 f82_3 f82_5 f82_7 f82_9 f82_11 f82_13 f82_15 f82_17 f82_19 f82_21 f82_22 f82_23 f82_25 f82_27 f82_29 h82_31 hb2 hb4 hb6 hb8 hb10 hb12 hb14 hb16 hb18 hb20 hb24 hb26 hb28 hb30 hb32 => ?_)
  have hf33 : fld w 82 10 = f82_17 := fld_of h82_31
  refine xg_t (xg_blq rfl) ?_
  refine xg_t (xg_aload (va := (2, 82)) rfl rfl) ?_
  refine xg_t (xg_getf (va := (0, f82_17)) h82_31 rfl) ?_
  refine xg_t (xg_ifF (u := f82_17) rfl xnm0 (xj_eqF (by omega))) ?_
  exact xg_e ⟨w, ⟨rfl, rfl⟩, hI, xFr.rf⟩
theorem mAlsoX {fp : Nat × Nat} {ki at_ : Nat} (hI : xMnv w) (hki : ki ≤ 9) (hk1 : 1 ≤ ki) (hat : at_ ≤ 500) (h10 : fld w 82 10 = 0) (hf : FP w fp) : xPq d mX12_also [(2, 82), (0, ki), (0, at_)] w bd fc rr [] (fun w' => xMnv w' ∧ xFr [83] w w' ∧ (FP w' (alo fp ki at_) ∧ K83 w w')) := by
  refine xPq.of ?_
  show xTo d mX12_also (0, [], [(0, (2, 82)), (1, (0, ki)), (2, (0, at_))], [], (w, bd, fc, 0, 0, rr)) (fun φ => ∃ w', xEnd 0 [] (w', bd, fc, 0, 0, rr) φ ∧ xMnv w' ∧ xFr [83] w w' ∧ (FP w' (alo fp ki at_) ∧ K83 w w'))
  refine xoCh82 (xqc82 hI : cp82 (wget w 82)) (fun f82_1 f82_3 f82_5 f82_7 f82_9 f82_11 f82_13 f82_15 f82_17 f82_19 f82_21 f82_22 f82_23 f82_25 f82_27 f82_29 h82_31 hb2 hb4 hb6 hb8 hb10 hb12 hb14 hb16 hb18 hb20 hb24 hb26 hb28 hb30 hb32 => ?_)
  refine xoX83 (xqc83 hI : cpx83 (wget w 83)) (fun g83_33 h83_34 hb35 hx36 => ?_)
  have hf37 : fld w 82 10 = f82_17 := fld_of h82_31
  obtain ⟨hf1, hf2, hf3, -⟩ := id hf
  refine xg_t (xg_blq rfl) ?_
  refine xg_t (xg_aload (va := (2, 82)) rfl rfl) ?_
  refine xg_t (xg_getf (va := (0, f82_17)) h82_31 rfl) ?_
  refine xg_t (xg_ifF (u := f82_17) rfl xnm0 (xj_neF (by omega))) ?_
  refine xg_t (xg_aload (va := (2, 82)) rfl rfl) ?_
  refine xg_t (xg_getf (va := (2, 83)) h82_31 rfl) ?_
  refine xg_t (xg_bip) ?_
  refine xg_ialdB (n := 16) (B := 4294967295) h83_34 (hb35) xnm0 (by first | decide | omega) (fun u38 hu39 he40 => ?_)
  have hq41 : rwv w 83 16 = u38 := (rwv_of h83_34 (by decide)).trans he40
  have hq42 : rwv w 83 16 = u38 := (rwv_of h83_34 (by decide)).trans he40
  have hl43 : u38 ≤ 9 := by omega
  by_cases hc44 : u38 = 0
  · refine xg_t (xg_ifT (u := u38) rfl xnm0 (xj_eqT hc44)) ?_
    refine xg_t (xg_blq rfl) ?_
    refine xg_t (xg_aload (va := (2, 82)) rfl rfl) ?_
    refine xg_t (xg_getf (va := (2, 83)) h82_31 rfl) ?_
    refine xg_t (xg_bip) ?_
    refine xg_t (xg_iload (va := (0, ki)) rfl rfl) ?_
    refine xg_iastK (n := 16) (u := ki) h83_34 xnm0 xnm0 rfl (by first | decide | omega) (fun w45 hr46 hb47 => ?_)
    have hx48 : okA (fun j => if j = 16 then ki else g83_33 j) := hx36.upd (by omega) (by omega) (by omega) (fun _ => by omega) (by omega) (fun _ => by omega) (fun _ => by omega) (fun _ => by omega) (fun _ => by omega) (by omega) (fun _ _ => by omega)
    have hb49 : ∀ j, (fun j => if j = 16 then ki else g83_33 j) j ≤ 4294967295 := xrb (by omega) (hb35)
    obtain ⟨g50, hg51⟩ : ∃ g : Nat → Nat, g = (fun j => if j = 16 then ki else g83_33 j) := ⟨_, rfl⟩
    rw [← hg51] at hr46
    have he52 : g50 16 = ki := by rw [hg51]; exact if_pos rfl
    have hk53 : ∀ j, j ≠ 16 → g50 j = g83_33 j := fun j hj => by rw [hg51]; exact if_neg hj
    rw [← hg51] at hx48
    rw [← hg51] at hb49
    refine xg_t (xg_aload (va := (2, 82)) rfl rfl) ?_
    refine xg_t (xg_getf (va := (2, 83)) (hb47.get (by decide) h82_31) rfl) ?_
    refine xg_t (xg_bip) ?_
    refine xg_t (xg_iload (va := (0, at_)) rfl rfl) ?_
    refine xg_iastK (n := 17) (u := at_) hr46 xnm0 xnm0 rfl (by first | decide | omega) (fun w54 hr55 hb56 => ?_)
    have hx57 : okA (fun j => if j = 17 then at_ else g50 j) := hx48.upd (by omega) (by omega) (by omega) (fun _ => by omega) (by omega) (fun _ => by omega) (fun _ => by omega) (fun _ => by omega) (fun _ => by omega) (by omega) (fun _ _ => by omega)
    have hb58 : ∀ j, (fun j => if j = 17 then at_ else g50 j) j ≤ 4294967295 := xrb (by omega) (hb49)
    obtain ⟨g59, hg60⟩ : ∃ g : Nat → Nat, g = (fun j => if j = 17 then at_ else g50 j) := ⟨_, rfl⟩
    rw [← hg60] at hr55
    have he61 : g59 17 = at_ := by rw [hg60]; exact if_pos rfl
    have hk62 : ∀ j, j ≠ 17 → g59 j = g50 j := fun j hj => by rw [hg60]; exact if_neg hj
    rw [← hg60] at hx57
    rw [← hg60] at hb58
    have hq63 : rwv w54 83 16 = ki := (rwv_of hr55 (by decide)).trans ((hk62 16 (by decide)).trans he52)
    have hq64 : rwv w54 83 17 = at_ := (rwv_of hr55 (by decide)).trans he61
    exact xg_e ⟨w54, ⟨rfl, rfl⟩, xMnv.up (S := [83]) hI ((xFr.of (S := [83]) hb47 (by decide)).tr (xFr.of (S := [83]) hb56 (by decide))) (List.forall_mem_cons.mpr ⟨xqu83 (show cpx83 (wget w54 83) from ⟨_, hr55, hb58, hx57⟩), fun _ h => absurd h List.not_mem_nil⟩), ((xFr.of (S := [83]) hb47 (by decide)).tr (xFr.of (S := [83]) hb56 (by decide))), ⟨by rw [alo_n (fun z => by omega)]; exact ⟨hq63, fun _ => ⟨hq64, hat⟩, hki, fun z => absurd z (show ¬ ki = 0 by omega)⟩, K83.st h83_34 hr55 (fun j h16 h17 => by rw [hk62 j (by omega), hk53 j (by omega)])⟩⟩
  · refine xg_t (xg_ifF (u := u38) rfl xnm0 (xj_eqF hc44)) ?_
    have hp_ := hf2 (by omega)
    refine xg_t (xg_aload (va := (2, 82)) rfl rfl) ?_
    refine xg_t (xg_getf (va := (2, 83)) h82_31 rfl) ?_
    refine xg_t (xg_bip) ?_
    refine xg_ialdB (n := 17) (B := 4294967295) h83_34 (hb35) xnm0 (by first | decide | omega) (fun u65 hu66 he67 => ?_)
    have hq68 : rwv w 83 17 = u65 := (rwv_of h83_34 (by decide)).trans he67
    have hq69 : rwv w 83 17 = u65 := (rwv_of h83_34 (by decide)).trans he67
    have hl70 : u65 ≤ 500 := by omega
    refine xg_t (xg_iload (va := (0, at_)) rfl rfl) ?_
    by_cases hc71 : u65 < at_
    · refine xg_t (xg_icT (u := u65) (v := at_) rfl xnm0 xnm0 (xj_ltT hc71 (by omega))) ?_
      refine xg_t (xg_blq rfl) ?_
      exact xg_e ⟨w, ⟨rfl, rfl⟩, hI, xFr.rf, ⟨by rw [alo_y ⟨by omega, by omega⟩]; exact hf, K83.rf⟩⟩
    · refine xg_t (xg_icF (u := u65) (v := at_) rfl xnm0 xnm0 (xj_ltF (by omega) (by omega))) ?_
      refine xg_t (xg_aload (va := (2, 82)) rfl rfl) ?_
      refine xg_t (xg_getf (va := (2, 83)) h82_31 rfl) ?_
      refine xg_t (xg_bip) ?_
      refine xg_ialdB (n := 17) (B := 4294967295) h83_34 (hb35) xnm0 (by first | decide | omega) (fun u72 hu73 he74 => ?_)
      have hq75 : rwv w 83 17 = u72 := (rwv_of h83_34 (by decide)).trans he74
      have hl76 : u72 ≤ 500 := by omega
      refine xg_t (xg_iload (va := (0, at_)) rfl rfl) ?_
      by_cases hc77 : u72 = at_
      · refine xg_t (xg_icF (u := u72) (v := at_) rfl xnm0 xnm0 (xj_neF hc77)) ?_
        refine xg_t (xg_aload (va := (2, 82)) rfl rfl) ?_
        refine xg_t (xg_getf (va := (2, 83)) h82_31 rfl) ?_
        refine xg_t (xg_bip) ?_
        refine xg_ialdB (n := 16) (B := 4294967295) h83_34 (hb35) xnm0 (by first | decide | omega) (fun u78 hu79 he80 => ?_)
        have hq81 : rwv w 83 16 = u78 := (rwv_of h83_34 (by decide)).trans he80
        have hl82 : u78 ≤ 9 := by omega
        refine xg_t (xg_iload (va := (0, ki)) rfl rfl) ?_
        by_cases hc83 : ki < u78
        · refine xg_t (xg_icT (u := u78) (v := ki) rfl xnm0 xnm0 (xj_gtT hc83 (by omega))) ?_
          refine xg_t (xg_blq rfl) ?_
          refine xg_t (xg_aload (va := (2, 82)) rfl rfl) ?_
          refine xg_t (xg_getf (va := (2, 83)) h82_31 rfl) ?_
          refine xg_t (xg_bip) ?_
          refine xg_t (xg_iload (va := (0, ki)) rfl rfl) ?_
          refine xg_iastK (n := 16) (u := ki) h83_34 xnm0 xnm0 rfl (by first | decide | omega) (fun w84 hr85 hb86 => ?_)
          have hx87 : okA (fun j => if j = 16 then ki else g83_33 j) := hx36.upd (by omega) (by omega) (by omega) (fun _ => by omega) (by omega) (fun _ => by omega) (fun _ => by omega) (fun _ => by omega) (fun _ => by omega) (by omega) (fun _ _ => by omega)
          have hb88 : ∀ j, (fun j => if j = 16 then ki else g83_33 j) j ≤ 4294967295 := xrb (by omega) (hb35)
          obtain ⟨g89, hg90⟩ : ∃ g : Nat → Nat, g = (fun j => if j = 16 then ki else g83_33 j) := ⟨_, rfl⟩
          rw [← hg90] at hr85
          have he91 : g89 16 = ki := by rw [hg90]; exact if_pos rfl
          have hk92 : ∀ j, j ≠ 16 → g89 j = g83_33 j := fun j hj => by rw [hg90]; exact if_neg hj
          rw [← hg90] at hx87
          rw [← hg90] at hb88
          refine xg_t (xg_aload (va := (2, 82)) rfl rfl) ?_
          refine xg_t (xg_getf (va := (2, 83)) (hb86.get (by decide) h82_31) rfl) ?_
          refine xg_t (xg_bip) ?_
          refine xg_t (xg_iload (va := (0, at_)) rfl rfl) ?_
          refine xg_iastK (n := 17) (u := at_) hr85 xnm0 xnm0 rfl (by first | decide | omega) (fun w93 hr94 hb95 => ?_)
          have hx96 : okA (fun j => if j = 17 then at_ else g89 j) := hx87.upd (by omega) (by omega) (by omega) (fun _ => by omega) (by omega) (fun _ => by omega) (fun _ => by omega) (fun _ => by omega) (fun _ => by omega) (by omega) (fun _ _ => by omega)
          have hb97 : ∀ j, (fun j => if j = 17 then at_ else g89 j) j ≤ 4294967295 := xrb (by omega) (hb88)
          obtain ⟨g98, hg99⟩ : ∃ g : Nat → Nat, g = (fun j => if j = 17 then at_ else g89 j) := ⟨_, rfl⟩
          rw [← hg99] at hr94
          have he100 : g98 17 = at_ := by rw [hg99]; exact if_pos rfl
          have hk101 : ∀ j, j ≠ 17 → g98 j = g89 j := fun j hj => by rw [hg99]; exact if_neg hj
          rw [← hg99] at hx96
          rw [← hg99] at hb97
          have hq102 : rwv w93 83 16 = ki := (rwv_of hr94 (by decide)).trans ((hk101 16 (by decide)).trans he91)
          have hq103 : rwv w93 83 17 = at_ := (rwv_of hr94 (by decide)).trans he100
          exact xg_e ⟨w93, ⟨rfl, rfl⟩, xMnv.up (S := [83]) hI ((xFr.of (S := [83]) hb86 (by decide)).tr (xFr.of (S := [83]) hb95 (by decide))) (List.forall_mem_cons.mpr ⟨xqu83 (show cpx83 (wget w93 83) from ⟨_, hr94, hb97, hx96⟩), fun _ h => absurd h List.not_mem_nil⟩), ((xFr.of (S := [83]) hb86 (by decide)).tr (xFr.of (S := [83]) hb95 (by decide))), ⟨by rw [alo_n (fun z => by omega)]; exact ⟨hq102, fun _ => ⟨hq103, hat⟩, hki, fun z => absurd z (show ¬ ki = 0 by omega)⟩, K83.st h83_34 hr94 (fun j h16 h17 => by rw [hk101 j (by omega), hk92 j (by omega)])⟩⟩
        · refine xg_t (xg_icF (u := u78) (v := ki) rfl xnm0 xnm0 (xj_gtF (by omega) (by omega))) ?_
          refine xg_t (xg_blq rfl) ?_
          exact xg_e ⟨w, ⟨rfl, rfl⟩, hI, xFr.rf, ⟨by rw [alo_y ⟨by omega, by omega⟩]; exact hf, K83.rf⟩⟩
      · refine xg_t (xg_icT (u := u72) (v := at_) rfl xnm0 xnm0 (xj_neT hc77)) ?_
        refine xg_t (xg_blq rfl) ?_
        refine xg_t (xg_aload (va := (2, 82)) rfl rfl) ?_
        refine xg_t (xg_getf (va := (2, 83)) h82_31 rfl) ?_
        refine xg_t (xg_bip) ?_
        refine xg_t (xg_iload (va := (0, ki)) rfl rfl) ?_
        refine xg_iastK (n := 16) (u := ki) h83_34 xnm0 xnm0 rfl (by first | decide | omega) (fun w104 hr105 hb106 => ?_)
        have hx107 : okA (fun j => if j = 16 then ki else g83_33 j) := hx36.upd (by omega) (by omega) (by omega) (fun _ => by omega) (by omega) (fun _ => by omega) (fun _ => by omega) (fun _ => by omega) (fun _ => by omega) (by omega) (fun _ _ => by omega)
        have hb108 : ∀ j, (fun j => if j = 16 then ki else g83_33 j) j ≤ 4294967295 := xrb (by omega) (hb35)
        obtain ⟨g109, hg110⟩ : ∃ g : Nat → Nat, g = (fun j => if j = 16 then ki else g83_33 j) := ⟨_, rfl⟩
        rw [← hg110] at hr105
        have he111 : g109 16 = ki := by rw [hg110]; exact if_pos rfl
        have hk112 : ∀ j, j ≠ 16 → g109 j = g83_33 j := fun j hj => by rw [hg110]; exact if_neg hj
        rw [← hg110] at hx107
        rw [← hg110] at hb108
        refine xg_t (xg_aload (va := (2, 82)) rfl rfl) ?_
        refine xg_t (xg_getf (va := (2, 83)) (hb106.get (by decide) h82_31) rfl) ?_
        refine xg_t (xg_bip) ?_
        refine xg_t (xg_iload (va := (0, at_)) rfl rfl) ?_
        refine xg_iastK (n := 17) (u := at_) hr105 xnm0 xnm0 rfl (by first | decide | omega) (fun w113 hr114 hb115 => ?_)
        have hx116 : okA (fun j => if j = 17 then at_ else g109 j) := hx107.upd (by omega) (by omega) (by omega) (fun _ => by omega) (by omega) (fun _ => by omega) (fun _ => by omega) (fun _ => by omega) (fun _ => by omega) (by omega) (fun _ _ => by omega)
        have hb117 : ∀ j, (fun j => if j = 17 then at_ else g109 j) j ≤ 4294967295 := xrb (by omega) (hb108)
        obtain ⟨g118, hg119⟩ : ∃ g : Nat → Nat, g = (fun j => if j = 17 then at_ else g109 j) := ⟨_, rfl⟩
        rw [← hg119] at hr114
        have he120 : g118 17 = at_ := by rw [hg119]; exact if_pos rfl
        have hk121 : ∀ j, j ≠ 17 → g118 j = g109 j := fun j hj => by rw [hg119]; exact if_neg hj
        rw [← hg119] at hx116
        rw [← hg119] at hb117
        have hq122 : rwv w113 83 16 = ki := (rwv_of hr114 (by decide)).trans ((hk121 16 (by decide)).trans he111)
        have hq123 : rwv w113 83 17 = at_ := (rwv_of hr114 (by decide)).trans he120
        exact xg_e ⟨w113, ⟨rfl, rfl⟩, xMnv.up (S := [83]) hI ((xFr.of (S := [83]) hb106 (by decide)).tr (xFr.of (S := [83]) hb115 (by decide))) (List.forall_mem_cons.mpr ⟨xqu83 (show cpx83 (wget w113 83) from ⟨_, hr114, hb117, hx116⟩), fun _ h => absurd h List.not_mem_nil⟩), ((xFr.of (S := [83]) hb106 (by decide)).tr (xFr.of (S := [83]) hb115 (by decide))), ⟨by rw [alo_n (fun z => by omega)]; exact ⟨hq122, fun _ => ⟨hq123, hat⟩, hki, fun z => absurd z (show ¬ ki = 0 by omega)⟩, K83.st h83_34 hr114 (fun j h16 h17 => by rw [hk121 j (by omega), hk112 j (by omega)])⟩⟩
theorem mAlsoW {ki at_ : Nat} (hI : xMnv w) (hki : ki ≤ 9) (hat : at_ ≤ 4294967295) (h10 : fld w 82 10 ≠ 0) : xPq (d + 1) mX12_also [(2, 82), (0, ki), (0, at_)] w bd fc rr [] (fun w' => xMnv w' ∧ xFr [] w w') := by
  refine xPq.of ?_
  show xTo (d + 1) mX12_also (0, [], [(0, (2, 82)), (1, (0, ki)), (2, (0, at_))], [], (w, bd, fc, 0, 0, rr)) (fun φ => ∃ w', xEnd 0 [] (w', bd, fc, 0, 0, rr) φ ∧ xMnv w' ∧ xFr [] w w')
  refine xoCh82 (xqc82 hI : cp82 (wget w 82)) (fun f82_1 f82_3 f82_5 f82_7 f82_9 f82_11 f82_13 f82_15 f82_17 f82_19 f82_21 f82_22 f82_23 f82_25 f82_27 f82_29 h82_31 hb2 hb4 hb6 hb8 hb10 hb12 hb14 hb16 hb18 hb20 hb24 hb26 hb28 hb30 hb32 => ?_)
  have hf33 : fld w 82 10 = f82_17 := fld_of h82_31
  refine xg_t (xg_blq rfl) ?_
  refine xg_t (xg_aload (va := (2, 82)) rfl rfl) ?_
  refine xg_t (xg_getf (va := (0, f82_17)) h82_31 rfl) ?_
  refine xg_t (xg_ifT (u := f82_17) rfl xnm0 (xj_neT (by omega))) ?_
  refine xg_t (xg_blq rfl) ?_
  exact xg_e ⟨w, ⟨rfl, rfl⟩, hI, xFr.rf⟩
theorem mNumX {fp : Nat × Nat} {B : Nat → Nat} {nn ir p : Nat} {le mo : Nat} (hI : xMnv w) (hle : le ≤ 9999) (hmo : mo ≤ 9999) (hB : bsm w B nn) (h10 : fld w 82 10 = 0) (hT : TKM ir B nn w p) (hf : FP w fp) : xPi (d + 5) mX12_numbered [(2, 82), (0, le), (0, mo)] w bd fc rr (fun n w' => (((n = 0 ∧ tkd B nn p ≠ 2 ∧ WRG w' (tq B nn p)) ∨ (n = tnu B nn p ∧ n ≤ 9999 ∧ tkd B nn p = 2 ∧ fld w' 82 10 = 0 ∧ TKM ir B nn w' (tf B nn p) ∧ FP w' (chk fp le mo (tnu B nn p) (tq B nn p)))) ∧ fld w' 82 14 = fld w 82 14 ∧ K83 w w') ∧ xMnv w' ∧ xFr [82, 83] w w') := by
  refine xPi.of ?_
  show xTo (d + 5) mX12_numbered (0, [], [(0, (2, 82)), (1, (0, le)), (2, (0, mo))], [], (w, bd, fc, 0, 0, rr)) (fun φ => ∃ n w', xEnd 1 [(0, n)] (w', bd, fc, 0, 0, rr) φ ∧ (((n = 0 ∧ tkd B nn p ≠ 2 ∧ WRG w' (tq B nn p)) ∨ (n = tnu B nn p ∧ n ≤ 9999 ∧ tkd B nn p = 2 ∧ fld w' 82 10 = 0 ∧ TKM ir B nn w' (tf B nn p) ∧ FP w' (chk fp le mo (tnu B nn p) (tq B nn p)))) ∧ fld w' 82 14 = fld w 82 14 ∧ K83 w w') ∧ xMnv w' ∧ xFr [82, 83] w w')
  refine xoCh82 (xqc82 hI : cp82 (wget w 82)) (fun f82_1 f82_3 f82_5 f82_7 f82_9 f82_11 f82_13 f82_15 f82_17 f82_19 f82_21 f82_22 f82_23 f82_25 f82_27 f82_29 h82_31 hb2 hb4 hb6 hb8 hb10 hb12 hb14 hb16 hb18 hb20 hb24 hb26 hb28 hb30 hb32 => ?_)
  refine xoX83 (xqc83 hI : cpx83 (wget w 83)) (fun g83_33 h83_34 hb35 hx36 => ?_)
  obtain ⟨⟨ht37, ht38, ht39, ht40, ht41, ht42⟩, ht43, ht44, ht45⟩ := id hT
  have hf46 : fld w 82 6 = f82_9 := fld_of h82_31
  have hf47 : fld w 82 7 = f82_11 := fld_of h82_31
  have hf48 : fld w 82 8 = f82_13 := fld_of h82_31
  have hf49 : fld w 82 10 = f82_17 := fld_of h82_31
  have hmk := (mkd_of (ir := ir) (B := B) (n := nn) (p := p)).2.1
  refine xg_t (xg_blq rfl) ?_
  refine xg_t (xg_aload (va := (2, 82)) rfl rfl) ?_
  refine xg_t (xg_getf (va := (0, f82_17)) h82_31 rfl) ?_
  refine xg_t (xg_ifF (u := f82_17) rfl xnm0 (xj_neF (by omega))) ?_
  refine xg_t (xg_aload (va := (2, 82)) rfl rfl) ?_
  refine xg_t (xg_getf (va := (0, f82_11)) h82_31 rfl) ?_
  refine xg_t (xg_const) ?_
  by_cases hc50 : f82_11 = 1
  · refine xg_t (xg_icT (u := f82_11) (v := 1) rfl xnm0 xnm0 (xj_eqT hc50)) ?_
    refine xg_t (xg_blq rfl) ?_
    have hk2 : tkd B nn p = 2 := by omega
    have hn_ := ht43 hk2
    have hz := tf_gt (B := B) (n := nn) (p := p) (by omega)
    have hBn := hB.1
    refine xg_t (xg_aload (va := (2, 82)) rfl rfl) ?_
    refine xg_t (xg_getf (va := (0, f82_13)) h82_31 rfl) ?_
    have hn51 : f82_13 ≤ 4294967295 := hb14
    refine xg_t (xg_istore (l1 := [(0, (2, 82)), (1, (0, le)), (2, (0, mo))]) rfl rfl rfl) ?_
    refine xg_t (xg_iload (va := (0, f82_13)) rfl rfl) ?_
    refine xg_t (xg_iload (va := (0, le)) rfl rfl) ?_
    refine xg_t (xg_iload (va := (0, mo)) rfl rfl) ?_
    refine xg_t (xg_cSr mX12_isIn (vs := [(0, f82_13), (0, le), (0, mo)]) (rest := []) (rs := [(0, if le ≤ f82_13 ∧ f82_13 ≤ mo then 1 else 0)]) (cn1 := 0) (sl1 := 0) rfl (mIsIn (by omega) (by omega) (by omega)) rfl rfl rfl rfl rfl rfl rfl rfl) ?_
    by_cases hc52 : le ≤ f82_13 ∧ f82_13 ≤ mo
    · refine xg_t (xg_ifT (u := (if le ≤ f82_13 ∧ f82_13 ≤ mo then 1 else 0)) rfl xnm0 (xj_neT (xite1 hc52))) ?_
      refine xg_t (xg_blq rfl) ?_
      refine xg_t (xg_aload (va := (2, 82)) rfl rfl) ?_
      obtain ⟨⟨ht53, ht54, ht55, ht56, ht57, ht58⟩, -⟩ := id hT
      have hk59 := h10
      have hk60 := (rfl : fld w 82 14 = fld w 82 14)
      refine xg_cVv mX12_advance (vs := []) (rest := []) (cn1 := 0) (sl1 := 0) rfl (mAdvX (hI) hB ht53 ht54 (by rw [ht55]; exact tf_le ht58)) rfl h82_31 rfl rfl rfl rfl rfl rfl (fun w61 hq62 => ?_)
      obtain ⟨hI63, hF64, hx65⟩ := hq62
      obtain ⟨hz66, hz67, hz68⟩ := hx65
      rw [ht55] at hz66
      clear ht53 ht54 ht55 ht56 ht57 ht58
      obtain ⟨p_69, hp70⟩ : ∃ x, x = tf B nn p := ⟨_, rfl⟩
      rw [← hp70] at hz66
      have k10_71 := hz67.trans hk59
      have k14_72 := hz68.trans hk60
      clear hz67 hz68 hk59 hk60
      refine xg_t (xg_iload (va := (0, f82_13)) rfl rfl) ?_
      exact xg_e ⟨f82_13, w61, ⟨rfl, rfl⟩, ⟨Or.inr ⟨by omega, by have q := tnu_le (B := B) (n := nn) (p := p) hk2; omega, hk2, k10_71, by rw [← hp70]; exact hz66, by rw [chk_y (by omega)]; exact (hf.k83 (rwv_eq (hF64.1 83 (by decide))) (rwv_eq (hF64.1 83 (by decide))))⟩, k14_72, (K83.fr hF64 (by decide))⟩, hI63, (hF64.up (by decide))⟩
    · refine xg_t (xg_ifF (u := (if le ≤ f82_13 ∧ f82_13 ≤ mo then 1 else 0)) rfl xnm0 (xj_neF (xite0 hc52))) ?_
      refine xg_t (xg_aload (va := (2, 82)) rfl rfl) ?_
      refine xg_t (xg_const) ?_
      refine xg_t (xg_aload (va := (2, 82)) rfl rfl) ?_
      refine xg_t (xg_getf (va := (0, f82_9)) h82_31 rfl) ?_
      have hn73 : f82_9 ≤ 4294967295 := hb10
      refine xg_cVv mX12_also (vs := [(0, 2), (0, f82_9)]) (rest := []) (cn1 := 0) (sl1 := 0) rfl (mAlsoX (hI) (by omega) (by omega) (by omega) h10 hf) rfl h82_31 rfl rfl rfl rfl rfl rfl (fun w74 hq75 => ?_)
      obtain ⟨hI76, hF77, hx78⟩ := hq75
      obtain ⟨hv79, hv80⟩ := hx78
      refine xg_t (xg_blq rfl) ?_
      refine xg_t (xg_aload (va := (2, 82)) rfl rfl) ?_
      obtain ⟨⟨ht81, ht82, ht83, ht84, ht85, ht86⟩, -⟩ := id (hT.fr (hF77.1 82 (by decide)))
      have hk87 := ((fld_eq (j := 10) (hF77.1 82 (by decide))).trans h10)
      have hk88 := ((fld_eq (j := 14) (hF77.1 82 (by decide))).trans rfl)
      refine xg_cVv mX12_advance (vs := []) (rest := []) (cn1 := 0) (sl1 := 0) rfl (mAdvX (hI76) (hB.fr (fun j h4 h9 => hv80 j (by omega) (by omega) (by omega))) ht81 ht82 (by rw [ht83]; exact tf_le ht86)) rfl (hF77.get (by decide) h82_31) rfl rfl rfl rfl rfl rfl (fun w89 hq90 => ?_)
      obtain ⟨hI91, hF92, hx93⟩ := hq90
      obtain ⟨hz94, hz95, hz96⟩ := hx93
      rw [ht83] at hz94
      clear ht81 ht82 ht83 ht84 ht85 ht86
      obtain ⟨p_97, hp98⟩ : ∃ x, x = tf B nn p := ⟨_, rfl⟩
      rw [← hp98] at hz94
      have k10_99 := hz95.trans hk87
      have k14_100 := hz96.trans hk88
      clear hz95 hz96 hk87 hk88
      refine xg_t (xg_iload (va := (0, f82_13)) rfl rfl) ?_
      exact xg_e ⟨f82_13, w89, ⟨rfl, rfl⟩, ⟨Or.inr ⟨by omega, by have q := tnu_le (B := B) (n := nn) (p := p) hk2; omega, hk2, k10_99, by rw [← hp98]; exact hz94, by rw [chk_n (by omega)]; exact (by have q := (hv79.k83 (rwv_eq (hF92.1 83 (by decide))) (rwv_eq (hF92.1 83 (by decide)))); rw [show f82_9 = tq B nn p by omega] at q; exact q)⟩, k14_100, (hv80.tr (K83.fr hF92 (by decide)))⟩, hI91, ((hF77.up (by decide)).tr (hF92.up (by decide)))⟩
  · refine xg_t (xg_icF (u := f82_11) (v := 1) rfl xnm0 xnm0 (xj_eqF hc50)) ?_
    refine xg_t (xg_blq rfl) ?_
    refine xg_t (xg_aload (va := (2, 82)) rfl rfl) ?_
    refine xg_cVv mX12_ends (vs := []) (rest := []) (cn1 := 0) (sl1 := 0) rfl (mEndsX (hI) h10) rfl h82_31 rfl rfl rfl rfl rfl rfl (fun w101 hq102 => ?_)
    obtain ⟨hI103, hF104, hx105⟩ := hq102
    obtain ⟨hv106, hv107, hv108, hv109, hv110⟩ := hx105
    refine xg_t (xg_const) ?_
    exact xg_e ⟨0, w101, ⟨rfl, rfl⟩, ⟨Or.inl ⟨rfl, by omega, ⟨hv106, hv107, by omega⟩⟩, hv109, hv110⟩, hI103, (hF104.up (by decide))⟩
theorem mNumW {le mo : Nat} (hI : xMnv w) (hle : le ≤ 9999) (hmo : mo ≤ 9999) (h10 : fld w 82 10 ≠ 0) : xPi (d + 3) mX12_numbered [(2, 82), (0, le), (0, mo)] w bd fc rr (fun n w' => (n = 0) ∧ xMnv w' ∧ xFr [] w w') := by
  refine xPi.of ?_
  show xTo (d + 3) mX12_numbered (0, [], [(0, (2, 82)), (1, (0, le)), (2, (0, mo))], [], (w, bd, fc, 0, 0, rr)) (fun φ => ∃ n w', xEnd 1 [(0, n)] (w', bd, fc, 0, 0, rr) φ ∧ (n = 0) ∧ xMnv w' ∧ xFr [] w w')
  refine xoCh82 (xqc82 hI : cp82 (wget w 82)) (fun f82_1 f82_3 f82_5 f82_7 f82_9 f82_11 f82_13 f82_15 f82_17 f82_19 f82_21 f82_22 f82_23 f82_25 f82_27 f82_29 h82_31 hb2 hb4 hb6 hb8 hb10 hb12 hb14 hb16 hb18 hb20 hb24 hb26 hb28 hb30 hb32 => ?_)
  have hf33 : fld w 82 10 = f82_17 := fld_of h82_31
  refine xg_t (xg_blq rfl) ?_
  refine xg_t (xg_aload (va := (2, 82)) rfl rfl) ?_
  refine xg_t (xg_getf (va := (0, f82_17)) h82_31 rfl) ?_
  refine xg_t (xg_ifT (u := f82_17) rfl xnm0 (xj_neT (by omega))) ?_
  refine xg_t (xg_blq rfl) ?_
  refine xg_t (xg_aload (va := (2, 82)) rfl rfl) ?_
  refine xg_cVv mX12_ends (vs := []) (rest := []) (cn1 := 0) (sl1 := 0) rfl (mEndsW (hI) h10) rfl h82_31 rfl rfl rfl rfl rfl rfl (fun w34 hq35 => ?_)
  obtain ⟨hI36, hF37⟩ := hq35
  refine xg_t (xg_const) ?_
  exact xg_e ⟨0, w34, ⟨rfl, rfl⟩, by first | decide | omega, hI36, (hF37.up (by decide))⟩
theorem mLifeX {sa kk : Nat} (hI : xMnv w) (hsa : sa ≤ 4294967295) (hkk : kk ≤ 1001) : xPi d mX12_isLifeTold [(2, 82), (0, sa), (0, kk)] w bd fc rr (fun n w' => ((n = 1 ∧ ∃ m, m < kk ∧ m < 4 ∧ rwv w 86 (50 + 2 * m) = sa) ∨ (n = 0 ∧ ∀ m, m < kk → m < 4 → rwv w 86 (50 + 2 * m) ≠ sa)) ∧ xMnv w' ∧ xFr [] w w') := by
  refine xPi.of ?_
  show xTo d mX12_isLifeTold (0, [], [(0, (2, 82)), (1, (0, sa)), (2, (0, kk))], [], (w, bd, fc, 0, 0, rr)) (fun φ => ∃ n w', xEnd 4 [(0, n)] (w', bd, fc, 0, 0, rr) φ ∧ ((n = 1 ∧ ∃ m, m < kk ∧ m < 4 ∧ rwv w 86 (50 + 2 * m) = sa) ∨ (n = 0 ∧ ∀ m, m < kk → m < 4 → rwv w 86 (50 + 2 * m) ≠ sa)) ∧ xMnv w' ∧ xFr [] w w')
  refine xoCh82 (xqc82 hI : cp82 (wget w 82)) (fun f82_1 f82_3 f82_5 f82_7 f82_9 f82_11 f82_13 f82_15 f82_17 f82_19 f82_21 f82_22 f82_23 f82_25 f82_27 f82_29 h82_31 hb2 hb4 hb6 hb8 hb10 hb12 hb14 hb16 hb18 hb20 hb24 hb26 hb28 hb30 hb32 => ?_)
  refine xoI (xqc86 hI : cpI 140 53 4294967295 (wget w 86)) (fun g86_33 h86_34 hb35 => ?_)
  refine xg_t (xg_blq rfl) ?_
  refine xg_t (xg_const) ?_
  refine xg_t (xg_istore (l1 := [(0, (2, 82)), (1, (0, sa)), (2, (0, kk))]) rfl rfl rfl) ?_
  refine xg_t (xg_const) ?_
  refine xg_t (xg_istore (l1 := [(3, (0, 0)), (0, (2, 82)), (1, (0, sa)), (2, (0, kk))]) rfl rfl rfl) ?_
  refine xg_t (xg_drop (l1 := [(0, (2, 82)), (1, (0, sa)), (2, (0, kk)), (3, (0, 0)), (4, (0, 0))]) (List.forall_mem_cons.mpr ⟨List.mem_cons_of_mem _ (List.mem_cons_of_mem _ (List.mem_cons_self)), List.forall_mem_cons.mpr ⟨List.mem_cons_of_mem _ (List.mem_cons_of_mem _ (List.mem_cons_of_mem _ (List.mem_cons_self))), List.forall_mem_cons.mpr ⟨List.mem_cons_of_mem _ (List.mem_cons_of_mem _ (List.mem_cons_of_mem _ (List.mem_cons_of_mem _ (List.mem_cons_self)))), List.forall_mem_cons.mpr ⟨List.mem_cons_of_mem _ (List.mem_cons_self), List.forall_mem_cons.mpr ⟨List.mem_cons_self, fun _ h => absurd h List.not_mem_nil⟩⟩⟩⟩⟩)) ?_
  have key36 : ∀ (m38 : Nat) (is_ ji : Nat) (w39 : List (List xE)), 4 - ji < m38 → is_ ≤ 1 → ji ≤ 4 → xMnv w39 → xFr [] w w39 → ((is_ = 1 ∧ ∃ m, m < ji ∧ rwv w 86 (50 + 2 * m) = sa) ∨ (is_ = 0 ∧ ∀ m, m < ji → rwv w 86 (50 + 2 * m) ≠ sa)) ∧ ji ≤ kk → xTo d mX12_isLifeTold (5, [], [(0, (2, 82)), (1, (0, sa)), (2, (0, kk)), (3, (0, is_)), (4, (0, ji))], [], (w39, bd, fc, 0, 0, rr)) (fun φ => ∃ n w', xEnd 4 [(0, n)] (w', bd, fc, 0, 0, rr) φ ∧ ((n = 1 ∧ ∃ m, m < kk ∧ m < 4 ∧ rwv w 86 (50 + 2 * m) = sa) ∨ (n = 0 ∧ ∀ m, m < kk → m < 4 → rwv w 86 (50 + 2 * m) ≠ sa)) ∧ xMnv w' ∧ xFr [] w w') := by
    intro m38
    induction m38 with
    | zero => intro is_ ji w39 hz; exact absurd hz (Nat.not_lt_zero _)
    | succ m38 ih37 =>
      intro is_ ji w39 hm45 hn42 hn43 hI40 hF41 he44
      obtain ⟨he46, he47⟩ := he44
      refine xg_t (xg_blq rfl) ?_
      refine xg_t (xg_iload (va := (0, ji)) rfl rfl) ?_
      refine xg_t (xg_iload (va := (0, kk)) rfl rfl) ?_
      by_cases hc48 : ji < kk
      · refine xg_t (xg_icF (u := ji) (v := kk) rfl xnm0 xnm0 (xj_geF hc48 (by omega))) ?_
        refine xg_t (xg_iload (va := (0, ji)) rfl rfl) ?_
        refine xg_t (xg_const) ?_
        by_cases hc49 : ji < 4
        · refine xg_t (xg_icF (u := ji) (v := 4) rfl xnm0 xnm0 (xj_geF hc49 (by omega))) ?_
          refine xg_t (xg_iload (va := (0, is_)) rfl rfl) ?_
          by_cases hc50 : is_ = 0
          · refine xg_t (xg_ifF (u := is_) rfl xnm0 (xj_neF hc50)) ?_
            refine xg_t (xg_aload (va := (2, 82)) rfl rfl) ?_
            refine xg_t (xg_getf (va := (2, 86)) (hF41.get (by decide) h82_31) rfl) ?_
            refine xg_t (xg_bip) ?_
            refine xg_t (xg_const) ?_
            refine xg_t (xg_iload (va := (0, ji)) rfl rfl) ?_
            refine xg_t (xg_imul (u := 2) (v := ji) (z := 2 * ji) xnm0 xnm0 (by omega)) ?_
            refine xg_t (xg_iadd (u := 50) (v := 2 * ji) (z := 50 + (2 * ji)) xnm0 xnm0 (by omega)) ?_
            refine xg_ialdB (n := 50 + (2 * ji)) (B := 4294967295) (h86_34.fr hF41 (by decide)) (hb35) xnm0 (by omega) (fun u51 hu52 he53 => ?_)
            have hq54 : rwv w 86 (50 + 2 * ji) = u51 := (rwv_of h86_34 (by omega)).trans he53
            refine xg_t (xg_iload (va := (0, sa)) rfl rfl) ?_
            by_cases hc55 : u51 = sa
            · refine xg_t (xg_icF (u := u51) (v := sa) rfl xnm0 xnm0 (xj_neF hc55)) ?_
              refine xg_t (xg_blq rfl) ?_
              refine xg_t (xg_const) ?_
              refine xg_t (xg_goto) ?_
              refine xg_t (xg_blq rfl) ?_
              refine xg_t (xg_istore (l1 := [(0, (2, 82)), (1, (0, sa)), (2, (0, kk)), (4, (0, ji))]) rfl rfl rfl) ?_
              refine xg_t (xg_iinc (u := ji) (z := ji + 1) (l1 := [(3, (0, 1)), (0, (2, 82)), (1, (0, sa)), (2, (0, kk))]) rfl rfl (by omega) rfl) ?_
              refine xg_t (xg_goto) ?_
              refine xg_t (xg_drop (l1 := [(0, (2, 82)), (1, (0, sa)), (2, (0, kk)), (3, (0, 1)), (4, (0, ji + 1))]) (List.forall_mem_cons.mpr ⟨List.mem_cons_of_mem _ (List.mem_cons_of_mem _ (List.mem_cons_self)), List.forall_mem_cons.mpr ⟨List.mem_cons_of_mem _ (List.mem_cons_of_mem _ (List.mem_cons_of_mem _ (List.mem_cons_self))), List.forall_mem_cons.mpr ⟨List.mem_cons_of_mem _ (List.mem_cons_of_mem _ (List.mem_cons_of_mem _ (List.mem_cons_of_mem _ (List.mem_cons_self)))), List.forall_mem_cons.mpr ⟨List.mem_cons_of_mem _ (List.mem_cons_self), List.forall_mem_cons.mpr ⟨List.mem_cons_self, fun _ h => absurd h List.not_mem_nil⟩⟩⟩⟩⟩)) ?_
              exact ih37 1 (ji + 1) w39 (by omega) (by omega) (by omega) (hI40) (hF41) (⟨Or.inl ⟨rfl, ji, by omega, by omega⟩, by omega⟩)
            · refine xg_t (xg_icT (u := u51) (v := sa) rfl xnm0 xnm0 (xj_neT hc55)) ?_
              refine xg_t (xg_blq rfl) ?_
              refine xg_t (xg_const) ?_
              refine xg_t (xg_blq rfl) ?_
              refine xg_t (xg_istore (l1 := [(0, (2, 82)), (1, (0, sa)), (2, (0, kk)), (4, (0, ji))]) rfl rfl rfl) ?_
              refine xg_t (xg_iinc (u := ji) (z := ji + 1) (l1 := [(3, (0, 0)), (0, (2, 82)), (1, (0, sa)), (2, (0, kk))]) rfl rfl (by omega) rfl) ?_
              refine xg_t (xg_goto) ?_
              refine xg_t (xg_drop (l1 := [(0, (2, 82)), (1, (0, sa)), (2, (0, kk)), (3, (0, 0)), (4, (0, ji + 1))]) (List.forall_mem_cons.mpr ⟨List.mem_cons_of_mem _ (List.mem_cons_of_mem _ (List.mem_cons_self)), List.forall_mem_cons.mpr ⟨List.mem_cons_of_mem _ (List.mem_cons_of_mem _ (List.mem_cons_of_mem _ (List.mem_cons_self))), List.forall_mem_cons.mpr ⟨List.mem_cons_of_mem _ (List.mem_cons_of_mem _ (List.mem_cons_of_mem _ (List.mem_cons_of_mem _ (List.mem_cons_self)))), List.forall_mem_cons.mpr ⟨List.mem_cons_of_mem _ (List.mem_cons_self), List.forall_mem_cons.mpr ⟨List.mem_cons_self, fun _ h => absurd h List.not_mem_nil⟩⟩⟩⟩⟩)) ?_
              have hy57 : ∀ m, m < ji + 1 → rwv w 86 (50 + 2 * m) ≠ sa := fun m hm => by
                rcases he46 with ⟨z, -⟩ | ⟨-, z⟩
                · omega
                · by_cases e : m = ji
                  · rw [e]; omega
                  · exact z m (by omega)
              exact ih37 0 (ji + 1) w39 (by omega) (by omega) (by omega) (hI40) (hF41) (⟨Or.inr ⟨rfl, hy57⟩, by omega⟩)
          · refine xg_t (xg_ifT (u := is_) rfl xnm0 (xj_neT hc50)) ?_
            refine xg_t (xg_blq rfl) ?_
            refine xg_t (xg_const) ?_
            refine xg_t (xg_goto) ?_
            refine xg_t (xg_blq rfl) ?_
            refine xg_t (xg_istore (l1 := [(0, (2, 82)), (1, (0, sa)), (2, (0, kk)), (4, (0, ji))]) rfl rfl rfl) ?_
            refine xg_t (xg_iinc (u := ji) (z := ji + 1) (l1 := [(3, (0, 1)), (0, (2, 82)), (1, (0, sa)), (2, (0, kk))]) rfl rfl (by omega) rfl) ?_
            refine xg_t (xg_goto) ?_
            refine xg_t (xg_drop (l1 := [(0, (2, 82)), (1, (0, sa)), (2, (0, kk)), (3, (0, 1)), (4, (0, ji + 1))]) (List.forall_mem_cons.mpr ⟨List.mem_cons_of_mem _ (List.mem_cons_of_mem _ (List.mem_cons_self)), List.forall_mem_cons.mpr ⟨List.mem_cons_of_mem _ (List.mem_cons_of_mem _ (List.mem_cons_of_mem _ (List.mem_cons_self))), List.forall_mem_cons.mpr ⟨List.mem_cons_of_mem _ (List.mem_cons_of_mem _ (List.mem_cons_of_mem _ (List.mem_cons_of_mem _ (List.mem_cons_self)))), List.forall_mem_cons.mpr ⟨List.mem_cons_of_mem _ (List.mem_cons_self), List.forall_mem_cons.mpr ⟨List.mem_cons_self, fun _ h => absurd h List.not_mem_nil⟩⟩⟩⟩⟩)) ?_
            have hy58 : ∃ m, m < ji ∧ rwv w 86 (50 + 2 * m) = sa := by
              rcases he46 with ⟨-, z⟩ | ⟨z, -⟩
              · exact z
              · omega
            exact ih37 1 (ji + 1) w39 (by omega) (by omega) (by omega) (hI40) (hF41) (⟨Or.inl ⟨rfl, hy58.elim (fun m z => ⟨m, by omega, z.2⟩)⟩, by omega⟩)
        · refine xg_t (xg_icT (u := ji) (v := 4) rfl xnm0 xnm0 (xj_geT (by omega) (by omega))) ?_
          refine xg_t (xg_blq rfl) ?_
          refine xg_t (xg_iload (va := (0, is_)) rfl rfl) ?_
          have hy59 : (is_ = 1 ∧ ∃ m, m < kk ∧ m < 4 ∧ rwv w 86 (50 + 2 * m) = sa) ∨ (is_ = 0 ∧ ∀ m, m < kk → m < 4 → rwv w 86 (50 + 2 * m) ≠ sa) := by
            rcases he46 with ⟨z1, m, z2, z3⟩ | ⟨z1, z2⟩
            · exact Or.inl ⟨z1, m, by omega, by omega, z3⟩
            · exact Or.inr ⟨z1, fun m a b => z2 m (by omega)⟩
          exact xg_e ⟨is_, w39, ⟨xret_b (by omega), rfl⟩, hy59, hI40, hF41⟩
      · refine xg_t (xg_icT (u := ji) (v := kk) rfl xnm0 xnm0 (xj_geT (by omega) (by omega))) ?_
        refine xg_t (xg_blq rfl) ?_
        refine xg_t (xg_iload (va := (0, is_)) rfl rfl) ?_
        have hy60 : (is_ = 1 ∧ ∃ m, m < kk ∧ m < 4 ∧ rwv w 86 (50 + 2 * m) = sa) ∨ (is_ = 0 ∧ ∀ m, m < kk → m < 4 → rwv w 86 (50 + 2 * m) ≠ sa) := by
          rcases he46 with ⟨z1, m, z2, z3⟩ | ⟨z1, z2⟩
          · exact Or.inl ⟨z1, m, by omega, by omega, z3⟩
          · exact Or.inr ⟨z1, fun m a b => z2 m (by omega)⟩
        exact xg_e ⟨is_, w39, ⟨xret_b (by omega), rfl⟩, hy60, hI40, hF41⟩
  exact key36 _ 0 0 w (Nat.lt_succ_self _) (by omega) (by omega) (hI) (xFr.rf) (⟨Or.inr ⟨rfl, fun m hm => absurd hm (Nat.not_lt_zero _)⟩, Nat.zero_le _⟩)
end XFMB
end
