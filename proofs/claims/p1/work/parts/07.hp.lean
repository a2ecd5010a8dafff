/-! cells, calls, the run -/
noncomputable def xgf1 (ih : xK) (d : Nat) (M : xM) (e : xI) (tl : List xI) (lo : xLo) (s1 : List xV) (hp : xH) (o : Nat × List xV) : Option (List xS) := xif (Nat.beq o.1 e.2.2.2.1) (xob (xget o.2 e.2.2.2.2.1) fun v => ih d M (e.1 + e.2.1, tl, lo, v :: s1, hp))
noncomputable def xh_getfield : xF := fun ih d M e tl lo st hp => xhd st fun r s1 => xif (Nat.beq r.1 2) (xob (wget hp.1 r.2) fun q => xobj q (xgf1 ih d M e tl lo s1 hp))
/-- the world with another cell at a place -/
noncomputable def xwr (hp : xH) (k : Nat) (q : xE) : xH := (wset q hp.1 k, hp.2)
noncomputable def xpf1 (ih : xK) (d : Nat) (M : xM) (e : xI) (tl : List xI) (lo : xLo) (s2 : List xV) (hp : xH) (v : xV) (k : Nat) (o : Nat × List xV) : Option (List xS) := xif (Nat.beq o.1 e.2.2.2.1) (xob (xget o.2 e.2.2.2.2.1) fun _ => ih d M (e.1 + e.2.1, tl, lo, s2, xwr hp k (.inl (o.1, xset v o.2 e.2.2.2.2.1))))
noncomputable def xput (f : xV → Bool) : xF := fun ih d M e tl lo st hp => xhd st fun v s1 => xhd s1 fun r s2 => xif (f v && Nat.beq r.1 2) (xob (wget hp.1 r.2) fun q => xobj q (xpf1 ih d M e tl lo s2 hp v r.2))
def xis01 (v : xV) : Bool := Nat.beq v.1 0 && Nat.ble v.2 1
noncomputable def xh_putI : xF := xput xisi
noncomputable def xh_putZ : xF := xput xis01
noncomputable def xh_putR : xF := xput xisr
noncomputable def xh_putFI : xF := fun ih d M e tl lo st hp => xif (decide (M.1.name = "<init>")) (xput xisi ih d M e tl lo st hp)
noncomputable def xh_putFR : xF := fun ih d M e tl lo st hp => xif (decide (M.1.name = "<init>")) (xput xisr ih d M e tl lo st hp)
-- arrays
/-- what an array has at a place -/
noncomputable def xat (kd : Nat) (us : List (Nat × xV)) (j : Nat) : xV := Option.rec (motive := fun _ => xV) (cond (Nat.beq kd 4) (3, 0) (cond (Nat.beq kd 3) (4, 0) (0, 0))) (fun v => v) (xfind us j)
noncomputable def xald1 (kt : Nat → Bool) (ih : xK) (d : Nat) (M : xM) (e : xI) (tl : List xI) (lo : xLo) (s2 : List xV) (hp : xH) (i : xV) (a : Nat × Nat × Nat × List (Nat × xV)) : Option (List xS) := xif (kt a.1 && (Nat.beq i.1 0 && Nat.blt i.2 a.2.1)) (ih d M (e.1 + e.2.1, tl, lo, xat a.1 a.2.2.2 i.2 :: s2, hp))
noncomputable def xald (kt : Nat → Bool) : xF := fun ih d M e tl lo st hp => xhd st fun i s1 => xhd s1 fun r s2 => xif (Nat.beq r.1 2) (xob (wget hp.1 r.2) fun q => xarr q (xald1 kt ih d M e tl lo s2 hp (xnm hp.2.1 i)))
noncomputable def xald8 (ih : xK) (d : Nat) (M : xM) (e : xI) (tl : List xI) (lo : xLo) (s2 : List xV) (hp : xH) (r i : xV) : Option (List xS) := xif (Nat.beq i.1 0) (cond (Nat.beq r.1 8) (xob (xget xst r.2) fun q => xob (xget q.2.2 i.2) fun u => ih d M (e.1 + e.2.1, tl, lo, (0, u) :: s2, hp)) (xif (Nat.beq r.1 7 && Nat.blt i.2 7) (ih d M (e.1 + e.2.1, tl, lo, (1, i.2) :: s2, hp))))
noncomputable def xh_iaload : xF := fun ih d M e tl lo st hp => xhd st fun i s1 => xhd s1 fun r s2 => cond (Nat.beq r.1 2) (xob (wget hp.1 r.2) fun q => xarr q (xald1 (fun k => Nat.beq k 0) ih d M e tl lo s2 hp (xnm hp.2.1 i))) (xald8 ih d M e tl lo s2 hp r (xnm hp.2.1 i))
noncomputable def xh_baload : xF := xald (fun k => Nat.beq k 1 || Nat.beq k 2)
noncomputable def xh_aaload : xF := xald (fun k => Nat.beq k 4)
noncomputable def xsame (a b : xV) : Bool := Nat.beq a.1 b.1 && Nat.beq a.2 b.2
/-- written at a place: the same value changes nothing -/
noncomputable def xast1 (ih : xK) (d : Nat) (M : xM) (e : xI) (tl : List xI) (lo : xLo) (s3 : List xV) (hp : xH) (k : Nat) (v i : xV) (a : Nat × Nat × Nat × List (Nat × xV)) : Option (List xS) := xif (Nat.beq i.1 0 && Nat.blt i.2 a.2.1) (cond (xsame v (xat a.1 a.2.2.2 i.2)) (ih d M (e.1 + e.2.1, tl, lo, s3, hp)) (ih d M (e.1 + e.2.1, tl, lo, s3, xwr hp k (.inr (a.1, a.2.1, a.2.2.1, (i.2, v) :: a.2.2.2)))))
noncomputable def xh_iastore : xF := fun ih d M e tl lo st hp => xhd st fun v s1 => xhd s1 fun i s2 => xhd s2 fun r s3 => xif (Nat.beq r.1 2 && xisi v) (xob (wget hp.1 r.2) fun q => xarr q fun a => xif (Nat.beq a.1 0) (xast1 ih d M e tl lo s3 hp r.2 (xnm hp.2.1 v) (xnm hp.2.1 i) a))
noncomputable def xbyt (u : Nat) : Nat := cond (Nat.blt (u % 256) 128) (u % 256) (u % 256 + 4294967040)
noncomputable def xbst1 (ih : xK) (d : Nat) (M : xM) (e : xI) (tl : List xI) (lo : xLo) (s3 : List xV) (hp : xH) (k : Nat) (v i : xV) (a : Nat × Nat × Nat × List (Nat × xV)) : Option (List xS) := cond (Nat.beq a.1 2) (xif (xis01 v) (xast1 ih d M e tl lo s3 hp k v i a)) (xif (Nat.beq a.1 1) (cond (Nat.beq v.1 0) (xN (xbyt v.2) fun z => xast1 ih d M e tl lo s3 hp k (0, z) i a) (xfresh (2147483520, 2147483775) (fun w hp' => xast1 ih d M e tl lo s3 hp' k w i a) hp)))
noncomputable def xh_bastore : xF := fun ih d M e tl lo st hp => xhd st fun v s1 => xhd s1 fun i s2 => xhd s2 fun r s3 => xif (Nat.beq r.1 2 && xisi v) (xob (wget hp.1 r.2) fun q => xarr q (xbst1 ih d M e tl lo s3 hp r.2 (xnm hp.2.1 v) (xnm hp.2.1 i)))
noncomputable def xh_aastore : xF := fun ih d M e tl lo st hp => xhd st fun v s1 => xhd s1 fun i s2 => xhd s2 fun r s3 => xif (Nat.beq r.1 2 && Nat.beq v.1 2) (xob (wget hp.1 v.2) fun qv => xobj qv fun ov => xif (Nat.beq ov.1 9) (xob (wget hp.1 r.2) fun q => xarr q fun a => xif (Nat.beq a.1 4) (xast1 ih d M e tl lo s3 hp r.2 v (xnm hp.2.1 i) a)))
noncomputable def xh_alen : xF := fun ih d M e tl lo st hp => xhd st fun r s1 => cond (Nat.beq r.1 2) (xob (wget hp.1 r.2) fun q => xarr q fun a => ih d M (e.1 + e.2.1, tl, lo, (0, a.2.1) :: s1, hp)) (xif (Nat.beq r.1 7) (ih d M (e.1 + e.2.1, tl, lo, (0, 7) :: s1, hp)))
-- new cells
noncomputable def xmk (M : xM) (hp : xH) (x : xE) (n nt : Nat) (k : xV → xH → Option (List xS)) : Option (List xS) := xif (Nat.blt hp.2.2.2.1 M.2.2.2.2.2.2.1 && Nat.ble (hp.2.2.2.2.1 + n) M.2.2.2.2.2.2.2.1) (xob (xpush x hp.1 (hp.2.2.2.2.2.2 / 10) (hp.2.2.2.2.2.2 % 10)) fun w => xN (hp.2.2.2.1 + 1) fun cn => xN (hp.2.2.2.2.1 + n) fun sl => xN (hp.2.2.2.2.2.1 + nt) fun t => xN (hp.2.2.2.2.2.2 + 1) fun nw => k (2, hp.2.2.2.2.2.2) (w, hp.2.1, hp.2.2.1, cn, sl, t, nw))
noncomputable def xh_new : xF := fun ih d M e tl lo st hp => xob (xget xdfl e.2.2.2.1) fun fs => xmk M hp (.inl (e.2.2.2.1, fs)) fs.length 0 (fun v hp' => ih d M (e.1 + e.2.1, tl, lo, v :: st, hp'))
noncomputable def xnewa (kd : Nat) (ih : xK) (d : Nat) (M : xM) (e : xI) (tl : List xI) (lo : xLo) (s1 : List xV) (hp : xH) (n : xV) : Option (List xS) := xif (Nat.beq n.1 0 && Nat.ble n.2 1000000) (xmk M hp (.inr (kd, n.2, hp.2.2.2.2.2.1, [])) n.2 1 (fun v hp' => ih d M (e.1 + e.2.1, tl, lo, v :: s1, hp')))
noncomputable def xh_newarray : xF := fun ih d M e tl lo st hp => xhd st fun n s1 => xif (Nat.ble e.2.2.2.2.1 3) (xnewa e.2.2.2.2.1 ih d M e tl lo s1 hp (xnm hp.2.1 n))
noncomputable def xh_anewarray : xF := fun ih d M e tl lo st hp => xhd st fun n s1 => xnewa 4 ih d M e tl lo s1 hp (xnm hp.2.1 n)
-- switches: key by key
noncomputable def xswg (ih : xK) (d : Nat) (M : xM) (e : xI) (tl : List xI) (lo : xLo) (st s1 : List xV) (hp : xH) (v : xV) (ks : List (Nat × Nat)) : Option (List xS) := List.rec (ih d M (e.2.2.2.1, [], lo, s1, hp)) (fun q _ r => xans (xeq hp.2.1 v (0, q.1)) hp (fun t => cond t (ih d M (q.2, [], lo, s1, hp)) r) (fun hp' => ih d M (e.1, e :: tl, lo, st, hp'))) ks
noncomputable def xh_switch : xF := fun ih d M e tl lo st hp => xhd st fun v s1 => xif (xisi v) (xob (xget xsws e.2.2.2.2.2) fun ks => xswg ih d M e tl lo st s1 hp (xnm hp.2.1 v) ks)
-- calls
noncomputable def xh_objinit : xF := fun ih d M e tl lo st hp => xhd st fun r s1 => xif (Nat.beq r.1 2 && (Nat.blt 0 d && Nat.ble s1.length 4)) (ih d M (e.1 + e.2.1, tl, lo, s1, hp))
/-- arraycopy between rows of one kind, neither of which was written -/
noncomputable def xcp1 (ih : xK) (d : Nat) (M : xM) (e : xI) (tl : List xI) (lo : xLo) (s5 : List xV) (hp : xH) (n dp sp : xV) (a b : Nat × Nat × Nat × List (Nat × xV)) : Option (List xS) := xif ((Nat.beq a.1 b.1 && Nat.ble a.1 1) && ((Nat.beq n.1 0 && Nat.beq dp.1 0) && (Nat.beq sp.1 0 && (Nat.beq dp.2 0 && Nat.beq sp.2 0)))) (xif ((Nat.ble n.2 a.2.1 && Nat.ble n.2 b.2.1) && (Nat.beq a.2.2.2.length 0 && Nat.beq b.2.2.2.length 0)) (ih d M (e.1 + e.2.1, tl, lo, s5, hp)))
noncomputable def xh_copy : xF := fun ih d M e tl lo st hp => xhd st fun n s1 => xhd s1 fun dp s2 => xhd s2 fun r s3 => xhd s3 fun sp s4 => xhd s4 fun r0 s5 => xif ((Nat.beq r.1 2 && Nat.beq r0.1 2) && (Nat.blt 0 d && Nat.ble s5.length 4)) (xob (wget hp.1 r0.2) fun q0 => xarr q0 fun a => xob (wget hp.1 r.2) fun q => xarr q (xcp1 ih d M e tl lo s5 hp (xnm hp.2.1 n) (xnm hp.2.1 dp) (xnm hp.2.1 sp) a))
/-- Math.max and Math.min of two numbers -/
noncomputable def xmm1 (F : Nat → Nat → Nat) (ih : xK) (d : Nat) (M : xM) (e : xI) (tl : List xI) (lo : xLo) (s2 : List xV) (hp : xH) (a b : xV) : Option (List xS) := xif ((Nat.beq a.1 0 && Nat.beq b.1 0) && ((Nat.blt 0 d && Nat.ble s2.length 4) && (Nat.ble hp.2.2.2.1 M.2.2.2.2.2.2.1 && Nat.ble hp.2.2.2.2.1 M.2.2.2.2.2.2.2.1))) (xN (F a.2 b.2) fun z => ih d M (e.1 + e.2.1, tl, lo, (0, z) :: s2, hp))
noncomputable def xmm (F : Nat → Nat → Nat) : xF := fun ih d M e tl lo st hp => xhd st fun b s1 => xhd s1 fun a s2 => xmm1 F ih d M e tl lo s2 hp (xnm hp.2.1 a) (xnm hp.2.1 b)
def xmaxF (a b : Nat) : Nat := cond (Nat.blt (xbs a) (xbs b)) b a
def xminF (a b : Nat) : Nat := cond (Nat.blt (xbs b) (xbs a)) b a
noncomputable def xh_max : xF := xmm xmaxF
noncomputable def xh_min : xF := xmm xminF
/-- the locals that a method begins with -/
noncomputable def xarg (vs : List xV) : Nat → xLo := List.rec (fun _ => []) (fun v _ r i => (i, v) :: r (cond (Nat.beq v.1 4) (i + 2) (i + 1))) vs
/-- what a method's end answers, if it is one -/
noncomputable def xret (rk : Nat) (φ : xS) : Option (List xV) := List.rec none (fun e _ _ => xif (Nat.beq e.2.2.1 12) (cond (Nat.beq rk 0) (xif (Nat.beq e.2.2.2.2.1 0 && Nat.beq φ.2.2.2.1.length 0) (some [])) (xhd φ.2.2.2.1 fun v s1 => xif (Nat.beq s1.length 0) (cond (Nat.beq rk 1) (xif (Nat.beq e.2.2.2.2.1 1 && xisi v) (some [v])) (cond (Nat.beq rk 2) (xif (Nat.beq e.2.2.2.2.1 2 && Nat.beq v.1 4) (some [v])) (cond (Nat.beq rk 3) (xif (Nat.beq e.2.2.2.2.1 3 && xisr v) (some [v])) (xif (Nat.beq e.2.2.2.2.1 1) ((fun b : xV => xif (xis01 b) (some [b])) (xnm φ.2.2.2.2.2.1 v))))))))) φ.2.1
/-- the caller goes on behind each end of the callee -/
noncomputable def xback (M' : xM) (e : xI) (tl : List xI) (lo : xLo) (rest : List xV) (hp : xH) (φ : xS) : Option xS := xob (xret M'.2.2.2.2.2.1 φ) fun r => xif (Nat.ble φ.2.2.2.2.2.2.2.1 M'.2.2.2.2.2.2.1 && Nat.ble φ.2.2.2.2.2.2.2.2.1 M'.2.2.2.2.2.2.2.1) (xN (hp.2.2.2.1 + M'.2.2.2.2.2.2.1) fun cn => xN (hp.2.2.2.2.1 + M'.2.2.2.2.2.2.2.1) fun sl => some (e.1 + e.2.1, tl, lo, r ++ rest, (φ.2.2.2.2.1, φ.2.2.2.2.2.1, φ.2.2.2.2.2.2.1, cn, sl, φ.2.2.2.2.2.2.2.2.2.1, φ.2.2.2.2.2.2.2.2.2.2)))
noncomputable def xall (f : xS → Option (List xS)) (g : xS → Option xS) (fs : List xS) : Option (List xS) := List.rec (some []) (fun φ t r => List.rec (xob (g φ) f) (fun _ _ _ => xspl (xob (g φ) f) r) t) fs
/-- how many places the arguments take -/
noncomputable def xwds (vs : List xV) : Nat := List.rec 0 (fun v _ r => cond (Nat.beq v.1 4) (r + 2) (r + 1)) vs
noncomputable def xcall2 (ih : xK) (d : Nat) (M : xM) (e : xI) (tl : List xI) (lo : xLo) (hp : xH) (M' : xM) (d' : Nat) (vs rest : List xV) : Option (List xS) := xif ((Nat.ble (hp.2.2.2.1 + M'.2.2.2.2.2.2.1) M.2.2.2.2.2.2.1 && Nat.ble (xwds vs) M'.2.2.1) && (Nat.ble (hp.2.2.2.2.1 + M'.2.2.2.2.2.2.2.1) M.2.2.2.2.2.2.2.1 && Nat.ble rest.length 4)) (xob (ih d' M' (0, [], xarg vs 0, [], (hp.1, hp.2.1, hp.2.2.1, 0, 0, hp.2.2.2.2.2))) fun fs => xall (ih d M) (xback M' e tl lo rest hp) fs)
noncomputable def xcallV (ih : xK) (d : Nat) (M : xM) (e : xI) (tl : List xI) (lo : xLo) (hp : xH) (M' : xM) (d' : Nat) (vs rest : List xV) : Option (List xS) := xhd rest fun r s1 => xif (Nat.beq r.1 2) (xob (wget hp.1 r.2) fun q => xobj q fun o => xif (Nat.beq o.1 (e.2.2.2.2.1 / 8)) (xcall2 ih d M e tl lo hp M' d' (r :: vs) s1))
noncomputable def xcallI (ih : xK) (d : Nat) (M : xM) (e : xI) (tl : List xI) (lo : xLo) (hp : xH) (M' : xM) (d' : Nat) (vs rest : List xV) : Option (List xS) := xhd rest fun r s1 => xif (Nat.beq r.1 2) (xcall2 ih d M e tl lo hp M' d' (r :: vs) s1)
noncomputable def xcall1 (ih : xK) (d : Nat) (M : xM) (e : xI) (tl : List xI) (lo : xLo) (st : List xV) (hp : xH) (M' : xM) (d' : Nat) : Option (List xS) := xif (Nat.beq (st.take M'.2.2.2.2.1).length M'.2.2.2.2.1) (cond (Nat.ble (e.2.2.2.2.1 % 8) 1) (xcallV ih d M e tl lo hp M' d' (st.take M'.2.2.2.2.1).reverse (st.drop M'.2.2.2.2.1)) (cond (Nat.ble (e.2.2.2.2.1 % 8) 3) (xcall2 ih d M e tl lo hp M' d' (st.take M'.2.2.2.2.1).reverse (st.drop M'.2.2.2.2.1)) (xcallI ih d M e tl lo hp M' d' (st.take M'.2.2.2.2.1).reverse (st.drop M'.2.2.2.2.1))))
noncomputable def xh_call : xF := fun ih d M e tl lo st hp => xob (mget e.2.2.2.1) fun M' => Nat.rec (motive := fun _ => Option (List xS)) none (fun d' _ => xcall1 ih d M e tl lo st hp M' d') d
noncomputable def xh_ret : xF := fun _ _ _ e tl lo st hp => some [(e.1, e :: tl, lo, st, hp)]
/-! what each instruction is, and what its links must say -/
def xcnd (y : Nat) : ClassFile.Cond := match y with
  | 0 => .eq
  | 1 => .ne
  | 2 => .lt
  | 3 => .ge
  | 4 => .gt
  | _ => .le
def xoff (e : xI) : Int := (e.2.2.2.1 : Int) - (e.1 : Int)
def xatp (y : Nat) : ClassFile.ArrayType := match y with
  | 0 => .int
  | 1 => .byte
  | 2 => .boolean
  | _ => .long
def xretI (y : Nat) : Instr := match y with
  | 0 => .return_
  | 1 => .ireturn
  | 2 => .lreturn
  | _ => .areturn
def xcalI (e : xI) : Instr := cond (Nat.ble (e.2.2.2.2.1 % 8) 1) (.invokevirtual e.2.2.2.2.2) (cond (Nat.ble (e.2.2.2.2.1 % 8) 3) (.invokestatic e.2.2.2.2.2) (.invokespecial e.2.2.2.2.2))
def xP0 (_ : String) (_ : xI) : Prop := True
def xPl (_ : String) (e : xI) : Prop := (e.2.1 = 1 ∧ e.2.2.2.1 < 4) ∨ e.2.1 = 2
def xPn (n : Nat) (_ : String) (e : xI) : Prop := e.2.1 = n
def xPc (n : Nat) (_ : String) (e : xI) : Prop := e.2.1 = n ∧ e.2.2.2.1 < 4294967296
def xPf (own : String) (e : xI) : Prop := e.2.1 = 3 ∧ ∃ q, vwCl[e.2.2.2.1]? = some q ∧ e.2.2.2.2.1 < q.2.2 ∧ Cond.fieldLink own e.2.2.2.2.2 (q.2.1 e.2.2.2.2.1).1 (q.2.1 e.2.2.2.2.1).2.1 (q.2.1 e.2.2.2.2.1).2.2.1 ∈ lw_gt
def xPp (fin : Bool) (k : FieldType → Prop) (own : String) (e : xI) : Prop := e.2.1 = 3 ∧ ∃ q ty, vwCl[e.2.2.2.1]? = some q ∧ e.2.2.2.2.1 < q.2.2 ∧ Cond.fieldLink own e.2.2.2.2.2 (q.2.1 e.2.2.2.2.1).1 (q.2.1 e.2.2.2.2.1).2.1 (q.2.1 e.2.2.2.2.1).2.2.1 ∈ lw_gt ∧ (q.2.1 e.2.2.2.2.1).2.2.2 = fin ∧ (fin = true → (q.2.1 e.2.2.2.2.1).1 = own) ∧ parseFieldDescriptor (q.2.1 e.2.2.2.2.1).2.2.1 = some ty ∧ k ty
def xtyI (ty : FieldType) : Prop := ty = .int
def xtyZ (ty : FieldType) : Prop := ty = .boolean
def xtyR (ty : FieldType) : Prop := (∃ n, ty = .object n) ∨ ∃ t, ty = .array t
def xPg (own : String) (e : xI) : Prop := e.2.1 = 3 ∧ ∃ q, xget xst e.2.2.2.1 = some q ∧ Cond.fieldLink own e.2.2.2.2.2 q.1 q.2.1 "[I" ∈ lw_gt
def xPnew (own : String) (e : xI) : Prop := e.2.1 = 3 ∧ ∃ q, vwCl[e.2.2.2.1]? = some q ∧ Cond.classLink own e.2.2.2.2.2 q.1 ∈ lw_gt ∧ Cond.instantiable q.1 q.2.2 ∈ lw_gt ∧ Cond.initialized q.1 ∈ lw_gt
def xPan (own : String) (e : xI) : Prop := e.2.1 = 3 ∧ Cond.classLink own e.2.2.2.2.2 "BentScreens$Told" ∈ lw_gt
def xPld (n : Nat) (own : String) (e : xI) : Prop := e.2.1 = n ∧ e.2.2.2.1 < 4294967296 ∧ Cond.constant own e.2.2.2.2.2 (nI e.2.2.2.1) ∈ lw_gt
def xPl2 (own : String) (e : xI) : Prop := e.2.1 = 3 ∧ Cond.constantLong own e.2.2.2.2.2 (lN e.2.2.2.1) ∈ lw_gt
def xPob (own : String) (e : xI) : Prop := e.2.1 = 3 ∧ Cond.methodLink own e.2.2.2.2.2 Lib.objectInit ∈ lw_gt
def xPcp (own : String) (e : xI) : Prop := e.2.1 = 3 ∧ Cond.methodLink own e.2.2.2.2.2 arraycopyName ∈ lw_gt
def xPmm (y : MethodName) (own : String) (e : xI) : Prop := e.2.1 = 3 ∧ Cond.methodLink own e.2.2.2.2.2 y ∈ lw_gt
def xPca (own : String) (e : xI) : Prop := e.2.1 = 3 ∧ ∃ M' : xM, mget e.2.2.2.1 = some M' ∧ match e.2.2.2.2.1 % 8 with
  | 0 => Cond.methodLink own e.2.2.2.2.2 M'.1 ∈ lw_gt ∧ Cond.instanceMethod M'.1 ∈ lw_gt ∧ Cond.selects M'.1.cls M'.1 M'.1 ∈ lw_gt ∧ ∃ q, vwCl[e.2.2.2.2.1 / 8]? = some q ∧ q.1 = M'.1.cls
  | 1 => False
  | 2 => Cond.methodLink own e.2.2.2.2.2 M'.1 ∈ lw_gt ∧ Cond.static M'.1 ∈ lw_gt
  | 3 => ∃ host, Cond.methodLinkNest own e.2.2.2.2.2 M'.1 host ∈ lw_tbl ∧ Cond.static M'.1 ∈ lw_gt
  | 4 => Cond.methodLink own e.2.2.2.2.2 M'.1 ∈ lw_gt ∧ M'.1.name = "<init>" ∧ M'.2.2.2.1 = none ∧ M'.2.2.2.2.2.1 = 0 ∧ Cond.instanceMethod M'.1 ∈ lw_gt
  | 5 => ∃ host, Cond.methodLinkNest own e.2.2.2.2.2 M'.1 host ∈ lw_tbl ∧ M'.1.name = "<init>" ∧ M'.2.2.2.1 = none ∧ M'.2.2.2.2.2.1 = 0 ∧ Cond.instanceMethod M'.1 ∈ lw_gt
  | _ => False
/-- a switch: the instruction, and the numbers of xsws beside it -/
def xPts (_ : String) (e : xI) : Prop := ∃ (dflt lo hi : Int) (offs : Array Int) (ks : List (Nat × Nat)), xswi[e.2.2.2.2.2]? = some (.tableswitch dflt lo hi offs) ∧ xget xsws e.2.2.2.2.2 = some ks ∧ (e.1 : Int) + dflt = (e.2.2.2.1 : Int) ∧ 0 ≤ lo ∧ hi < 2147483648 ∧ hi = lo + (ks.length : Int) - 1 ∧ offs.size = ks.length ∧ ∀ j, j < ks.length → (((ks.getD j (0, 0)).1 : Int) = lo + (j : Int) ∧ (e.1 : Int) + offs.getD j 0 = ((ks.getD j (0, 0)).2 : Int))
def xPls (_ : String) (e : xI) : Prop := ∃ (dflt : Int) (ps : Array (Int × Int)) (ks : List (Nat × Nat)), xswi[e.2.2.2.2.2]? = some (.lookupswitch dflt ps) ∧ xget xsws e.2.2.2.2.2 = some ks ∧ (ps.toList.zip (ps.toList.drop 1)).all (fun (a, next) => a.1 < next.1) = true ∧ (e.1 : Int) + dflt = (e.2.2.2.1 : Int) ∧ ps.toList = ks.map (fun q => (xsg q.1, (q.2 : Int) - (e.1 : Int))) ∧ (∀ q ∈ ks, q.1 < 4294967296) ∧ (ks.map (fun q => xsg q.1)).Nodup
noncomputable def xops : List xT := [
  (fun e => cond (Nat.beq e.2.1 1) (.aload_n (xf4 e.2.2.2.1)) (.aload e.2.2.2.1), xPl, xh_aload),
  (fun e => .getfield e.2.2.2.2.2, xPf, xh_getfield),
  (fun e => cond (Nat.beq e.2.1 1) (.iload_n (xf4 e.2.2.2.1)) (.iload e.2.2.2.1), xPl, xh_iload),
  (fun e => .iconst (xsg e.2.2.2.1), xPc 1, xh_const),
  (fun e => .bipush (xsg e.2.2.2.1), fun o e => xPc 2 o e ∧ (e.2.2.2.1 < 128 ∨ 4294967168 ≤ e.2.2.2.1), xh_const),
  (fun e => .sipush (xsg e.2.2.2.1), fun o e => xPc 3 o e ∧ (e.2.2.2.1 < 32768 ∨ 4294934528 ≤ e.2.2.2.1), xh_const),
  (fun e => .if_icmp (xcnd e.2.2.2.2.1) (xoff e), fun o e => xPn 3 o e ∧ e.2.2.2.2.1 < 6, xh_icmp),
  (fun e => .ifCond (xcnd e.2.2.2.2.1) (xoff e), fun o e => xPn 3 o e ∧ e.2.2.2.2.1 < 6, xh_if),
  (fun e => .goto (xoff e), xPn 3, xh_goto),
  (fun e => .iinc e.2.2.2.1 (xsg e.2.2.2.2.1), fun o e => xPn 3 o e ∧ e.2.2.2.2.1 < 4294967296, xh_iinc),
  (fun _ => .iaload, xPn 1, xh_iaload),
  (fun _ => .iadd, xPn 1, xh_iadd),
  (fun e => xretI e.2.2.2.2.1, fun o e => xPn 1 o e ∧ e.2.2.2.2.1 < 4, xh_ret),
  (fun e => xcalI e, xPca, xh_call),
  (fun e => .putfield e.2.2.2.2.2, xPp false xtyI, xh_putI),
  (fun e => cond (Nat.beq e.2.1 1) (.istore_n (xf4 e.2.2.2.1)) (.istore e.2.2.2.1), xPl, xh_istore),
  (fun _ => .imul, xPn 1, xh_imul),
  (fun _ => .iastore, xPn 1, xh_iastore),
  (fun _ => .isub, xPn 1, xh_isub),
  (fun _ => .dup, xPn 1, xh_dup),
  (fun _ => .idiv, xPn 1, xh_idiv),
  (fun _ => .irem, xPn 1, xh_irem),
  (fun e => .putfield e.2.2.2.2.2, xPp true xtyI, xh_putFI),
  (fun e => .newarray (xatp e.2.2.2.2.1), xPn 2, xh_newarray),
  (fun e => .new e.2.2.2.2.2, xPnew, xh_new),
  (fun e => .invokespecial e.2.2.2.2.2, xPob, xh_objinit),
  (fun _ => .ishl, xPn 1, xh_ishl),
  (fun e => cond (Nat.beq e.2.1 1) (.astore_n (xf4 e.2.2.2.1)) (.astore e.2.2.2.1), xPl, xh_astore),
  (fun _ => .bastore, xPn 1, xh_bastore),
  (fun _ => .ishr, xPn 1, xh_ishr),
  (fun _ => .iand, xPn 1, xh_iand),
  (fun _ => .arraylength, xPn 1, xh_alen),
  (fun _ => .baload, xPn 1, xh_baload),
  (fun e => (xswi[e.2.2.2.2.2]?).getD .nop, xPts, xh_switch),
  (fun e => (xswi[e.2.2.2.2.2]?).getD .nop, xPls, xh_switch),
  (fun e => .ldc e.2.2.2.2.2, xPld 2, xh_const),
  (fun e => .ldc_w e.2.2.2.2.2, xPld 3, xh_const),
  (fun e => .getstatic e.2.2.2.2.2, xPg, xh_gets),
  (fun _ => .ior, xPn 1, xh_ior),
  (fun _ => .dup2, xPn 1, xh_dup2),
  (fun _ => .pop, xPn 1, xh_pop),
  (fun _ => .i2b, xPn 1, xh_i2b),
  (fun _ => .iushr, xPn 1, xh_iushr),
  (fun e => .ifnull (xoff e), xPn 3, xh_ifnull),
  (fun e => .ifnonnull (xoff e), xPn 3, xh_ifnonnull),
  (fun _ => .aconst_null, xPn 1, xh_null),
  (fun e => .anewarray e.2.2.2.2.2, xPan, xh_anewarray),
  (fun _ => .aaload, xPn 1, xh_aaload),
  (fun _ => .aastore, xPn 1, xh_aastore),
  (fun _ => .i2l, xPn 1, xh_i2l),
  (fun _ => .l2i, xPn 1, xh_l2i),
  (fun e => .lconst (⟨e.2.2.2.1 % 2, Nat.mod_lt _ (by decide)⟩ : Fin 2), fun o e => xPn 1 o e ∧ e.2.2.2.1 < 2, xh_lconst),
  (fun e => .ldc2_w e.2.2.2.2.2, xPl2, xh_lconst),
  (fun e => cond (Nat.beq e.2.1 1) (.lload_n (xf4 e.2.2.2.1)) (.lload e.2.2.2.1), xPl, xh_lload),
  (fun e => cond (Nat.beq e.2.1 1) (.lstore_n (xf4 e.2.2.2.1)) (.lstore e.2.2.2.1), xPl, xh_lstore),
  (fun _ => .lmul, xPn 1, xh_lmul),
  (fun _ => .ladd, xPn 1, xh_ladd),
  (fun _ => .lcmp, xPn 1, xh_lcmp),
  (fun e => .invokestatic e.2.2.2.2.2, xPcp, xh_copy),
  (fun e => .putfield e.2.2.2.2.2, xPp false xtyZ, xh_putZ),
  (fun e => .putfield e.2.2.2.2.2, xPp false xtyR, xh_putR),
  (fun e => .putfield e.2.2.2.2.2, xPp true xtyR, xh_putFR),
  (fun e => .invokestatic e.2.2.2.2.2, xPmm Lib.Math.max.name, xh_max),
  (fun e => .invokestatic e.2.2.2.2.2, xPmm Lib.Math.min.name, xh_min)]
/-- an instruction is what the bytes say, and its links hold -/
def xeok (own : String) (cc : ByteArray) (e : xI) : Prop := ∃ t : xT, xget xops e.2.2.1 = some t ∧ decode cc e.1 = .ok (t.1 e, e.2.1) ∧ t.2.1 own e
def xnx (e : xI) (tl : List xI) : Prop := match tl with
  | [] => True
  | e' :: _ => e'.1 = e.1 + e.2.1
def xcok (own : String) (cc : ByteArray) : List xI → Prop
  | [] => True
  | e :: tl => xeok own cc e ∧ xnx e tl ∧ xcok own cc tl
def xbok (own : String) (cc : ByteArray) (bl : Nat × List xI) : Prop := (match bl.2 with
  | [] => False
  | e :: _ => e.1 = bl.1) ∧ xcok own cc bl.2
def xrk (rk : Nat) (ret : Option FieldType) : Prop := match rk with
  | 0 => ret = none
  | 1 => ret = some .int
  | 2 => ret = some .long
  | 3 => ∃ t, ret = some t ∧ xtyR t
  | 4 => ret = some .boolean
  | _ => False
def xMok (M : xM) : Prop := (plainName M.1.cls = true ∧ Cond.code M.1 M.2.1 M.2.2.1 M.2.2.2.1 ∈ lw_gt ∧ Cond.initialized M.1.cls ∈ lw_gt ∧ (M.1.cls ≠ "java/lang/invoke/MethodHandle" ∧ M.1.cls ≠ "java/lang/invoke/VarHandle") ∧ (parseMethodDescriptor M.1.desc).map (fun d => d.parameters.length) = some M.2.2.2.2.1 ∧ M.2.2.1 ≤ 65 ∧ xrk M.2.2.2.2.2.1 M.2.2.2.1) ∧ ∀ bl ∈ M.2.2.2.2.2.2.2.2, xbok M.1.cls M.2.1 bl
def xMb (M : xM) : Prop := ∀ bl ∈ M.2.2.2.2.2.2.2.2, xbok M.1.cls M.2.1 bl
def xpos (M : xM) (σ : xS) : Prop := (match σ.2.1 with
  | [] => True
  | e :: _ => e.1 = σ.1) ∧ xcok M.1.cls M.2.1 σ.2.1
def xIHok (ih : xK) : Prop := ∀ (d : Nat) (M : xM) (σ : xS) (fs : List xS), ih d M σ = some fs → xMb M → xpos M σ → ∀ (p : Program) (l : Launch) (e : Env) (R : Room) (s : State) (m : MethodId) (args : Array Value) (below : List Frame) (meth : Method) (c : Code) (D : va_G) (A : Nat → Prop) (g : xG) (cw0 : xWc) (tys0 : xTy) (io0 : List Nat) (Q : State → Prop), xCx p R s m args meth c A g io0 d M → (∀ φ ∈ fs, xpos M φ → xOk p l e R s m args below meth c D A M.2.2.1 g cw0 tys0 io0 Q φ) → xOk p l e R s m args below meth c D A M.2.2.1 g cw0 tys0 io0 Q σ
def xHok (t : xT) : Prop := ∀ (ih : xK), xIHok ih → ∀ (d : Nat) (M : xM) (i : xI) (tl : List xI) (lo : xLo) (st : List xV) (hp : xH) (fs : List xS), t.2.2 ih d M i tl lo st hp = some fs → xMb M → xeok M.1.cls M.2.1 i → decode M.2.1 i.1 = .ok (t.1 i, i.2.1) → t.2.1 M.1.cls i → xnx i tl → xcok M.1.cls M.2.1 tl → ∀ (p : Program) (l : Launch) (e : Env) (R : Room) (s : State) (m : MethodId) (args : Array Value) (below : List Frame) (meth : Method) (c : Code) (D : va_G) (A : Nat → Prop) (g : xG) (cw0 : xWc) (tys0 : xTy) (io0 : List Nat) (Q : State → Prop), xCx p R s m args meth c A g io0 d M → (∀ φ ∈ fs, xpos M φ → xOk p l e R s m args below meth c D A M.2.2.1 g cw0 tys0 io0 Q φ) → xOk p l e R s m args below meth c D A M.2.2.1 g cw0 tys0 io0 Q (i.1, i :: tl, lo, st, hp)
