/-! instructions read more quickly: by a tree over the first byte -/
section XDC
variable {cc : ByteArray} {pc p q b b1 b2 op : Nat} {α β : Type}
/-- the byte at p is b -/
def xrd (cc : ByteArray) (p b : Nat) : Prop := Reader.runAt (Reader.u1 : Decoder Nat) cc p = .ok (b, p + 1)
theorem xr_bind {x : Decoder α} {f : α → Decoder β} {a : α} {r : Except DecodeError (β × Nat)} (h : Reader.runAt x cc p = .ok (a, q)) (k : Reader.runAt (f a) cc q = r) : Reader.runAt (x >>= f) cc p = r := by
  show Except.bind (Reader.runAt x cc p) (fun z => Reader.runAt (f z.1) cc z.2) = r
  rw [h]
  exact k
theorem xr_map {x : Decoder α} {g : α → β} {a : α} (h : Reader.runAt x cc p = .ok (a, q)) : Reader.runAt (g <$> x) cc p = .ok (g a, q) := by
  show Except.bind (Reader.runAt x cc p) (fun z => Except.ok (g z.1, z.2)) = _
  rw [h]
  rfl
theorem xr_pure {a : α} : Reader.runAt (pure a : Decoder α) cc p = .ok (a, p) := rfl
theorem xr_u2 (h1 : xrd cc p b1) (h2 : xrd cc (p + 1) b2) : Reader.runAt (Reader.u2 : Decoder Nat) cc p = .ok (b1 * 256 + b2, p + 1 + 1) := xr_bind h1 (xr_bind h2 rfl)
theorem xo_u1 {k : Nat → Instr} (h : xrd cc p b) : Reader.runAt ((Reader.u1 : Decoder Nat) >>= fun x => pure (k x)) cc p = .ok (k b, p + 1) := xr_bind h rfl
theorem xo_s1 {k : Int → Instr} (h : xrd cc p b) : Reader.runAt ((Reader.s1 : Decoder Int) >>= fun x => pure (k x)) cc p = .ok (k (Reader.signed 8 b), p + 1) := xr_bind (xr_map h) rfl
theorem xo_u2 {k : Nat → Instr} (h1 : xrd cc p b1) (h2 : xrd cc (p + 1) b2) : Reader.runAt ((Reader.u2 : Decoder Nat) >>= fun x => pure (k x)) cc p = .ok (k (b1 * 256 + b2), p + 1 + 1) := xr_bind (xr_u2 h1 h2) rfl
theorem xo_s2 {k : Int → Instr} (h1 : xrd cc p b1) (h2 : xrd cc (p + 1) b2) : Reader.runAt ((Reader.s2 : Decoder Int) >>= fun x => pure (k x)) cc p = .ok (k (Reader.signed 16 (b1 * 256 + b2)), p + 1 + 1) := xr_bind (xr_map (xr_u2 h1 h2)) rfl
theorem xo_ii {k : Nat → Int → Instr} (h1 : xrd cc p b1) (h2 : xrd cc (p + 1) b2) : Reader.runAt ((Reader.u1 : Decoder Nat) >>= fun x => (Reader.s1 : Decoder Int) >>= fun y => pure (k x y)) cc p = .ok (k b1 (Reader.signed 8 b2), p + 1 + 1) := xr_bind h1 (xr_bind (xr_map h2) rfl)
/-- what follows the first byte -/
def xdbody (pc : Nat) : { f : Nat → Decoder Instr // Decoder.instr pc = (Reader.u1 : Decoder Nat) >>= f } := ⟨_, rfl⟩
theorem xdk {i : Instr} (h : xrd cc pc op) (k : Reader.runAt ((xdbody pc).1 op) cc (pc + 1) = .ok (i, q)) : decode cc pc = .ok (i, q - pc) := by
  have e : Reader.runAt (Decoder.instr pc) cc pc = .ok (i, q) := by
    rw [(xdbody pc).2]
    exact xr_bind h k
  show Except.bind (Reader.runAt (Decoder.instr pc) cc pc) (fun z => Except.ok (z.1, z.2 - pc)) = _
  rw [e]
  rfl
theorem xdk1 {i : Instr} (h : xrd cc pc op) (k : Reader.runAt ((xdbody pc).1 op) cc (pc + 1) = .ok (i, pc + 1)) : decode cc pc = .ok (i, 1) := by
  rw [xdk h k, Nat.add_sub_cancel_left]
theorem xdk2 {i : Instr} (h : xrd cc pc op) (k : Reader.runAt ((xdbody pc).1 op) cc (pc + 1) = .ok (i, pc + 1 + 1)) : decode cc pc = .ok (i, 2) := by
  rw [xdk h k, Nat.add_assoc, Nat.add_sub_cancel_left]
theorem xdk3 {i : Instr} (h : xrd cc pc op) (k : Reader.runAt ((xdbody pc).1 op) cc (pc + 1) = .ok (i, pc + 1 + 1 + 1)) : decode cc pc = .ok (i, 3) := by
  rw [xdk h k, Nat.add_assoc, Nat.add_assoc, Nat.add_sub_cancel_left]
theorem dk_1 (h : xrd cc pc 1) : decode cc pc = .ok (.aconst_null, 1) := xdk1 h rfl
theorem dk_2 (h : xrd cc pc 2) : decode cc pc = .ok (.iconst (-1), 1) := xdk1 h rfl
theorem dk_3 (h : xrd cc pc 3) : decode cc pc = .ok (.iconst (0), 1) := xdk1 h rfl
theorem dk_4 (h : xrd cc pc 4) : decode cc pc = .ok (.iconst (1), 1) := xdk1 h rfl
theorem dk_5 (h : xrd cc pc 5) : decode cc pc = .ok (.iconst (2), 1) := xdk1 h rfl
theorem dk_6 (h : xrd cc pc 6) : decode cc pc = .ok (.iconst (3), 1) := xdk1 h rfl
theorem dk_7 (h : xrd cc pc 7) : decode cc pc = .ok (.iconst (4), 1) := xdk1 h rfl
theorem dk_8 (h : xrd cc pc 8) : decode cc pc = .ok (.iconst (5), 1) := xdk1 h rfl
theorem dk_9 (h : xrd cc pc 9) : decode cc pc = .ok (.lconst 0, 1) := xdk1 h rfl
theorem dk_10 (h : xrd cc pc 10) : decode cc pc = .ok (.lconst 1, 1) := xdk1 h rfl
theorem dk_16 (h : xrd cc pc 16) (h1 : xrd cc (pc + 1) b1) : decode cc pc = .ok (.bipush (Reader.signed 8 b1), 2) := xdk2 h (xo_s1 (k := fun x => .bipush x) h1)
theorem dk_17 (h : xrd cc pc 17) (h1 : xrd cc (pc + 1) b1) (h2 : xrd cc (pc + 1 + 1) b2) : decode cc pc = .ok (.sipush (Reader.signed 16 (b1 * 256 + b2)), 3) := xdk3 h (xo_s2 (k := fun x => .sipush x) h1 h2)
theorem dk_18 (h : xrd cc pc 18) (h1 : xrd cc (pc + 1) b1) : decode cc pc = .ok (.ldc b1, 2) := xdk2 h (xo_u1 (k := fun x => .ldc x) h1)
theorem dk_19 (h : xrd cc pc 19) (h1 : xrd cc (pc + 1) b1) (h2 : xrd cc (pc + 1 + 1) b2) : decode cc pc = .ok (.ldc_w (b1 * 256 + b2), 3) := xdk3 h (xo_u2 (k := fun x => .ldc_w x) h1 h2)
theorem dk_20 (h : xrd cc pc 20) (h1 : xrd cc (pc + 1) b1) (h2 : xrd cc (pc + 1 + 1) b2) : decode cc pc = .ok (.ldc2_w (b1 * 256 + b2), 3) := xdk3 h (xo_u2 (k := fun x => .ldc2_w x) h1 h2)
theorem dk_21 (h : xrd cc pc 21) (h1 : xrd cc (pc + 1) b1) : decode cc pc = .ok (.iload b1, 2) := xdk2 h (xo_u1 (k := fun x => .iload x) h1)
theorem dk_22 (h : xrd cc pc 22) (h1 : xrd cc (pc + 1) b1) : decode cc pc = .ok (.lload b1, 2) := xdk2 h (xo_u1 (k := fun x => .lload x) h1)
theorem dk_25 (h : xrd cc pc 25) (h1 : xrd cc (pc + 1) b1) : decode cc pc = .ok (.aload b1, 2) := xdk2 h (xo_u1 (k := fun x => .aload x) h1)
theorem dk_26 (h : xrd cc pc 26) : decode cc pc = .ok (.iload_n 0, 1) := xdk1 h rfl
theorem dk_27 (h : xrd cc pc 27) : decode cc pc = .ok (.iload_n 1, 1) := xdk1 h rfl
theorem dk_28 (h : xrd cc pc 28) : decode cc pc = .ok (.iload_n 2, 1) := xdk1 h rfl
theorem dk_29 (h : xrd cc pc 29) : decode cc pc = .ok (.iload_n 3, 1) := xdk1 h rfl
theorem dk_30 (h : xrd cc pc 30) : decode cc pc = .ok (.lload_n 0, 1) := xdk1 h rfl
theorem dk_31 (h : xrd cc pc 31) : decode cc pc = .ok (.lload_n 1, 1) := xdk1 h rfl
theorem dk_32 (h : xrd cc pc 32) : decode cc pc = .ok (.lload_n 2, 1) := xdk1 h rfl
theorem dk_33 (h : xrd cc pc 33) : decode cc pc = .ok (.lload_n 3, 1) := xdk1 h rfl
theorem dk_42 (h : xrd cc pc 42) : decode cc pc = .ok (.aload_n 0, 1) := xdk1 h rfl
theorem dk_43 (h : xrd cc pc 43) : decode cc pc = .ok (.aload_n 1, 1) := xdk1 h rfl
theorem dk_44 (h : xrd cc pc 44) : decode cc pc = .ok (.aload_n 2, 1) := xdk1 h rfl
theorem dk_45 (h : xrd cc pc 45) : decode cc pc = .ok (.aload_n 3, 1) := xdk1 h rfl
theorem dk_46 (h : xrd cc pc 46) : decode cc pc = .ok (.iaload, 1) := xdk1 h rfl
theorem dk_47 (h : xrd cc pc 47) : decode cc pc = .ok (.laload, 1) := xdk1 h rfl
theorem dk_50 (h : xrd cc pc 50) : decode cc pc = .ok (.aaload, 1) := xdk1 h rfl
theorem dk_51 (h : xrd cc pc 51) : decode cc pc = .ok (.baload, 1) := xdk1 h rfl
theorem dk_54 (h : xrd cc pc 54) (h1 : xrd cc (pc + 1) b1) : decode cc pc = .ok (.istore b1, 2) := xdk2 h (xo_u1 (k := fun x => .istore x) h1)
theorem dk_55 (h : xrd cc pc 55) (h1 : xrd cc (pc + 1) b1) : decode cc pc = .ok (.lstore b1, 2) := xdk2 h (xo_u1 (k := fun x => .lstore x) h1)
theorem dk_58 (h : xrd cc pc 58) (h1 : xrd cc (pc + 1) b1) : decode cc pc = .ok (.astore b1, 2) := xdk2 h (xo_u1 (k := fun x => .astore x) h1)
theorem dk_59 (h : xrd cc pc 59) : decode cc pc = .ok (.istore_n 0, 1) := xdk1 h rfl
theorem dk_60 (h : xrd cc pc 60) : decode cc pc = .ok (.istore_n 1, 1) := xdk1 h rfl
theorem dk_61 (h : xrd cc pc 61) : decode cc pc = .ok (.istore_n 2, 1) := xdk1 h rfl
theorem dk_62 (h : xrd cc pc 62) : decode cc pc = .ok (.istore_n 3, 1) := xdk1 h rfl
theorem dk_63 (h : xrd cc pc 63) : decode cc pc = .ok (.lstore_n 0, 1) := xdk1 h rfl
theorem dk_64 (h : xrd cc pc 64) : decode cc pc = .ok (.lstore_n 1, 1) := xdk1 h rfl
theorem dk_65 (h : xrd cc pc 65) : decode cc pc = .ok (.lstore_n 2, 1) := xdk1 h rfl
theorem dk_66 (h : xrd cc pc 66) : decode cc pc = .ok (.lstore_n 3, 1) := xdk1 h rfl
theorem dk_75 (h : xrd cc pc 75) : decode cc pc = .ok (.astore_n 0, 1) := xdk1 h rfl
theorem dk_76 (h : xrd cc pc 76) : decode cc pc = .ok (.astore_n 1, 1) := xdk1 h rfl
theorem dk_77 (h : xrd cc pc 77) : decode cc pc = .ok (.astore_n 2, 1) := xdk1 h rfl
theorem dk_78 (h : xrd cc pc 78) : decode cc pc = .ok (.astore_n 3, 1) := xdk1 h rfl
theorem dk_79 (h : xrd cc pc 79) : decode cc pc = .ok (.iastore, 1) := xdk1 h rfl
theorem dk_80 (h : xrd cc pc 80) : decode cc pc = .ok (.lastore, 1) := xdk1 h rfl
theorem dk_83 (h : xrd cc pc 83) : decode cc pc = .ok (.aastore, 1) := xdk1 h rfl
theorem dk_84 (h : xrd cc pc 84) : decode cc pc = .ok (.bastore, 1) := xdk1 h rfl
theorem dk_87 (h : xrd cc pc 87) : decode cc pc = .ok (.pop, 1) := xdk1 h rfl
theorem dk_89 (h : xrd cc pc 89) : decode cc pc = .ok (.dup, 1) := xdk1 h rfl
theorem dk_92 (h : xrd cc pc 92) : decode cc pc = .ok (.dup2, 1) := xdk1 h rfl
theorem dk_96 (h : xrd cc pc 96) : decode cc pc = .ok (.iadd, 1) := xdk1 h rfl
theorem dk_97 (h : xrd cc pc 97) : decode cc pc = .ok (.ladd, 1) := xdk1 h rfl
theorem dk_100 (h : xrd cc pc 100) : decode cc pc = .ok (.isub, 1) := xdk1 h rfl
theorem dk_101 (h : xrd cc pc 101) : decode cc pc = .ok (.lsub, 1) := xdk1 h rfl
theorem dk_104 (h : xrd cc pc 104) : decode cc pc = .ok (.imul, 1) := xdk1 h rfl
theorem dk_105 (h : xrd cc pc 105) : decode cc pc = .ok (.lmul, 1) := xdk1 h rfl
theorem dk_108 (h : xrd cc pc 108) : decode cc pc = .ok (.idiv, 1) := xdk1 h rfl
theorem dk_109 (h : xrd cc pc 109) : decode cc pc = .ok (.ldiv, 1) := xdk1 h rfl
theorem dk_112 (h : xrd cc pc 112) : decode cc pc = .ok (.irem, 1) := xdk1 h rfl
theorem dk_116 (h : xrd cc pc 116) : decode cc pc = .ok (.ineg, 1) := xdk1 h rfl
theorem dk_117 (h : xrd cc pc 117) : decode cc pc = .ok (.lneg, 1) := xdk1 h rfl
theorem dk_120 (h : xrd cc pc 120) : decode cc pc = .ok (.ishl, 1) := xdk1 h rfl
theorem dk_122 (h : xrd cc pc 122) : decode cc pc = .ok (.ishr, 1) := xdk1 h rfl
theorem dk_124 (h : xrd cc pc 124) : decode cc pc = .ok (.iushr, 1) := xdk1 h rfl
theorem dk_126 (h : xrd cc pc 126) : decode cc pc = .ok (.iand, 1) := xdk1 h rfl
theorem dk_128 (h : xrd cc pc 128) : decode cc pc = .ok (.ior, 1) := xdk1 h rfl
theorem dk_130 (h : xrd cc pc 130) : decode cc pc = .ok (.ixor, 1) := xdk1 h rfl
theorem dk_132 (h : xrd cc pc 132) (h1 : xrd cc (pc + 1) b1) (h2 : xrd cc (pc + 1 + 1) b2) : decode cc pc = .ok (.iinc b1 (Reader.signed 8 b2), 3) := xdk3 h (xo_ii (k := fun x y => .iinc x y) h1 h2)
theorem dk_133 (h : xrd cc pc 133) : decode cc pc = .ok (.i2l, 1) := xdk1 h rfl
theorem dk_136 (h : xrd cc pc 136) : decode cc pc = .ok (.l2i, 1) := xdk1 h rfl
theorem dk_145 (h : xrd cc pc 145) : decode cc pc = .ok (.i2b, 1) := xdk1 h rfl
theorem dk_148 (h : xrd cc pc 148) : decode cc pc = .ok (.lcmp, 1) := xdk1 h rfl
theorem dk_153 (h : xrd cc pc 153) (h1 : xrd cc (pc + 1) b1) (h2 : xrd cc (pc + 1 + 1) b2) : decode cc pc = .ok (.ifCond .eq (Reader.signed 16 (b1 * 256 + b2)), 3) := xdk3 h (xo_s2 (k := fun x => .ifCond .eq x) h1 h2)
theorem dk_154 (h : xrd cc pc 154) (h1 : xrd cc (pc + 1) b1) (h2 : xrd cc (pc + 1 + 1) b2) : decode cc pc = .ok (.ifCond .ne (Reader.signed 16 (b1 * 256 + b2)), 3) := xdk3 h (xo_s2 (k := fun x => .ifCond .ne x) h1 h2)
theorem dk_155 (h : xrd cc pc 155) (h1 : xrd cc (pc + 1) b1) (h2 : xrd cc (pc + 1 + 1) b2) : decode cc pc = .ok (.ifCond .lt (Reader.signed 16 (b1 * 256 + b2)), 3) := xdk3 h (xo_s2 (k := fun x => .ifCond .lt x) h1 h2)
theorem dk_156 (h : xrd cc pc 156) (h1 : xrd cc (pc + 1) b1) (h2 : xrd cc (pc + 1 + 1) b2) : decode cc pc = .ok (.ifCond .ge (Reader.signed 16 (b1 * 256 + b2)), 3) := xdk3 h (xo_s2 (k := fun x => .ifCond .ge x) h1 h2)
theorem dk_157 (h : xrd cc pc 157) (h1 : xrd cc (pc + 1) b1) (h2 : xrd cc (pc + 1 + 1) b2) : decode cc pc = .ok (.ifCond .gt (Reader.signed 16 (b1 * 256 + b2)), 3) := xdk3 h (xo_s2 (k := fun x => .ifCond .gt x) h1 h2)
theorem dk_158 (h : xrd cc pc 158) (h1 : xrd cc (pc + 1) b1) (h2 : xrd cc (pc + 1 + 1) b2) : decode cc pc = .ok (.ifCond .le (Reader.signed 16 (b1 * 256 + b2)), 3) := xdk3 h (xo_s2 (k := fun x => .ifCond .le x) h1 h2)
theorem dk_159 (h : xrd cc pc 159) (h1 : xrd cc (pc + 1) b1) (h2 : xrd cc (pc + 1 + 1) b2) : decode cc pc = .ok (.if_icmp .eq (Reader.signed 16 (b1 * 256 + b2)), 3) := xdk3 h (xo_s2 (k := fun x => .if_icmp .eq x) h1 h2)
theorem dk_160 (h : xrd cc pc 160) (h1 : xrd cc (pc + 1) b1) (h2 : xrd cc (pc + 1 + 1) b2) : decode cc pc = .ok (.if_icmp .ne (Reader.signed 16 (b1 * 256 + b2)), 3) := xdk3 h (xo_s2 (k := fun x => .if_icmp .ne x) h1 h2)
theorem dk_161 (h : xrd cc pc 161) (h1 : xrd cc (pc + 1) b1) (h2 : xrd cc (pc + 1 + 1) b2) : decode cc pc = .ok (.if_icmp .lt (Reader.signed 16 (b1 * 256 + b2)), 3) := xdk3 h (xo_s2 (k := fun x => .if_icmp .lt x) h1 h2)
theorem dk_162 (h : xrd cc pc 162) (h1 : xrd cc (pc + 1) b1) (h2 : xrd cc (pc + 1 + 1) b2) : decode cc pc = .ok (.if_icmp .ge (Reader.signed 16 (b1 * 256 + b2)), 3) := xdk3 h (xo_s2 (k := fun x => .if_icmp .ge x) h1 h2)
theorem dk_163 (h : xrd cc pc 163) (h1 : xrd cc (pc + 1) b1) (h2 : xrd cc (pc + 1 + 1) b2) : decode cc pc = .ok (.if_icmp .gt (Reader.signed 16 (b1 * 256 + b2)), 3) := xdk3 h (xo_s2 (k := fun x => .if_icmp .gt x) h1 h2)
theorem dk_164 (h : xrd cc pc 164) (h1 : xrd cc (pc + 1) b1) (h2 : xrd cc (pc + 1 + 1) b2) : decode cc pc = .ok (.if_icmp .le (Reader.signed 16 (b1 * 256 + b2)), 3) := xdk3 h (xo_s2 (k := fun x => .if_icmp .le x) h1 h2)
theorem dk_167 (h : xrd cc pc 167) (h1 : xrd cc (pc + 1) b1) (h2 : xrd cc (pc + 1 + 1) b2) : decode cc pc = .ok (.goto (Reader.signed 16 (b1 * 256 + b2)), 3) := xdk3 h (xo_s2 (k := fun x => .goto x) h1 h2)
theorem dk_172 (h : xrd cc pc 172) : decode cc pc = .ok (.ireturn, 1) := xdk1 h rfl
theorem dk_173 (h : xrd cc pc 173) : decode cc pc = .ok (.lreturn, 1) := xdk1 h rfl
theorem dk_176 (h : xrd cc pc 176) : decode cc pc = .ok (.areturn, 1) := xdk1 h rfl
theorem dk_177 (h : xrd cc pc 177) : decode cc pc = .ok (.return_, 1) := xdk1 h rfl
theorem dk_178 (h : xrd cc pc 178) (h1 : xrd cc (pc + 1) b1) (h2 : xrd cc (pc + 1 + 1) b2) : decode cc pc = .ok (.getstatic (b1 * 256 + b2), 3) := xdk3 h (xo_u2 (k := fun x => .getstatic x) h1 h2)
theorem dk_180 (h : xrd cc pc 180) (h1 : xrd cc (pc + 1) b1) (h2 : xrd cc (pc + 1 + 1) b2) : decode cc pc = .ok (.getfield (b1 * 256 + b2), 3) := xdk3 h (xo_u2 (k := fun x => .getfield x) h1 h2)
theorem dk_181 (h : xrd cc pc 181) (h1 : xrd cc (pc + 1) b1) (h2 : xrd cc (pc + 1 + 1) b2) : decode cc pc = .ok (.putfield (b1 * 256 + b2), 3) := xdk3 h (xo_u2 (k := fun x => .putfield x) h1 h2)
theorem dk_182 (h : xrd cc pc 182) (h1 : xrd cc (pc + 1) b1) (h2 : xrd cc (pc + 1 + 1) b2) : decode cc pc = .ok (.invokevirtual (b1 * 256 + b2), 3) := xdk3 h (xo_u2 (k := fun x => .invokevirtual x) h1 h2)
theorem dk_183 (h : xrd cc pc 183) (h1 : xrd cc (pc + 1) b1) (h2 : xrd cc (pc + 1 + 1) b2) : decode cc pc = .ok (.invokespecial (b1 * 256 + b2), 3) := xdk3 h (xo_u2 (k := fun x => .invokespecial x) h1 h2)
theorem dk_184 (h : xrd cc pc 184) (h1 : xrd cc (pc + 1) b1) (h2 : xrd cc (pc + 1 + 1) b2) : decode cc pc = .ok (.invokestatic (b1 * 256 + b2), 3) := xdk3 h (xo_u2 (k := fun x => .invokestatic x) h1 h2)
theorem dk_187 (h : xrd cc pc 187) (h1 : xrd cc (pc + 1) b1) (h2 : xrd cc (pc + 1 + 1) b2) : decode cc pc = .ok (.new (b1 * 256 + b2), 3) := xdk3 h (xo_u2 (k := fun x => .new x) h1 h2)
theorem dk_188_4 (h : xrd cc pc 188) (h1 : xrd cc (pc + 1) 4) : decode cc pc = .ok (.newarray .boolean, 2) := xdk2 h (xr_bind h1 rfl)
theorem dk_188_8 (h : xrd cc pc 188) (h1 : xrd cc (pc + 1) 8) : decode cc pc = .ok (.newarray .byte, 2) := xdk2 h (xr_bind h1 rfl)
theorem dk_188_10 (h : xrd cc pc 188) (h1 : xrd cc (pc + 1) 10) : decode cc pc = .ok (.newarray .int, 2) := xdk2 h (xr_bind h1 rfl)
theorem dk_188_11 (h : xrd cc pc 188) (h1 : xrd cc (pc + 1) 11) : decode cc pc = .ok (.newarray .long, 2) := xdk2 h (xr_bind h1 rfl)
theorem dk_189 (h : xrd cc pc 189) (h1 : xrd cc (pc + 1) b1) (h2 : xrd cc (pc + 1 + 1) b2) : decode cc pc = .ok (.anewarray (b1 * 256 + b2), 3) := xdk3 h (xo_u2 (k := fun x => .anewarray x) h1 h2)
theorem dk_190 (h : xrd cc pc 190) : decode cc pc = .ok (.arraylength, 1) := xdk1 h rfl
theorem dk_198 (h : xrd cc pc 198) (h1 : xrd cc (pc + 1) b1) (h2 : xrd cc (pc + 1 + 1) b2) : decode cc pc = .ok (.ifnull (Reader.signed 16 (b1 * 256 + b2)), 3) := xdk3 h (xo_s2 (k := fun x => .ifnull x) h1 h2)
theorem dk_199 (h : xrd cc pc 199) (h1 : xrd cc (pc + 1) b1) (h2 : xrd cc (pc + 1 + 1) b2) : decode cc pc = .ok (.ifnonnull (Reader.signed 16 (b1 * 256 + b2)), 3) := xdk3 h (xo_s2 (k := fun x => .ifnonnull x) h1 h2)
def xfd (op b1 b2 : Nat) : Option (Instr × Nat) := cond (Nat.blt op 87) (cond (Nat.blt op 42) (cond (Nat.blt op 19) (cond (Nat.blt op 7) (cond (Nat.blt op 4) (cond (Nat.blt op 2) (cond (Nat.beq op 1) (some (.aconst_null, 1)) none) (cond (Nat.blt op 3) (cond (Nat.beq op 2) (some (.iconst (-1), 1)) none) (cond (Nat.beq op 3) (some (.iconst (0), 1)) none))) (cond (Nat.blt op 5) (cond (Nat.beq op 4) (some (.iconst (1), 1)) none) (cond (Nat.blt op 6) (cond (Nat.beq op 5) (some (.iconst (2), 1)) none) (cond (Nat.beq op 6) (some (.iconst (3), 1)) none)))) (cond (Nat.blt op 10) (cond (Nat.blt op 8) (cond (Nat.beq op 7) (some (.iconst (4), 1)) none) (cond (Nat.blt op 9) (cond (Nat.beq op 8) (some (.iconst (5), 1)) none) (cond (Nat.beq op 9) (some (.lconst 0, 1)) none))) (cond (Nat.blt op 17) (cond (Nat.blt op 16) (cond (Nat.beq op 10) (some (.lconst 1, 1)) none) (cond (Nat.beq op 16 && Nat.blt b1 256) (some (.bipush (Reader.signed 8 b1), 2)) none)) (cond (Nat.blt op 18) (cond (Nat.beq op 17 && (Nat.blt b1 256 && Nat.blt b2 256)) (some (.sipush (Reader.signed 16 (b1 * 256 + b2)), 3)) none) (cond (Nat.beq op 18 && Nat.blt b1 256) (some (.ldc b1, 2)) none))))) (cond (Nat.blt op 27) (cond (Nat.blt op 22) (cond (Nat.blt op 20) (cond (Nat.beq op 19 && (Nat.blt b1 256 && Nat.blt b2 256)) (some (.ldc_w (b1 * 256 + b2), 3)) none) (cond (Nat.blt op 21) (cond (Nat.beq op 20 && (Nat.blt b1 256 && Nat.blt b2 256)) (some (.ldc2_w (b1 * 256 + b2), 3)) none) (cond (Nat.beq op 21 && Nat.blt b1 256) (some (.iload b1, 2)) none))) (cond (Nat.blt op 25) (cond (Nat.beq op 22 && Nat.blt b1 256) (some (.lload b1, 2)) none) (cond (Nat.blt op 26) (cond (Nat.beq op 25 && Nat.blt b1 256) (some (.aload b1, 2)) none) (cond (Nat.beq op 26) (some (.iload_n 0, 1)) none)))) (cond (Nat.blt op 30) (cond (Nat.blt op 28) (cond (Nat.beq op 27) (some (.iload_n 1, 1)) none) (cond (Nat.blt op 29) (cond (Nat.beq op 28) (some (.iload_n 2, 1)) none) (cond (Nat.beq op 29) (some (.iload_n 3, 1)) none))) (cond (Nat.blt op 32) (cond (Nat.blt op 31) (cond (Nat.beq op 30) (some (.lload_n 0, 1)) none) (cond (Nat.beq op 31) (some (.lload_n 1, 1)) none)) (cond (Nat.blt op 33) (cond (Nat.beq op 32) (some (.lload_n 2, 1)) none) (cond (Nat.beq op 33) (some (.lload_n 3, 1)) none)))))) (cond (Nat.blt op 61) (cond (Nat.blt op 50) (cond (Nat.blt op 45) (cond (Nat.blt op 43) (cond (Nat.beq op 42) (some (.aload_n 0, 1)) none) (cond (Nat.blt op 44) (cond (Nat.beq op 43) (some (.aload_n 1, 1)) none) (cond (Nat.beq op 44) (some (.aload_n 2, 1)) none))) (cond (Nat.blt op 46) (cond (Nat.beq op 45) (some (.aload_n 3, 1)) none) (cond (Nat.blt op 47) (cond (Nat.beq op 46) (some (.iaload, 1)) none) (cond (Nat.beq op 47) (some (.laload, 1)) none)))) (cond (Nat.blt op 55) (cond (Nat.blt op 51) (cond (Nat.beq op 50) (some (.aaload, 1)) none) (cond (Nat.blt op 54) (cond (Nat.beq op 51) (some (.baload, 1)) none) (cond (Nat.beq op 54 && Nat.blt b1 256) (some (.istore b1, 2)) none))) (cond (Nat.blt op 59) (cond (Nat.blt op 58) (cond (Nat.beq op 55 && Nat.blt b1 256) (some (.lstore b1, 2)) none) (cond (Nat.beq op 58 && Nat.blt b1 256) (some (.astore b1, 2)) none)) (cond (Nat.blt op 60) (cond (Nat.beq op 59) (some (.istore_n 0, 1)) none) (cond (Nat.beq op 60) (some (.istore_n 1, 1)) none))))) (cond (Nat.blt op 76) (cond (Nat.blt op 64) (cond (Nat.blt op 62) (cond (Nat.beq op 61) (some (.istore_n 2, 1)) none) (cond (Nat.blt op 63) (cond (Nat.beq op 62) (some (.istore_n 3, 1)) none) (cond (Nat.beq op 63) (some (.lstore_n 0, 1)) none))) (cond (Nat.blt op 66) (cond (Nat.blt op 65) (cond (Nat.beq op 64) (some (.lstore_n 1, 1)) none) (cond (Nat.beq op 65) (some (.lstore_n 2, 1)) none)) (cond (Nat.blt op 75) (cond (Nat.beq op 66) (some (.lstore_n 3, 1)) none) (cond (Nat.beq op 75) (some (.astore_n 0, 1)) none)))) (cond (Nat.blt op 79) (cond (Nat.blt op 77) (cond (Nat.beq op 76) (some (.astore_n 1, 1)) none) (cond (Nat.blt op 78) (cond (Nat.beq op 77) (some (.astore_n 2, 1)) none) (cond (Nat.beq op 78) (some (.astore_n 3, 1)) none))) (cond (Nat.blt op 83) (cond (Nat.blt op 80) (cond (Nat.beq op 79) (some (.iastore, 1)) none) (cond (Nat.beq op 80) (some (.lastore, 1)) none)) (cond (Nat.blt op 84) (cond (Nat.beq op 83) (some (.aastore, 1)) none) (cond (Nat.beq op 84) (some (.bastore, 1)) none))))))) (cond (Nat.blt op 155) (cond (Nat.blt op 117) (cond (Nat.blt op 101) (cond (Nat.blt op 96) (cond (Nat.blt op 89) (cond (Nat.beq op 87) (some (.pop, 1)) none) (cond (Nat.blt op 92) (cond (Nat.beq op 89) (some (.dup, 1)) none) (cond (Nat.beq op 92) (some (.dup2, 1)) none))) (cond (Nat.blt op 97) (cond (Nat.beq op 96) (some (.iadd, 1)) none) (cond (Nat.blt op 100) (cond (Nat.beq op 97) (some (.ladd, 1)) none) (cond (Nat.beq op 100) (some (.isub, 1)) none)))) (cond (Nat.blt op 108) (cond (Nat.blt op 104) (cond (Nat.beq op 101) (some (.lsub, 1)) none) (cond (Nat.blt op 105) (cond (Nat.beq op 104) (some (.imul, 1)) none) (cond (Nat.beq op 105) (some (.lmul, 1)) none))) (cond (Nat.blt op 112) (cond (Nat.blt op 109) (cond (Nat.beq op 108) (some (.idiv, 1)) none) (cond (Nat.beq op 109) (some (.ldiv, 1)) none)) (cond (Nat.blt op 116) (cond (Nat.beq op 112) (some (.irem, 1)) none) (cond (Nat.beq op 116) (some (.ineg, 1)) none))))) (cond (Nat.blt op 132) (cond (Nat.blt op 124) (cond (Nat.blt op 120) (cond (Nat.beq op 117) (some (.lneg, 1)) none) (cond (Nat.blt op 122) (cond (Nat.beq op 120) (some (.ishl, 1)) none) (cond (Nat.beq op 122) (some (.ishr, 1)) none))) (cond (Nat.blt op 128) (cond (Nat.blt op 126) (cond (Nat.beq op 124) (some (.iushr, 1)) none) (cond (Nat.beq op 126) (some (.iand, 1)) none)) (cond (Nat.blt op 130) (cond (Nat.beq op 128) (some (.ior, 1)) none) (cond (Nat.beq op 130) (some (.ixor, 1)) none)))) (cond (Nat.blt op 145) (cond (Nat.blt op 133) (cond (Nat.beq op 132 && (Nat.blt b1 256 && Nat.blt b2 256)) (some (.iinc b1 (Reader.signed 8 b2), 3)) none) (cond (Nat.blt op 136) (cond (Nat.beq op 133) (some (.i2l, 1)) none) (cond (Nat.beq op 136) (some (.l2i, 1)) none))) (cond (Nat.blt op 153) (cond (Nat.blt op 148) (cond (Nat.beq op 145) (some (.i2b, 1)) none) (cond (Nat.beq op 148) (some (.lcmp, 1)) none)) (cond (Nat.blt op 154) (cond (Nat.beq op 153 && (Nat.blt b1 256 && Nat.blt b2 256)) (some (.ifCond .eq (Reader.signed 16 (b1 * 256 + b2)), 3)) none) (cond (Nat.beq op 154 && (Nat.blt b1 256 && Nat.blt b2 256)) (some (.ifCond .ne (Reader.signed 16 (b1 * 256 + b2)), 3)) none)))))) (cond (Nat.blt op 176) (cond (Nat.blt op 161) (cond (Nat.blt op 158) (cond (Nat.blt op 156) (cond (Nat.beq op 155 && (Nat.blt b1 256 && Nat.blt b2 256)) (some (.ifCond .lt (Reader.signed 16 (b1 * 256 + b2)), 3)) none) (cond (Nat.blt op 157) (cond (Nat.beq op 156 && (Nat.blt b1 256 && Nat.blt b2 256)) (some (.ifCond .ge (Reader.signed 16 (b1 * 256 + b2)), 3)) none) (cond (Nat.beq op 157 && (Nat.blt b1 256 && Nat.blt b2 256)) (some (.ifCond .gt (Reader.signed 16 (b1 * 256 + b2)), 3)) none))) (cond (Nat.blt op 159) (cond (Nat.beq op 158 && (Nat.blt b1 256 && Nat.blt b2 256)) (some (.ifCond .le (Reader.signed 16 (b1 * 256 + b2)), 3)) none) (cond (Nat.blt op 160) (cond (Nat.beq op 159 && (Nat.blt b1 256 && Nat.blt b2 256)) (some (.if_icmp .eq (Reader.signed 16 (b1 * 256 + b2)), 3)) none) (cond (Nat.beq op 160 && (Nat.blt b1 256 && Nat.blt b2 256)) (some (.if_icmp .ne (Reader.signed 16 (b1 * 256 + b2)), 3)) none)))) (cond (Nat.blt op 164) (cond (Nat.blt op 162) (cond (Nat.beq op 161 && (Nat.blt b1 256 && Nat.blt b2 256)) (some (.if_icmp .lt (Reader.signed 16 (b1 * 256 + b2)), 3)) none) (cond (Nat.blt op 163) (cond (Nat.beq op 162 && (Nat.blt b1 256 && Nat.blt b2 256)) (some (.if_icmp .ge (Reader.signed 16 (b1 * 256 + b2)), 3)) none) (cond (Nat.beq op 163 && (Nat.blt b1 256 && Nat.blt b2 256)) (some (.if_icmp .gt (Reader.signed 16 (b1 * 256 + b2)), 3)) none))) (cond (Nat.blt op 172) (cond (Nat.blt op 167) (cond (Nat.beq op 164 && (Nat.blt b1 256 && Nat.blt b2 256)) (some (.if_icmp .le (Reader.signed 16 (b1 * 256 + b2)), 3)) none) (cond (Nat.beq op 167 && (Nat.blt b1 256 && Nat.blt b2 256)) (some (.goto (Reader.signed 16 (b1 * 256 + b2)), 3)) none)) (cond (Nat.blt op 173) (cond (Nat.beq op 172) (some (.ireturn, 1)) none) (cond (Nat.beq op 173) (some (.lreturn, 1)) none))))) (cond (Nat.blt op 184) (cond (Nat.blt op 180) (cond (Nat.blt op 177) (cond (Nat.beq op 176) (some (.areturn, 1)) none) (cond (Nat.blt op 178) (cond (Nat.beq op 177) (some (.return_, 1)) none) (cond (Nat.beq op 178 && (Nat.blt b1 256 && Nat.blt b2 256)) (some (.getstatic (b1 * 256 + b2), 3)) none))) (cond (Nat.blt op 182) (cond (Nat.blt op 181) (cond (Nat.beq op 180 && (Nat.blt b1 256 && Nat.blt b2 256)) (some (.getfield (b1 * 256 + b2), 3)) none) (cond (Nat.beq op 181 && (Nat.blt b1 256 && Nat.blt b2 256)) (some (.putfield (b1 * 256 + b2), 3)) none)) (cond (Nat.blt op 183) (cond (Nat.beq op 182 && (Nat.blt b1 256 && Nat.blt b2 256)) (some (.invokevirtual (b1 * 256 + b2), 3)) none) (cond (Nat.beq op 183 && (Nat.blt b1 256 && Nat.blt b2 256)) (some (.invokespecial (b1 * 256 + b2), 3)) none)))) (cond (Nat.blt op 189) (cond (Nat.blt op 187) (cond (Nat.beq op 184 && (Nat.blt b1 256 && Nat.blt b2 256)) (some (.invokestatic (b1 * 256 + b2), 3)) none) (cond (Nat.blt op 188) (cond (Nat.beq op 187 && (Nat.blt b1 256 && Nat.blt b2 256)) (some (.new (b1 * 256 + b2), 3)) none) (cond (Nat.beq op 188) (cond (Nat.beq b1 4) (some (.newarray .boolean, 2)) (cond (Nat.beq b1 8) (some (.newarray .byte, 2)) (cond (Nat.beq b1 10) (some (.newarray .int, 2)) (cond (Nat.beq b1 11) (some (.newarray .long, 2)) (none))))) none))) (cond (Nat.blt op 198) (cond (Nat.blt op 190) (cond (Nat.beq op 189 && (Nat.blt b1 256 && Nat.blt b2 256)) (some (.anewarray (b1 * 256 + b2), 3)) none) (cond (Nat.beq op 190) (some (.arraylength, 1)) none)) (cond (Nat.blt op 199) (cond (Nat.beq op 198 && (Nat.blt b1 256 && Nat.blt b2 256)) (some (.ifnull (Reader.signed 16 (b1 * 256 + b2)), 3)) none) (cond (Nat.beq op 199 && (Nat.blt b1 256 && Nat.blt b2 256)) (some (.ifnonnull (Reader.signed 16 (b1 * 256 + b2)), 3)) none)))))))
theorem xfd_ok {r : Instr × Nat} (h : xfd op b1 b2 = some r) (h0 : xrd cc pc op) (h1 : b1 < 256 → xrd cc (pc + 1) b1) (h2 : b2 < 256 → xrd cc (pc + 1 + 1) b2) : decode cc pc = .ok r := by
  unfold xfd at h
  cases c : Nat.blt op 87 with
  | true =>
    rw [c, cond_true] at h
    clear c
    cases c : Nat.blt op 42 with
    | true =>
      rw [c, cond_true] at h
      clear c
      cases c : Nat.blt op 19 with
      | true =>
        rw [c, cond_true] at h
        clear c
        cases c : Nat.blt op 7 with
        | true =>
          rw [c, cond_true] at h
          clear c
          cases c : Nat.blt op 4 with
          | true =>
            rw [c, cond_true] at h
            clear c
            cases c : Nat.blt op 2 with
            | true =>
              rw [c, cond_true] at h
              clear c
              cases c : Nat.beq op 1 with
              | false => rw [c, cond_false] at h; cases h
              | true =>
                rw [c, cond_true] at h
                cases xbeq c
                cases h
                exact dk_1 h0
            | false =>
              rw [c, cond_false] at h
              clear c
              cases c : Nat.blt op 3 with
              | true =>
                rw [c, cond_true] at h
                clear c
                cases c : Nat.beq op 2 with
                | false => rw [c, cond_false] at h; cases h
                | true =>
                  rw [c, cond_true] at h
                  cases xbeq c
                  cases h
                  exact dk_2 h0
              | false =>
                rw [c, cond_false] at h
                clear c
                cases c : Nat.beq op 3 with
                | false => rw [c, cond_false] at h; cases h
                | true =>
                  rw [c, cond_true] at h
                  cases xbeq c
                  cases h
                  exact dk_3 h0
          | false =>
            rw [c, cond_false] at h
            clear c
            cases c : Nat.blt op 5 with
            | true =>
              rw [c, cond_true] at h
              clear c
              cases c : Nat.beq op 4 with
              | false => rw [c, cond_false] at h; cases h
              | true =>
                rw [c, cond_true] at h
                cases xbeq c
                cases h
                exact dk_4 h0
            | false =>
              rw [c, cond_false] at h
              clear c
              cases c : Nat.blt op 6 with
              | true =>
                rw [c, cond_true] at h
                clear c
                cases c : Nat.beq op 5 with
                | false => rw [c, cond_false] at h; cases h
                | true =>
                  rw [c, cond_true] at h
                  cases xbeq c
                  cases h
                  exact dk_5 h0
              | false =>
                rw [c, cond_false] at h
                clear c
                cases c : Nat.beq op 6 with
                | false => rw [c, cond_false] at h; cases h
                | true =>
                  rw [c, cond_true] at h
                  cases xbeq c
                  cases h
                  exact dk_6 h0
        | false =>
          rw [c, cond_false] at h
          clear c
          cases c : Nat.blt op 10 with
          | true =>
            rw [c, cond_true] at h
            clear c
            cases c : Nat.blt op 8 with
            | true =>
              rw [c, cond_true] at h
              clear c
              cases c : Nat.beq op 7 with
              | false => rw [c, cond_false] at h; cases h
              | true =>
                rw [c, cond_true] at h
                cases xbeq c
                cases h
                exact dk_7 h0
            | false =>
              rw [c, cond_false] at h
              clear c
              cases c : Nat.blt op 9 with
              | true =>
                rw [c, cond_true] at h
                clear c
                cases c : Nat.beq op 8 with
                | false => rw [c, cond_false] at h; cases h
                | true =>
                  rw [c, cond_true] at h
                  cases xbeq c
                  cases h
                  exact dk_8 h0
              | false =>
                rw [c, cond_false] at h
                clear c
                cases c : Nat.beq op 9 with
                | false => rw [c, cond_false] at h; cases h
                | true =>
                  rw [c, cond_true] at h
                  cases xbeq c
                  cases h
                  exact dk_9 h0
          | false =>
            rw [c, cond_false] at h
            clear c
            cases c : Nat.blt op 17 with
            | true =>
              rw [c, cond_true] at h
              clear c
              cases c : Nat.blt op 16 with
              | true =>
                rw [c, cond_true] at h
                clear c
                cases c : Nat.beq op 10 with
                | false => rw [c, cond_false] at h; cases h
                | true =>
                  rw [c, cond_true] at h
                  cases xbeq c
                  cases h
                  exact dk_10 h0
              | false =>
                rw [c, cond_false] at h
                clear c
                cases c : (Nat.beq op 16 && Nat.blt b1 256) with
                | false => rw [c, cond_false] at h; cases h
                | true =>
                  rw [c, cond_true] at h
                  obtain ⟨c1, c2⟩ := Bool.and_eq_true_iff.mp c
                  cases xbeq c1
                  cases h
                  exact dk_16 h0 (h1 (xblt c2))
            | false =>
              rw [c, cond_false] at h
              clear c
              cases c : Nat.blt op 18 with
              | true =>
                rw [c, cond_true] at h
                clear c
                cases c : (Nat.beq op 17 && (Nat.blt b1 256 && Nat.blt b2 256)) with
                | false => rw [c, cond_false] at h; cases h
                | true =>
                  rw [c, cond_true] at h
                  obtain ⟨c1, c2⟩ := Bool.and_eq_true_iff.mp c
                  obtain ⟨c3, c4⟩ := Bool.and_eq_true_iff.mp c2
                  cases xbeq c1
                  cases h
                  exact dk_17 h0 (h1 (xblt c3)) (h2 (xblt c4))
              | false =>
                rw [c, cond_false] at h
                clear c
                cases c : (Nat.beq op 18 && Nat.blt b1 256) with
                | false => rw [c, cond_false] at h; cases h
                | true =>
                  rw [c, cond_true] at h
                  obtain ⟨c1, c2⟩ := Bool.and_eq_true_iff.mp c
                  cases xbeq c1
                  cases h
                  exact dk_18 h0 (h1 (xblt c2))
      | false =>
        rw [c, cond_false] at h
        clear c
        cases c : Nat.blt op 27 with
        | true =>
          rw [c, cond_true] at h
          clear c
          cases c : Nat.blt op 22 with
          | true =>
            rw [c, cond_true] at h
            clear c
            cases c : Nat.blt op 20 with
            | true =>
              rw [c, cond_true] at h
              clear c
              cases c : (Nat.beq op 19 && (Nat.blt b1 256 && Nat.blt b2 256)) with
              | false => rw [c, cond_false] at h; cases h
              | true =>
                rw [c, cond_true] at h
                obtain ⟨c1, c2⟩ := Bool.and_eq_true_iff.mp c
                obtain ⟨c3, c4⟩ := Bool.and_eq_true_iff.mp c2
                cases xbeq c1
                cases h
                exact dk_19 h0 (h1 (xblt c3)) (h2 (xblt c4))
            | false =>
              rw [c, cond_false] at h
              clear c
              cases c : Nat.blt op 21 with
              | true =>
                rw [c, cond_true] at h
                clear c
                cases c : (Nat.beq op 20 && (Nat.blt b1 256 && Nat.blt b2 256)) with
                | false => rw [c, cond_false] at h; cases h
                | true =>
                  rw [c, cond_true] at h
                  obtain ⟨c1, c2⟩ := Bool.and_eq_true_iff.mp c
                  obtain ⟨c3, c4⟩ := Bool.and_eq_true_iff.mp c2
                  cases xbeq c1
                  cases h
                  exact dk_20 h0 (h1 (xblt c3)) (h2 (xblt c4))
              | false =>
                rw [c, cond_false] at h
                clear c
                cases c : (Nat.beq op 21 && Nat.blt b1 256) with
                | false => rw [c, cond_false] at h; cases h
                | true =>
                  rw [c, cond_true] at h
                  obtain ⟨c1, c2⟩ := Bool.and_eq_true_iff.mp c
                  cases xbeq c1
                  cases h
                  exact dk_21 h0 (h1 (xblt c2))
          | false =>
            rw [c, cond_false] at h
            clear c
            cases c : Nat.blt op 25 with
            | true =>
              rw [c, cond_true] at h
              clear c
              cases c : (Nat.beq op 22 && Nat.blt b1 256) with
              | false => rw [c, cond_false] at h; cases h
              | true =>
                rw [c, cond_true] at h
                obtain ⟨c1, c2⟩ := Bool.and_eq_true_iff.mp c
                cases xbeq c1
                cases h
                exact dk_22 h0 (h1 (xblt c2))
            | false =>
              rw [c, cond_false] at h
              clear c
              cases c : Nat.blt op 26 with
              | true =>
                rw [c, cond_true] at h
                clear c
                cases c : (Nat.beq op 25 && Nat.blt b1 256) with
                | false => rw [c, cond_false] at h; cases h
                | true =>
                  rw [c, cond_true] at h
                  obtain ⟨c1, c2⟩ := Bool.and_eq_true_iff.mp c
                  cases xbeq c1
                  cases h
                  exact dk_25 h0 (h1 (xblt c2))
              | false =>
                rw [c, cond_false] at h
                clear c
                cases c : Nat.beq op 26 with
                | false => rw [c, cond_false] at h; cases h
                | true =>
                  rw [c, cond_true] at h
                  cases xbeq c
                  cases h
                  exact dk_26 h0
        | false =>
          rw [c, cond_false] at h
          clear c
          cases c : Nat.blt op 30 with
          | true =>
            rw [c, cond_true] at h
            clear c
            cases c : Nat.blt op 28 with
            | true =>
              rw [c, cond_true] at h
              clear c
              cases c : Nat.beq op 27 with
              | false => rw [c, cond_false] at h; cases h
              | true =>
                rw [c, cond_true] at h
                cases xbeq c
                cases h
                exact dk_27 h0
            | false =>
              rw [c, cond_false] at h
              clear c
              cases c : Nat.blt op 29 with
              | true =>
                rw [c, cond_true] at h
                clear c
                cases c : Nat.beq op 28 with
                | false => rw [c, cond_false] at h; cases h
                | true =>
                  rw [c, cond_true] at h
                  cases xbeq c
                  cases h
                  exact dk_28 h0
              | false =>
                rw [c, cond_false] at h
                clear c
                cases c : Nat.beq op 29 with
                | false => rw [c, cond_false] at h; cases h
                | true =>
                  rw [c, cond_true] at h
                  cases xbeq c
                  cases h
                  exact dk_29 h0
          | false =>
            rw [c, cond_false] at h
            clear c
            cases c : Nat.blt op 32 with
            | true =>
              rw [c, cond_true] at h
              clear c
              cases c : Nat.blt op 31 with
              | true =>
                rw [c, cond_true] at h
                clear c
                cases c : Nat.beq op 30 with
                | false => rw [c, cond_false] at h; cases h
                | true =>
                  rw [c, cond_true] at h
                  cases xbeq c
                  cases h
                  exact dk_30 h0
              | false =>
                rw [c, cond_false] at h
                clear c
                cases c : Nat.beq op 31 with
                | false => rw [c, cond_false] at h; cases h
                | true =>
                  rw [c, cond_true] at h
                  cases xbeq c
                  cases h
                  exact dk_31 h0
            | false =>
              rw [c, cond_false] at h
              clear c
              cases c : Nat.blt op 33 with
              | true =>
                rw [c, cond_true] at h
                clear c
                cases c : Nat.beq op 32 with
                | false => rw [c, cond_false] at h; cases h
                | true =>
                  rw [c, cond_true] at h
                  cases xbeq c
                  cases h
                  exact dk_32 h0
              | false =>
                rw [c, cond_false] at h
                clear c
                cases c : Nat.beq op 33 with
                | false => rw [c, cond_false] at h; cases h
                | true =>
                  rw [c, cond_true] at h
                  cases xbeq c
                  cases h
                  exact dk_33 h0
    | false =>
      rw [c, cond_false] at h
      clear c
      cases c : Nat.blt op 61 with
      | true =>
        rw [c, cond_true] at h
        clear c
        cases c : Nat.blt op 50 with
        | true =>
          rw [c, cond_true] at h
          clear c
          cases c : Nat.blt op 45 with
          | true =>
            rw [c, cond_true] at h
            clear c
            cases c : Nat.blt op 43 with
            | true =>
              rw [c, cond_true] at h
              clear c
              cases c : Nat.beq op 42 with
              | false => rw [c, cond_false] at h; cases h
              | true =>
                rw [c, cond_true] at h
                cases xbeq c
                cases h
                exact dk_42 h0
            | false =>
              rw [c, cond_false] at h
              clear c
              cases c : Nat.blt op 44 with
              | true =>
                rw [c, cond_true] at h
                clear c
                cases c : Nat.beq op 43 with
                | false => rw [c, cond_false] at h; cases h
                | true =>
                  rw [c, cond_true] at h
                  cases xbeq c
                  cases h
                  exact dk_43 h0
              | false =>
                rw [c, cond_false] at h
                clear c
                cases c : Nat.beq op 44 with
                | false => rw [c, cond_false] at h; cases h
                | true =>
                  rw [c, cond_true] at h
                  cases xbeq c
                  cases h
                  exact dk_44 h0
          | false =>
            rw [c, cond_false] at h
            clear c
            cases c : Nat.blt op 46 with
            | true =>
              rw [c, cond_true] at h
              clear c
              cases c : Nat.beq op 45 with
              | false => rw [c, cond_false] at h; cases h
              | true =>
                rw [c, cond_true] at h
                cases xbeq c
                cases h
                exact dk_45 h0
            | false =>
              rw [c, cond_false] at h
              clear c
              cases c : Nat.blt op 47 with
              | true =>
                rw [c, cond_true] at h
                clear c
                cases c : Nat.beq op 46 with
                | false => rw [c, cond_false] at h; cases h
                | true =>
                  rw [c, cond_true] at h
                  cases xbeq c
                  cases h
                  exact dk_46 h0
              | false =>
                rw [c, cond_false] at h
                clear c
                cases c : Nat.beq op 47 with
                | false => rw [c, cond_false] at h; cases h
                | true =>
                  rw [c, cond_true] at h
                  cases xbeq c
                  cases h
                  exact dk_47 h0
        | false =>
          rw [c, cond_false] at h
          clear c
          cases c : Nat.blt op 55 with
          | true =>
            rw [c, cond_true] at h
            clear c
            cases c : Nat.blt op 51 with
            | true =>
              rw [c, cond_true] at h
              clear c
              cases c : Nat.beq op 50 with
              | false => rw [c, cond_false] at h; cases h
              | true =>
                rw [c, cond_true] at h
                cases xbeq c
                cases h
                exact dk_50 h0
            | false =>
              rw [c, cond_false] at h
              clear c
              cases c : Nat.blt op 54 with
              | true =>
                rw [c, cond_true] at h
                clear c
                cases c : Nat.beq op 51 with
                | false => rw [c, cond_false] at h; cases h
                | true =>
                  rw [c, cond_true] at h
                  cases xbeq c
                  cases h
                  exact dk_51 h0
              | false =>
                rw [c, cond_false] at h
                clear c
                cases c : (Nat.beq op 54 && Nat.blt b1 256) with
                | false => rw [c, cond_false] at h; cases h
                | true =>
                  rw [c, cond_true] at h
                  obtain ⟨c1, c2⟩ := Bool.and_eq_true_iff.mp c
                  cases xbeq c1
                  cases h
                  exact dk_54 h0 (h1 (xblt c2))
          | false =>
            rw [c, cond_false] at h
            clear c
            cases c : Nat.blt op 59 with
            | true =>
              rw [c, cond_true] at h
              clear c
              cases c : Nat.blt op 58 with
              | true =>
                rw [c, cond_true] at h
                clear c
                cases c : (Nat.beq op 55 && Nat.blt b1 256) with
                | false => rw [c, cond_false] at h; cases h
                | true =>
                  rw [c, cond_true] at h
                  obtain ⟨c1, c2⟩ := Bool.and_eq_true_iff.mp c
                  cases xbeq c1
                  cases h
                  exact dk_55 h0 (h1 (xblt c2))
              | false =>
                rw [c, cond_false] at h
                clear c
                cases c : (Nat.beq op 58 && Nat.blt b1 256) with
                | false => rw [c, cond_false] at h; cases h
                | true =>
                  rw [c, cond_true] at h
                  obtain ⟨c1, c2⟩ := Bool.and_eq_true_iff.mp c
                  cases xbeq c1
                  cases h
                  exact dk_58 h0 (h1 (xblt c2))
            | false =>
              rw [c, cond_false] at h
              clear c
              cases c : Nat.blt op 60 with
              | true =>
                rw [c, cond_true] at h
                clear c
                cases c : Nat.beq op 59 with
                | false => rw [c, cond_false] at h; cases h
                | true =>
                  rw [c, cond_true] at h
                  cases xbeq c
                  cases h
                  exact dk_59 h0
              | false =>
                rw [c, cond_false] at h
                clear c
                cases c : Nat.beq op 60 with
                | false => rw [c, cond_false] at h; cases h
                | true =>
                  rw [c, cond_true] at h
                  cases xbeq c
                  cases h
                  exact dk_60 h0
      | false =>
        rw [c, cond_false] at h
        clear c
        cases c : Nat.blt op 76 with
        | true =>
          rw [c, cond_true] at h
          clear c
          cases c : Nat.blt op 64 with
          | true =>
            rw [c, cond_true] at h
            clear c
            cases c : Nat.blt op 62 with
            | true =>
              rw [c, cond_true] at h
              clear c
              cases c : Nat.beq op 61 with
              | false => rw [c, cond_false] at h; cases h
              | true =>
                rw [c, cond_true] at h
                cases xbeq c
                cases h
                exact dk_61 h0
            | false =>
              rw [c, cond_false] at h
              clear c
              cases c : Nat.blt op 63 with
              | true =>
                rw [c, cond_true] at h
                clear c
                cases c : Nat.beq op 62 with
                | false => rw [c, cond_false] at h; cases h
                | true =>
                  rw [c, cond_true] at h
                  cases xbeq c
                  cases h
                  exact dk_62 h0
              | false =>
                rw [c, cond_false] at h
                clear c
                cases c : Nat.beq op 63 with
                | false => rw [c, cond_false] at h; cases h
                | true =>
                  rw [c, cond_true] at h
                  cases xbeq c
                  cases h
                  exact dk_63 h0
          | false =>
            rw [c, cond_false] at h
            clear c
            cases c : Nat.blt op 66 with
            | true =>
              rw [c, cond_true] at h
              clear c
              cases c : Nat.blt op 65 with
              | true =>
                rw [c, cond_true] at h
                clear c
                cases c : Nat.beq op 64 with
                | false => rw [c, cond_false] at h; cases h
                | true =>
                  rw [c, cond_true] at h
                  cases xbeq c
                  cases h
                  exact dk_64 h0
              | false =>
                rw [c, cond_false] at h
                clear c
                cases c : Nat.beq op 65 with
                | false => rw [c, cond_false] at h; cases h
                | true =>
                  rw [c, cond_true] at h
                  cases xbeq c
                  cases h
                  exact dk_65 h0
            | false =>
              rw [c, cond_false] at h
              clear c
              cases c : Nat.blt op 75 with
              | true =>
                rw [c, cond_true] at h
                clear c
                cases c : Nat.beq op 66 with
                | false => rw [c, cond_false] at h; cases h
                | true =>
                  rw [c, cond_true] at h
                  cases xbeq c
                  cases h
                  exact dk_66 h0
              | false =>
                rw [c, cond_false] at h
                clear c
                cases c : Nat.beq op 75 with
                | false => rw [c, cond_false] at h; cases h
                | true =>
                  rw [c, cond_true] at h
                  cases xbeq c
                  cases h
                  exact dk_75 h0
        | false =>
          rw [c, cond_false] at h
          clear c
          cases c : Nat.blt op 79 with
          | true =>
            rw [c, cond_true] at h
            clear c
            cases c : Nat.blt op 77 with
            | true =>
              rw [c, cond_true] at h
              clear c
              cases c : Nat.beq op 76 with
              | false => rw [c, cond_false] at h; cases h
              | true =>
                rw [c, cond_true] at h
                cases xbeq c
                cases h
                exact dk_76 h0
            | false =>
              rw [c, cond_false] at h
              clear c
              cases c : Nat.blt op 78 with
              | true =>
                rw [c, cond_true] at h
                clear c
                cases c : Nat.beq op 77 with
                | false => rw [c, cond_false] at h; cases h
                | true =>
                  rw [c, cond_true] at h
                  cases xbeq c
                  cases h
                  exact dk_77 h0
              | false =>
                rw [c, cond_false] at h
                clear c
                cases c : Nat.beq op 78 with
                | false => rw [c, cond_false] at h; cases h
                | true =>
                  rw [c, cond_true] at h
                  cases xbeq c
                  cases h
                  exact dk_78 h0
          | false =>
            rw [c, cond_false] at h
            clear c
            cases c : Nat.blt op 83 with
            | true =>
              rw [c, cond_true] at h
              clear c
              cases c : Nat.blt op 80 with
              | true =>
                rw [c, cond_true] at h
                clear c
                cases c : Nat.beq op 79 with
                | false => rw [c, cond_false] at h; cases h
                | true =>
                  rw [c, cond_true] at h
                  cases xbeq c
                  cases h
                  exact dk_79 h0
              | false =>
                rw [c, cond_false] at h
                clear c
                cases c : Nat.beq op 80 with
                | false => rw [c, cond_false] at h; cases h
                | true =>
                  rw [c, cond_true] at h
                  cases xbeq c
                  cases h
                  exact dk_80 h0
            | false =>
              rw [c, cond_false] at h
              clear c
              cases c : Nat.blt op 84 with
              | true =>
                rw [c, cond_true] at h
                clear c
                cases c : Nat.beq op 83 with
                | false => rw [c, cond_false] at h; cases h
                | true =>
                  rw [c, cond_true] at h
                  cases xbeq c
                  cases h
                  exact dk_83 h0
              | false =>
                rw [c, cond_false] at h
                clear c
                cases c : Nat.beq op 84 with
                | false => rw [c, cond_false] at h; cases h
                | true =>
                  rw [c, cond_true] at h
                  cases xbeq c
                  cases h
                  exact dk_84 h0
  | false =>
    rw [c, cond_false] at h
    clear c
    cases c : Nat.blt op 155 with
    | true =>
      rw [c, cond_true] at h
      clear c
      cases c : Nat.blt op 117 with
      | true =>
        rw [c, cond_true] at h
        clear c
        cases c : Nat.blt op 101 with
        | true =>
          rw [c, cond_true] at h
          clear c
          cases c : Nat.blt op 96 with
          | true =>
            rw [c, cond_true] at h
            clear c
            cases c : Nat.blt op 89 with
            | true =>
              rw [c, cond_true] at h
              clear c
              cases c : Nat.beq op 87 with
              | false => rw [c, cond_false] at h; cases h
              | true =>
                rw [c, cond_true] at h
                cases xbeq c
                cases h
                exact dk_87 h0
            | false =>
              rw [c, cond_false] at h
              clear c
              cases c : Nat.blt op 92 with
              | true =>
                rw [c, cond_true] at h
                clear c
                cases c : Nat.beq op 89 with
                | false => rw [c, cond_false] at h; cases h
                | true =>
                  rw [c, cond_true] at h
                  cases xbeq c
                  cases h
                  exact dk_89 h0
              | false =>
                rw [c, cond_false] at h
                clear c
                cases c : Nat.beq op 92 with
                | false => rw [c, cond_false] at h; cases h
                | true =>
                  rw [c, cond_true] at h
                  cases xbeq c
                  cases h
                  exact dk_92 h0
          | false =>
            rw [c, cond_false] at h
            clear c
            cases c : Nat.blt op 97 with
            | true =>
              rw [c, cond_true] at h
              clear c
              cases c : Nat.beq op 96 with
              | false => rw [c, cond_false] at h; cases h
              | true =>
                rw [c, cond_true] at h
                cases xbeq c
                cases h
                exact dk_96 h0
            | false =>
              rw [c, cond_false] at h
              clear c
              cases c : Nat.blt op 100 with
              | true =>
                rw [c, cond_true] at h
                clear c
                cases c : Nat.beq op 97 with
                | false => rw [c, cond_false] at h; cases h
                | true =>
                  rw [c, cond_true] at h
                  cases xbeq c
                  cases h
                  exact dk_97 h0
              | false =>
                rw [c, cond_false] at h
                clear c
                cases c : Nat.beq op 100 with
                | false => rw [c, cond_false] at h; cases h
                | true =>
                  rw [c, cond_true] at h
                  cases xbeq c
                  cases h
                  exact dk_100 h0
        | false =>
          rw [c, cond_false] at h
          clear c
          cases c : Nat.blt op 108 with
          | true =>
            rw [c, cond_true] at h
            clear c
            cases c : Nat.blt op 104 with
            | true =>
              rw [c, cond_true] at h
              clear c
              cases c : Nat.beq op 101 with
              | false => rw [c, cond_false] at h; cases h
              | true =>
                rw [c, cond_true] at h
                cases xbeq c
                cases h
                exact dk_101 h0
            | false =>
              rw [c, cond_false] at h
              clear c
              cases c : Nat.blt op 105 with
              | true =>
                rw [c, cond_true] at h
                clear c
                cases c : Nat.beq op 104 with
                | false => rw [c, cond_false] at h; cases h
                | true =>
                  rw [c, cond_true] at h
                  cases xbeq c
                  cases h
                  exact dk_104 h0
              | false =>
                rw [c, cond_false] at h
                clear c
                cases c : Nat.beq op 105 with
                | false => rw [c, cond_false] at h; cases h
                | true =>
                  rw [c, cond_true] at h
                  cases xbeq c
                  cases h
                  exact dk_105 h0
          | false =>
            rw [c, cond_false] at h
            clear c
            cases c : Nat.blt op 112 with
            | true =>
              rw [c, cond_true] at h
              clear c
              cases c : Nat.blt op 109 with
              | true =>
                rw [c, cond_true] at h
                clear c
                cases c : Nat.beq op 108 with
                | false => rw [c, cond_false] at h; cases h
                | true =>
                  rw [c, cond_true] at h
                  cases xbeq c
                  cases h
                  exact dk_108 h0
              | false =>
                rw [c, cond_false] at h
                clear c
                cases c : Nat.beq op 109 with
                | false => rw [c, cond_false] at h; cases h
                | true =>
                  rw [c, cond_true] at h
                  cases xbeq c
                  cases h
                  exact dk_109 h0
            | false =>
              rw [c, cond_false] at h
              clear c
              cases c : Nat.blt op 116 with
              | true =>
                rw [c, cond_true] at h
                clear c
                cases c : Nat.beq op 112 with
                | false => rw [c, cond_false] at h; cases h
                | true =>
                  rw [c, cond_true] at h
                  cases xbeq c
                  cases h
                  exact dk_112 h0
              | false =>
                rw [c, cond_false] at h
                clear c
                cases c : Nat.beq op 116 with
                | false => rw [c, cond_false] at h; cases h
                | true =>
                  rw [c, cond_true] at h
                  cases xbeq c
                  cases h
                  exact dk_116 h0
      | false =>
        rw [c, cond_false] at h
        clear c
        cases c : Nat.blt op 132 with
        | true =>
          rw [c, cond_true] at h
          clear c
          cases c : Nat.blt op 124 with
          | true =>
            rw [c, cond_true] at h
            clear c
            cases c : Nat.blt op 120 with
            | true =>
              rw [c, cond_true] at h
              clear c
              cases c : Nat.beq op 117 with
              | false => rw [c, cond_false] at h; cases h
              | true =>
                rw [c, cond_true] at h
                cases xbeq c
                cases h
                exact dk_117 h0
            | false =>
              rw [c, cond_false] at h
              clear c
              cases c : Nat.blt op 122 with
              | true =>
                rw [c, cond_true] at h
                clear c
                cases c : Nat.beq op 120 with
                | false => rw [c, cond_false] at h; cases h
                | true =>
                  rw [c, cond_true] at h
                  cases xbeq c
                  cases h
                  exact dk_120 h0
              | false =>
                rw [c, cond_false] at h
                clear c
                cases c : Nat.beq op 122 with
                | false => rw [c, cond_false] at h; cases h
                | true =>
                  rw [c, cond_true] at h
                  cases xbeq c
                  cases h
                  exact dk_122 h0
          | false =>
            rw [c, cond_false] at h
            clear c
            cases c : Nat.blt op 128 with
            | true =>
              rw [c, cond_true] at h
              clear c
              cases c : Nat.blt op 126 with
              | true =>
                rw [c, cond_true] at h
                clear c
                cases c : Nat.beq op 124 with
                | false => rw [c, cond_false] at h; cases h
                | true =>
                  rw [c, cond_true] at h
                  cases xbeq c
                  cases h
                  exact dk_124 h0
              | false =>
                rw [c, cond_false] at h
                clear c
                cases c : Nat.beq op 126 with
                | false => rw [c, cond_false] at h; cases h
                | true =>
                  rw [c, cond_true] at h
                  cases xbeq c
                  cases h
                  exact dk_126 h0
            | false =>
              rw [c, cond_false] at h
              clear c
              cases c : Nat.blt op 130 with
              | true =>
                rw [c, cond_true] at h
                clear c
                cases c : Nat.beq op 128 with
                | false => rw [c, cond_false] at h; cases h
                | true =>
                  rw [c, cond_true] at h
                  cases xbeq c
                  cases h
                  exact dk_128 h0
              | false =>
                rw [c, cond_false] at h
                clear c
                cases c : Nat.beq op 130 with
                | false => rw [c, cond_false] at h; cases h
                | true =>
                  rw [c, cond_true] at h
                  cases xbeq c
                  cases h
                  exact dk_130 h0
        | false =>
          rw [c, cond_false] at h
          clear c
          cases c : Nat.blt op 145 with
          | true =>
            rw [c, cond_true] at h
            clear c
            cases c : Nat.blt op 133 with
            | true =>
              rw [c, cond_true] at h
              clear c
              cases c : (Nat.beq op 132 && (Nat.blt b1 256 && Nat.blt b2 256)) with
              | false => rw [c, cond_false] at h; cases h
              | true =>
                rw [c, cond_true] at h
                obtain ⟨c1, c2⟩ := Bool.and_eq_true_iff.mp c
                obtain ⟨c3, c4⟩ := Bool.and_eq_true_iff.mp c2
                cases xbeq c1
                cases h
                exact dk_132 h0 (h1 (xblt c3)) (h2 (xblt c4))
            | false =>
              rw [c, cond_false] at h
              clear c
              cases c : Nat.blt op 136 with
              | true =>
                rw [c, cond_true] at h
                clear c
                cases c : Nat.beq op 133 with
                | false => rw [c, cond_false] at h; cases h
                | true =>
                  rw [c, cond_true] at h
                  cases xbeq c
                  cases h
                  exact dk_133 h0
              | false =>
                rw [c, cond_false] at h
                clear c
                cases c : Nat.beq op 136 with
                | false => rw [c, cond_false] at h; cases h
                | true =>
                  rw [c, cond_true] at h
                  cases xbeq c
                  cases h
                  exact dk_136 h0
          | false =>
            rw [c, cond_false] at h
            clear c
            cases c : Nat.blt op 153 with
            | true =>
              rw [c, cond_true] at h
              clear c
              cases c : Nat.blt op 148 with
              | true =>
                rw [c, cond_true] at h
                clear c
                cases c : Nat.beq op 145 with
                | false => rw [c, cond_false] at h; cases h
                | true =>
                  rw [c, cond_true] at h
                  cases xbeq c
                  cases h
                  exact dk_145 h0
              | false =>
                rw [c, cond_false] at h
                clear c
                cases c : Nat.beq op 148 with
                | false => rw [c, cond_false] at h; cases h
                | true =>
                  rw [c, cond_true] at h
                  cases xbeq c
                  cases h
                  exact dk_148 h0
            | false =>
              rw [c, cond_false] at h
              clear c
              cases c : Nat.blt op 154 with
              | true =>
                rw [c, cond_true] at h
                clear c
                cases c : (Nat.beq op 153 && (Nat.blt b1 256 && Nat.blt b2 256)) with
                | false => rw [c, cond_false] at h; cases h
                | true =>
                  rw [c, cond_true] at h
                  obtain ⟨c1, c2⟩ := Bool.and_eq_true_iff.mp c
                  obtain ⟨c3, c4⟩ := Bool.and_eq_true_iff.mp c2
                  cases xbeq c1
                  cases h
                  exact dk_153 h0 (h1 (xblt c3)) (h2 (xblt c4))
              | false =>
                rw [c, cond_false] at h
                clear c
                cases c : (Nat.beq op 154 && (Nat.blt b1 256 && Nat.blt b2 256)) with
                | false => rw [c, cond_false] at h; cases h
                | true =>
                  rw [c, cond_true] at h
                  obtain ⟨c1, c2⟩ := Bool.and_eq_true_iff.mp c
                  obtain ⟨c3, c4⟩ := Bool.and_eq_true_iff.mp c2
                  cases xbeq c1
                  cases h
                  exact dk_154 h0 (h1 (xblt c3)) (h2 (xblt c4))
    | false =>
      rw [c, cond_false] at h
      clear c
      cases c : Nat.blt op 176 with
      | true =>
        rw [c, cond_true] at h
        clear c
        cases c : Nat.blt op 161 with
        | true =>
          rw [c, cond_true] at h
          clear c
          cases c : Nat.blt op 158 with
          | true =>
            rw [c, cond_true] at h
            clear c
            cases c : Nat.blt op 156 with
            | true =>
              rw [c, cond_true] at h
              clear c
              cases c : (Nat.beq op 155 && (Nat.blt b1 256 && Nat.blt b2 256)) with
              | false => rw [c, cond_false] at h; cases h
              | true =>
                rw [c, cond_true] at h
                obtain ⟨c1, c2⟩ := Bool.and_eq_true_iff.mp c
                obtain ⟨c3, c4⟩ := Bool.and_eq_true_iff.mp c2
                cases xbeq c1
                cases h
                exact dk_155 h0 (h1 (xblt c3)) (h2 (xblt c4))
            | false =>
              rw [c, cond_false] at h
              clear c
              cases c : Nat.blt op 157 with
              | true =>
                rw [c, cond_true] at h
                clear c
                cases c : (Nat.beq op 156 && (Nat.blt b1 256 && Nat.blt b2 256)) with
                | false => rw [c, cond_false] at h; cases h
                | true =>
                  rw [c, cond_true] at h
                  obtain ⟨c1, c2⟩ := Bool.and_eq_true_iff.mp c
                  obtain ⟨c3, c4⟩ := Bool.and_eq_true_iff.mp c2
                  cases xbeq c1
                  cases h
                  exact dk_156 h0 (h1 (xblt c3)) (h2 (xblt c4))
              | false =>
                rw [c, cond_false] at h
                clear c
                cases c : (Nat.beq op 157 && (Nat.blt b1 256 && Nat.blt b2 256)) with
                | false => rw [c, cond_false] at h; cases h
                | true =>
                  rw [c, cond_true] at h
                  obtain ⟨c1, c2⟩ := Bool.and_eq_true_iff.mp c
                  obtain ⟨c3, c4⟩ := Bool.and_eq_true_iff.mp c2
                  cases xbeq c1
                  cases h
                  exact dk_157 h0 (h1 (xblt c3)) (h2 (xblt c4))
          | false =>
            rw [c, cond_false] at h
            clear c
            cases c : Nat.blt op 159 with
            | true =>
              rw [c, cond_true] at h
              clear c
              cases c : (Nat.beq op 158 && (Nat.blt b1 256 && Nat.blt b2 256)) with
              | false => rw [c, cond_false] at h; cases h
              | true =>
                rw [c, cond_true] at h
                obtain ⟨c1, c2⟩ := Bool.and_eq_true_iff.mp c
                obtain ⟨c3, c4⟩ := Bool.and_eq_true_iff.mp c2
                cases xbeq c1
                cases h
                exact dk_158 h0 (h1 (xblt c3)) (h2 (xblt c4))
            | false =>
              rw [c, cond_false] at h
              clear c
              cases c : Nat.blt op 160 with
              | true =>
                rw [c, cond_true] at h
                clear c
                cases c : (Nat.beq op 159 && (Nat.blt b1 256 && Nat.blt b2 256)) with
                | false => rw [c, cond_false] at h; cases h
                | true =>
                  rw [c, cond_true] at h
                  obtain ⟨c1, c2⟩ := Bool.and_eq_true_iff.mp c
                  obtain ⟨c3, c4⟩ := Bool.and_eq_true_iff.mp c2
                  cases xbeq c1
                  cases h
                  exact dk_159 h0 (h1 (xblt c3)) (h2 (xblt c4))
              | false =>
                rw [c, cond_false] at h
                clear c
                cases c : (Nat.beq op 160 && (Nat.blt b1 256 && Nat.blt b2 256)) with
                | false => rw [c, cond_false] at h; cases h
                | true =>
                  rw [c, cond_true] at h
                  obtain ⟨c1, c2⟩ := Bool.and_eq_true_iff.mp c
                  obtain ⟨c3, c4⟩ := Bool.and_eq_true_iff.mp c2
                  cases xbeq c1
                  cases h
                  exact dk_160 h0 (h1 (xblt c3)) (h2 (xblt c4))
        | false =>
          rw [c, cond_false] at h
          clear c
          cases c : Nat.blt op 164 with
          | true =>
            rw [c, cond_true] at h
            clear c
            cases c : Nat.blt op 162 with
            | true =>
              rw [c, cond_true] at h
              clear c
              cases c : (Nat.beq op 161 && (Nat.blt b1 256 && Nat.blt b2 256)) with
              | false => rw [c, cond_false] at h; cases h
              | true =>
                rw [c, cond_true] at h
                obtain ⟨c1, c2⟩ := Bool.and_eq_true_iff.mp c
                obtain ⟨c3, c4⟩ := Bool.and_eq_true_iff.mp c2
                cases xbeq c1
                cases h
                exact dk_161 h0 (h1 (xblt c3)) (h2 (xblt c4))
            | false =>
              rw [c, cond_false] at h
              clear c
              cases c : Nat.blt op 163 with
              | true =>
                rw [c, cond_true] at h
                clear c
                cases c : (Nat.beq op 162 && (Nat.blt b1 256 && Nat.blt b2 256)) with
                | false => rw [c, cond_false] at h; cases h
                | true =>
                  rw [c, cond_true] at h
                  obtain ⟨c1, c2⟩ := Bool.and_eq_true_iff.mp c
                  obtain ⟨c3, c4⟩ := Bool.and_eq_true_iff.mp c2
                  cases xbeq c1
                  cases h
                  exact dk_162 h0 (h1 (xblt c3)) (h2 (xblt c4))
              | false =>
                rw [c, cond_false] at h
                clear c
                cases c : (Nat.beq op 163 && (Nat.blt b1 256 && Nat.blt b2 256)) with
                | false => rw [c, cond_false] at h; cases h
                | true =>
                  rw [c, cond_true] at h
                  obtain ⟨c1, c2⟩ := Bool.and_eq_true_iff.mp c
                  obtain ⟨c3, c4⟩ := Bool.and_eq_true_iff.mp c2
                  cases xbeq c1
                  cases h
                  exact dk_163 h0 (h1 (xblt c3)) (h2 (xblt c4))
          | false =>
            rw [c, cond_false] at h
            clear c
            cases c : Nat.blt op 172 with
            | true =>
              rw [c, cond_true] at h
              clear c
              cases c : Nat.blt op 167 with
              | true =>
                rw [c, cond_true] at h
                clear c
                cases c : (Nat.beq op 164 && (Nat.blt b1 256 && Nat.blt b2 256)) with
                | false => rw [c, cond_false] at h; cases h
                | true =>
                  rw [c, cond_true] at h
                  obtain ⟨c1, c2⟩ := Bool.and_eq_true_iff.mp c
                  obtain ⟨c3, c4⟩ := Bool.and_eq_true_iff.mp c2
                  cases xbeq c1
                  cases h
                  exact dk_164 h0 (h1 (xblt c3)) (h2 (xblt c4))
              | false =>
                rw [c, cond_false] at h
                clear c
                cases c : (Nat.beq op 167 && (Nat.blt b1 256 && Nat.blt b2 256)) with
                | false => rw [c, cond_false] at h; cases h
                | true =>
                  rw [c, cond_true] at h
                  obtain ⟨c1, c2⟩ := Bool.and_eq_true_iff.mp c
                  obtain ⟨c3, c4⟩ := Bool.and_eq_true_iff.mp c2
                  cases xbeq c1
                  cases h
                  exact dk_167 h0 (h1 (xblt c3)) (h2 (xblt c4))
            | false =>
              rw [c, cond_false] at h
              clear c
              cases c : Nat.blt op 173 with
              | true =>
                rw [c, cond_true] at h
                clear c
                cases c : Nat.beq op 172 with
                | false => rw [c, cond_false] at h; cases h
                | true =>
                  rw [c, cond_true] at h
                  cases xbeq c
                  cases h
                  exact dk_172 h0
              | false =>
                rw [c, cond_false] at h
                clear c
                cases c : Nat.beq op 173 with
                | false => rw [c, cond_false] at h; cases h
                | true =>
                  rw [c, cond_true] at h
                  cases xbeq c
                  cases h
                  exact dk_173 h0
      | false =>
        rw [c, cond_false] at h
        clear c
        cases c : Nat.blt op 184 with
        | true =>
          rw [c, cond_true] at h
          clear c
          cases c : Nat.blt op 180 with
          | true =>
            rw [c, cond_true] at h
            clear c
            cases c : Nat.blt op 177 with
            | true =>
              rw [c, cond_true] at h
              clear c
              cases c : Nat.beq op 176 with
              | false => rw [c, cond_false] at h; cases h
              | true =>
                rw [c, cond_true] at h
                cases xbeq c
                cases h
                exact dk_176 h0
            | false =>
              rw [c, cond_false] at h
              clear c
              cases c : Nat.blt op 178 with
              | true =>
                rw [c, cond_true] at h
                clear c
                cases c : Nat.beq op 177 with
                | false => rw [c, cond_false] at h; cases h
                | true =>
                  rw [c, cond_true] at h
                  cases xbeq c
                  cases h
                  exact dk_177 h0
              | false =>
                rw [c, cond_false] at h
                clear c
                cases c : (Nat.beq op 178 && (Nat.blt b1 256 && Nat.blt b2 256)) with
                | false => rw [c, cond_false] at h; cases h
                | true =>
                  rw [c, cond_true] at h
                  obtain ⟨c1, c2⟩ := Bool.and_eq_true_iff.mp c
                  obtain ⟨c3, c4⟩ := Bool.and_eq_true_iff.mp c2
                  cases xbeq c1
                  cases h
                  exact dk_178 h0 (h1 (xblt c3)) (h2 (xblt c4))
          | false =>
            rw [c, cond_false] at h
            clear c
            cases c : Nat.blt op 182 with
            | true =>
              rw [c, cond_true] at h
              clear c
              cases c : Nat.blt op 181 with
              | true =>
                rw [c, cond_true] at h
                clear c
                cases c : (Nat.beq op 180 && (Nat.blt b1 256 && Nat.blt b2 256)) with
                | false => rw [c, cond_false] at h; cases h
                | true =>
                  rw [c, cond_true] at h
                  obtain ⟨c1, c2⟩ := Bool.and_eq_true_iff.mp c
                  obtain ⟨c3, c4⟩ := Bool.and_eq_true_iff.mp c2
                  cases xbeq c1
                  cases h
                  exact dk_180 h0 (h1 (xblt c3)) (h2 (xblt c4))
              | false =>
                rw [c, cond_false] at h
                clear c
                cases c : (Nat.beq op 181 && (Nat.blt b1 256 && Nat.blt b2 256)) with
                | false => rw [c, cond_false] at h; cases h
                | true =>
                  rw [c, cond_true] at h
                  obtain ⟨c1, c2⟩ := Bool.and_eq_true_iff.mp c
                  obtain ⟨c3, c4⟩ := Bool.and_eq_true_iff.mp c2
                  cases xbeq c1
                  cases h
                  exact dk_181 h0 (h1 (xblt c3)) (h2 (xblt c4))
            | false =>
              rw [c, cond_false] at h
              clear c
              cases c : Nat.blt op 183 with
              | true =>
                rw [c, cond_true] at h
                clear c
                cases c : (Nat.beq op 182 && (Nat.blt b1 256 && Nat.blt b2 256)) with
                | false => rw [c, cond_false] at h; cases h
                | true =>
                  rw [c, cond_true] at h
                  obtain ⟨c1, c2⟩ := Bool.and_eq_true_iff.mp c
                  obtain ⟨c3, c4⟩ := Bool.and_eq_true_iff.mp c2
                  cases xbeq c1
                  cases h
                  exact dk_182 h0 (h1 (xblt c3)) (h2 (xblt c4))
              | false =>
                rw [c, cond_false] at h
                clear c
                cases c : (Nat.beq op 183 && (Nat.blt b1 256 && Nat.blt b2 256)) with
                | false => rw [c, cond_false] at h; cases h
                | true =>
                  rw [c, cond_true] at h
                  obtain ⟨c1, c2⟩ := Bool.and_eq_true_iff.mp c
                  obtain ⟨c3, c4⟩ := Bool.and_eq_true_iff.mp c2
                  cases xbeq c1
                  cases h
                  exact dk_183 h0 (h1 (xblt c3)) (h2 (xblt c4))
        | false =>
          rw [c, cond_false] at h
          clear c
          cases c : Nat.blt op 189 with
          | true =>
            rw [c, cond_true] at h
            clear c
            cases c : Nat.blt op 187 with
            | true =>
              rw [c, cond_true] at h
              clear c
              cases c : (Nat.beq op 184 && (Nat.blt b1 256 && Nat.blt b2 256)) with
              | false => rw [c, cond_false] at h; cases h
              | true =>
                rw [c, cond_true] at h
                obtain ⟨c1, c2⟩ := Bool.and_eq_true_iff.mp c
                obtain ⟨c3, c4⟩ := Bool.and_eq_true_iff.mp c2
                cases xbeq c1
                cases h
                exact dk_184 h0 (h1 (xblt c3)) (h2 (xblt c4))
            | false =>
              rw [c, cond_false] at h
              clear c
              cases c : Nat.blt op 188 with
              | true =>
                rw [c, cond_true] at h
                clear c
                cases c : (Nat.beq op 187 && (Nat.blt b1 256 && Nat.blt b2 256)) with
                | false => rw [c, cond_false] at h; cases h
                | true =>
                  rw [c, cond_true] at h
                  obtain ⟨c1, c2⟩ := Bool.and_eq_true_iff.mp c
                  obtain ⟨c3, c4⟩ := Bool.and_eq_true_iff.mp c2
                  cases xbeq c1
                  cases h
                  exact dk_187 h0 (h1 (xblt c3)) (h2 (xblt c4))
              | false =>
                rw [c, cond_false] at h
                clear c
                cases c : Nat.beq op 188 with
                | false => rw [c, cond_false] at h; cases h
                | true =>
                  rw [c, cond_true] at h
                  cases xbeq c
                  cases d : Nat.beq b1 4 with
                  | true => rw [d, cond_true] at h; cases h; cases xbeq d; exact dk_188_4 h0 (h1 (by decide))
                  | false =>
                    rw [d, cond_false] at h
                    cases d : Nat.beq b1 8 with
                    | true => rw [d, cond_true] at h; cases h; cases xbeq d; exact dk_188_8 h0 (h1 (by decide))
                    | false =>
                      rw [d, cond_false] at h
                      cases d : Nat.beq b1 10 with
                      | true => rw [d, cond_true] at h; cases h; cases xbeq d; exact dk_188_10 h0 (h1 (by decide))
                      | false =>
                        rw [d, cond_false] at h
                        cases d : Nat.beq b1 11 with
                        | true => rw [d, cond_true] at h; cases h; cases xbeq d; exact dk_188_11 h0 (h1 (by decide))
                        | false =>
                          rw [d, cond_false] at h
                          cases h
          | false =>
            rw [c, cond_false] at h
            clear c
            cases c : Nat.blt op 198 with
            | true =>
              rw [c, cond_true] at h
              clear c
              cases c : Nat.blt op 190 with
              | true =>
                rw [c, cond_true] at h
                clear c
                cases c : (Nat.beq op 189 && (Nat.blt b1 256 && Nat.blt b2 256)) with
                | false => rw [c, cond_false] at h; cases h
                | true =>
                  rw [c, cond_true] at h
                  obtain ⟨c1, c2⟩ := Bool.and_eq_true_iff.mp c
                  obtain ⟨c3, c4⟩ := Bool.and_eq_true_iff.mp c2
                  cases xbeq c1
                  cases h
                  exact dk_189 h0 (h1 (xblt c3)) (h2 (xblt c4))
              | false =>
                rw [c, cond_false] at h
                clear c
                cases c : Nat.beq op 190 with
                | false => rw [c, cond_false] at h; cases h
                | true =>
                  rw [c, cond_true] at h
                  cases xbeq c
                  cases h
                  exact dk_190 h0
            | false =>
              rw [c, cond_false] at h
              clear c
              cases c : Nat.blt op 199 with
              | true =>
                rw [c, cond_true] at h
                clear c
                cases c : (Nat.beq op 198 && (Nat.blt b1 256 && Nat.blt b2 256)) with
                | false => rw [c, cond_false] at h; cases h
                | true =>
                  rw [c, cond_true] at h
                  obtain ⟨c1, c2⟩ := Bool.and_eq_true_iff.mp c
                  obtain ⟨c3, c4⟩ := Bool.and_eq_true_iff.mp c2
                  cases xbeq c1
                  cases h
                  exact dk_198 h0 (h1 (xblt c3)) (h2 (xblt c4))
              | false =>
                rw [c, cond_false] at h
                clear c
                cases c : (Nat.beq op 199 && (Nat.blt b1 256 && Nat.blt b2 256)) with
                | false => rw [c, cond_false] at h; cases h
                | true =>
                  rw [c, cond_true] at h
                  obtain ⟨c1, c2⟩ := Bool.and_eq_true_iff.mp c
                  obtain ⟨c3, c4⟩ := Bool.and_eq_true_iff.mp c2
                  cases xbeq c1
                  cases h
                  exact dk_199 h0 (h1 (xblt c3)) (h2 (xblt c4))
def xbh : List UInt8 → Nat
  | [] => 256
  | a :: _ => a.toNat
theorem xbh_ok {n : Nat} (h : xbh (cc.data.toList.drop n) < 256) : xrd cc n (xbh (cc.data.toList.drop n)) := by
  cases e : cc.data.toList.drop n with
  | nil =>
    rw [e] at h
    exact absurd h (by decide)
  | cons a tl =>
    have hl : n < cc.data.toList.length := by
      have := congrArg List.length e
      rw [List.length_drop, List.length_cons] at this
      omega
    have hn : n < cc.size := hl
    have ha : cc.data.toList[n] = a := by
      have := List.drop_eq_getElem_cons hl
      rw [e] at this
      exact (List.cons.inj this).1.symm
    have hb : cc[n] = a := ha
    show Reader.runAt (Reader.u1 : Decoder Nat) cc n = .ok (a.toNat, n + 1)
    show (if h : n < cc.size then (set (n + 1) >>= fun _ => pure cc[n].toNat : Decoder Nat) else throw (HasTruncated.truncated n)) cc n = _
    rw [dif_pos hn, hb]
    rfl
noncomputable def xeF (cc : ByteArray) (L : List UInt8) (lk : List xL) (ls : List xI) (e : xI) : Bool := (match xget xopi e.2.2.1 with
  | some t => decide (xfd (xbh L) (xbh (L.drop 1)) (xbh (L.drop 2)) = some (t.1 e, e.2.1)) || decide (decode cc e.1 = .ok (t.1 e, e.2.1))
  | none => false) && ((match xget xsb e.2.2.1 with
  | some f => f e
  | none => false) || (decide (e.2 ∈ lk) || decide (e ∈ ls)))
noncomputable def xcF (cc : ByteArray) (lk : List xL) (ls : List xI) : List UInt8 → List xI → Bool
  | _, [] => true
  | L, e :: tl => xeF cc L lk ls e && ((match tl with
    | [] => true
    | e' :: _ => Nat.beq e'.1 (e.1 + e.2.1)) && xcF cc lk ls (L.drop e.2.1) tl)
noncomputable def xbF (cc : ByteArray) (lk : List xL) (ls : List xI) (bl : List (Nat × List xI)) : Bool := bl.all fun b => (match b.2 with
  | [] => false
  | e :: _ => Nat.beq e.1 b.1) && xcF cc lk ls (cc.data.toList.drop b.1) b.2
theorem xeF_ok {lk : List xL} {ls : List xI} {e : xI} {L : List UInt8} (hL : L = cc.data.toList.drop e.1) (h : xeF cc L lk ls e = true) : xeB cc lk ls e = true := by
  unfold xeF at h
  obtain ⟨h1, h2⟩ := Bool.and_eq_true_iff.mp h
  unfold xeB
  refine Bool.and_eq_true_iff.mpr ⟨?_, h2⟩
  cases ht : xget xopi e.2.2.1 with
  | none => rw [ht] at h1; cases h1
  | some t =>
    rw [ht] at h1
    rcases Bool.or_eq_true_iff.mp h1 with h3 | h3
    · have h3 := of_decide_eq_true h3
      subst hL
      rw [List.drop_drop, List.drop_drop] at h3
      refine decide_eq_true ?_
      by_cases z : xbh (cc.data.toList.drop e.1) < 256
      · exact xfd_ok h3 (xbh_ok z) (fun w => xbh_ok w) (fun w => xbh_ok w)
      · exfalso
        have y : xbh (cc.data.toList.drop e.1) = 256 := by
          cases q : cc.data.toList.drop e.1 with
          | nil => rfl
          | cons a tl =>
            rw [q] at z
            exact absurd (UInt8.toNat_lt a) z
        rw [y] at h3
        have h5 : (none : Option (Instr × Nat)) = some (t.1 e, e.2.1) := h3
        cases h5
    · exact h3
theorem xcF_ok {lk : List xL} {ls : List xI} : ∀ {l : List xI} {L : List UInt8} {a : Nat}, L = cc.data.toList.drop a → (∀ e tl, l = e :: tl → e.1 = a) → xcF cc lk ls L l = true → xcB cc lk ls l = true
  | [], _, _, _, _, _ => rfl
  | e :: tl, L, a, hL, ha, h => by
    unfold xcF at h
    obtain ⟨h1, h2⟩ := Bool.and_eq_true_iff.mp h
    obtain ⟨h3, h4⟩ := Bool.and_eq_true_iff.mp h2
    have e1 := ha e tl rfl
    unfold xcB
    refine Bool.and_eq_true_iff.mpr ⟨xeF_ok (by rw [e1]; exact hL) h1, Bool.and_eq_true_iff.mpr ⟨h3, ?_⟩⟩
    refine xcF_ok (a := a + e.2.1) (by rw [hL, List.drop_drop]) (fun e' tl' q => ?_) h4
    subst q
    rw [← e1]
    exact xbeq h3
theorem xbF_ok {own : String} {cc : ByteArray} {lk : List xL} {ls : List xI} (hk : ∀ q ∈ lk, xLq own q) (hs : ∀ e ∈ ls, xLs own e) {bl : List (Nat × List xI)} (h : xbF cc lk ls bl = true) : ∀ b ∈ bl, xbok own cc b := by
  refine xbB_ok hk hs ?_
  unfold xbB
  refine List.all_eq_true.mpr (fun b hb => ?_)
  obtain ⟨h1, h2⟩ := Bool.and_eq_true_iff.mp (List.all_eq_true.mp h b hb)
  refine Bool.and_eq_true_iff.mpr ⟨h1, ?_⟩
  refine xcF_ok rfl (fun e tl q => ?_) h2
  rw [q] at h1
  exact xbeq h1
end XDC
theorem xtc1 {w : Cond} (i : Nat) (h : tables_1_1[i]? = some w) (hg : goodWord w = true) : w ∈ lw_gt := List.mem_filter.mpr ⟨List.mem_append_right _ (show w ∈ tables_1 from List.mem_append_left _ (List.mem_of_getElem? h)), hg⟩
theorem xtc2 {w : Cond} (i : Nat) (h : tables_1_2[i]? = some w) (hg : goodWord w = true) : w ∈ lw_gt := List.mem_filter.mpr ⟨List.mem_append_right _ (show w ∈ tables_1 from List.mem_append_right _ (List.mem_append_left _ (List.mem_of_getElem? h))), hg⟩
theorem xtc3 {w : Cond} (i : Nat) (h : tables_1_3[i]? = some w) (hg : goodWord w = true) : w ∈ lw_gt := List.mem_filter.mpr ⟨List.mem_append_right _ (show w ∈ tables_1 from List.mem_append_right _ (List.mem_append_right _ (List.mem_append_left _ (List.mem_of_getElem? h)))), hg⟩
theorem xtc4 {w : Cond} (i : Nat) (h : tables_1_4[i]? = some w) (hg : goodWord w = true) : w ∈ lw_gt := List.mem_filter.mpr ⟨List.mem_append_right _ (show w ∈ tables_1 from List.mem_append_right _ (List.mem_append_right _ (List.mem_append_right _ (List.mem_append_left _ (List.mem_of_getElem? h))))), hg⟩
theorem xtc5 {w : Cond} (i : Nat) (h : tables_1_5[i]? = some w) (hg : goodWord w = true) : w ∈ lw_gt := List.mem_filter.mpr ⟨List.mem_append_right _ (show w ∈ tables_1 from List.mem_append_right _ (List.mem_append_right _ (List.mem_append_right _ (List.mem_append_right _ (List.mem_append_left _ (List.mem_of_getElem? h)))))), hg⟩
theorem xtc6 {w : Cond} (i : Nat) (h : tables_1_6[i]? = some w) (hg : goodWord w = true) : w ∈ lw_gt := List.mem_filter.mpr ⟨List.mem_append_right _ (show w ∈ tables_1 from List.mem_append_right _ (List.mem_append_right _ (List.mem_append_right _ (List.mem_append_right _ (List.mem_append_right _ (List.mem_append_left _ (List.mem_of_getElem? h))))))), hg⟩
theorem xtc7 {w : Cond} (i : Nat) (h : tables_1_7[i]? = some w) (hg : goodWord w = true) : w ∈ lw_gt := List.mem_filter.mpr ⟨List.mem_append_right _ (show w ∈ tables_1 from List.mem_append_right _ (List.mem_append_right _ (List.mem_append_right _ (List.mem_append_right _ (List.mem_append_right _ (List.mem_append_right _ (List.mem_append_left _ (List.mem_of_getElem? h)))))))), hg⟩
theorem xtc8 {w : Cond} (i : Nat) (h : tables_1_8[i]? = some w) (hg : goodWord w = true) : w ∈ lw_gt := List.mem_filter.mpr ⟨List.mem_append_right _ (show w ∈ tables_1 from List.mem_append_right _ (List.mem_append_right _ (List.mem_append_right _ (List.mem_append_right _ (List.mem_append_right _ (List.mem_append_right _ (List.mem_append_right _ (List.mem_append_left _ (List.mem_of_getElem? h))))))))), hg⟩
theorem xtc9 {w : Cond} (i : Nat) (h : tables_1_9[i]? = some w) (hg : goodWord w = true) : w ∈ lw_gt := List.mem_filter.mpr ⟨List.mem_append_right _ (show w ∈ tables_1 from List.mem_append_right _ (List.mem_append_right _ (List.mem_append_right _ (List.mem_append_right _ (List.mem_append_right _ (List.mem_append_right _ (List.mem_append_right _ (List.mem_append_right _ (List.mem_of_getElem? h))))))))), hg⟩
