/-! A CODE'S BYTES, by windows: reading an instruction without walking the whole code -/
def hz_at (c : ByteArray) (p b : Nat) : Prop := ∃ h : p < c.size, (c[p]'h).toNat = b
theorem hz_u1 {c : ByteArray} {p b : Nat} (h : hz_at c p b) : (Reader.u1 : Decoder Nat) c p = .ok (b, p + 1) := by
  obtain ⟨h1, h2⟩ := h
  subst h2
  have e : (Reader.u1 : Decoder Nat) c p = (if h : p < c.size then (do set (p + 1); Pure.pure (c[p]'h).toNat : Decoder Nat) else throw (HasTruncated.truncated p)) c p := rfl
  rw [e, dif_pos h1]
  rfl
section HZDK
variable {c : ByteArray} {pc op b0 b1 : Nat} {i : Instr} {K : Nat → Decoder Instr}
theorem hz_dk {n : Nat} (h : (Decoder.instr pc) c pc = .ok (i, pc + n)) : decode c pc = .ok (i, n) := by
  show (Except.bind ((Decoder.instr pc) c pc) fun z => .ok (z.1, z.2 - pc)) = _
  rw [h]
  show Except.ok (i, pc + n - pc) = _
  rw [Nat.add_sub_cancel_left]
theorem dk_1 (hK : Decoder.instr pc = (Reader.u1 >>= K)) (h0 : hz_at c pc op) (hi : K op = Pure.pure i) : decode c pc = .ok (i, 1) := hz_dk (by
  rw [hK]
  show (Except.bind ((Reader.u1 : Decoder Nat) c pc) fun z => K z.1 c z.2) = _
  rw [hz_u1 h0]
  show K op c (pc + 1) = _
  rw [hi]; rfl)
theorem dk_b {K2 : Nat → Decoder Instr} (hK : Decoder.instr pc = (Reader.u1 >>= K)) (h0 : hz_at c pc op) (h1 : hz_at c (pc + 1) b0) (hi : K op = (Reader.u1 >>= K2)) (hj : K2 b0 = Pure.pure i) : decode c pc = .ok (i, 2) := hz_dk (by
  rw [hK]
  show (Except.bind ((Reader.u1 : Decoder Nat) c pc) fun z => K z.1 c z.2) = _
  rw [hz_u1 h0]
  show K op c (pc + 1) = _
  rw [hi]
  show (Except.bind ((Reader.u1 : Decoder Nat) c (pc + 1)) fun z => K2 z.1 c z.2) = _
  rw [hz_u1 h1]
  show K2 b0 c (pc + 1 + 1) = _
  rw [hj]; rfl)
theorem dk_s1 {v : Int} (f : Int → Instr) (hK : Decoder.instr pc = (Reader.u1 >>= K)) (h0 : hz_at c pc op) (h1 : hz_at c (pc + 1) b0) (hi : K op = (Reader.s1 >>= fun x => Pure.pure (f x))) (e : Reader.signed 8 b0 = v) : decode c pc = .ok (f v, 2) := hz_dk (by
  rw [hK]
  show (Except.bind ((Reader.u1 : Decoder Nat) c pc) fun z => K z.1 c z.2) = _
  rw [hz_u1 h0]
  show K op c (pc + 1) = _
  rw [hi]
  show (Except.bind (Except.bind ((Reader.u1 : Decoder Nat) c (pc + 1)) fun z => .ok (Reader.signed 8 z.1, z.2)) fun z => .ok (f z.1, z.2)) = _
  rw [hz_u1 h1]
  show Except.ok (f (Reader.signed 8 b0), pc + 1 + 1) = _
  rw [e])
theorem dk_u2 {v : Nat} (f : Nat → Instr) (hK : Decoder.instr pc = (Reader.u1 >>= K)) (h0 : hz_at c pc op) (h1 : hz_at c (pc + 1) b0) (h2 : hz_at c (pc + 2) b1) (hi : K op = (Reader.u2 >>= fun x => Pure.pure (f x))) (e : b0 * 256 + b1 = v) : decode c pc = .ok (f v, 3) := hz_dk (by
  rw [hK]
  show (Except.bind ((Reader.u1 : Decoder Nat) c pc) fun z => K z.1 c z.2) = _
  rw [hz_u1 h0]
  show K op c (pc + 1) = _
  rw [hi]
  show (Except.bind (Except.bind ((Reader.u1 : Decoder Nat) c (pc + 1)) fun z => Except.bind ((Reader.u1 : Decoder Nat) c z.2) fun y => .ok (z.1 * 256 + y.1, y.2)) fun z => .ok (f z.1, z.2)) = _
  rw [hz_u1 h1]
  show (Except.bind (Except.bind ((Reader.u1 : Decoder Nat) c (pc + 2)) fun y => .ok (b0 * 256 + y.1, y.2)) fun z => .ok (f z.1, z.2)) = _
  rw [hz_u1 h2]
  show Except.ok (f (b0 * 256 + b1), pc + 2 + 1) = _
  rw [e])
theorem dk_s2 {v : Int} (f : Int → Instr) (hK : Decoder.instr pc = (Reader.u1 >>= K)) (h0 : hz_at c pc op) (h1 : hz_at c (pc + 1) b0) (h2 : hz_at c (pc + 2) b1) (hi : K op = (Reader.s2 >>= fun x => Pure.pure (f x))) (e : Reader.signed 16 (b0 * 256 + b1) = v) : decode c pc = .ok (f v, 3) := hz_dk (by
  rw [hK]
  show (Except.bind ((Reader.u1 : Decoder Nat) c pc) fun z => K z.1 c z.2) = _
  rw [hz_u1 h0]
  show K op c (pc + 1) = _
  rw [hi]
  show (Except.bind (Except.bind (Except.bind ((Reader.u1 : Decoder Nat) c (pc + 1)) fun z => Except.bind ((Reader.u1 : Decoder Nat) c z.2) fun y => .ok (z.1 * 256 + y.1, y.2)) fun z => .ok (Reader.signed 16 z.1, z.2)) fun z => .ok (f z.1, z.2)) = _
  rw [hz_u1 h1]
  show (Except.bind (Except.bind (Except.bind ((Reader.u1 : Decoder Nat) c (pc + 2)) fun y => .ok (b0 * 256 + y.1, y.2)) fun z => .ok (Reader.signed 16 z.1, z.2)) fun z => .ok (f z.1, z.2)) = _
  rw [hz_u1 h2]
  show Except.ok (f (Reader.signed 16 (b0 * 256 + b1)), pc + 2 + 1) = _
  rw [e])
theorem dk_ii {v : Int} (hK : Decoder.instr pc = (Reader.u1 >>= K)) (h0 : hz_at c pc op) (h1 : hz_at c (pc + 1) b0) (h2 : hz_at c (pc + 2) b1) (hi : K op = (Reader.u1 >>= fun a => Reader.s1 >>= fun x => Pure.pure (.iinc a x))) (e : Reader.signed 8 b1 = v) : decode c pc = .ok (.iinc b0 v, 3) := hz_dk (by
  rw [hK]
  show (Except.bind ((Reader.u1 : Decoder Nat) c pc) fun z => K z.1 c z.2) = _
  rw [hz_u1 h0]
  show K op c (pc + 1) = _
  rw [hi]
  show (Except.bind ((Reader.u1 : Decoder Nat) c (pc + 1)) fun z => Except.bind (Except.bind ((Reader.u1 : Decoder Nat) c z.2) fun y => .ok (Reader.signed 8 y.1, y.2)) fun y => .ok (Instr.iinc z.1 y.1, y.2)) = _
  rw [hz_u1 h1]
  show (Except.bind (Except.bind ((Reader.u1 : Decoder Nat) c (pc + 2)) fun y => .ok (Reader.signed 8 y.1, y.2)) fun y => .ok (Instr.iinc b0 y.1, y.2)) = _
  rw [hz_u1 h2]
  show Except.ok (Instr.iinc b0 (Reader.signed 8 b1), pc + 2 + 1) = _
  rw [e])
end HZDK
theorem dq_42 {c : ByteArray} {pc : Nat} (h0 : hz_at c pc 42) : decode c pc = .ok (.aload_n 0, 1) := dk_1 rfl h0 rfl
theorem dq_183 {c : ByteArray} {pc : Nat} {b0 b1 v : Nat} (h0 : hz_at c pc 183) (h1 : hz_at c (pc + 1) b0) (h2 : hz_at c (pc + 2) b1) (e : b0 * 256 + b1 = v) : decode c pc = .ok (.invokespecial v, 3) := dk_u2 (fun v => .invokespecial v) rfl h0 h1 h2 rfl e
theorem dq_16 {c : ByteArray} {pc : Nat} {b : Nat} {v : Int} (h0 : hz_at c pc 16) (h1 : hz_at c (pc + 1) b) (e : Reader.signed 8 b = v) : decode c pc = .ok (.bipush v, 2) := dk_s1 (fun v => .bipush v) rfl h0 h1 rfl e
theorem dq_181 {c : ByteArray} {pc : Nat} {b0 b1 v : Nat} (h0 : hz_at c pc 181) (h1 : hz_at c (pc + 1) b0) (h2 : hz_at c (pc + 2) b1) (e : b0 * 256 + b1 = v) : decode c pc = .ok (.putfield v, 3) := dk_u2 (fun v => .putfield v) rfl h0 h1 h2 rfl e
theorem dq_17 {c : ByteArray} {pc : Nat} {b0 b1 : Nat} {v : Int} (h0 : hz_at c pc 17) (h1 : hz_at c (pc + 1) b0) (h2 : hz_at c (pc + 2) b1) (e : Reader.signed 16 (b0 * 256 + b1) = v) : decode c pc = .ok (.sipush v, 3) := dk_s2 (fun v => .sipush v) rfl h0 h1 h2 rfl e
theorem dq_27 {c : ByteArray} {pc : Nat} (h0 : hz_at c pc 27) : decode c pc = .ok (.iload_n 1, 1) := dk_1 rfl h0 rfl
theorem dq_28 {c : ByteArray} {pc : Nat} (h0 : hz_at c pc 28) : decode c pc = .ok (.iload_n 2, 1) := dk_1 rfl h0 rfl
theorem dq_178 {c : ByteArray} {pc : Nat} {b0 b1 v : Nat} (h0 : hz_at c pc 178) (h1 : hz_at c (pc + 1) b0) (h2 : hz_at c (pc + 2) b1) (e : b0 * 256 + b1 = v) : decode c pc = .ok (.getstatic v, 3) := dk_u2 (fun v => .getstatic v) rfl h0 h1 h2 rfl e
theorem dq_3 {c : ByteArray} {pc : Nat} (h0 : hz_at c pc 3) : decode c pc = .ok (.iconst 0, 1) := dk_1 rfl h0 rfl
theorem dq_180 {c : ByteArray} {pc : Nat} {b0 b1 v : Nat} (h0 : hz_at c pc 180) (h1 : hz_at c (pc + 1) b0) (h2 : hz_at c (pc + 2) b1) (e : b0 * 256 + b1 = v) : decode c pc = .ok (.getfield v, 3) := dk_u2 (fun v => .getfield v) rfl h0 h1 h2 rfl e
theorem dq_184 {c : ByteArray} {pc : Nat} {b0 b1 v : Nat} (h0 : hz_at c pc 184) (h1 : hz_at c (pc + 1) b0) (h2 : hz_at c (pc + 2) b1) (e : b0 * 256 + b1 = v) : decode c pc = .ok (.invokestatic v, 3) := dk_u2 (fun v => .invokestatic v) rfl h0 h1 h2 rfl e
theorem dq_5 {c : ByteArray} {pc : Nat} (h0 : hz_at c pc 5) : decode c pc = .ok (.iconst 2, 1) := dk_1 rfl h0 rfl
theorem dq_4 {c : ByteArray} {pc : Nat} (h0 : hz_at c pc 4) : decode c pc = .ok (.iconst 1, 1) := dk_1 rfl h0 rfl
theorem dq_79 {c : ByteArray} {pc : Nat} (h0 : hz_at c pc 79) : decode c pc = .ok (.iastore, 1) := dk_1 rfl h0 rfl
theorem dq_2 {c : ByteArray} {pc : Nat} (h0 : hz_at c pc 2) : decode c pc = .ok (.iconst (-1), 1) := dk_1 rfl h0 rfl
theorem dq_6 {c : ByteArray} {pc : Nat} (h0 : hz_at c pc 6) : decode c pc = .ok (.iconst 3, 1) := dk_1 rfl h0 rfl
theorem dq_177 {c : ByteArray} {pc : Nat} (h0 : hz_at c pc 177) : decode c pc = .ok (.return_, 1) := dk_1 rfl h0 rfl
theorem dq_26 {c : ByteArray} {pc : Nat} (h0 : hz_at c pc 26) : decode c pc = .ok (.iload_n 0, 1) := dk_1 rfl h0 rfl
theorem dq_120 {c : ByteArray} {pc : Nat} (h0 : hz_at c pc 120) : decode c pc = .ok (.ishl, 1) := dk_1 rfl h0 rfl
theorem dq_128 {c : ByteArray} {pc : Nat} (h0 : hz_at c pc 128) : decode c pc = .ok (.ior, 1) := dk_1 rfl h0 rfl
theorem dq_153 {c : ByteArray} {pc : Nat} {b0 b1 : Nat} {v : Int} (h0 : hz_at c pc 153) (h1 : hz_at c (pc + 1) b0) (h2 : hz_at c (pc + 2) b1) (e : Reader.signed 16 (b0 * 256 + b1) = v) : decode c pc = .ok (.ifCond .eq v, 3) := dk_s2 (fun v => .ifCond .eq v) rfl h0 h1 h2 rfl e
theorem dq_167 {c : ByteArray} {pc : Nat} {b0 b1 : Nat} {v : Int} (h0 : hz_at c pc 167) (h1 : hz_at c (pc + 1) b0) (h2 : hz_at c (pc + 2) b1) (e : Reader.signed 16 (b0 * 256 + b1) = v) : decode c pc = .ok (.goto v, 3) := dk_s2 (fun v => .goto v) rfl h0 h1 h2 rfl e
theorem dq_29 {c : ByteArray} {pc : Nat} (h0 : hz_at c pc 29) : decode c pc = .ok (.iload_n 3, 1) := dk_1 rfl h0 rfl
theorem dq_172 {c : ByteArray} {pc : Nat} (h0 : hz_at c pc 172) : decode c pc = .ok (.ireturn, 1) := dk_1 rfl h0 rfl
theorem dq_162 {c : ByteArray} {pc : Nat} {b0 b1 : Nat} {v : Int} (h0 : hz_at c pc 162) (h1 : hz_at c (pc + 1) b0) (h2 : hz_at c (pc + 2) b1) (e : Reader.signed 16 (b0 * 256 + b1) = v) : decode c pc = .ok (.if_icmp .ge v, 3) := dk_s2 (fun v => .if_icmp .ge v) rfl h0 h1 h2 rfl e
theorem dq_89 {c : ByteArray} {pc : Nat} (h0 : hz_at c pc 89) : decode c pc = .ok (.dup, 1) := dk_1 rfl h0 rfl
theorem dq_96 {c : ByteArray} {pc : Nat} (h0 : hz_at c pc 96) : decode c pc = .ok (.iadd, 1) := dk_1 rfl h0 rfl
theorem dq_61 {c : ByteArray} {pc : Nat} (h0 : hz_at c pc 61) : decode c pc = .ok (.istore_n 2, 1) := dk_1 rfl h0 rfl
theorem dq_62 {c : ByteArray} {pc : Nat} (h0 : hz_at c pc 62) : decode c pc = .ok (.istore_n 3, 1) := dk_1 rfl h0 rfl
theorem dq_126 {c : ByteArray} {pc : Nat} (h0 : hz_at c pc 126) : decode c pc = .ok (.iand, 1) := dk_1 rfl h0 rfl
theorem dq_54 {c : ByteArray} {pc : Nat} {b : Nat} (h0 : hz_at c pc 54) (h1 : hz_at c (pc + 1) b) : decode c pc = .ok (.istore b, 2) := dk_b rfl h0 h1 rfl rfl
theorem dq_122 {c : ByteArray} {pc : Nat} (h0 : hz_at c pc 122) : decode c pc = .ok (.ishr, 1) := dk_1 rfl h0 rfl
theorem dq_46 {c : ByteArray} {pc : Nat} (h0 : hz_at c pc 46) : decode c pc = .ok (.iaload, 1) := dk_1 rfl h0 rfl
theorem dq_130 {c : ByteArray} {pc : Nat} (h0 : hz_at c pc 130) : decode c pc = .ok (.ixor, 1) := dk_1 rfl h0 rfl
theorem dq_21 {c : ByteArray} {pc : Nat} {b : Nat} (h0 : hz_at c pc 21) (h1 : hz_at c (pc + 1) b) : decode c pc = .ok (.iload b, 2) := dk_b rfl h0 h1 rfl rfl
theorem dq_43 {c : ByteArray} {pc : Nat} (h0 : hz_at c pc 43) : decode c pc = .ok (.aload_n 1, 1) := dk_1 rfl h0 rfl
theorem dq_132 {c : ByteArray} {pc : Nat} {b0 b1 : Nat} {v : Int} (h0 : hz_at c pc 132) (h1 : hz_at c (pc + 1) b0) (h2 : hz_at c (pc + 2) b1) (e : Reader.signed 8 b1 = v) : decode c pc = .ok (.iinc b0 v, 3) := dk_ii rfl h0 h1 h2 rfl e
theorem dq_160 {c : ByteArray} {pc : Nat} {b0 b1 : Nat} {v : Int} (h0 : hz_at c pc 160) (h1 : hz_at c (pc + 1) b0) (h2 : hz_at c (pc + 2) b1) (e : Reader.signed 16 (b0 * 256 + b1) = v) : decode c pc = .ok (.if_icmp .ne v, 3) := dk_s2 (fun v => .if_icmp .ne v) rfl h0 h1 h2 rfl e
theorem dq_7 {c : ByteArray} {pc : Nat} (h0 : hz_at c pc 7) : decode c pc = .ok (.iconst 4, 1) := dk_1 rfl h0 rfl
theorem dq_161 {c : ByteArray} {pc : Nat} {b0 b1 : Nat} {v : Int} (h0 : hz_at c pc 161) (h1 : hz_at c (pc + 1) b0) (h2 : hz_at c (pc + 2) b1) (e : Reader.signed 16 (b0 * 256 + b1) = v) : decode c pc = .ok (.if_icmp .lt v, 3) := dk_s2 (fun v => .if_icmp .lt v) rfl h0 h1 h2 rfl e
theorem dq_158 {c : ByteArray} {pc : Nat} {b0 b1 : Nat} {v : Int} (h0 : hz_at c pc 158) (h1 : hz_at c (pc + 1) b0) (h2 : hz_at c (pc + 2) b1) (e : Reader.signed 16 (b0 * 256 + b1) = v) : decode c pc = .ok (.ifCond .le v, 3) := dk_s2 (fun v => .ifCond .le v) rfl h0 h1 h2 rfl e
theorem dq_100 {c : ByteArray} {pc : Nat} (h0 : hz_at c pc 100) : decode c pc = .ok (.isub, 1) := dk_1 rfl h0 rfl
theorem dq_164 {c : ByteArray} {pc : Nat} {b0 b1 : Nat} {v : Int} (h0 : hz_at c pc 164) (h1 : hz_at c (pc + 1) b0) (h2 : hz_at c (pc + 2) b1) (e : Reader.signed 16 (b0 * 256 + b1) = v) : decode c pc = .ok (.if_icmp .le v, 3) := dk_s2 (fun v => .if_icmp .le v) rfl h0 h1 h2 rfl e
theorem dq_182 {c : ByteArray} {pc : Nat} {b0 b1 v : Nat} (h0 : hz_at c pc 182) (h1 : hz_at c (pc + 1) b0) (h2 : hz_at c (pc + 2) b1) (e : b0 * 256 + b1 = v) : decode c pc = .ok (.invokevirtual v, 3) := dk_u2 (fun v => .invokevirtual v) rfl h0 h1 h2 rfl e
theorem dq_116 {c : ByteArray} {pc : Nat} (h0 : hz_at c pc 116) : decode c pc = .ok (.ineg, 1) := dk_1 rfl h0 rfl
theorem dq_163 {c : ByteArray} {pc : Nat} {b0 b1 : Nat} {v : Int} (h0 : hz_at c pc 163) (h1 : hz_at c (pc + 1) b0) (h2 : hz_at c (pc + 2) b1) (e : Reader.signed 16 (b0 * 256 + b1) = v) : decode c pc = .ok (.if_icmp .gt v, 3) := dk_s2 (fun v => .if_icmp .gt v) rfl h0 h1 h2 rfl e
theorem dq_84 {c : ByteArray} {pc : Nat} (h0 : hz_at c pc 84) : decode c pc = .ok (.bastore, 1) := dk_1 rfl h0 rfl
theorem dq_51 {c : ByteArray} {pc : Nat} (h0 : hz_at c pc 51) : decode c pc = .ok (.baload, 1) := dk_1 rfl h0 rfl
theorem dq_154 {c : ByteArray} {pc : Nat} {b0 b1 : Nat} {v : Int} (h0 : hz_at c pc 154) (h1 : hz_at c (pc + 1) b0) (h2 : hz_at c (pc + 2) b1) (e : Reader.signed 16 (b0 * 256 + b1) = v) : decode c pc = .ok (.ifCond .ne v, 3) := dk_s2 (fun v => .ifCond .ne v) rfl h0 h1 h2 rfl e
theorem dq_44 {c : ByteArray} {pc : Nat} (h0 : hz_at c pc 44) : decode c pc = .ok (.aload_n 2, 1) := dk_1 rfl h0 rfl
theorem dq_45 {c : ByteArray} {pc : Nat} (h0 : hz_at c pc 45) : decode c pc = .ok (.aload_n 3, 1) := dk_1 rfl h0 rfl
theorem dq_25 {c : ByteArray} {pc : Nat} {b : Nat} (h0 : hz_at c pc 25) (h1 : hz_at c (pc + 1) b) : decode c pc = .ok (.aload b, 2) := dk_b rfl h0 h1 rfl rfl
theorem dq_159 {c : ByteArray} {pc : Nat} {b0 b1 : Nat} {v : Int} (h0 : hz_at c pc 159) (h1 : hz_at c (pc + 1) b0) (h2 : hz_at c (pc + 2) b1) (e : Reader.signed 16 (b0 * 256 + b1) = v) : decode c pc = .ok (.if_icmp .eq v, 3) := dk_s2 (fun v => .if_icmp .eq v) rfl h0 h1 h2 rfl e
theorem dq_104 {c : ByteArray} {pc : Nat} (h0 : hz_at c pc 104) : decode c pc = .ok (.imul, 1) := dk_1 rfl h0 rfl
theorem dq_8 {c : ByteArray} {pc : Nat} (h0 : hz_at c pc 8) : decode c pc = .ok (.iconst 5, 1) := dk_1 rfl h0 rfl
theorem dq_108 {c : ByteArray} {pc : Nat} (h0 : hz_at c pc 108) : decode c pc = .ok (.idiv, 1) := dk_1 rfl h0 rfl
theorem dq_18 {c : ByteArray} {pc : Nat} {b : Nat} (h0 : hz_at c pc 18) (h1 : hz_at c (pc + 1) b) : decode c pc = .ok (.ldc b, 2) := dk_b rfl h0 h1 rfl rfl
theorem dq_60 {c : ByteArray} {pc : Nat} (h0 : hz_at c pc 60) : decode c pc = .ok (.istore_n 1, 1) := dk_1 rfl h0 rfl
theorem dq_155 {c : ByteArray} {pc : Nat} {b0 b1 : Nat} {v : Int} (h0 : hz_at c pc 155) (h1 : hz_at c (pc + 1) b0) (h2 : hz_at c (pc + 2) b1) (e : Reader.signed 16 (b0 * 256 + b1) = v) : decode c pc = .ok (.ifCond .lt v, 3) := dk_s2 (fun v => .ifCond .lt v) rfl h0 h1 h2 rfl e
theorem dq_190 {c : ByteArray} {pc : Nat} (h0 : hz_at c pc 190) : decode c pc = .ok (.arraylength, 1) := dk_1 rfl h0 rfl
theorem dq_156 {c : ByteArray} {pc : Nat} {b0 b1 : Nat} {v : Int} (h0 : hz_at c pc 156) (h1 : hz_at c (pc + 1) b0) (h2 : hz_at c (pc + 2) b1) (e : Reader.signed 16 (b0 * 256 + b1) = v) : decode c pc = .ok (.ifCond .ge v, 3) := dk_s2 (fun v => .ifCond .ge v) rfl h0 h1 h2 rfl e
theorem dq_92 {c : ByteArray} {pc : Nat} (h0 : hz_at c pc 92) : decode c pc = .ok (.dup2, 1) := dk_1 rfl h0 rfl
theorem dq_189 {c : ByteArray} {pc : Nat} {b0 b1 v : Nat} (h0 : hz_at c pc 189) (h1 : hz_at c (pc + 1) b0) (h2 : hz_at c (pc + 2) b1) (e : b0 * 256 + b1 = v) : decode c pc = .ok (.anewarray v, 3) := dk_u2 (fun v => .anewarray v) rfl h0 h1 h2 rfl e
theorem dq_50 {c : ByteArray} {pc : Nat} (h0 : hz_at c pc 50) : decode c pc = .ok (.aaload, 1) := dk_1 rfl h0 rfl
theorem dq_166 {c : ByteArray} {pc : Nat} {b0 b1 : Nat} {v : Int} (h0 : hz_at c pc 166) (h1 : hz_at c (pc + 1) b0) (h2 : hz_at c (pc + 2) b1) (e : Reader.signed 16 (b0 * 256 + b1) = v) : decode c pc = .ok (.if_acmp .ne v, 3) := dk_s2 (fun v => .if_acmp .ne v) rfl h0 h1 h2 rfl e
theorem dq_83 {c : ByteArray} {pc : Nat} (h0 : hz_at c pc 83) : decode c pc = .ok (.aastore, 1) := dk_1 rfl h0 rfl
theorem dq_77 {c : ByteArray} {pc : Nat} (h0 : hz_at c pc 77) : decode c pc = .ok (.astore_n 2, 1) := dk_1 rfl h0 rfl
theorem dq_187 {c : ByteArray} {pc : Nat} {b0 b1 v : Nat} (h0 : hz_at c pc 187) (h1 : hz_at c (pc + 1) b0) (h2 : hz_at c (pc + 2) b1) (e : b0 * 256 + b1 = v) : decode c pc = .ok (.new v, 3) := dk_u2 (fun v => .new v) rfl h0 h1 h2 rfl e
theorem dq_145 {c : ByteArray} {pc : Nat} (h0 : hz_at c pc 145) : decode c pc = .ok (.i2b, 1) := dk_1 rfl h0 rfl
theorem dq_78 {c : ByteArray} {pc : Nat} (h0 : hz_at c pc 78) : decode c pc = .ok (.astore_n 3, 1) := dk_1 rfl h0 rfl
theorem dq_176 {c : ByteArray} {pc : Nat} (h0 : hz_at c pc 176) : decode c pc = .ok (.areturn, 1) := dk_1 rfl h0 rfl
theorem dq_58 {c : ByteArray} {pc : Nat} {b : Nat} (h0 : hz_at c pc 58) (h1 : hz_at c (pc + 1) b) : decode c pc = .ok (.astore b, 2) := dk_b rfl h0 h1 rfl rfl
theorem dq_198 {c : ByteArray} {pc : Nat} {b0 b1 : Nat} {v : Int} (h0 : hz_at c pc 198) (h1 : hz_at c (pc + 1) b0) (h2 : hz_at c (pc + 2) b1) (e : Reader.signed 16 (b0 * 256 + b1) = v) : decode c pc = .ok (.ifnull v, 3) := dk_s2 (fun v => .ifnull v) rfl h0 h1 h2 rfl e
theorem dq_112 {c : ByteArray} {pc : Nat} (h0 : hz_at c pc 112) : decode c pc = .ok (.irem, 1) := dk_1 rfl h0 rfl
theorem dq_199 {c : ByteArray} {pc : Nat} {b0 b1 : Nat} {v : Int} (h0 : hz_at c pc 199) (h1 : hz_at c (pc + 1) b0) (h2 : hz_at c (pc + 2) b1) (e : Reader.signed 16 (b0 * 256 + b1) = v) : decode c pc = .ok (.ifnonnull v, 3) := dk_s2 (fun v => .ifnonnull v) rfl h0 h1 h2 rfl e
theorem dq_87 {c : ByteArray} {pc : Nat} (h0 : hz_at c pc 87) : decode c pc = .ok (.pop, 1) := dk_1 rfl h0 rfl
theorem dq_9 {c : ByteArray} {pc : Nat} (h0 : hz_at c pc 9) : decode c pc = .ok (.lconst 0, 1) := dk_1 rfl h0 rfl
theorem dq_65 {c : ByteArray} {pc : Nat} (h0 : hz_at c pc 65) : decode c pc = .ok (.lstore_n 2, 1) := dk_1 rfl h0 rfl
theorem dq_10 {c : ByteArray} {pc : Nat} (h0 : hz_at c pc 10) : decode c pc = .ok (.lconst 1, 1) := dk_1 rfl h0 rfl
theorem dq_55 {c : ByteArray} {pc : Nat} {b : Nat} (h0 : hz_at c pc 55) (h1 : hz_at c (pc + 1) b) : decode c pc = .ok (.lstore b, 2) := dk_b rfl h0 h1 rfl rfl
theorem dq_32 {c : ByteArray} {pc : Nat} (h0 : hz_at c pc 32) : decode c pc = .ok (.lload_n 2, 1) := dk_1 rfl h0 rfl
theorem dq_22 {c : ByteArray} {pc : Nat} {b : Nat} (h0 : hz_at c pc 22) (h1 : hz_at c (pc + 1) b) : decode c pc = .ok (.lload b, 2) := dk_b rfl h0 h1 rfl rfl
theorem dq_97 {c : ByteArray} {pc : Nat} (h0 : hz_at c pc 97) : decode c pc = .ok (.ladd, 1) := dk_1 rfl h0 rfl
theorem dq_133 {c : ByteArray} {pc : Nat} (h0 : hz_at c pc 133) : decode c pc = .ok (.i2l, 1) := dk_1 rfl h0 rfl
theorem dq_105 {c : ByteArray} {pc : Nat} (h0 : hz_at c pc 105) : decode c pc = .ok (.lmul, 1) := dk_1 rfl h0 rfl
theorem dq_109 {c : ByteArray} {pc : Nat} (h0 : hz_at c pc 109) : decode c pc = .ok (.ldiv, 1) := dk_1 rfl h0 rfl
theorem dq_121 {c : ByteArray} {pc : Nat} (h0 : hz_at c pc 121) : decode c pc = .ok (.lshl, 1) := dk_1 rfl h0 rfl
theorem dq_20 {c : ByteArray} {pc : Nat} {b0 b1 v : Nat} (h0 : hz_at c pc 20) (h1 : hz_at c (pc + 1) b0) (h2 : hz_at c (pc + 2) b1) (e : b0 * 256 + b1 = v) : decode c pc = .ok (.ldc2_w v, 3) := dk_u2 (fun v => .ldc2_w v) rfl h0 h1 h2 rfl e
theorem dq_148 {c : ByteArray} {pc : Nat} (h0 : hz_at c pc 148) : decode c pc = .ok (.lcmp, 1) := dk_1 rfl h0 rfl
theorem dq_157 {c : ByteArray} {pc : Nat} {b0 b1 : Nat} {v : Int} (h0 : hz_at c pc 157) (h1 : hz_at c (pc + 1) b0) (h2 : hz_at c (pc + 2) b1) (e : Reader.signed 16 (b0 * 256 + b1) = v) : decode c pc = .ok (.ifCond .gt v, 3) := dk_s2 (fun v => .ifCond .gt v) rfl h0 h1 h2 rfl e
theorem dq_19 {c : ByteArray} {pc : Nat} {b0 b1 v : Nat} (h0 : hz_at c pc 19) (h1 : hz_at c (pc + 1) b0) (h2 : hz_at c (pc + 2) b1) (e : b0 * 256 + b1 = v) : decode c pc = .ok (.ldc_w v, 3) := dk_u2 (fun v => .ldc_w v) rfl h0 h1 h2 rfl e
theorem dq_80 {c : ByteArray} {pc : Nat} (h0 : hz_at c pc 80) : decode c pc = .ok (.lastore, 1) := dk_1 rfl h0 rfl
theorem dq_47 {c : ByteArray} {pc : Nat} (h0 : hz_at c pc 47) : decode c pc = .ok (.laload, 1) := dk_1 rfl h0 rfl
theorem dq_66 {c : ByteArray} {pc : Nat} (h0 : hz_at c pc 66) : decode c pc = .ok (.lstore_n 3, 1) := dk_1 rfl h0 rfl
theorem dq_33 {c : ByteArray} {pc : Nat} (h0 : hz_at c pc 33) : decode c pc = .ok (.lload_n 3, 1) := dk_1 rfl h0 rfl
theorem dq_76 {c : ByteArray} {pc : Nat} (h0 : hz_at c pc 76) : decode c pc = .ok (.astore_n 1, 1) := dk_1 rfl h0 rfl
/-! THE BYTES AS A NUMBER -/
/-! A CODE'S BYTES as one number: byte p is N / 256 ^ p % 256 -/
def hz_N : List Nat → Nat
  | [] => 0
  | b :: l => b + 256 * hz_N l
def hz_cd (c : ByteArray) (N len : Nat) : Prop := c.data.toList.length = len ∧ hz_N (c.data.toList.map UInt8.toNat) = N
theorem hz_Ng : ∀ (l : List Nat) (p : Nat), (∀ b ∈ l, b < 256) → hz_N l / 256 ^ p = hz_N (l.drop p)
  | l, 0, _ => by rw [Nat.pow_zero, Nat.div_one]; rfl
  | [], p + 1, _ => by rw [List.drop_nil]; show 0 / _ = 0; exact Nat.zero_div _
  | b :: l, p + 1, h => by
    have hb : b < 256 := h b (List.mem_cons_self ..)
    have e : hz_N (b :: l) / 256 = hz_N l := by show (b + 256 * hz_N l) / 256 = _; omega
    rw [Nat.pow_succ, Nat.mul_comm, ← Nat.div_div_eq_div_mul, e]
    exact hz_Ng l p (fun x hx => h x (List.mem_cons_of_mem _ hx))
theorem hz_Nm : ∀ (l : List Nat), (∀ b ∈ l, b < 256) → 0 < l.length → l[0]? = some (hz_N l % 256)
  | [], _, h => absurd h (Nat.lt_irrefl 0)
  | b :: l, h, _ => by
    have hb : b < 256 := h b (List.mem_cons_self ..)
    show some b = some ((b + 256 * hz_N l) % 256)
    rw [show (b + 256 * hz_N l) % 256 = b by omega]
theorem hz_Nb {c : ByteArray} {N len p n : Nat} (w : hz_cd c N len) (hp : p < len) (e : N / 256 ^ p % 256 = n) : hz_at c p n := by
  obtain ⟨w1, w2⟩ := w
  have hl : ∀ b ∈ c.data.toList.map UInt8.toNat, b < 256 := fun b hb => by
    obtain ⟨x, _, rfl⟩ := List.mem_map.mp hb
    exact x.toNat_lt
  have e2 : (c.data.toList.map UInt8.toNat)[p]? = some n := by
    have h1 := hz_Nm ((c.data.toList.map UInt8.toNat).drop p) (fun b hb => hl b (List.mem_of_mem_drop hb)) (by rw [List.length_drop, List.length_map]; omega)
    rw [List.getElem?_drop, ← hz_Ng _ _ hl, w2, e] at h1
    exact h1
  rw [List.getElem?_map, Option.map_eq_some_iff] at e2
  obtain ⟨b, e3, e4⟩ := e2
  rw [Array.getElem?_toList] at e3
  obtain ⟨h5, h6⟩ := Array.getElem?_eq_some_iff.mp e3
  exact ⟨h5, by rw [← e4, ← h6]; rfl⟩
def hz_t (N len p n k v : Nat) : Bool := and (Nat.ble (Nat.add p n) len) (Nat.beq (Nat.mod (Nat.shiftRight N (Nat.mul 8 p)) k) v)
theorem hz_tp {N len p n k v : Nat} (h : hz_t N len p n k v = true) : p + n ≤ len ∧ N / 256 ^ p % k = v := by
  unfold hz_t at h
  rw [Bool.and_eq_true] at h
  refine ⟨Nat.le_of_ble_eq_true h.1, ?_⟩
  have h2 := Nat.eq_of_beq_eq_true h.2
  rw [← h2]
  show N / 256 ^ p % k = (N >>> (8 * p)) % k
  rw [Nat.shiftRight_eq_div_pow, Nat.pow_mul]
theorem hz_T1 {c : ByteArray} {N len p a : Nat} (w : hz_cd c N len) (h : hz_t N len p 1 256 a = true) : hz_at c p a := by
  obtain ⟨h1, h2⟩ := hz_tp h
  exact hz_Nb w (by omega) h2
theorem hz_pd (N p k : Nat) : N / 256 ^ (p + k) = N / 256 ^ p / 256 ^ k := by rw [Nat.pow_add, Nat.div_div_eq_div_mul]
theorem hz_T2 {c : ByteArray} {N len p v : Nat} (w : hz_cd c N len) (h : hz_t N len p 2 65536 v = true) : hz_at c p (v % 256) ∧ hz_at c (p + 1) (v / 256) := by
  obtain ⟨h1, h2⟩ := hz_tp h
  refine ⟨hz_Nb w (by omega) (by omega), hz_Nb w (by omega) ?_⟩
  rw [hz_pd, Nat.pow_one]; omega
theorem hz_T3 {c : ByteArray} {N len p v : Nat} (w : hz_cd c N len) (h : hz_t N len p 3 16777216 v = true) : hz_at c p (v % 256) ∧ hz_at c (p + 1) (v / 256 % 256) ∧ hz_at c (p + 2) (v / 65536) := by
  obtain ⟨h1, h2⟩ := hz_tp h
  refine ⟨hz_Nb w (by omega) (by omega), hz_Nb w (by omega) ?_, hz_Nb w (by omega) ?_⟩
  · rw [hz_pd, Nat.pow_one]; omega
  · rw [hz_pd, show (256 : Nat) ^ 2 = 65536 from rfl]; omega
theorem hz_W1 {c : ByteArray} {N len p a : Nat} (w : hz_cd c N len) (h : hz_t N len p 1 256 a = true) : hz_at c p a := hz_T1 w h
def hz_t2 (N len p a b : Nat) : Bool := and (Nat.ble a 255) (hz_t N len p 2 65536 (Nat.add a (Nat.mul 256 b)))
def hz_t3 (N len p a b0 b1 : Nat) : Bool := and (Nat.ble a 255) (and (Nat.ble b0 255) (hz_t N len p 3 16777216 (Nat.add a (Nat.add (Nat.mul 256 b0) (Nat.mul 65536 b1)))))
theorem hz_W2 {c : ByteArray} {N len p a b : Nat} (w : hz_cd c N len) (h : hz_t2 N len p a b = true) : hz_at c p a ∧ hz_at c (p + 1) b := by
  unfold hz_t2 at h
  rw [Bool.and_eq_true] at h
  have h1 := Nat.le_of_ble_eq_true h.1
  obtain ⟨h2, h3⟩ := hz_T2 w h.2
  have e1 : (Nat.add a (Nat.mul 256 b)) % 256 = a := by show (a + 256 * b) % 256 = a; omega
  have e2 : (Nat.add a (Nat.mul 256 b)) / 256 = b := by show (a + 256 * b) / 256 = b; omega
  rw [e1] at h2; rw [e2] at h3
  exact ⟨h2, h3⟩
theorem hz_W3 {c : ByteArray} {N len p a b0 b1 : Nat} (w : hz_cd c N len) (h : hz_t3 N len p a b0 b1 = true) : hz_at c p a ∧ hz_at c (p + 1) b0 ∧ hz_at c (p + 2) b1 := by
  unfold hz_t3 at h
  rw [Bool.and_eq_true, Bool.and_eq_true] at h
  have h1 := Nat.le_of_ble_eq_true h.1
  have h0 := Nat.le_of_ble_eq_true h.2.1
  obtain ⟨h2, h3, h4⟩ := hz_T3 w h.2.2
  have e0 : Nat.add a (Nat.add (Nat.mul 256 b0) (Nat.mul 65536 b1)) = a + (256 * b0 + 65536 * b1) := rfl
  rw [e0] at h2 h3 h4
  rw [show (a + (256 * b0 + 65536 * b1)) % 256 = a by omega] at h2
  rw [show (a + (256 * b0 + 65536 * b1)) / 256 % 256 = b0 by omega] at h3
  rw [show (a + (256 * b0 + 65536 * b1)) / 65536 = b1 by omega] at h4
  exact ⟨h2, h3, h4⟩
theorem hz_s8 {b : Nat} {v : Int} (h : Nat.ble b 127 = true) (e : Int.ofNat b = v) : Reader.signed 8 b = v := by
  have h1 := Nat.le_of_ble_eq_true h
  rw [← e]; unfold Reader.signed; rw [if_pos (by show b < 2 ^ 7; omega)]; rfl
theorem hz_s16 {b0 b1 : Nat} {v : Int} (h : Nat.ble (Nat.add (Nat.mul b0 256) b1) 32767 = true) (e : Int.ofNat (Nat.add (Nat.mul b0 256) b1) = v) : Reader.signed 16 (b0 * 256 + b1) = v := by
  have h1 : b0 * 256 + b1 ≤ 32767 := Nat.le_of_ble_eq_true h
  rw [← e]; unfold Reader.signed; rw [if_pos (by show b0 * 256 + b1 < 2 ^ 15; omega)]; rfl
theorem dw_2 {c : ByteArray} {N len pc : Nat} (w : hz_cd c N len) (h : hz_t N len pc 1 256 2 = true) : decode c pc = .ok (.iconst (-1), 1) := dq_2 (hz_W1 w h)
theorem dw_3 {c : ByteArray} {N len pc : Nat} (w : hz_cd c N len) (h : hz_t N len pc 1 256 3 = true) : decode c pc = .ok (.iconst 0, 1) := dq_3 (hz_W1 w h)
theorem dw_4 {c : ByteArray} {N len pc : Nat} (w : hz_cd c N len) (h : hz_t N len pc 1 256 4 = true) : decode c pc = .ok (.iconst 1, 1) := dq_4 (hz_W1 w h)
theorem dw_5 {c : ByteArray} {N len pc : Nat} (w : hz_cd c N len) (h : hz_t N len pc 1 256 5 = true) : decode c pc = .ok (.iconst 2, 1) := dq_5 (hz_W1 w h)
theorem dw_6 {c : ByteArray} {N len pc : Nat} (w : hz_cd c N len) (h : hz_t N len pc 1 256 6 = true) : decode c pc = .ok (.iconst 3, 1) := dq_6 (hz_W1 w h)
theorem dw_7 {c : ByteArray} {N len pc : Nat} (w : hz_cd c N len) (h : hz_t N len pc 1 256 7 = true) : decode c pc = .ok (.iconst 4, 1) := dq_7 (hz_W1 w h)
theorem dw_8 {c : ByteArray} {N len pc : Nat} (w : hz_cd c N len) (h : hz_t N len pc 1 256 8 = true) : decode c pc = .ok (.iconst 5, 1) := dq_8 (hz_W1 w h)
theorem dw_9 {c : ByteArray} {N len pc : Nat} (w : hz_cd c N len) (h : hz_t N len pc 1 256 9 = true) : decode c pc = .ok (.lconst 0, 1) := dq_9 (hz_W1 w h)
theorem dw_10 {c : ByteArray} {N len pc : Nat} (w : hz_cd c N len) (h : hz_t N len pc 1 256 10 = true) : decode c pc = .ok (.lconst 1, 1) := dq_10 (hz_W1 w h)
theorem dw_16 {c : ByteArray} {N len pc : Nat} {v : Int} (w : hz_cd c N len) (b : Nat) (h : hz_t2 N len pc 16 b = true) (h9 : Nat.ble b 127 = true) (e : Int.ofNat b = v) : decode c pc = .ok (.bipush v, 2) := dq_16 (hz_W2 w h).1 (hz_W2 w h).2 (hz_s8 h9 e)
theorem dn_16 {c : ByteArray} {N len pc : Nat} {v : Int} (w : hz_cd c N len) (b : Nat) (h : hz_t2 N len pc 16 b = true) (e : Reader.signed 8 b = v) : decode c pc = .ok (.bipush v, 2) := dq_16 (hz_W2 w h).1 (hz_W2 w h).2 e
theorem dw_17 {c : ByteArray} {N len pc : Nat} {v : Int} (w : hz_cd c N len) (b0 b1 : Nat) (h : hz_t3 N len pc 17 b0 b1 = true) (h9 : Nat.ble (Nat.add (Nat.mul b0 256) b1) 32767 = true) (e : Int.ofNat (Nat.add (Nat.mul b0 256) b1) = v) : decode c pc = .ok (.sipush v, 3) := dq_17 (hz_W3 w h).1 (hz_W3 w h).2.1 (hz_W3 w h).2.2 (hz_s16 h9 e)
theorem dn_17 {c : ByteArray} {N len pc : Nat} {v : Int} (w : hz_cd c N len) (b0 b1 : Nat) (h : hz_t3 N len pc 17 b0 b1 = true) (e : Reader.signed 16 (b0 * 256 + b1) = v) : decode c pc = .ok (.sipush v, 3) := dq_17 (hz_W3 w h).1 (hz_W3 w h).2.1 (hz_W3 w h).2.2 e
theorem dw_18 {c : ByteArray} {N len pc : Nat} (w : hz_cd c N len) (b : Nat) (h : hz_t2 N len pc 18 b = true) : decode c pc = .ok (.ldc b, 2) := dq_18 (hz_W2 w h).1 (hz_W2 w h).2
theorem dw_19 {c : ByteArray} {N len pc : Nat} {v : Nat} (w : hz_cd c N len) (b0 b1 : Nat) (h : hz_t3 N len pc 19 b0 b1 = true) (e : Nat.add (Nat.mul b0 256) b1 = v) : decode c pc = .ok (.ldc_w v, 3) := dq_19 (hz_W3 w h).1 (hz_W3 w h).2.1 (hz_W3 w h).2.2 e
theorem dw_20 {c : ByteArray} {N len pc : Nat} {v : Nat} (w : hz_cd c N len) (b0 b1 : Nat) (h : hz_t3 N len pc 20 b0 b1 = true) (e : Nat.add (Nat.mul b0 256) b1 = v) : decode c pc = .ok (.ldc2_w v, 3) := dq_20 (hz_W3 w h).1 (hz_W3 w h).2.1 (hz_W3 w h).2.2 e
theorem dw_21 {c : ByteArray} {N len pc : Nat} (w : hz_cd c N len) (b : Nat) (h : hz_t2 N len pc 21 b = true) : decode c pc = .ok (.iload b, 2) := dq_21 (hz_W2 w h).1 (hz_W2 w h).2
theorem dw_22 {c : ByteArray} {N len pc : Nat} (w : hz_cd c N len) (b : Nat) (h : hz_t2 N len pc 22 b = true) : decode c pc = .ok (.lload b, 2) := dq_22 (hz_W2 w h).1 (hz_W2 w h).2
theorem dw_25 {c : ByteArray} {N len pc : Nat} (w : hz_cd c N len) (b : Nat) (h : hz_t2 N len pc 25 b = true) : decode c pc = .ok (.aload b, 2) := dq_25 (hz_W2 w h).1 (hz_W2 w h).2
theorem dw_26 {c : ByteArray} {N len pc : Nat} (w : hz_cd c N len) (h : hz_t N len pc 1 256 26 = true) : decode c pc = .ok (.iload_n 0, 1) := dq_26 (hz_W1 w h)
theorem dw_27 {c : ByteArray} {N len pc : Nat} (w : hz_cd c N len) (h : hz_t N len pc 1 256 27 = true) : decode c pc = .ok (.iload_n 1, 1) := dq_27 (hz_W1 w h)
theorem dw_28 {c : ByteArray} {N len pc : Nat} (w : hz_cd c N len) (h : hz_t N len pc 1 256 28 = true) : decode c pc = .ok (.iload_n 2, 1) := dq_28 (hz_W1 w h)
theorem dw_29 {c : ByteArray} {N len pc : Nat} (w : hz_cd c N len) (h : hz_t N len pc 1 256 29 = true) : decode c pc = .ok (.iload_n 3, 1) := dq_29 (hz_W1 w h)
theorem dw_32 {c : ByteArray} {N len pc : Nat} (w : hz_cd c N len) (h : hz_t N len pc 1 256 32 = true) : decode c pc = .ok (.lload_n 2, 1) := dq_32 (hz_W1 w h)
theorem dw_33 {c : ByteArray} {N len pc : Nat} (w : hz_cd c N len) (h : hz_t N len pc 1 256 33 = true) : decode c pc = .ok (.lload_n 3, 1) := dq_33 (hz_W1 w h)
theorem dw_42 {c : ByteArray} {N len pc : Nat} (w : hz_cd c N len) (h : hz_t N len pc 1 256 42 = true) : decode c pc = .ok (.aload_n 0, 1) := dq_42 (hz_W1 w h)
theorem dw_43 {c : ByteArray} {N len pc : Nat} (w : hz_cd c N len) (h : hz_t N len pc 1 256 43 = true) : decode c pc = .ok (.aload_n 1, 1) := dq_43 (hz_W1 w h)
theorem dw_44 {c : ByteArray} {N len pc : Nat} (w : hz_cd c N len) (h : hz_t N len pc 1 256 44 = true) : decode c pc = .ok (.aload_n 2, 1) := dq_44 (hz_W1 w h)
theorem dw_45 {c : ByteArray} {N len pc : Nat} (w : hz_cd c N len) (h : hz_t N len pc 1 256 45 = true) : decode c pc = .ok (.aload_n 3, 1) := dq_45 (hz_W1 w h)
theorem dw_46 {c : ByteArray} {N len pc : Nat} (w : hz_cd c N len) (h : hz_t N len pc 1 256 46 = true) : decode c pc = .ok (.iaload, 1) := dq_46 (hz_W1 w h)
theorem dw_47 {c : ByteArray} {N len pc : Nat} (w : hz_cd c N len) (h : hz_t N len pc 1 256 47 = true) : decode c pc = .ok (.laload, 1) := dq_47 (hz_W1 w h)
theorem dw_50 {c : ByteArray} {N len pc : Nat} (w : hz_cd c N len) (h : hz_t N len pc 1 256 50 = true) : decode c pc = .ok (.aaload, 1) := dq_50 (hz_W1 w h)
theorem dw_51 {c : ByteArray} {N len pc : Nat} (w : hz_cd c N len) (h : hz_t N len pc 1 256 51 = true) : decode c pc = .ok (.baload, 1) := dq_51 (hz_W1 w h)
theorem dw_54 {c : ByteArray} {N len pc : Nat} (w : hz_cd c N len) (b : Nat) (h : hz_t2 N len pc 54 b = true) : decode c pc = .ok (.istore b, 2) := dq_54 (hz_W2 w h).1 (hz_W2 w h).2
theorem dw_55 {c : ByteArray} {N len pc : Nat} (w : hz_cd c N len) (b : Nat) (h : hz_t2 N len pc 55 b = true) : decode c pc = .ok (.lstore b, 2) := dq_55 (hz_W2 w h).1 (hz_W2 w h).2
theorem dw_58 {c : ByteArray} {N len pc : Nat} (w : hz_cd c N len) (b : Nat) (h : hz_t2 N len pc 58 b = true) : decode c pc = .ok (.astore b, 2) := dq_58 (hz_W2 w h).1 (hz_W2 w h).2
theorem dw_60 {c : ByteArray} {N len pc : Nat} (w : hz_cd c N len) (h : hz_t N len pc 1 256 60 = true) : decode c pc = .ok (.istore_n 1, 1) := dq_60 (hz_W1 w h)
theorem dw_61 {c : ByteArray} {N len pc : Nat} (w : hz_cd c N len) (h : hz_t N len pc 1 256 61 = true) : decode c pc = .ok (.istore_n 2, 1) := dq_61 (hz_W1 w h)
theorem dw_62 {c : ByteArray} {N len pc : Nat} (w : hz_cd c N len) (h : hz_t N len pc 1 256 62 = true) : decode c pc = .ok (.istore_n 3, 1) := dq_62 (hz_W1 w h)
theorem dw_65 {c : ByteArray} {N len pc : Nat} (w : hz_cd c N len) (h : hz_t N len pc 1 256 65 = true) : decode c pc = .ok (.lstore_n 2, 1) := dq_65 (hz_W1 w h)
theorem dw_66 {c : ByteArray} {N len pc : Nat} (w : hz_cd c N len) (h : hz_t N len pc 1 256 66 = true) : decode c pc = .ok (.lstore_n 3, 1) := dq_66 (hz_W1 w h)
theorem dw_76 {c : ByteArray} {N len pc : Nat} (w : hz_cd c N len) (h : hz_t N len pc 1 256 76 = true) : decode c pc = .ok (.astore_n 1, 1) := dq_76 (hz_W1 w h)
theorem dw_77 {c : ByteArray} {N len pc : Nat} (w : hz_cd c N len) (h : hz_t N len pc 1 256 77 = true) : decode c pc = .ok (.astore_n 2, 1) := dq_77 (hz_W1 w h)
theorem dw_78 {c : ByteArray} {N len pc : Nat} (w : hz_cd c N len) (h : hz_t N len pc 1 256 78 = true) : decode c pc = .ok (.astore_n 3, 1) := dq_78 (hz_W1 w h)
theorem dw_79 {c : ByteArray} {N len pc : Nat} (w : hz_cd c N len) (h : hz_t N len pc 1 256 79 = true) : decode c pc = .ok (.iastore, 1) := dq_79 (hz_W1 w h)
theorem dw_80 {c : ByteArray} {N len pc : Nat} (w : hz_cd c N len) (h : hz_t N len pc 1 256 80 = true) : decode c pc = .ok (.lastore, 1) := dq_80 (hz_W1 w h)
theorem dw_83 {c : ByteArray} {N len pc : Nat} (w : hz_cd c N len) (h : hz_t N len pc 1 256 83 = true) : decode c pc = .ok (.aastore, 1) := dq_83 (hz_W1 w h)
theorem dw_84 {c : ByteArray} {N len pc : Nat} (w : hz_cd c N len) (h : hz_t N len pc 1 256 84 = true) : decode c pc = .ok (.bastore, 1) := dq_84 (hz_W1 w h)
theorem dw_87 {c : ByteArray} {N len pc : Nat} (w : hz_cd c N len) (h : hz_t N len pc 1 256 87 = true) : decode c pc = .ok (.pop, 1) := dq_87 (hz_W1 w h)
theorem dw_89 {c : ByteArray} {N len pc : Nat} (w : hz_cd c N len) (h : hz_t N len pc 1 256 89 = true) : decode c pc = .ok (.dup, 1) := dq_89 (hz_W1 w h)
theorem dw_92 {c : ByteArray} {N len pc : Nat} (w : hz_cd c N len) (h : hz_t N len pc 1 256 92 = true) : decode c pc = .ok (.dup2, 1) := dq_92 (hz_W1 w h)
theorem dw_96 {c : ByteArray} {N len pc : Nat} (w : hz_cd c N len) (h : hz_t N len pc 1 256 96 = true) : decode c pc = .ok (.iadd, 1) := dq_96 (hz_W1 w h)
theorem dw_97 {c : ByteArray} {N len pc : Nat} (w : hz_cd c N len) (h : hz_t N len pc 1 256 97 = true) : decode c pc = .ok (.ladd, 1) := dq_97 (hz_W1 w h)
theorem dw_100 {c : ByteArray} {N len pc : Nat} (w : hz_cd c N len) (h : hz_t N len pc 1 256 100 = true) : decode c pc = .ok (.isub, 1) := dq_100 (hz_W1 w h)
theorem dw_104 {c : ByteArray} {N len pc : Nat} (w : hz_cd c N len) (h : hz_t N len pc 1 256 104 = true) : decode c pc = .ok (.imul, 1) := dq_104 (hz_W1 w h)
theorem dw_105 {c : ByteArray} {N len pc : Nat} (w : hz_cd c N len) (h : hz_t N len pc 1 256 105 = true) : decode c pc = .ok (.lmul, 1) := dq_105 (hz_W1 w h)
theorem dw_108 {c : ByteArray} {N len pc : Nat} (w : hz_cd c N len) (h : hz_t N len pc 1 256 108 = true) : decode c pc = .ok (.idiv, 1) := dq_108 (hz_W1 w h)
theorem dw_109 {c : ByteArray} {N len pc : Nat} (w : hz_cd c N len) (h : hz_t N len pc 1 256 109 = true) : decode c pc = .ok (.ldiv, 1) := dq_109 (hz_W1 w h)
theorem dw_112 {c : ByteArray} {N len pc : Nat} (w : hz_cd c N len) (h : hz_t N len pc 1 256 112 = true) : decode c pc = .ok (.irem, 1) := dq_112 (hz_W1 w h)
theorem dw_116 {c : ByteArray} {N len pc : Nat} (w : hz_cd c N len) (h : hz_t N len pc 1 256 116 = true) : decode c pc = .ok (.ineg, 1) := dq_116 (hz_W1 w h)
theorem dw_120 {c : ByteArray} {N len pc : Nat} (w : hz_cd c N len) (h : hz_t N len pc 1 256 120 = true) : decode c pc = .ok (.ishl, 1) := dq_120 (hz_W1 w h)
theorem dw_121 {c : ByteArray} {N len pc : Nat} (w : hz_cd c N len) (h : hz_t N len pc 1 256 121 = true) : decode c pc = .ok (.lshl, 1) := dq_121 (hz_W1 w h)
theorem dw_122 {c : ByteArray} {N len pc : Nat} (w : hz_cd c N len) (h : hz_t N len pc 1 256 122 = true) : decode c pc = .ok (.ishr, 1) := dq_122 (hz_W1 w h)
theorem dw_126 {c : ByteArray} {N len pc : Nat} (w : hz_cd c N len) (h : hz_t N len pc 1 256 126 = true) : decode c pc = .ok (.iand, 1) := dq_126 (hz_W1 w h)
theorem dw_128 {c : ByteArray} {N len pc : Nat} (w : hz_cd c N len) (h : hz_t N len pc 1 256 128 = true) : decode c pc = .ok (.ior, 1) := dq_128 (hz_W1 w h)
theorem dw_130 {c : ByteArray} {N len pc : Nat} (w : hz_cd c N len) (h : hz_t N len pc 1 256 130 = true) : decode c pc = .ok (.ixor, 1) := dq_130 (hz_W1 w h)
theorem dw_132 {c : ByteArray} {N len pc : Nat} {v : Int} (w : hz_cd c N len) (b0 b1 : Nat) (h : hz_t3 N len pc 132 b0 b1 = true) (h9 : Nat.ble b1 127 = true) (e : Int.ofNat b1 = v) : decode c pc = .ok (.iinc b0 v, 3) := dq_132 (hz_W3 w h).1 (hz_W3 w h).2.1 (hz_W3 w h).2.2 (hz_s8 h9 e)
theorem dn_132 {c : ByteArray} {N len pc : Nat} {v : Int} (w : hz_cd c N len) (b0 b1 : Nat) (h : hz_t3 N len pc 132 b0 b1 = true) (e : Reader.signed 8 b1 = v) : decode c pc = .ok (.iinc b0 v, 3) := dq_132 (hz_W3 w h).1 (hz_W3 w h).2.1 (hz_W3 w h).2.2 e
theorem dw_133 {c : ByteArray} {N len pc : Nat} (w : hz_cd c N len) (h : hz_t N len pc 1 256 133 = true) : decode c pc = .ok (.i2l, 1) := dq_133 (hz_W1 w h)
theorem dw_145 {c : ByteArray} {N len pc : Nat} (w : hz_cd c N len) (h : hz_t N len pc 1 256 145 = true) : decode c pc = .ok (.i2b, 1) := dq_145 (hz_W1 w h)
theorem dw_148 {c : ByteArray} {N len pc : Nat} (w : hz_cd c N len) (h : hz_t N len pc 1 256 148 = true) : decode c pc = .ok (.lcmp, 1) := dq_148 (hz_W1 w h)
theorem dw_153 {c : ByteArray} {N len pc : Nat} {v : Int} (w : hz_cd c N len) (b0 b1 : Nat) (h : hz_t3 N len pc 153 b0 b1 = true) (h9 : Nat.ble (Nat.add (Nat.mul b0 256) b1) 32767 = true) (e : Int.ofNat (Nat.add (Nat.mul b0 256) b1) = v) : decode c pc = .ok (.ifCond .eq v, 3) := dq_153 (hz_W3 w h).1 (hz_W3 w h).2.1 (hz_W3 w h).2.2 (hz_s16 h9 e)
theorem dn_153 {c : ByteArray} {N len pc : Nat} {v : Int} (w : hz_cd c N len) (b0 b1 : Nat) (h : hz_t3 N len pc 153 b0 b1 = true) (e : Reader.signed 16 (b0 * 256 + b1) = v) : decode c pc = .ok (.ifCond .eq v, 3) := dq_153 (hz_W3 w h).1 (hz_W3 w h).2.1 (hz_W3 w h).2.2 e
theorem dw_154 {c : ByteArray} {N len pc : Nat} {v : Int} (w : hz_cd c N len) (b0 b1 : Nat) (h : hz_t3 N len pc 154 b0 b1 = true) (h9 : Nat.ble (Nat.add (Nat.mul b0 256) b1) 32767 = true) (e : Int.ofNat (Nat.add (Nat.mul b0 256) b1) = v) : decode c pc = .ok (.ifCond .ne v, 3) := dq_154 (hz_W3 w h).1 (hz_W3 w h).2.1 (hz_W3 w h).2.2 (hz_s16 h9 e)
theorem dw_155 {c : ByteArray} {N len pc : Nat} {v : Int} (w : hz_cd c N len) (b0 b1 : Nat) (h : hz_t3 N len pc 155 b0 b1 = true) (h9 : Nat.ble (Nat.add (Nat.mul b0 256) b1) 32767 = true) (e : Int.ofNat (Nat.add (Nat.mul b0 256) b1) = v) : decode c pc = .ok (.ifCond .lt v, 3) := dq_155 (hz_W3 w h).1 (hz_W3 w h).2.1 (hz_W3 w h).2.2 (hz_s16 h9 e)
theorem dw_156 {c : ByteArray} {N len pc : Nat} {v : Int} (w : hz_cd c N len) (b0 b1 : Nat) (h : hz_t3 N len pc 156 b0 b1 = true) (h9 : Nat.ble (Nat.add (Nat.mul b0 256) b1) 32767 = true) (e : Int.ofNat (Nat.add (Nat.mul b0 256) b1) = v) : decode c pc = .ok (.ifCond .ge v, 3) := dq_156 (hz_W3 w h).1 (hz_W3 w h).2.1 (hz_W3 w h).2.2 (hz_s16 h9 e)
theorem dw_157 {c : ByteArray} {N len pc : Nat} {v : Int} (w : hz_cd c N len) (b0 b1 : Nat) (h : hz_t3 N len pc 157 b0 b1 = true) (h9 : Nat.ble (Nat.add (Nat.mul b0 256) b1) 32767 = true) (e : Int.ofNat (Nat.add (Nat.mul b0 256) b1) = v) : decode c pc = .ok (.ifCond .gt v, 3) := dq_157 (hz_W3 w h).1 (hz_W3 w h).2.1 (hz_W3 w h).2.2 (hz_s16 h9 e)
theorem dw_158 {c : ByteArray} {N len pc : Nat} {v : Int} (w : hz_cd c N len) (b0 b1 : Nat) (h : hz_t3 N len pc 158 b0 b1 = true) (h9 : Nat.ble (Nat.add (Nat.mul b0 256) b1) 32767 = true) (e : Int.ofNat (Nat.add (Nat.mul b0 256) b1) = v) : decode c pc = .ok (.ifCond .le v, 3) := dq_158 (hz_W3 w h).1 (hz_W3 w h).2.1 (hz_W3 w h).2.2 (hz_s16 h9 e)
theorem dw_159 {c : ByteArray} {N len pc : Nat} {v : Int} (w : hz_cd c N len) (b0 b1 : Nat) (h : hz_t3 N len pc 159 b0 b1 = true) (h9 : Nat.ble (Nat.add (Nat.mul b0 256) b1) 32767 = true) (e : Int.ofNat (Nat.add (Nat.mul b0 256) b1) = v) : decode c pc = .ok (.if_icmp .eq v, 3) := dq_159 (hz_W3 w h).1 (hz_W3 w h).2.1 (hz_W3 w h).2.2 (hz_s16 h9 e)
theorem dw_160 {c : ByteArray} {N len pc : Nat} {v : Int} (w : hz_cd c N len) (b0 b1 : Nat) (h : hz_t3 N len pc 160 b0 b1 = true) (h9 : Nat.ble (Nat.add (Nat.mul b0 256) b1) 32767 = true) (e : Int.ofNat (Nat.add (Nat.mul b0 256) b1) = v) : decode c pc = .ok (.if_icmp .ne v, 3) := dq_160 (hz_W3 w h).1 (hz_W3 w h).2.1 (hz_W3 w h).2.2 (hz_s16 h9 e)
theorem dn_160 {c : ByteArray} {N len pc : Nat} {v : Int} (w : hz_cd c N len) (b0 b1 : Nat) (h : hz_t3 N len pc 160 b0 b1 = true) (e : Reader.signed 16 (b0 * 256 + b1) = v) : decode c pc = .ok (.if_icmp .ne v, 3) := dq_160 (hz_W3 w h).1 (hz_W3 w h).2.1 (hz_W3 w h).2.2 e
theorem dw_161 {c : ByteArray} {N len pc : Nat} {v : Int} (w : hz_cd c N len) (b0 b1 : Nat) (h : hz_t3 N len pc 161 b0 b1 = true) (h9 : Nat.ble (Nat.add (Nat.mul b0 256) b1) 32767 = true) (e : Int.ofNat (Nat.add (Nat.mul b0 256) b1) = v) : decode c pc = .ok (.if_icmp .lt v, 3) := dq_161 (hz_W3 w h).1 (hz_W3 w h).2.1 (hz_W3 w h).2.2 (hz_s16 h9 e)
theorem dw_162 {c : ByteArray} {N len pc : Nat} {v : Int} (w : hz_cd c N len) (b0 b1 : Nat) (h : hz_t3 N len pc 162 b0 b1 = true) (h9 : Nat.ble (Nat.add (Nat.mul b0 256) b1) 32767 = true) (e : Int.ofNat (Nat.add (Nat.mul b0 256) b1) = v) : decode c pc = .ok (.if_icmp .ge v, 3) := dq_162 (hz_W3 w h).1 (hz_W3 w h).2.1 (hz_W3 w h).2.2 (hz_s16 h9 e)
theorem dw_163 {c : ByteArray} {N len pc : Nat} {v : Int} (w : hz_cd c N len) (b0 b1 : Nat) (h : hz_t3 N len pc 163 b0 b1 = true) (h9 : Nat.ble (Nat.add (Nat.mul b0 256) b1) 32767 = true) (e : Int.ofNat (Nat.add (Nat.mul b0 256) b1) = v) : decode c pc = .ok (.if_icmp .gt v, 3) := dq_163 (hz_W3 w h).1 (hz_W3 w h).2.1 (hz_W3 w h).2.2 (hz_s16 h9 e)
theorem dw_164 {c : ByteArray} {N len pc : Nat} {v : Int} (w : hz_cd c N len) (b0 b1 : Nat) (h : hz_t3 N len pc 164 b0 b1 = true) (h9 : Nat.ble (Nat.add (Nat.mul b0 256) b1) 32767 = true) (e : Int.ofNat (Nat.add (Nat.mul b0 256) b1) = v) : decode c pc = .ok (.if_icmp .le v, 3) := dq_164 (hz_W3 w h).1 (hz_W3 w h).2.1 (hz_W3 w h).2.2 (hz_s16 h9 e)
theorem dw_166 {c : ByteArray} {N len pc : Nat} {v : Int} (w : hz_cd c N len) (b0 b1 : Nat) (h : hz_t3 N len pc 166 b0 b1 = true) (h9 : Nat.ble (Nat.add (Nat.mul b0 256) b1) 32767 = true) (e : Int.ofNat (Nat.add (Nat.mul b0 256) b1) = v) : decode c pc = .ok (.if_acmp .ne v, 3) := dq_166 (hz_W3 w h).1 (hz_W3 w h).2.1 (hz_W3 w h).2.2 (hz_s16 h9 e)
theorem dw_167 {c : ByteArray} {N len pc : Nat} {v : Int} (w : hz_cd c N len) (b0 b1 : Nat) (h : hz_t3 N len pc 167 b0 b1 = true) (h9 : Nat.ble (Nat.add (Nat.mul b0 256) b1) 32767 = true) (e : Int.ofNat (Nat.add (Nat.mul b0 256) b1) = v) : decode c pc = .ok (.goto v, 3) := dq_167 (hz_W3 w h).1 (hz_W3 w h).2.1 (hz_W3 w h).2.2 (hz_s16 h9 e)
theorem dn_167 {c : ByteArray} {N len pc : Nat} {v : Int} (w : hz_cd c N len) (b0 b1 : Nat) (h : hz_t3 N len pc 167 b0 b1 = true) (e : Reader.signed 16 (b0 * 256 + b1) = v) : decode c pc = .ok (.goto v, 3) := dq_167 (hz_W3 w h).1 (hz_W3 w h).2.1 (hz_W3 w h).2.2 e
theorem dw_172 {c : ByteArray} {N len pc : Nat} (w : hz_cd c N len) (h : hz_t N len pc 1 256 172 = true) : decode c pc = .ok (.ireturn, 1) := dq_172 (hz_W1 w h)
theorem dw_176 {c : ByteArray} {N len pc : Nat} (w : hz_cd c N len) (h : hz_t N len pc 1 256 176 = true) : decode c pc = .ok (.areturn, 1) := dq_176 (hz_W1 w h)
theorem dw_177 {c : ByteArray} {N len pc : Nat} (w : hz_cd c N len) (h : hz_t N len pc 1 256 177 = true) : decode c pc = .ok (.return_, 1) := dq_177 (hz_W1 w h)
theorem dw_178 {c : ByteArray} {N len pc : Nat} {v : Nat} (w : hz_cd c N len) (b0 b1 : Nat) (h : hz_t3 N len pc 178 b0 b1 = true) (e : Nat.add (Nat.mul b0 256) b1 = v) : decode c pc = .ok (.getstatic v, 3) := dq_178 (hz_W3 w h).1 (hz_W3 w h).2.1 (hz_W3 w h).2.2 e
theorem dw_180 {c : ByteArray} {N len pc : Nat} {v : Nat} (w : hz_cd c N len) (b0 b1 : Nat) (h : hz_t3 N len pc 180 b0 b1 = true) (e : Nat.add (Nat.mul b0 256) b1 = v) : decode c pc = .ok (.getfield v, 3) := dq_180 (hz_W3 w h).1 (hz_W3 w h).2.1 (hz_W3 w h).2.2 e
theorem dw_181 {c : ByteArray} {N len pc : Nat} {v : Nat} (w : hz_cd c N len) (b0 b1 : Nat) (h : hz_t3 N len pc 181 b0 b1 = true) (e : Nat.add (Nat.mul b0 256) b1 = v) : decode c pc = .ok (.putfield v, 3) := dq_181 (hz_W3 w h).1 (hz_W3 w h).2.1 (hz_W3 w h).2.2 e
theorem dw_182 {c : ByteArray} {N len pc : Nat} {v : Nat} (w : hz_cd c N len) (b0 b1 : Nat) (h : hz_t3 N len pc 182 b0 b1 = true) (e : Nat.add (Nat.mul b0 256) b1 = v) : decode c pc = .ok (.invokevirtual v, 3) := dq_182 (hz_W3 w h).1 (hz_W3 w h).2.1 (hz_W3 w h).2.2 e
theorem dw_183 {c : ByteArray} {N len pc : Nat} {v : Nat} (w : hz_cd c N len) (b0 b1 : Nat) (h : hz_t3 N len pc 183 b0 b1 = true) (e : Nat.add (Nat.mul b0 256) b1 = v) : decode c pc = .ok (.invokespecial v, 3) := dq_183 (hz_W3 w h).1 (hz_W3 w h).2.1 (hz_W3 w h).2.2 e
theorem dw_184 {c : ByteArray} {N len pc : Nat} {v : Nat} (w : hz_cd c N len) (b0 b1 : Nat) (h : hz_t3 N len pc 184 b0 b1 = true) (e : Nat.add (Nat.mul b0 256) b1 = v) : decode c pc = .ok (.invokestatic v, 3) := dq_184 (hz_W3 w h).1 (hz_W3 w h).2.1 (hz_W3 w h).2.2 e
theorem dw_187 {c : ByteArray} {N len pc : Nat} {v : Nat} (w : hz_cd c N len) (b0 b1 : Nat) (h : hz_t3 N len pc 187 b0 b1 = true) (e : Nat.add (Nat.mul b0 256) b1 = v) : decode c pc = .ok (.new v, 3) := dq_187 (hz_W3 w h).1 (hz_W3 w h).2.1 (hz_W3 w h).2.2 e
theorem dw_189 {c : ByteArray} {N len pc : Nat} {v : Nat} (w : hz_cd c N len) (b0 b1 : Nat) (h : hz_t3 N len pc 189 b0 b1 = true) (e : Nat.add (Nat.mul b0 256) b1 = v) : decode c pc = .ok (.anewarray v, 3) := dq_189 (hz_W3 w h).1 (hz_W3 w h).2.1 (hz_W3 w h).2.2 e
theorem dw_190 {c : ByteArray} {N len pc : Nat} (w : hz_cd c N len) (h : hz_t N len pc 1 256 190 = true) : decode c pc = .ok (.arraylength, 1) := dq_190 (hz_W1 w h)
theorem dw_198 {c : ByteArray} {N len pc : Nat} {v : Int} (w : hz_cd c N len) (b0 b1 : Nat) (h : hz_t3 N len pc 198 b0 b1 = true) (h9 : Nat.ble (Nat.add (Nat.mul b0 256) b1) 32767 = true) (e : Int.ofNat (Nat.add (Nat.mul b0 256) b1) = v) : decode c pc = .ok (.ifnull v, 3) := dq_198 (hz_W3 w h).1 (hz_W3 w h).2.1 (hz_W3 w h).2.2 (hz_s16 h9 e)
theorem dw_199 {c : ByteArray} {N len pc : Nat} {v : Int} (w : hz_cd c N len) (b0 b1 : Nat) (h : hz_t3 N len pc 199 b0 b1 = true) (h9 : Nat.ble (Nat.add (Nat.mul b0 256) b1) 32767 = true) (e : Int.ofNat (Nat.add (Nat.mul b0 256) b1) = v) : decode c pc = .ok (.ifnonnull v, 3) := dq_199 (hz_W3 w h).1 (hz_W3 w h).2.1 (hz_W3 w h).2.2 (hz_s16 h9 e)