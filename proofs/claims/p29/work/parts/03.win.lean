/-! A CODE'S BYTES, by windows: reading an instruction without walking the whole code -/
def hz_at (c : ByteArray) (p b : Nat) : Prop := ∃ h : p < c.size, (c[p]'h).toNat = b
theorem hz_wn {l L R : List Nat} {o : Nat} (h : l.drop o = L ++ R) (e : L.length = 64) : l.drop (o + 64) = R := by
  rw [← List.drop_drop, h, ← e]
  exact List.drop_left
theorem hz_wg {c : ByteArray} {o j n : Nat} {L R : List Nat} (h : (c.data.toList.map UInt8.toNat).drop o = L ++ R) (e : L[j]? = some n) : hz_at c (o + j) n := by
  have hj : j < L.length := (List.getElem?_eq_some_iff.mp e).1
  have e2 : (c.data.toList.map UInt8.toNat)[o + j]? = some n := by
    rw [← List.getElem?_drop, h, List.getElem?_append_left hj]
    exact e
  rw [List.getElem?_map, Option.map_eq_some_iff] at e2
  obtain ⟨b, e3, e4⟩ := e2
  rw [Array.getElem?_toList] at e3
  obtain ⟨h5, h6⟩ := Array.getElem?_eq_some_iff.mp e3
  exact ⟨h5, by rw [← e4, ← h6]; rfl⟩
theorem hz_u1 {c : ByteArray} {p b : Nat} (h : hz_at c p b) : (Reader.u1 : Decoder Nat) c p = .ok (b, p + 1) := by
  obtain ⟨h1, h2⟩ := h
  subst h2
  have e : (Reader.u1 : Decoder Nat) c p = (if h : p < c.size then (do set (p + 1); Pure.pure (c[p]'h).toNat : Decoder Nat) else throw (HasTruncated.truncated p)) c p := rfl
  rw [e, dif_pos h1]
  rfl
section HZDK
variable {c : ByteArray} {pc op b0 b1 : Nat} {i : Instr} {K : Nat → Decoder Instr}
theorem hz_dk {n : Nat} (h : (Decoder.instr pc) c pc = .ok (i, pc + n)) : decode c pc = .ok (i, n) := by
  show (Except.bind ((Decoder.instr pc) c pc) fun z => .ok (z.1, z.2 - pc)) = _
  rw [h]
  show Except.ok (i, pc + n - pc) = _
  rw [Nat.add_sub_cancel_left]
theorem dk_1 (hK : Decoder.instr pc = (Reader.u1 >>= K)) (h0 : hz_at c pc op) (hi : K op = Pure.pure i) : decode c pc = .ok (i, 1) := hz_dk (by
  rw [hK]
  show (Except.bind ((Reader.u1 : Decoder Nat) c pc) fun z => K z.1 c z.2) = _
  rw [hz_u1 h0]
  show K op c (pc + 1) = _
  rw [hi]; rfl)
theorem dk_b {K2 : Nat → Decoder Instr} (hK : Decoder.instr pc = (Reader.u1 >>= K)) (h0 : hz_at c pc op) (h1 : hz_at c (pc + 1) b0) (hi : K op = (Reader.u1 >>= K2)) (hj : K2 b0 = Pure.pure i) : decode c pc = .ok (i, 2) := hz_dk (by
  rw [hK]
  show (Except.bind ((Reader.u1 : Decoder Nat) c pc) fun z => K z.1 c z.2) = _
  rw [hz_u1 h0]
  show K op c (pc + 1) = _
  rw [hi]
  show (Except.bind ((Reader.u1 : Decoder Nat) c (pc + 1)) fun z => K2 z.1 c z.2) = _
  rw [hz_u1 h1]
  show K2 b0 c (pc + 1 + 1) = _
  rw [hj]; rfl)
theorem dk_s1 {v : Int} (f : Int → Instr) (hK : Decoder.instr pc = (Reader.u1 >>= K)) (h0 : hz_at c pc op) (h1 : hz_at c (pc + 1) b0) (hi : K op = (Reader.s1 >>= fun x => Pure.pure (f x))) (e : Reader.signed 8 b0 = v) : decode c pc = .ok (f v, 2) := hz_dk (by
  rw [hK]
  show (Except.bind ((Reader.u1 : Decoder Nat) c pc) fun z => K z.1 c z.2) = _
  rw [hz_u1 h0]
  show K op c (pc + 1) = _
  rw [hi]
  show (Except.bind (Except.bind ((Reader.u1 : Decoder Nat) c (pc + 1)) fun z => .ok (Reader.signed 8 z.1, z.2)) fun z => .ok (f z.1, z.2)) = _
  rw [hz_u1 h1]
  show Except.ok (f (Reader.signed 8 b0), pc + 1 + 1) = _
  rw [e])
theorem dk_u2 {v : Nat} (f : Nat → Instr) (hK : Decoder.instr pc = (Reader.u1 >>= K)) (h0 : hz_at c pc op) (h1 : hz_at c (pc + 1) b0) (h2 : hz_at c (pc + 2) b1) (hi : K op = (Reader.u2 >>= fun x => Pure.pure (f x))) (e : b0 * 256 + b1 = v) : decode c pc = .ok (f v, 3) := hz_dk (by
  rw [hK]
  show (Except.bind ((Reader.u1 : Decoder Nat) c pc) fun z => K z.1 c z.2) = _
  rw [hz_u1 h0]
  show K op c (pc + 1) = _
  rw [hi]
  show (Except.bind (Except.bind ((Reader.u1 : Decoder Nat) c (pc + 1)) fun z => Except.bind ((Reader.u1 : Decoder Nat) c z.2) fun y => .ok (z.1 * 256 + y.1, y.2)) fun z => .ok (f z.1, z.2)) = _
  rw [hz_u1 h1]
  show (Except.bind (Except.bind ((Reader.u1 : Decoder Nat) c (pc + 2)) fun y => .ok (b0 * 256 + y.1, y.2)) fun z => .ok (f z.1, z.2)) = _
  rw [hz_u1 h2]
  show Except.ok (f (b0 * 256 + b1), pc + 2 + 1) = _
  rw [e])
theorem dk_s2 {v : Int} (f : Int → Instr) (hK : Decoder.instr pc = (Reader.u1 >>= K)) (h0 : hz_at c pc op) (h1 : hz_at c (pc + 1) b0) (h2 : hz_at c (pc + 2) b1) (hi : K op = (Reader.s2 >>= fun x => Pure.pure (f x))) (e : Reader.signed 16 (b0 * 256 + b1) = v) : decode c pc = .ok (f v, 3) := hz_dk (by
  rw [hK]
  show (Except.bind ((Reader.u1 : Decoder Nat) c pc) fun z => K z.1 c z.2) = _
  rw [hz_u1 h0]
  show K op c (pc + 1) = _
  rw [hi]
  show (Except.bind (Except.bind (Except.bind ((Reader.u1 : Decoder Nat) c (pc + 1)) fun z => Except.bind ((Reader.u1 : Decoder Nat) c z.2) fun y => .ok (z.1 * 256 + y.1, y.2)) fun z => .ok (Reader.signed 16 z.1, z.2)) fun z => .ok (f z.1, z.2)) = _
  rw [hz_u1 h1]
  show (Except.bind (Except.bind (Except.bind ((Reader.u1 : Decoder Nat) c (pc + 2)) fun y => .ok (b0 * 256 + y.1, y.2)) fun z => .ok (Reader.signed 16 z.1, z.2)) fun z => .ok (f z.1, z.2)) = _
  rw [hz_u1 h2]
  show Except.ok (f (Reader.signed 16 (b0 * 256 + b1)), pc + 2 + 1) = _
  rw [e])
theorem dk_ii {v : Int} (hK : Decoder.instr pc = (Reader.u1 >>= K)) (h0 : hz_at c pc op) (h1 : hz_at c (pc + 1) b0) (h2 : hz_at c (pc + 2) b1) (hi : K op = (Reader.u1 >>= fun a => Reader.s1 >>= fun x => Pure.pure (.iinc a x))) (e : Reader.signed 8 b1 = v) : decode c pc = .ok (.iinc b0 v, 3) := hz_dk (by
  rw [hK]
  show (Except.bind ((Reader.u1 : Decoder Nat) c pc) fun z => K z.1 c z.2) = _
  rw [hz_u1 h0]
  show K op c (pc + 1) = _
  rw [hi]
  show (Except.bind ((Reader.u1 : Decoder Nat) c (pc + 1)) fun z => Except.bind (Except.bind ((Reader.u1 : Decoder Nat) c z.2) fun y => .ok (Reader.signed 8 y.1, y.2)) fun y => .ok (Instr.iinc z.1 y.1, y.2)) = _
  rw [hz_u1 h1]
  show (Except.bind (Except.bind ((Reader.u1 : Decoder Nat) c (pc + 2)) fun y => .ok (Reader.signed 8 y.1, y.2)) fun y => .ok (Instr.iinc b0 y.1, y.2)) = _
  rw [hz_u1 h2]
  show Except.ok (Instr.iinc b0 (Reader.signed 8 b1), pc + 2 + 1) = _
  rw [e])
end HZDK
theorem dq_42 {c : ByteArray} {pc : Nat} (h0 : hz_at c pc 42) : decode c pc = .ok (.aload_n 0, 1) := dk_1 rfl h0 rfl
theorem dq_183 {c : ByteArray} {pc : Nat} {b0 b1 v : Nat} (h0 : hz_at c pc 183) (h1 : hz_at c (pc + 1) b0) (h2 : hz_at c (pc + 2) b1) (e : b0 * 256 + b1 = v) : decode c pc = .ok (.invokespecial v, 3) := dk_u2 (fun v => .invokespecial v) rfl h0 h1 h2 rfl e
theorem dq_16 {c : ByteArray} {pc : Nat} {b : Nat} {v : Int} (h0 : hz_at c pc 16) (h1 : hz_at c (pc + 1) b) (e : Reader.signed 8 b = v) : decode c pc = .ok (.bipush v, 2) := dk_s1 (fun v => .bipush v) rfl h0 h1 rfl e
theorem dq_181 {c : ByteArray} {pc : Nat} {b0 b1 v : Nat} (h0 : hz_at c pc 181) (h1 : hz_at c (pc + 1) b0) (h2 : hz_at c (pc + 2) b1) (e : b0 * 256 + b1 = v) : decode c pc = .ok (.putfield v, 3) := dk_u2 (fun v => .putfield v) rfl h0 h1 h2 rfl e
theorem dq_17 {c : ByteArray} {pc : Nat} {b0 b1 : Nat} {v : Int} (h0 : hz_at c pc 17) (h1 : hz_at c (pc + 1) b0) (h2 : hz_at c (pc + 2) b1) (e : Reader.signed 16 (b0 * 256 + b1) = v) : decode c pc = .ok (.sipush v, 3) := dk_s2 (fun v => .sipush v) rfl h0 h1 h2 rfl e
theorem dq_27 {c : ByteArray} {pc : Nat} (h0 : hz_at c pc 27) : decode c pc = .ok (.iload_n 1, 1) := dk_1 rfl h0 rfl
theorem dq_28 {c : ByteArray} {pc : Nat} (h0 : hz_at c pc 28) : decode c pc = .ok (.iload_n 2, 1) := dk_1 rfl h0 rfl
theorem dq_178 {c : ByteArray} {pc : Nat} {b0 b1 v : Nat} (h0 : hz_at c pc 178) (h1 : hz_at c (pc + 1) b0) (h2 : hz_at c (pc + 2) b1) (e : b0 * 256 + b1 = v) : decode c pc = .ok (.getstatic v, 3) := dk_u2 (fun v => .getstatic v) rfl h0 h1 h2 rfl e
theorem dq_3 {c : ByteArray} {pc : Nat} (h0 : hz_at c pc 3) : decode c pc = .ok (.iconst 0, 1) := dk_1 rfl h0 rfl
theorem dq_180 {c : ByteArray} {pc : Nat} {b0 b1 v : Nat} (h0 : hz_at c pc 180) (h1 : hz_at c (pc + 1) b0) (h2 : hz_at c (pc + 2) b1) (e : b0 * 256 + b1 = v) : decode c pc = .ok (.getfield v, 3) := dk_u2 (fun v => .getfield v) rfl h0 h1 h2 rfl e
theorem dq_184 {c : ByteArray} {pc : Nat} {b0 b1 v : Nat} (h0 : hz_at c pc 184) (h1 : hz_at c (pc + 1) b0) (h2 : hz_at c (pc + 2) b1) (e : b0 * 256 + b1 = v) : decode c pc = .ok (.invokestatic v, 3) := dk_u2 (fun v => .invokestatic v) rfl h0 h1 h2 rfl e
theorem dq_5 {c : ByteArray} {pc : Nat} (h0 : hz_at c pc 5) : decode c pc = .ok (.iconst 2, 1) := dk_1 rfl h0 rfl
theorem dq_4 {c : ByteArray} {pc : Nat} (h0 : hz_at c pc 4) : decode c pc = .ok (.iconst 1, 1) := dk_1 rfl h0 rfl
theorem dq_79 {c : ByteArray} {pc : Nat} (h0 : hz_at c pc 79) : decode c pc = .ok (.iastore, 1) := dk_1 rfl h0 rfl
theorem dq_2 {c : ByteArray} {pc : Nat} (h0 : hz_at c pc 2) : decode c pc = .ok (.iconst (-1), 1) := dk_1 rfl h0 rfl
theorem dq_6 {c : ByteArray} {pc : Nat} (h0 : hz_at c pc 6) : decode c pc = .ok (.iconst 3, 1) := dk_1 rfl h0 rfl
theorem dq_177 {c : ByteArray} {pc : Nat} (h0 : hz_at c pc 177) : decode c pc = .ok (.return_, 1) := dk_1 rfl h0 rfl
theorem dq_26 {c : ByteArray} {pc : Nat} (h0 : hz_at c pc 26) : decode c pc = .ok (.iload_n 0, 1) := dk_1 rfl h0 rfl
theorem dq_120 {c : ByteArray} {pc : Nat} (h0 : hz_at c pc 120) : decode c pc = .ok (.ishl, 1) := dk_1 rfl h0 rfl
theorem dq_128 {c : ByteArray} {pc : Nat} (h0 : hz_at c pc 128) : decode c pc = .ok (.ior, 1) := dk_1 rfl h0 rfl
theorem dq_153 {c : ByteArray} {pc : Nat} {b0 b1 : Nat} {v : Int} (h0 : hz_at c pc 153) (h1 : hz_at c (pc + 1) b0) (h2 : hz_at c (pc + 2) b1) (e : Reader.signed 16 (b0 * 256 + b1) = v) : decode c pc = .ok (.ifCond .eq v, 3) := dk_s2 (fun v => .ifCond .eq v) rfl h0 h1 h2 rfl e
theorem dq_167 {c : ByteArray} {pc : Nat} {b0 b1 : Nat} {v : Int} (h0 : hz_at c pc 167) (h1 : hz_at c (pc + 1) b0) (h2 : hz_at c (pc + 2) b1) (e : Reader.signed 16 (b0 * 256 + b1) = v) : decode c pc = .ok (.goto v, 3) := dk_s2 (fun v => .goto v) rfl h0 h1 h2 rfl e
theorem dq_29 {c : ByteArray} {pc : Nat} (h0 : hz_at c pc 29) : decode c pc = .ok (.iload_n 3, 1) := dk_1 rfl h0 rfl
theorem dq_172 {c : ByteArray} {pc : Nat} (h0 : hz_at c pc 172) : decode c pc = .ok (.ireturn, 1) := dk_1 rfl h0 rfl
theorem dq_162 {c : ByteArray} {pc : Nat} {b0 b1 : Nat} {v : Int} (h0 : hz_at c pc 162) (h1 : hz_at c (pc + 1) b0) (h2 : hz_at c (pc + 2) b1) (e : Reader.signed 16 (b0 * 256 + b1) = v) : decode c pc = .ok (.if_icmp .ge v, 3) := dk_s2 (fun v => .if_icmp .ge v) rfl h0 h1 h2 rfl e
theorem dq_89 {c : ByteArray} {pc : Nat} (h0 : hz_at c pc 89) : decode c pc = .ok (.dup, 1) := dk_1 rfl h0 rfl
theorem dq_96 {c : ByteArray} {pc : Nat} (h0 : hz_at c pc 96) : decode c pc = .ok (.iadd, 1) := dk_1 rfl h0 rfl
theorem dq_61 {c : ByteArray} {pc : Nat} (h0 : hz_at c pc 61) : decode c pc = .ok (.istore_n 2, 1) := dk_1 rfl h0 rfl
theorem dq_62 {c : ByteArray} {pc : Nat} (h0 : hz_at c pc 62) : decode c pc = .ok (.istore_n 3, 1) := dk_1 rfl h0 rfl
theorem dq_126 {c : ByteArray} {pc : Nat} (h0 : hz_at c pc 126) : decode c pc = .ok (.iand, 1) := dk_1 rfl h0 rfl
theorem dq_54 {c : ByteArray} {pc : Nat} {b : Nat} (h0 : hz_at c pc 54) (h1 : hz_at c (pc + 1) b) : decode c pc = .ok (.istore b, 2) := dk_b rfl h0 h1 rfl rfl
theorem dq_122 {c : ByteArray} {pc : Nat} (h0 : hz_at c pc 122) : decode c pc = .ok (.ishr, 1) := dk_1 rfl h0 rfl
theorem dq_46 {c : ByteArray} {pc : Nat} (h0 : hz_at c pc 46) : decode c pc = .ok (.iaload, 1) := dk_1 rfl h0 rfl
theorem dq_130 {c : ByteArray} {pc : Nat} (h0 : hz_at c pc 130) : decode c pc = .ok (.ixor, 1) := dk_1 rfl h0 rfl
theorem dq_21 {c : ByteArray} {pc : Nat} {b : Nat} (h0 : hz_at c pc 21) (h1 : hz_at c (pc + 1) b) : decode c pc = .ok (.iload b, 2) := dk_b rfl h0 h1 rfl rfl
theorem dq_43 {c : ByteArray} {pc : Nat} (h0 : hz_at c pc 43) : decode c pc = .ok (.aload_n 1, 1) := dk_1 rfl h0 rfl
theorem dq_132 {c : ByteArray} {pc : Nat} {b0 b1 : Nat} {v : Int} (h0 : hz_at c pc 132) (h1 : hz_at c (pc + 1) b0) (h2 : hz_at c (pc + 2) b1) (e : Reader.signed 8 b1 = v) : decode c pc = .ok (.iinc b0 v, 3) := dk_ii rfl h0 h1 h2 rfl e
theorem dq_160 {c : ByteArray} {pc : Nat} {b0 b1 : Nat} {v : Int} (h0 : hz_at c pc 160) (h1 : hz_at c (pc + 1) b0) (h2 : hz_at c (pc + 2) b1) (e : Reader.signed 16 (b0 * 256 + b1) = v) : decode c pc = .ok (.if_icmp .ne v, 3) := dk_s2 (fun v => .if_icmp .ne v) rfl h0 h1 h2 rfl e
theorem dq_7 {c : ByteArray} {pc : Nat} (h0 : hz_at c pc 7) : decode c pc = .ok (.iconst 4, 1) := dk_1 rfl h0 rfl
theorem dq_161 {c : ByteArray} {pc : Nat} {b0 b1 : Nat} {v : Int} (h0 : hz_at c pc 161) (h1 : hz_at c (pc + 1) b0) (h2 : hz_at c (pc + 2) b1) (e : Reader.signed 16 (b0 * 256 + b1) = v) : decode c pc = .ok (.if_icmp .lt v, 3) := dk_s2 (fun v => .if_icmp .lt v) rfl h0 h1 h2 rfl e
theorem dq_158 {c : ByteArray} {pc : Nat} {b0 b1 : Nat} {v : Int} (h0 : hz_at c pc 158) (h1 : hz_at c (pc + 1) b0) (h2 : hz_at c (pc + 2) b1) (e : Reader.signed 16 (b0 * 256 + b1) = v) : decode c pc = .ok (.ifCond .le v, 3) := dk_s2 (fun v => .ifCond .le v) rfl h0 h1 h2 rfl e
theorem dq_100 {c : ByteArray} {pc : Nat} (h0 : hz_at c pc 100) : decode c pc = .ok (.isub, 1) := dk_1 rfl h0 rfl
theorem dq_164 {c : ByteArray} {pc : Nat} {b0 b1 : Nat} {v : Int} (h0 : hz_at c pc 164) (h1 : hz_at c (pc + 1) b0) (h2 : hz_at c (pc + 2) b1) (e : Reader.signed 16 (b0 * 256 + b1) = v) : decode c pc = .ok (.if_icmp .le v, 3) := dk_s2 (fun v => .if_icmp .le v) rfl h0 h1 h2 rfl e
theorem dq_182 {c : ByteArray} {pc : Nat} {b0 b1 v : Nat} (h0 : hz_at c pc 182) (h1 : hz_at c (pc + 1) b0) (h2 : hz_at c (pc + 2) b1) (e : b0 * 256 + b1 = v) : decode c pc = .ok (.invokevirtual v, 3) := dk_u2 (fun v => .invokevirtual v) rfl h0 h1 h2 rfl e
theorem dq_116 {c : ByteArray} {pc : Nat} (h0 : hz_at c pc 116) : decode c pc = .ok (.ineg, 1) := dk_1 rfl h0 rfl
theorem dq_163 {c : ByteArray} {pc : Nat} {b0 b1 : Nat} {v : Int} (h0 : hz_at c pc 163) (h1 : hz_at c (pc + 1) b0) (h2 : hz_at c (pc + 2) b1) (e : Reader.signed 16 (b0 * 256 + b1) = v) : decode c pc = .ok (.if_icmp .gt v, 3) := dk_s2 (fun v => .if_icmp .gt v) rfl h0 h1 h2 rfl e
theorem dq_84 {c : ByteArray} {pc : Nat} (h0 : hz_at c pc 84) : decode c pc = .ok (.bastore, 1) := dk_1 rfl h0 rfl
theorem dq_51 {c : ByteArray} {pc : Nat} (h0 : hz_at c pc 51) : decode c pc = .ok (.baload, 1) := dk_1 rfl h0 rfl
theorem dq_154 {c : ByteArray} {pc : Nat} {b0 b1 : Nat} {v : Int} (h0 : hz_at c pc 154) (h1 : hz_at c (pc + 1) b0) (h2 : hz_at c (pc + 2) b1) (e : Reader.signed 16 (b0 * 256 + b1) = v) : decode c pc = .ok (.ifCond .ne v, 3) := dk_s2 (fun v => .ifCond .ne v) rfl h0 h1 h2 rfl e
theorem dq_44 {c : ByteArray} {pc : Nat} (h0 : hz_at c pc 44) : decode c pc = .ok (.aload_n 2, 1) := dk_1 rfl h0 rfl
theorem dq_45 {c : ByteArray} {pc : Nat} (h0 : hz_at c pc 45) : decode c pc = .ok (.aload_n 3, 1) := dk_1 rfl h0 rfl
theorem dq_25 {c : ByteArray} {pc : Nat} {b : Nat} (h0 : hz_at c pc 25) (h1 : hz_at c (pc + 1) b) : decode c pc = .ok (.aload b, 2) := dk_b rfl h0 h1 rfl rfl
theorem dq_159 {c : ByteArray} {pc : Nat} {b0 b1 : Nat} {v : Int} (h0 : hz_at c pc 159) (h1 : hz_at c (pc + 1) b0) (h2 : hz_at c (pc + 2) b1) (e : Reader.signed 16 (b0 * 256 + b1) = v) : decode c pc = .ok (.if_icmp .eq v, 3) := dk_s2 (fun v => .if_icmp .eq v) rfl h0 h1 h2 rfl e
theorem dq_104 {c : ByteArray} {pc : Nat} (h0 : hz_at c pc 104) : decode c pc = .ok (.imul, 1) := dk_1 rfl h0 rfl
theorem dq_8 {c : ByteArray} {pc : Nat} (h0 : hz_at c pc 8) : decode c pc = .ok (.iconst 5, 1) := dk_1 rfl h0 rfl
theorem dq_108 {c : ByteArray} {pc : Nat} (h0 : hz_at c pc 108) : decode c pc = .ok (.idiv, 1) := dk_1 rfl h0 rfl
theorem dq_18 {c : ByteArray} {pc : Nat} {b : Nat} (h0 : hz_at c pc 18) (h1 : hz_at c (pc + 1) b) : decode c pc = .ok (.ldc b, 2) := dk_b rfl h0 h1 rfl rfl
theorem dq_60 {c : ByteArray} {pc : Nat} (h0 : hz_at c pc 60) : decode c pc = .ok (.istore_n 1, 1) := dk_1 rfl h0 rfl
theorem dq_155 {c : ByteArray} {pc : Nat} {b0 b1 : Nat} {v : Int} (h0 : hz_at c pc 155) (h1 : hz_at c (pc + 1) b0) (h2 : hz_at c (pc + 2) b1) (e : Reader.signed 16 (b0 * 256 + b1) = v) : decode c pc = .ok (.ifCond .lt v, 3) := dk_s2 (fun v => .ifCond .lt v) rfl h0 h1 h2 rfl e
theorem dq_190 {c : ByteArray} {pc : Nat} (h0 : hz_at c pc 190) : decode c pc = .ok (.arraylength, 1) := dk_1 rfl h0 rfl
theorem dq_156 {c : ByteArray} {pc : Nat} {b0 b1 : Nat} {v : Int} (h0 : hz_at c pc 156) (h1 : hz_at c (pc + 1) b0) (h2 : hz_at c (pc + 2) b1) (e : Reader.signed 16 (b0 * 256 + b1) = v) : decode c pc = .ok (.ifCond .ge v, 3) := dk_s2 (fun v => .ifCond .ge v) rfl h0 h1 h2 rfl e
theorem dq_92 {c : ByteArray} {pc : Nat} (h0 : hz_at c pc 92) : decode c pc = .ok (.dup2, 1) := dk_1 rfl h0 rfl
theorem dq_189 {c : ByteArray} {pc : Nat} {b0 b1 v : Nat} (h0 : hz_at c pc 189) (h1 : hz_at c (pc + 1) b0) (h2 : hz_at c (pc + 2) b1) (e : b0 * 256 + b1 = v) : decode c pc = .ok (.anewarray v, 3) := dk_u2 (fun v => .anewarray v) rfl h0 h1 h2 rfl e
theorem dq_50 {c : ByteArray} {pc : Nat} (h0 : hz_at c pc 50) : decode c pc = .ok (.aaload, 1) := dk_1 rfl h0 rfl
theorem dq_166 {c : ByteArray} {pc : Nat} {b0 b1 : Nat} {v : Int} (h0 : hz_at c pc 166) (h1 : hz_at c (pc + 1) b0) (h2 : hz_at c (pc + 2) b1) (e : Reader.signed 16 (b0 * 256 + b1) = v) : decode c pc = .ok (.if_acmp .ne v, 3) := dk_s2 (fun v => .if_acmp .ne v) rfl h0 h1 h2 rfl e
theorem dq_83 {c : ByteArray} {pc : Nat} (h0 : hz_at c pc 83) : decode c pc = .ok (.aastore, 1) := dk_1 rfl h0 rfl
theorem dq_77 {c : ByteArray} {pc : Nat} (h0 : hz_at c pc 77) : decode c pc = .ok (.astore_n 2, 1) := dk_1 rfl h0 rfl
theorem dq_187 {c : ByteArray} {pc : Nat} {b0 b1 v : Nat} (h0 : hz_at c pc 187) (h1 : hz_at c (pc + 1) b0) (h2 : hz_at c (pc + 2) b1) (e : b0 * 256 + b1 = v) : decode c pc = .ok (.new v, 3) := dk_u2 (fun v => .new v) rfl h0 h1 h2 rfl e
theorem dq_145 {c : ByteArray} {pc : Nat} (h0 : hz_at c pc 145) : decode c pc = .ok (.i2b, 1) := dk_1 rfl h0 rfl
theorem dq_78 {c : ByteArray} {pc : Nat} (h0 : hz_at c pc 78) : decode c pc = .ok (.astore_n 3, 1) := dk_1 rfl h0 rfl
theorem dq_176 {c : ByteArray} {pc : Nat} (h0 : hz_at c pc 176) : decode c pc = .ok (.areturn, 1) := dk_1 rfl h0 rfl
theorem dq_58 {c : ByteArray} {pc : Nat} {b : Nat} (h0 : hz_at c pc 58) (h1 : hz_at c (pc + 1) b) : decode c pc = .ok (.astore b, 2) := dk_b rfl h0 h1 rfl rfl
theorem dq_198 {c : ByteArray} {pc : Nat} {b0 b1 : Nat} {v : Int} (h0 : hz_at c pc 198) (h1 : hz_at c (pc + 1) b0) (h2 : hz_at c (pc + 2) b1) (e : Reader.signed 16 (b0 * 256 + b1) = v) : decode c pc = .ok (.ifnull v, 3) := dk_s2 (fun v => .ifnull v) rfl h0 h1 h2 rfl e
theorem dq_112 {c : ByteArray} {pc : Nat} (h0 : hz_at c pc 112) : decode c pc = .ok (.irem, 1) := dk_1 rfl h0 rfl
theorem dq_199 {c : ByteArray} {pc : Nat} {b0 b1 : Nat} {v : Int} (h0 : hz_at c pc 199) (h1 : hz_at c (pc + 1) b0) (h2 : hz_at c (pc + 2) b1) (e : Reader.signed 16 (b0 * 256 + b1) = v) : decode c pc = .ok (.ifnonnull v, 3) := dk_s2 (fun v => .ifnonnull v) rfl h0 h1 h2 rfl e
theorem dq_87 {c : ByteArray} {pc : Nat} (h0 : hz_at c pc 87) : decode c pc = .ok (.pop, 1) := dk_1 rfl h0 rfl
theorem dq_9 {c : ByteArray} {pc : Nat} (h0 : hz_at c pc 9) : decode c pc = .ok (.lconst 0, 1) := dk_1 rfl h0 rfl
theorem dq_65 {c : ByteArray} {pc : Nat} (h0 : hz_at c pc 65) : decode c pc = .ok (.lstore_n 2, 1) := dk_1 rfl h0 rfl
theorem dq_10 {c : ByteArray} {pc : Nat} (h0 : hz_at c pc 10) : decode c pc = .ok (.lconst 1, 1) := dk_1 rfl h0 rfl
theorem dq_55 {c : ByteArray} {pc : Nat} {b : Nat} (h0 : hz_at c pc 55) (h1 : hz_at c (pc + 1) b) : decode c pc = .ok (.lstore b, 2) := dk_b rfl h0 h1 rfl rfl
theorem dq_32 {c : ByteArray} {pc : Nat} (h0 : hz_at c pc 32) : decode c pc = .ok (.lload_n 2, 1) := dk_1 rfl h0 rfl
theorem dq_22 {c : ByteArray} {pc : Nat} {b : Nat} (h0 : hz_at c pc 22) (h1 : hz_at c (pc + 1) b) : decode c pc = .ok (.lload b, 2) := dk_b rfl h0 h1 rfl rfl
theorem dq_97 {c : ByteArray} {pc : Nat} (h0 : hz_at c pc 97) : decode c pc = .ok (.ladd, 1) := dk_1 rfl h0 rfl
theorem dq_133 {c : ByteArray} {pc : Nat} (h0 : hz_at c pc 133) : decode c pc = .ok (.i2l, 1) := dk_1 rfl h0 rfl
theorem dq_105 {c : ByteArray} {pc : Nat} (h0 : hz_at c pc 105) : decode c pc = .ok (.lmul, 1) := dk_1 rfl h0 rfl
theorem dq_109 {c : ByteArray} {pc : Nat} (h0 : hz_at c pc 109) : decode c pc = .ok (.ldiv, 1) := dk_1 rfl h0 rfl
theorem dq_121 {c : ByteArray} {pc : Nat} (h0 : hz_at c pc 121) : decode c pc = .ok (.lshl, 1) := dk_1 rfl h0 rfl
theorem dq_20 {c : ByteArray} {pc : Nat} {b0 b1 v : Nat} (h0 : hz_at c pc 20) (h1 : hz_at c (pc + 1) b0) (h2 : hz_at c (pc + 2) b1) (e : b0 * 256 + b1 = v) : decode c pc = .ok (.ldc2_w v, 3) := dk_u2 (fun v => .ldc2_w v) rfl h0 h1 h2 rfl e
theorem dq_148 {c : ByteArray} {pc : Nat} (h0 : hz_at c pc 148) : decode c pc = .ok (.lcmp, 1) := dk_1 rfl h0 rfl
theorem dq_157 {c : ByteArray} {pc : Nat} {b0 b1 : Nat} {v : Int} (h0 : hz_at c pc 157) (h1 : hz_at c (pc + 1) b0) (h2 : hz_at c (pc + 2) b1) (e : Reader.signed 16 (b0 * 256 + b1) = v) : decode c pc = .ok (.ifCond .gt v, 3) := dk_s2 (fun v => .ifCond .gt v) rfl h0 h1 h2 rfl e
theorem dq_19 {c : ByteArray} {pc : Nat} {b0 b1 v : Nat} (h0 : hz_at c pc 19) (h1 : hz_at c (pc + 1) b0) (h2 : hz_at c (pc + 2) b1) (e : b0 * 256 + b1 = v) : decode c pc = .ok (.ldc_w v, 3) := dk_u2 (fun v => .ldc_w v) rfl h0 h1 h2 rfl e
theorem dq_80 {c : ByteArray} {pc : Nat} (h0 : hz_at c pc 80) : decode c pc = .ok (.lastore, 1) := dk_1 rfl h0 rfl
theorem dq_47 {c : ByteArray} {pc : Nat} (h0 : hz_at c pc 47) : decode c pc = .ok (.laload, 1) := dk_1 rfl h0 rfl
theorem dq_66 {c : ByteArray} {pc : Nat} (h0 : hz_at c pc 66) : decode c pc = .ok (.lstore_n 3, 1) := dk_1 rfl h0 rfl
theorem dq_33 {c : ByteArray} {pc : Nat} (h0 : hz_at c pc 33) : decode c pc = .ok (.lload_n 3, 1) := dk_1 rfl h0 rfl
theorem dq_76 {c : ByteArray} {pc : Nat} (h0 : hz_at c pc 76) : decode c pc = .ok (.astore_n 1, 1) := dk_1 rfl h0 rfl
