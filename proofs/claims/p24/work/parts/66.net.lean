section
def wNX10_net : Nat := 29891705430739415871508449371046276516746933493572174920102819127144356720512031768996815193941284283118309968712621053793678665535158132915269397437783923093060183275351898417802194549840895990897777907942833816217501855593726438671292652192330446871709703297813096473115735611888516486093650034607306843398526477430234735067040186144031213459508570042610923203332943152171947785869432833989254434142349350070333565610503438147866724475642096912471808283553679985071122241270645802
theorem wX10_net_c : hz_cd cX10_net wNX10_net 200 := ⟨by decide +kernel, by decide +kernel⟩
theorem dX10_net_0 : decode cX10_net 0 = .ok (.aload_n 0, 1) := dw_42 wX10_net_c rfl
theorem dX10_net_1 : decode cX10_net 1 = .ok (.iconst 1, 1) := dw_4 wX10_net_c rfl
theorem dX10_net_2 : decode cX10_net 2 = .ok (.putfield 451, 3) := dw_181 wX10_net_c 1 195 rfl rfl
theorem dX10_net_5 : decode cX10_net 5 = .ok (.aload_n 0, 1) := dw_42 wX10_net_c rfl
theorem dX10_net_6 : decode cX10_net 6 = .ok (.iconst 0, 1) := dw_3 wX10_net_c rfl
theorem dX10_net_7 : decode cX10_net 7 = .ok (.putfield 455, 3) := dw_181 wX10_net_c 1 199 rfl rfl
theorem dX10_net_10 : decode cX10_net 10 = .ok (.iconst 0, 1) := dw_3 wX10_net_c rfl
theorem dX10_net_11 : decode cX10_net 11 = .ok (.istore_n 1, 1) := dw_60 wX10_net_c rfl
theorem dX10_net_12 : decode cX10_net 12 = .ok (.iconst 1, 1) := dw_4 wX10_net_c rfl
theorem dX10_net_13 : decode cX10_net 13 = .ok (.istore_n 2, 1) := dw_61 wX10_net_c rfl
theorem dX10_net_14 : decode cX10_net 14 = .ok (.iload_n 2, 1) := dw_28 wX10_net_c rfl
theorem dX10_net_15 : decode cX10_net 15 = .ok (.ifCond .eq 183, 3) := dw_153 wX10_net_c 0 183 rfl rfl rfl
theorem dX10_net_18 : decode cX10_net 18 = .ok (.aload_n 0, 1) := dw_42 wX10_net_c rfl
theorem dX10_net_19 : decode cX10_net 19 = .ok (.invokevirtual 458, 3) := dw_182 wX10_net_c 1 202 rfl rfl
theorem dX10_net_22 : decode cX10_net 22 = .ok (.aload_n 0, 1) := dw_42 wX10_net_c rfl
theorem dX10_net_23 : decode cX10_net 23 = .ok (.invokevirtual 461, 3) := dw_182 wX10_net_c 1 205 rfl rfl
theorem dX10_net_26 : decode cX10_net 26 = .ok (.iconst 0, 1) := dw_3 wX10_net_c rfl
theorem dX10_net_27 : decode cX10_net 27 = .ok (.istore_n 3, 1) := dw_62 wX10_net_c rfl
theorem dX10_net_28 : decode cX10_net 28 = .ok (.iconst 0, 1) := dw_3 wX10_net_c rfl
theorem dX10_net_29 : decode cX10_net 29 = .ok (.istore 4, 2) := dw_54 wX10_net_c 4 rfl
theorem dX10_net_31 : decode cX10_net 31 = .ok (.iload 4, 2) := dw_21 wX10_net_c 4 rfl
theorem dX10_net_33 : decode cX10_net 33 = .ok (.aload_n 0, 1) := dw_42 wX10_net_c rfl
theorem dX10_net_34 : decode cX10_net 34 = .ok (.getfield 441, 3) := dw_180 wX10_net_c 1 185 rfl rfl
theorem dX10_net_37 : decode cX10_net 37 = .ok (.if_icmp .ge 42, 3) := dw_162 wX10_net_c 0 42 rfl rfl rfl
theorem dX10_net_40 : decode cX10_net 40 = .ok (.iload_n 3, 1) := dw_29 wX10_net_c rfl
theorem dX10_net_41 : decode cX10_net 41 = .ok (.aload_n 0, 1) := dw_42 wX10_net_c rfl
theorem dX10_net_42 : decode cX10_net 42 = .ok (.aload_n 0, 1) := dw_42 wX10_net_c rfl
theorem dX10_net_43 : decode cX10_net 43 = .ok (.getfield 195, 3) := dw_180 wX10_net_c 0 195 rfl rfl
theorem dX10_net_46 : decode cX10_net 46 = .ok (.iload 4, 2) := dw_21 wX10_net_c 4 rfl
theorem dX10_net_48 : decode cX10_net 48 = .ok (.iaload, 1) := dw_46 wX10_net_c rfl
theorem dX10_net_49 : decode cX10_net 49 = .ok (.aload_n 0, 1) := dw_42 wX10_net_c rfl
theorem dX10_net_50 : decode cX10_net 50 = .ok (.getfield 195, 3) := dw_180 wX10_net_c 0 195 rfl rfl
theorem dX10_net_53 : decode cX10_net 53 = .ok (.iload 4, 2) := dw_21 wX10_net_c 4 rfl
theorem dX10_net_55 : decode cX10_net 55 = .ok (.iconst 1, 1) := dw_4 wX10_net_c rfl
theorem dX10_net_56 : decode cX10_net 56 = .ok (.iadd, 1) := dw_96 wX10_net_c rfl
theorem dX10_net_57 : decode cX10_net 57 = .ok (.aload_n 0, 1) := dw_42 wX10_net_c rfl
theorem dX10_net_58 : decode cX10_net 58 = .ok (.getfield 441, 3) := dw_180 wX10_net_c 1 185 rfl rfl
theorem dX10_net_61 : decode cX10_net 61 = .ok (.irem, 1) := dw_112 wX10_net_c rfl
theorem dX10_net_62 : decode cX10_net 62 = .ok (.iaload, 1) := dw_46 wX10_net_c rfl
theorem dX10_net_63 : decode cX10_net 63 = .ok (.aload_n 0, 1) := dw_42 wX10_net_c rfl
theorem dX10_net_64 : decode cX10_net 64 = .ok (.getfield 438, 3) := dw_180 wX10_net_c 1 182 rfl rfl
theorem dX10_net_67 : decode cX10_net 67 = .ok (.iconst 0, 1) := dw_3 wX10_net_c rfl
theorem dX10_net_68 : decode cX10_net 68 = .ok (.invokevirtual 464, 3) := dw_182 wX10_net_c 1 208 rfl rfl
theorem dX10_net_71 : decode cX10_net 71 = .ok (.iadd, 1) := dw_96 wX10_net_c rfl
theorem dX10_net_72 : decode cX10_net 72 = .ok (.istore_n 3, 1) := dw_62 wX10_net_c rfl
theorem dX10_net_73 : decode cX10_net 73 = .ok (.iinc 4 1, 3) := dw_132 wX10_net_c 4 1 rfl rfl rfl
theorem dX10_net_76 : decode cX10_net 76 = .ok (.goto (-45), 3) := dn_167 wX10_net_c 255 211 rfl (by decide)
theorem dX10_net_79 : decode cX10_net 79 = .ok (.aload_n 0, 1) := dw_42 wX10_net_c rfl
theorem dX10_net_80 : decode cX10_net 80 = .ok (.getfield 441, 3) := dw_180 wX10_net_c 1 185 rfl rfl
theorem dX10_net_83 : decode cX10_net 83 = .ok (.ifCond .le 19, 3) := dw_158 wX10_net_c 0 19 rfl rfl rfl
theorem dX10_net_86 : decode cX10_net 86 = .ok (.aload_n 0, 1) := dw_42 wX10_net_c rfl
theorem dX10_net_87 : decode cX10_net 87 = .ok (.getfield 413, 3) := dw_180 wX10_net_c 1 157 rfl rfl
theorem dX10_net_90 : decode cX10_net 90 = .ok (.iload_n 3, 1) := dw_29 wX10_net_c rfl
theorem dX10_net_91 : decode cX10_net 91 = .ok (.iadd, 1) := dw_96 wX10_net_c rfl
theorem dX10_net_92 : decode cX10_net 92 = .ok (.sipush 600, 3) := dw_17 wX10_net_c 2 88 rfl rfl rfl
theorem dX10_net_95 : decode cX10_net 95 = .ok (.if_icmp .gt 7, 3) := dw_163 wX10_net_c 0 7 rfl rfl rfl
theorem dX10_net_98 : decode cX10_net 98 = .ok (.iconst 1, 1) := dw_4 wX10_net_c rfl
theorem dX10_net_99 : decode cX10_net 99 = .ok (.goto 4, 3) := dw_167 wX10_net_c 0 4 rfl rfl rfl
theorem dX10_net_102 : decode cX10_net 102 = .ok (.iconst 0, 1) := dw_3 wX10_net_c rfl
theorem dX10_net_103 : decode cX10_net 103 = .ok (.istore_n 2, 1) := dw_61 wX10_net_c rfl
theorem dX10_net_104 : decode cX10_net 104 = .ok (.iload_n 2, 1) := dw_28 wX10_net_c rfl
theorem dX10_net_105 : decode cX10_net 105 = .ok (.ifCond .ne 6, 3) := dw_154 wX10_net_c 0 6 rfl rfl rfl
theorem dX10_net_108 : decode cX10_net 108 = .ok (.goto 90, 3) := dw_167 wX10_net_c 0 90 rfl rfl rfl
theorem dX10_net_111 : decode cX10_net 111 = .ok (.iconst 0, 1) := dw_3 wX10_net_c rfl
theorem dX10_net_112 : decode cX10_net 112 = .ok (.istore 4, 2) := dw_54 wX10_net_c 4 rfl
theorem dX10_net_114 : decode cX10_net 114 = .ok (.iload 4, 2) := dw_21 wX10_net_c 4 rfl
theorem dX10_net_116 : decode cX10_net 116 = .ok (.aload_n 0, 1) := dw_42 wX10_net_c rfl
theorem dX10_net_117 : decode cX10_net 117 = .ok (.getfield 441, 3) := dw_180 wX10_net_c 1 185 rfl rfl
theorem dX10_net_120 : decode cX10_net 120 = .ok (.if_icmp .ge 40, 3) := dw_162 wX10_net_c 0 40 rfl rfl rfl
theorem dX10_net_123 : decode cX10_net 123 = .ok (.aload_n 0, 1) := dw_42 wX10_net_c rfl
theorem dX10_net_124 : decode cX10_net 124 = .ok (.aload_n 0, 1) := dw_42 wX10_net_c rfl
theorem dX10_net_125 : decode cX10_net 125 = .ok (.getfield 195, 3) := dw_180 wX10_net_c 0 195 rfl rfl
theorem dX10_net_128 : decode cX10_net 128 = .ok (.iload 4, 2) := dw_21 wX10_net_c 4 rfl
theorem dX10_net_130 : decode cX10_net 130 = .ok (.iaload, 1) := dw_46 wX10_net_c rfl
theorem dX10_net_131 : decode cX10_net 131 = .ok (.aload_n 0, 1) := dw_42 wX10_net_c rfl
theorem dX10_net_132 : decode cX10_net 132 = .ok (.getfield 195, 3) := dw_180 wX10_net_c 0 195 rfl rfl
theorem dX10_net_135 : decode cX10_net 135 = .ok (.iload 4, 2) := dw_21 wX10_net_c 4 rfl
theorem dX10_net_137 : decode cX10_net 137 = .ok (.iconst 1, 1) := dw_4 wX10_net_c rfl
theorem dX10_net_138 : decode cX10_net 138 = .ok (.iadd, 1) := dw_96 wX10_net_c rfl
theorem dX10_net_139 : decode cX10_net 139 = .ok (.aload_n 0, 1) := dw_42 wX10_net_c rfl
theorem dX10_net_140 : decode cX10_net 140 = .ok (.getfield 441, 3) := dw_180 wX10_net_c 1 185 rfl rfl
theorem dX10_net_143 : decode cX10_net 143 = .ok (.irem, 1) := dw_112 wX10_net_c rfl
theorem dX10_net_144 : decode cX10_net 144 = .ok (.iaload, 1) := dw_46 wX10_net_c rfl
theorem dX10_net_145 : decode cX10_net 145 = .ok (.aload_n 0, 1) := dw_42 wX10_net_c rfl
theorem dX10_net_146 : decode cX10_net 146 = .ok (.getfield 438, 3) := dw_180 wX10_net_c 1 182 rfl rfl
theorem dX10_net_149 : decode cX10_net 149 = .ok (.iconst 1, 1) := dw_4 wX10_net_c rfl
theorem dX10_net_150 : decode cX10_net 150 = .ok (.invokevirtual 464, 3) := dw_182 wX10_net_c 1 208 rfl rfl
theorem dX10_net_153 : decode cX10_net 153 = .ok (.pop, 1) := dw_87 wX10_net_c rfl
theorem dX10_net_154 : decode cX10_net 154 = .ok (.iinc 4 1, 3) := dw_132 wX10_net_c 4 1 rfl rfl rfl
theorem dX10_net_157 : decode cX10_net 157 = .ok (.goto (-43), 3) := dn_167 wX10_net_c 255 213 rfl (by decide)
theorem dX10_net_160 : decode cX10_net 160 = .ok (.aload_n 0, 1) := dw_42 wX10_net_c rfl
theorem dX10_net_161 : decode cX10_net 161 = .ok (.getfield 192, 3) := dw_180 wX10_net_c 0 192 rfl rfl
theorem dX10_net_164 : decode cX10_net 164 = .ok (.aload_n 0, 1) := dw_42 wX10_net_c rfl
theorem dX10_net_165 : decode cX10_net 165 = .ok (.getfield 455, 3) := dw_180 wX10_net_c 1 199 rfl rfl
theorem dX10_net_168 : decode cX10_net 168 = .ok (.aload_n 0, 1) := dw_42 wX10_net_c rfl
theorem dX10_net_169 : decode cX10_net 169 = .ok (.getfield 438, 3) := dw_180 wX10_net_c 1 182 rfl rfl
theorem dX10_net_172 : decode cX10_net 172 = .ok (.iastore, 1) := dw_79 wX10_net_c rfl
theorem dX10_net_173 : decode cX10_net 173 = .ok (.aload_n 0, 1) := dw_42 wX10_net_c rfl
theorem dX10_net_174 : decode cX10_net 174 = .ok (.dup, 1) := dw_89 wX10_net_c rfl
theorem dX10_net_175 : decode cX10_net 175 = .ok (.getfield 455, 3) := dw_180 wX10_net_c 1 199 rfl rfl
theorem dX10_net_178 : decode cX10_net 178 = .ok (.iconst 1, 1) := dw_4 wX10_net_c rfl
theorem dX10_net_179 : decode cX10_net 179 = .ok (.iadd, 1) := dw_96 wX10_net_c rfl
theorem dX10_net_180 : decode cX10_net 180 = .ok (.putfield 455, 3) := dw_181 wX10_net_c 1 199 rfl rfl
theorem dX10_net_183 : decode cX10_net 183 = .ok (.iload_n 1, 1) := dw_27 wX10_net_c rfl
theorem dX10_net_184 : decode cX10_net 184 = .ok (.aload_n 0, 1) := dw_42 wX10_net_c rfl
theorem dX10_net_185 : decode cX10_net 185 = .ok (.getfield 438, 3) := dw_180 wX10_net_c 1 182 rfl rfl
theorem dX10_net_188 : decode cX10_net 188 = .ok (.aload_n 0, 1) := dw_42 wX10_net_c rfl
theorem dX10_net_189 : decode cX10_net 189 = .ok (.getfield 441, 3) := dw_180 wX10_net_c 1 185 rfl rfl
theorem dX10_net_192 : decode cX10_net 192 = .ok (.imul, 1) := dw_104 wX10_net_c rfl
theorem dX10_net_193 : decode cX10_net 193 = .ok (.iadd, 1) := dw_96 wX10_net_c rfl
theorem dX10_net_194 : decode cX10_net 194 = .ok (.istore_n 1, 1) := dw_60 wX10_net_c rfl
theorem dX10_net_195 : decode cX10_net 195 = .ok (.goto (-181), 3) := dn_167 wX10_net_c 255 75 rfl (by decide)
theorem dX10_net_198 : decode cX10_net 198 = .ok (.iload_n 1, 1) := dw_27 wX10_net_c rfl
theorem dX10_net_199 : decode cX10_net 199 = .ok (.ireturn, 1) := dw_172 wX10_net_c rfl
end
section
/-! COLUMNS: a field of all objects that an array holds, as a function of their places -/
def hx_col (N : Nat) (h : hx_h) (q k : Nat) : Nat → Int32 := fun j => if j < N then (match h.2.2 q j with | some p => h.2.1 p k | none => 0) else 0
/-- the array holds n objects, each with its place as its number, and none behind them -/
def hx_num (N : Nat) (h : hx_h) (q k : Nat) (n : Int) : Prop := ∀ j : Nat, j < N → ((j : Int) < n → ∃ p, h.2.2 q j = some p ∧ (h.2.1 p k).toInt = j) ∧ (n ≤ (j : Int) → h.2.2 q j = none)
def hx_eqN (N : Nat) (f g : Nat → Int32) : Prop := ∀ j, j < N → f j = g j
theorem hx_col_at {N : Nat} {h : hx_h} {q k j p : Nat} (f : h.2.2 q j = some p) (hj : j < N) : hx_col N h q k j = h.2.1 p k := by
  unfold hx_col
  rw [if_pos hj, f]
theorem hx_num_c {N : Nat} {h : hx_h} {q k : Nat} {n m : Int} (hn : hx_num N h q k n) (e : n = m) : hx_num N h q k m := e ▸ hn
section HXC
variable {tb : List hx_d} {M : hx_m} {L L1 : List Nat} {h h1 : hx_h} {q k t t0 N u ci x t9 : Nat} {nn : Bool} {fs : List hx_f}
theorem hx_col_S (hs : hx_S tb M L h L1 h1) (hT : hx_T tb L h) (g : hx_g L h q t) (hd : tb[t]? = some (.inr (t0, N, .inr (nn, [u])))) (hdu : tb[u]? = some (.inl (ci, fs))) (m1 : M.any (fun q => q.1 == t) = false) (m2 : M.contains (u, k) = false) : hx_col N h1 q k = hx_col N h q k := by
  funext j
  unfold hx_col
  by_cases hj : j < N
  · rw [if_pos hj, if_pos hj, (hs.a g m1 j).2]
    cases hr : h.2.2 q j with
    | none => rfl
    | some p =>
      obtain ⟨p1, p2⟩ := (hT.er g hd (k := j) hj).2 p hr
      exact (hs.o (k := k) ⟨p1, by simpa using p2⟩ (by rw [hdu]; trivial) m2).1
  · rw [if_neg hj, if_neg hj]
theorem hx_num_S {n : Int} (hs : hx_S tb M L h L1 h1) (hT : hx_T tb L h) (g : hx_g L h q t) (hd : tb[t]? = some (.inr (t0, N, .inr (nn, [u])))) (hdu : tb[u]? = some (.inl (ci, fs))) (m1 : M.any (fun q => q.1 == t) = false) (m2 : M.contains (u, k) = false) (hn : hx_num N h q k n) : hx_num N h1 q k n := by
  intro j hj
  rw [(hs.a g m1 j).2]
  refine ⟨fun hjn => ?_, (hn j hj).2⟩
  obtain ⟨p, f, e⟩ := (hn j hj).1 hjn
  obtain ⟨p1, p2⟩ := (hT.er g hd (k := j) hj).2 p f
  exact ⟨p, f, by rw [(hs.o (k := k) ⟨p1, by simpa using p2⟩ (by rw [hdu]; trivial) m2).1]; exact e⟩
theorem hx_col_X (hs : hx_S tb M (hx_X L x) h L1 h1) (hT : hx_T tb L h) (g : hx_g (hx_X L x) h q t) (gx : hx_g L h x t9) (hd : tb[t]? = some (.inr (t0, N, .inr (nn, [u])))) (hdu : tb[u]? = some (.inl (ci, fs))) (m1 : M.any (fun q => q.1 == t) = false) (m2 : M.contains (u, k) = false) (ne : u ≠ t9) : hx_col N h1 q k = hx_col N h q k := by
  funext j
  unfold hx_col
  by_cases hj : j < N
  · rw [if_pos hj, if_pos hj, (hs.a g m1 j).2]
    cases hr : h.2.2 q j with
    | none => rfl
    | some p =>
      obtain ⟨p1, p2⟩ := (hT.er ⟨(hx_X_m.mp g.1).1, g.2⟩ hd (k := j) hj).2 p hr
      have p2 : h.1 p = u := by simpa using p2
      exact (hs.o (k := k) ⟨hx_X_m.mpr ⟨p1, fun z => ne (by rw [← p2, z, gx.2])⟩, p2⟩ (by rw [hdu]; trivial) m2).1
  · rw [if_neg hj, if_neg hj]
theorem hx_num_X {n : Int} (hs : hx_S tb M (hx_X L x) h L1 h1) (hT : hx_T tb L h) (g : hx_g (hx_X L x) h q t) (gx : hx_g L h x t9) (hd : tb[t]? = some (.inr (t0, N, .inr (nn, [u])))) (hdu : tb[u]? = some (.inl (ci, fs))) (m1 : M.any (fun q => q.1 == t) = false) (m2 : M.contains (u, k) = false) (ne : u ≠ t9) (hn : hx_num N h q k n) : hx_num N h1 q k n := by
  intro j hj
  rw [(hs.a g m1 j).2]
  refine ⟨fun hjn => ?_, (hn j hj).2⟩
  obtain ⟨p, f, e⟩ := (hn j hj).1 hjn
  obtain ⟨p1, p2⟩ := (hT.er ⟨(hx_X_m.mp g.1).1, g.2⟩ hd (k := j) hj).2 p f
  have p2 : h.1 p = u := by simpa using p2
  exact ⟨p, f, by rw [(hs.o (k := k) ⟨hx_X_m.mpr ⟨p1, fun z => ne (by rw [← p2, z, gx.2])⟩, p2⟩ (by rw [hdu]; trivial) m2).1]; exact e⟩
end HXC
theorem hx_num_eq {N : Nat} {h : hx_h} {q k i j p : Nat} {n : Int} (hn : hx_num N h q k n) (hi : i < N) (hj : j < N) (fi : h.2.2 q i = some p) (fj : h.2.2 q j = some p) : i = j := by
  have ki : (i : Int) < n := by
    rcases (show (i : Int) < n ∨ n ≤ (i : Int) by omega) with z | z
    · exact z
    · rw [(hn i hi).2 z] at fi; cases fi
  have kj : (j : Int) < n := by
    rcases (show (j : Int) < n ∨ n ≤ (j : Int) by omega) with z | z
    · exact z
    · rw [(hn j hj).2 z] at fj; cases fj
  obtain ⟨a, fa, ea⟩ := (hn i hi).1 ki
  obtain ⟨b, fb, eb⟩ := (hn j hj).1 kj
  have e1 : a = p := Option.some.inj (fa.symm.trans fi)
  have e2 : b = p := Option.some.inj (fb.symm.trans fj)
  subst e1; subst e2
  omega
theorem hx_col_pi {N : Nat} {h h1 : hx_h} {q k k0 i p : Nat} {n : Int} {v : Int32} (hn : hx_num N h q k0 n) (f : h.2.2 q i = some p) (hi : i < N) (eh : h1 = hx_pi h p k v) : hx_col N h1 q k = hx_up (hx_col N h q k) i v := by
  subst eh
  funext j
  by_cases hji : j = i
  · subst hji
    rw [hx_up_at, hx_col_at (h := hx_pi h p k v) (p := p) f hi, hx_pi_at]
  · rw [hx_up_ne hji]
    unfold hx_col
    by_cases hj : j < N
    · rw [if_pos hj, if_pos hj]
      show (match h.2.2 q j with | some p1 => (hx_pi h p k v).2.1 p1 k | none => 0) = _
      cases hr : h.2.2 q j with
      | none => rfl
      | some p1 =>
        refine hx_pi_ne h v (fun z => hji ?_)
        rw [z.1] at hr
        exact hx_num_eq hn hj hi hr f
    · rw [if_neg hj, if_neg hj]
theorem hx_col_pr {N : Nat} {h h1 : hx_h} {q k i p : Nat} (eh : h1 = hx_pr h q i (some p)) (hi : i < N) : hx_col N h1 q k = hx_up (hx_col N h q k) i (h.2.1 p k) := by
  subst eh
  funext j
  by_cases hji : j = i
  · subst hji
    rw [hx_up_at, hx_col_at (h := hx_pr h q j (some p)) (p := p) (hx_pr_at _ _ _ _) hi]
    rfl
  · rw [hx_up_ne hji]
    unfold hx_col
    by_cases hj : j < N
    · rw [if_pos hj, if_pos hj, hx_pr_ne h (some p) (fun z => hji z.2)]
      rfl
    · rw [if_neg hj, if_neg hj]
theorem hx_num_pr {N : Nat} {h h1 : hx_h} {q k p : Nat} {i : Int32} {n : Int} (hn : hx_num N h q k n) (eh : h1 = hx_pr h q i.toNatClampNeg (some p)) (h0 : 0 ≤ i.toInt) (hi : i.toInt = n) (hp : (h.2.1 p k).toInt = i.toInt) : hx_num N h1 q k (n + 1) := by
  subst eh
  have hc : ((i.toNatClampNeg : Nat) : Int) = i.toInt := by unfold Int32.toNatClampNeg; omega
  intro j hj
  by_cases hji : j = i.toNatClampNeg
  · subst hji
    refine ⟨fun _ => ⟨p, hx_pr_at _ _ _ _, ?_⟩, fun z => by exfalso; omega⟩
    show (h.2.1 p k).toInt = _
    omega
  · rw [hx_pr_ne h (some p) (fun z => hji z.2)]
    refine ⟨fun z => ?_, fun z => (hn j hj).2 (by omega)⟩
    obtain ⟨a, fa, ea⟩ := (hn j hj).1 (by omega)
    exact ⟨a, fa, ea⟩
theorem hx_num_z {N : Nat} {h : hx_h} {q k k1 j : Nat} {n : Int} {f : Nat → Int32} (hn : hx_num N h q k n) (hc : hx_col N h q k1 = f) (hj : j < N) (hz : n ≤ (j : Int)) : f j = 0 := by
  rw [← hc]
  unfold hx_col
  rw [if_pos hj, (hn j hj).2 hz]
theorem hx_num_0 {N : Nat} {h : hx_h} {q k : Nat} (z : ∀ j, h.2.1 q j = 0 ∧ h.2.2 q j = none) : hx_num N h q k 0 := fun j _ => ⟨fun hj => by exfalso; omega, fun _ => (z j).2⟩
theorem hx_col_0 {N : Nat} {h : hx_h} {q k r : Nat} (z : ∀ j, h.2.1 q j = 0 ∧ h.2.2 q j = none) (z2 : ∀ j, h.2.1 r j = 0) : hx_eqN N (hx_col N h q k) (h.2.1 r) := fun j hj => by
  unfold hx_col
  rw [if_pos hj, (z j).2, z2 j]
theorem hx_eqN_up {N : Nat} {f g : Nat → Int32} {i : Nat} {v : Int32} (h : hx_eqN N f g) : hx_eqN N (hx_up f i v) (hx_up g i v) := fun j hj => by
  by_cases e : j = i
  · subst e; rw [hx_up_at, hx_up_at]
  · rw [hx_up_ne e, hx_up_ne e]; exact h j hj
theorem hx_eqN_upl {N : Nat} {f g : Nat → Int32} {i : Nat} {v : Int32} (h : hx_eqN N f g) (e : i < N → g i = v) : hx_eqN N (hx_up f i v) g := fun j hj => by
  by_cases e1 : j = i
  · subst e1; rw [hx_up_at]; exact (e hj).symm
  · rw [hx_up_ne e1]; exact h j hj
/-! WHAT BOTH SIDES ANSWER ALIKE -/
def hx_hh (b c d e : Int) : Prop := (0 ≤ b ∧ b ≤ 9999) ∧ (1 ≤ c ∧ c ≤ 20) ∧ (0 ≤ d ∧ d ≤ 99) ∧ (0 ≤ e ∧ e ≤ 99)
def hx_pcn (n a b c d e f : Int) : Prop := n < 40 ∧ (-30000 ≤ a ∧ a ≤ 7999) ∧ (0 ≤ b ∧ b ≤ 9999) ∧ (1 ≤ c ∧ c ≤ 20) ∧ (0 ≤ d ∧ d ≤ 99) ∧ (0 ≤ e ∧ e ≤ 99) ∧ (-1 ≤ f ∧ f ≤ 19)
def hx_PS (n a b c d e f r n1 : Int) : Prop := (r = -1 ∧ n1 = n ∧ ¬ hx_pcn n a b c d e f) ∨ (r = n ∧ n1 = n + 1 ∧ hx_pcn n a b c d e f)
theorem hx_pk {n a b c d e f : Int} {r1 r2 n1 n2 : Int32} (p : hx_PS n a b c d e f r1.toInt n1.toInt) (q : hx_PS n a b c d e f r2.toInt n2.toInt) : r1.toInt = r2.toInt ∧ n1 = n2 := by
  rcases p with ⟨a1, a2, a3⟩ | ⟨a1, a2, a3⟩ <;> rcases q with ⟨b1, b2, b3⟩ | ⟨b1, b2, b3⟩
  · exact ⟨by omega, Int32.toInt_inj.mp (by omega)⟩
  · exact absurd b3 a3
  · exact absurd a3 b3
  · exact ⟨by omega, Int32.toInt_inj.mp (by omega)⟩
/-- of a PERSON's new columns: as before, or one more 0 -/
def hx_PD (n r : Int) (d d1 : Nat → Int32) : Prop := (r = -1 ∧ d1 = d) ∨ (r = n ∧ 0 ≤ n ∧ d1 = hx_up d n.toNat 0)
theorem hx_pdk {n r : Int} {N : Nat} {d d1 g : Nat → Int32} (p : hx_PD n r d d1) (e : hx_eqN N d g) (z : n.toNat < N → d n.toNat = 0) : hx_eqN N d1 g := by
  rcases p with ⟨_, a⟩ | ⟨_, _, a⟩
  · rw [a]; exact e
  · rw [a]; exact hx_eqN_upl e (fun hn => by rw [← e _ hn]; exact z hn)
def hx_JC (n i : Int) (v : Int32) (d : Nat → Int32) : Prop := 0 ≤ i ∧ i < n ∧ (d i.toNat).toInt ≠ v.toInt
def hx_JS (n i : Int) (v : Int32) (d : Nat → Int32) (r : Int) (d1 : Nat → Int32) : Prop := (r = 0 ∧ d1 = d ∧ ¬ hx_JC n i v d) ∨ (r = 1 ∧ d1 = hx_up d i.toNat v ∧ hx_JC n i v d)
theorem hx_JC_c {n i : Int} {N : Nat} {v : Int32} {d g : Nat → Int32} (hn : n ≤ N) (e : hx_eqN N d g) (c : hx_JC n i v d) : hx_JC n i v g := ⟨c.1, c.2.1, by rw [← e i.toNat (by have := c.1; have := c.2.1; omega)]; exact c.2.2⟩
theorem hx_eqN_s {N : Nat} {f g : Nat → Int32} (e : hx_eqN N f g) : hx_eqN N g f := fun j hj => (e j hj).symm
theorem hx_jk {n i : Int} {N : Nat} {v r1 r2 : Int32} {d d1 g g1 : Nat → Int32} (hn : n ≤ N) (e : hx_eqN N d g) (p : hx_JS n i v d r1.toInt d1) (q : hx_JS n i v g r2.toInt g1) : r1.toInt = r2.toInt ∧ hx_eqN N d1 g1 := by
  rcases p with ⟨a1, a2, a3⟩ | ⟨a1, a2, a3⟩ <;> rcases q with ⟨b1, b2, b3⟩ | ⟨b1, b2, b3⟩
  · exact ⟨by omega, by rw [a2, b2]; exact e⟩
  · exact absurd (hx_JC_c hn (hx_eqN_s e) b3) a3
  · exact absurd (hx_JC_c hn e a3) b3
  · exact ⟨by omega, by rw [a2, b2]; exact hx_eqN_up e⟩
def hx_AC (n i b c d e : Int) (f : Nat → Int32) : Prop := (0 ≤ i ∧ i < n) ∧ (f i.toNat).toInt = 0 ∧ hx_hh b c d e
def hx_AS (n i b c d e : Int) (f : Nat → Int32) (r : Int) : Prop := (r = 0 ∧ ¬ hx_AC n i b c d e f) ∨ (r = 1 ∧ hx_AC n i b c d e f)
theorem hx_ak {n i b c d e : Int} {N : Nat} {f g : Nat → Int32} {r1 r2 : Int32} (hn : n ≤ N) (q : hx_eqN N f g) (u : hx_AS n i b c d e f r1.toInt) (v : hx_AS n i b c d e g r2.toInt) : r1.toInt = r2.toInt := by
  have key : hx_AC n i b c d e f ↔ hx_AC n i b c d e g := by
    constructor
    · exact fun c => ⟨c.1, by rw [← q i.toNat (by have := c.1; omega)]; exact c.2.1, c.2.2⟩
    · exact fun c => ⟨c.1, by rw [q i.toNat (by have := c.1; omega)]; exact c.2.1, c.2.2⟩
  rcases u with ⟨a1, a2⟩ | ⟨a1, a2⟩ <;> rcases v with ⟨b1, b2⟩ | ⟨b1, b2⟩
  · omega
  · exact absurd (key.mpr b2) a2
  · exact absurd (key.mp a2) b2
  · omega
def hx_LC (l n now a b d k s : Int) : Prop := l < 400 ∧ (0 ≤ a ∧ a < n) ∧ (0 ≤ b ∧ b < n) ∧ a ≠ b ∧ (0 ≤ d ∧ d ≤ now) ∧ (0 ≤ k ∧ k ≤ 3) ∧ (1 ≤ s ∧ s ≤ 9999)
def hx_LS (l n now a b d k s r l1 : Int) : Prop := (r = -1 ∧ l1 = l ∧ ¬ hx_LC l n now a b d k s) ∨ (r = l + 1 ∧ l1 = l + 1 ∧ hx_LC l n now a b d k s)
theorem hx_lk {l n now a b d k s : Int} {r1 r2 n1 n2 : Int32} (p : hx_LS l n now a b d k s r1.toInt n1.toInt) (q : hx_LS l n now a b d k s r2.toInt n2.toInt) : r1.toInt = r2.toInt ∧ n1 = n2 := by
  rcases p with ⟨a1, a2, a3⟩ | ⟨a1, a2, a3⟩ <;> rcases q with ⟨b1, b2, b3⟩ | ⟨b1, b2, b3⟩
  · exact ⟨by omega, Int32.toInt_inj.mp (by omega)⟩
  · exact absurd b3 a3
  · exact absurd a3 b3
  · exact ⟨by omega, Int32.toInt_inj.mp (by omega)⟩
/-- a CLAIM is filed -/
def hx_FC (c n now a b s fr w : Int) (d : Nat → Int32) : Prop := c < 100 ∧ (0 ≤ a ∧ a < n) ∧ (0 ≤ b ∧ b < n) ∧ a ≠ b ∧ (d b.toNat).toInt = 0 ∧ (1 ≤ s ∧ s ≤ 9999) ∧ (0 ≤ fr ∧ fr ≤ now) ∧ (0 ≤ w ∧ w ≤ 9)
def hx_FS (c n now a b s fr w : Int) (d : Nat → Int32) (r c1 : Int) : Prop := (r = -1 ∧ c1 = c ∧ ¬ hx_FC c n now a b s fr w d) ∨ (r = c ∧ c1 = c + 1 ∧ hx_FC c n now a b s fr w d)
theorem hx_fk {c n now a b s fr w : Int} {N : Nat} {d g : Nat → Int32} {r1 r2 n1 n2 : Int32} (hn : n ≤ N) (e : hx_eqN N d g) (p : hx_FS c n now a b s fr w d r1.toInt n1.toInt) (q : hx_FS c n now a b s fr w g r2.toInt n2.toInt) : r1.toInt = r2.toInt ∧ n1 = n2 := by
  have key : hx_FC c n now a b s fr w d ↔ hx_FC c n now a b s fr w g := by
    constructor
    · exact fun z => ⟨z.1, z.2.1, z.2.2.1, z.2.2.2.1, by rw [← e b.toNat (by have := z.2.2.1; omega)]; exact z.2.2.2.2.1, z.2.2.2.2.2⟩
    · exact fun z => ⟨z.1, z.2.1, z.2.2.1, z.2.2.2.1, by rw [e b.toNat (by have := z.2.2.1; omega)]; exact z.2.2.2.2.1, z.2.2.2.2.2⟩
  rcases p with ⟨a1, a2, a3⟩ | ⟨a1, a2, a3⟩ <;> rcases q with ⟨b1, b2, b3⟩ | ⟨b1, b2, b3⟩
  · exact ⟨by omega, Int32.toInt_inj.mp (by omega)⟩
  · exact absurd (key.mpr b3) a3
  · exact absurd (key.mp a3) b3
  · exact ⟨by omega, Int32.toInt_inj.mp (by omega)⟩
theorem hx_nz01 {v : Int32} (h : v.toInt = 0 ∨ v.toInt = 1) : vp_nar .boolean v = v := by
  rcases h with h | h
  · have : v = 0 := Int32.toInt_inj.mp (h.trans (by decide))
    subst this; rfl
  · have : v = 1 := Int32.toInt_inj.mp (h.trans (by decide))
    subst this; rfl
/-- a CLAIM is summoned -/
def hx_SC (n i : Int) (ff : Nat → Int32) : Prop := 0 ≤ i ∧ i < n ∧ (ff i.toNat).toInt = -1
def hx_SS (n i : Int) (b nw r : Int32) (ff ff1 tf tf1 : Nat → Int32) : Prop := (r = -1 ∧ ff1 = ff ∧ tf1 = tf ∧ ¬ hx_SC n i ff) ∨ (hx_SC n i ff ∧ r = tf i.toNat + 1 ∧ tf1 = hx_up tf i.toNat (tf i.toNat + 1) ∧ ((b.toInt = 0 ∧ ff1 = ff) ∨ (b.toInt ≠ 0 ∧ ff1 = hx_up ff i.toNat nw)))
theorem hx_SC_c {n i : Int} {N : Nat} {d g : Nat → Int32} (hn : n ≤ N) (e : hx_eqN N d g) (c : hx_SC n i d) : hx_SC n i g := ⟨c.1, c.2.1, by rw [← e i.toNat (by have := c.1; have := c.2.1; omega)]; exact c.2.2⟩
theorem hx_sk {n i : Int} {N : Nat} {b nw r1 r2 : Int32} {ff ff1 tf tf1 gf gf1 ug ug1 : Nat → Int32} (hn : n ≤ N) (e : hx_eqN N ff gf) (e2 : hx_eqN N tf ug) (p : hx_SS n i b nw r1 ff ff1 tf tf1) (q : hx_SS n i b nw r2 gf gf1 ug ug1) : r1.toInt = r2.toInt ∧ hx_eqN N ff1 gf1 ∧ hx_eqN N tf1 ug1 := by
  rcases p with ⟨a1, a2, a3, a4⟩ | ⟨a1, a2, a3, a4⟩ <;> rcases q with ⟨b1, b2, b3, b4⟩ | ⟨b1, b2, b3, b4⟩
  · exact ⟨by rw [a1, b1], by rw [a2, b2]; exact e, by rw [a3, b3]; exact e2⟩
  · exact absurd (hx_SC_c hn (hx_eqN_s e) b1) a4
  · exact absurd (hx_SC_c hn e a1) b4
  · have hi : i.toNat < N := by have := a1.1; have := a1.2.1; omega
    have h2 : tf i.toNat = ug i.toNat := e2 _ hi
    refine ⟨by rw [a2, b2, h2], ?_, by rw [a3, b3, h2]; exact hx_eqN_up e2⟩
    rcases a4 with ⟨u1, u2⟩ | ⟨u1, u2⟩ <;> rcases b4 with ⟨v1, v2⟩ | ⟨v1, v2⟩
    · rw [u2, v2]; exact e
    · exact absurd u1 v1
    · exact absurd v1 u1
    · rw [u2, v2]; exact hx_eqN_up e
/-- who was heard was found -/
def hx_HF (n : Int) (hf ff : Nat → Int32) : Prop := ∀ c : Nat, (c : Int) < n → (hf c).toInt ≠ -1 → (ff c).toInt ≠ -1
theorem hx_HF_s {n i : Int} {b nw r : Int32} {ff ff1 tf tf1 hf : Nat → Int32} (h : hx_HF n hf ff) (hn : 0 ≤ nw.toInt) (p : hx_SS n i b nw r ff ff1 tf tf1) : hx_HF n hf ff1 := by
  intro c hc hh
  have h0 := h c hc hh
  rcases p with ⟨_, e, _⟩ | ⟨_, _, _, ⟨_, e⟩ | ⟨_, e⟩⟩
  · rw [e]; exact h0
  · rw [e]; exact h0
  · rw [e]
    by_cases z : c = i.toNat
    · rw [z, hx_up_at]; omega
    · rw [hx_up_ne z]; exact h0
theorem hx_HF_f {n n1 : Int} {hf hf1 ff ff1 : Nat → Int32} (h : hx_HF n hf ff) (n0 : 0 ≤ n) (p : (n1 = n ∧ hf1 = hf ∧ ff1 = ff) ∨ (n1 = n + 1 ∧ hf1 = hx_up hf n.toNat (-1) ∧ ff1 = hx_up ff n.toNat (-1))) : hx_HF n1 hf1 ff1 := by
  rcases p with ⟨a, b, c⟩ | ⟨a, b, c⟩
  · rw [a, b, c]; exact h
  · rw [a, b, c]
    intro k hk hh
    by_cases z : k = n.toNat
    · rw [z, hx_up_at] at hh; exact absurd (by decide) hh
    · rw [hx_up_ne z] at hh ⊢; exact h k (by omega) hh
theorem hx_HF_h {n : Int} {hf hf1 ff : Nat → Int32} (h : hx_HF n hf ff) (p : hf1 = hf ∨ ∃ (j : Nat) (v : Int32), hf1 = hx_up hf j v ∧ (ff j).toInt ≠ -1) : hx_HF n hf1 ff := by
  rcases p with e | ⟨j, v, e, hj⟩
  · rw [e]; exact h
  · rw [e]
    intro c hc hh
    by_cases z : c = j
    · rw [z]; exact hj
    · rw [hx_up_ne z] at hh; exact h c hc hh
/-- of a new CLAIM's columns: as before, or one more at the end -/
def hx_CD (n r : Int) (v : Int32) (d d1 : Nat → Int32) : Prop := (r = -1 ∧ d1 = d) ∨ (r = n ∧ 0 ≤ n ∧ d1 = hx_up d n.toNat v)
theorem hx_cdk {n r r2 : Int} {N : Nat} {v : Int32} {d d1 g g1 : Nat → Int32} (hr : r = r2) (p : hx_CD n r v d d1) (q : hx_CD n r2 v g g1) (e : hx_eqN N d g) : hx_eqN N d1 g1 := by
  rcases p with ⟨a1, a2⟩ | ⟨a1, a2, a3⟩ <;> rcases q with ⟨b1, b2⟩ | ⟨b1, b2, b3⟩
  · rw [a2, b2]; exact e
  · exfalso; omega
  · exfalso; omega
  · rw [a3, b3]; exact hx_eqN_up e
theorem hx_cdz {n r : Int} {N : Nat} {d d1 g : Nat → Int32} (p : hx_CD n r 0 d d1) (e : hx_eqN N d g) (z : n.toNat < N → d n.toNat = 0) : hx_eqN N d1 g := by
  rcases p with ⟨_, a⟩ | ⟨_, _, a⟩
  · rw [a]; exact e
  · rw [a]; exact hx_eqN_upl e (fun hn => by rw [← e _ hn]; exact z hn)
/-! THE LIST OF THE WALK -/
theorem hx_num_at {N : Nat} {h : hx_h} {q k p : Nat} {i : Int32} {n : Int} (hn : hx_num N h q k n) (f : h.2.2 q i.toNatClampNeg = some p) (h0 : 0 ≤ i.toInt) (h1 : i.toInt < N) : h.2.1 p k = i := by
  have hc : ((i.toNatClampNeg : Nat) : Int) = i.toInt := by unfold Int32.toNatClampNeg; omega
  have hj : i.toNatClampNeg < N := by omega
  rcases (show i.toInt < n ∨ n ≤ i.toInt by omega) with z | z
  · obtain ⟨p', f', e⟩ := (hn _ hj).1 (by omega)
    rw [f] at f'
    cases f'
    exact Int32.toInt_inj.mp (by omega)
  · rw [(hn _ hj).2 (by omega)] at f
    cases f
/-- what the one array holds, the other holds too -/
def hx_LQ (N Nc : Nat) (h : hx_h) (a b : Nat) : Prop := ∀ k, k < N → ∀ p, h.2.2 a k = some p → ∃ c, c < Nc ∧ h.2.2 b c = some p
theorem hx_LQ_S {tb : List hx_d} {M : hx_m} {L L1 : List Nat} {h h1 : hx_h} {a b t u N Nc : Nat} (hs : hx_S tb M L h L1 h1) (ga : hx_g L h a t) (gb : hx_g L h b u) (m1 : M.any (fun q => q.1 == t) = false) (m2 : M.any (fun q => q.1 == u) = false) (q : hx_LQ N Nc h a b) : hx_LQ N Nc h1 a b := fun k hk p f => by
  rw [(hs.a ga m1 k).2] at f
  obtain ⟨c, hc, e⟩ := q k hk p f
  exact ⟨c, hc, by rw [(hs.a gb m2 c).2]; exact e⟩
theorem hx_LQ_pr2 {N Nc : Nat} {h h1 : hx_h} {a b k p : Nat} {i : Int32} {n : Int} (q : hx_LQ N Nc h a b) (hn : hx_num Nc h b k n) (eh : h1 = hx_pr h b i.toNatClampNeg (some p)) (h0 : 0 ≤ i.toInt) (hi : i.toInt = n) (ne : b ≠ a) : hx_LQ N Nc h1 a b := by
  subst eh
  have hc : ((i.toNatClampNeg : Nat) : Int) = i.toInt := by unfold Int32.toNatClampNeg; omega
  intro j hj p1 f
  rw [hx_pr_ne h (some p) (fun z => ne z.1.symm)] at f
  obtain ⟨c, hcN, e⟩ := q j hj p1 f
  refine ⟨c, hcN, ?_⟩
  rw [hx_pr_ne h (some p) (fun z => ?_)]
  · exact e
  · rw [(hn c hcN).2 (by omega)] at e
    cases e
theorem hx_LQ_0 {N Nc : Nat} {h : hx_h} {a b : Nat} (z : ∀ j, h.2.1 a j = 0 ∧ h.2.2 a j = none) : hx_LQ N Nc h a b := fun k _ p f => by
  rw [(z k).2] at f; cases f
/-- behind it the array holds nothing that it did not hold, but v -/
def hx_EL (h h1 : hx_h) (a v : Nat) : Prop := ∀ k, k < 8 → ∀ p, h1.2.2 a k = some p → p = v ∨ ∃ j, j < 8 ∧ h.2.2 a j = some p
theorem hx_EL_rf {h : hx_h} {a v : Nat} : hx_EL h h a v := fun k hk p f => Or.inr ⟨k, hk, f⟩
theorem hx_EL_s {h h0 h1 : hx_h} {a v i x j : Nat} (q : hx_EL h h0 a v) (eh : h1 = hx_pr h0 a i (some x)) (fo : h0.2.2 a j = some x) (hj : j < 8) : hx_EL h h1 a v := fun k hk p f => by
  subst eh
  by_cases z : k = i
  · subst z; rw [hx_pr_at] at f; cases f; exact q j hj _ fo
  · rw [hx_pr_ne h0 (some x) (fun w => z w.2)] at f; exact q k hk p f
theorem hx_EL_v {h h0 h1 : hx_h} {a v i : Nat} (q : hx_EL h h0 a v) (eh : h1 = hx_pr h0 a i (some v)) : hx_EL h h1 a v := fun k hk p f => by
  subst eh
  by_cases z : k = i
  · subst z; rw [hx_pr_at] at f; cases f; exact Or.inl rfl
  · rw [hx_pr_ne h0 (some v) (fun w => z w.2)] at f; exact q k hk p f
theorem hx_EL_pi {h h0 h1 : hx_h} {a v b k0 : Nat} {x : Int32} (q : hx_EL h h0 a v) (eh : h1 = hx_pi h0 b k0 x) : hx_EL h h1 a v := fun k hk p f => by
  subst eh
  exact q k hk p f
theorem hx_LQ_EL {Nc : Nat} {h h1 : hx_h} {a b v i : Nat} (q : hx_LQ 8 Nc h a b) (el : hx_EL h h1 a v) (fo : h.2.2 b i = some v) (hi : i < Nc) (hb : ∀ c, h1.2.2 b c = h.2.2 b c) : hx_LQ 8 Nc h1 a b := fun k hk p f => by
  rcases el k hk p f with z | ⟨j, hj, z⟩
  · exact ⟨i, hi, by rw [hb, z]; exact fo⟩
  · obtain ⟨c, hc, e⟩ := q j hj p z
    exact ⟨c, hc, by rw [hb]; exact e⟩
/-- the one with that number is that one -/
theorem hx_LQ_u {h : hx_h} {a b k p v : Nat} {i : Int32} {n : Int} {lf : Nat → Int32} {j : Nat} (q : hx_LQ 8 100 h a b) (hn : hx_num 100 h b k n) (hc : hx_col 8 h a k = lf) (fo : h.2.2 b i.toNatClampNeg = some v) (h0 : 0 ≤ i.toInt) (h1 : i.toInt < 100) (hj : j < 8) (f : h.2.2 a j = some p) (e : lf j = i) : p = v := by
  obtain ⟨c, hcN, fc⟩ := q j hj p f
  rw [← hc, hx_col_at f hj] at e
  rcases (show (c : Int) < n ∨ n ≤ (c : Int) by omega) with z | z
  · obtain ⟨p', f', e'⟩ := (hn c hcN).1 z
    rw [fc] at f'
    cases f'
    rw [e] at e'
    have : c = i.toNatClampNeg := by unfold Int32.toNatClampNeg; omega
    rw [this, fo] at fc
    cases fc
    rfl
  · rw [(hn c hcN).2 z] at fc
    cases fc
def hx_isin (f : Nat → Int32) (n : Int) (v : Int32) : Prop := ∃ k : Nat, (k : Int) < n ∧ f k = v
theorem hx_nin_s {f : Nat → Int32} {i j : Int} {v : Int32} (h : ∀ k : Nat, (k : Int) < i → f k ≠ v) (h0 : 0 ≤ i) (hne : f i.toNat ≠ v) (e : j = i + 1) : ∀ k : Nat, (k : Int) < j → f k ≠ v := fun k hk => by
  rcases (show (k : Int) < i ∨ k = i.toNat by omega) with z | z
  · exact h k z
  · rw [z]; exact hne
theorem hx_isin_c {N : Nat} {f g : Nat → Int32} {n : Int} {v : Int32} (hn : n ≤ N) (e : hx_eqN N f g) (h : hx_isin f n v) : hx_isin g n v := by
  obtain ⟨k, hk, q⟩ := h
  exact ⟨k, hk, by rw [← e k (by omega)]; exact q⟩
/-- put into its place among the first n, as far as it has come: the place i -/
def hx_is (f g : Nat → Int32) (n i : Int) (v : Int32) : Prop := (∀ k : Nat, (k : Int) < i → g k = f k) ∧ (∀ k : Nat, i < (k : Int) → (k : Int) ≤ n → g k = f (k - 1)) ∧ (∀ k : Nat, n < (k : Int) → g k = f k) ∧ (∀ k : Nat, i ≤ (k : Int) → (k : Int) < n → v.toInt < (f k).toInt)
theorem hx_is_0 {f : Nat → Int32} {n : Int} {v : Int32} : hx_is f f n n v := ⟨fun _ _ => rfl, fun k h1 h2 => by exfalso; omega, fun _ _ => rfl, fun k h1 h2 => by exfalso; omega⟩
theorem hx_is_s {f g g1 : Nat → Int32} {n i : Int} {v y j : Int32} (h : hx_is f g n i v) (hi : 0 < i) (hn : i ≤ n) (hy : y.toInt = i - 1) (hv : v.toInt < (g y.toNatClampNeg).toInt) (hj : j.toInt = i) (e : g1 = hx_up g j.toNatClampNeg (g y.toNatClampNeg)) : hx_is f g1 n y.toInt v := by
  obtain ⟨a, b, c, d⟩ := h
  have cj : ((j.toNatClampNeg : Nat) : Int) = i := by unfold Int32.toNatClampNeg; omega
  have cy : ((y.toNatClampNeg : Nat) : Int) = i - 1 := by unfold Int32.toNatClampNeg; omega
  have gy : g y.toNatClampNeg = f y.toNatClampNeg := a _ (by omega)
  subst e
  refine ⟨fun k hk => ?_, fun k h1 h2 => ?_, fun k hk => ?_, fun k h1 h2 => ?_⟩
  · rw [hx_up_ne (by omega)]; exact a k (by omega)
  · by_cases z : k = j.toNatClampNeg
    · rw [z, hx_up_at, gy]; congr 1; omega
    · rw [hx_up_ne z]; exact b k (by omega) h2
  · rw [hx_up_ne (by omega)]; exact c k hk
  · by_cases z : k = y.toNatClampNeg
    · rw [z, ← gy]; exact hv
    · exact d k (by omega) h2
def hx_ins (f g : Nat → Int32) (n : Int) (v : Int32) : Prop := ∃ (i : Int) (g0 : Nat → Int32), 0 ≤ i ∧ i ≤ n ∧ hx_is f g0 n i v ∧ g = hx_up g0 i.toNat v ∧ (i = 0 ∨ (f (i - 1).toNat).toInt ≤ v.toInt)
theorem hx_ins_k {f1 f2 g1 g2 : Nat → Int32} {n : Int} {v : Int32} (hn : n < 8) (e : hx_eqN 8 f1 f2) (p : hx_ins f1 g1 n v) (q : hx_ins f2 g2 n v) : hx_eqN 8 g1 g2 := by
  obtain ⟨i, a, i0, i1, ⟨a1, a2, a3, a4⟩, ea, oa⟩ := p
  obtain ⟨j, b, j0, j1, ⟨b1, b2, b3, b4⟩, eb, ob⟩ := q
  have hij : i = j := by
    rcases (show i < j ∨ i = j ∨ j < i by omega) with z | z | z
    · exfalso
      rcases ob with w | w
      · omega
      · have h1 := a4 (j - 1).toNat (by omega) (by omega)
        rw [e _ (by omega)] at h1
        omega
    · exact z
    · exfalso
      rcases oa with w | w
      · omega
      · have h1 := b4 (i - 1).toNat (by omega) (by omega)
        rw [← e _ (by omega)] at h1
        omega
  subst hij
  intro k hk
  rw [ea, eb]
  by_cases z : k = i.toNat
  · rw [z, hx_up_at, hx_up_at]
  · rw [hx_up_ne z, hx_up_ne z]
    rcases (show (k : Int) < i ∨ (i < (k : Int) ∧ (k : Int) ≤ n) ∨ n < (k : Int) by omega) with w | w | w
    · rw [a1 k w, b1 k w]; exact e k hk
    · rw [a2 k w.1 w.2, b2 k w.1 w.2]; exact e (k - 1) (by omega)
    · rw [a3 k w, b3 k w]; exact e k hk
def hx_WC (c i n : Int) (v : Int32) (ff lf : Nat → Int32) : Prop := 0 ≤ i ∧ i < c ∧ (ff i.toNat).toInt = -1 ∧ ¬ hx_isin lf n v ∧ n < 8
def hx_WL (c i n : Int) (v : Int32) (ff lf lf1 : Nat → Int32) (r n1 : Int) : Prop := (r = -1 ∧ lf1 = lf ∧ n1 = n ∧ ¬ hx_WC c i n v ff lf) ∨ (r = n + 1 ∧ n1 = n + 1 ∧ hx_ins lf lf1 n v ∧ hx_WC c i n v ff lf)
theorem hx_wk {c i n : Int} {v r1 r2 n1 n2 : Int32} {ff gf lf lf1 mf mf1 : Nat → Int32} (hc : c ≤ 100) (hn : n ≤ 8) (e : hx_eqN 100 ff gf) (e2 : hx_eqN 8 lf mf) (p : hx_WL c i n v ff lf lf1 r1.toInt n1.toInt) (q : hx_WL c i n v gf mf mf1 r2.toInt n2.toInt) : r1.toInt = r2.toInt ∧ n1 = n2 ∧ hx_eqN 8 lf1 mf1 := by
  have key : hx_WC c i n v ff lf ↔ hx_WC c i n v gf mf := by
    constructor
    · rintro ⟨a, b, d, f, g⟩
      exact ⟨a, b, by rw [← e _ (by omega)]; exact d, fun z => f (hx_isin_c (N := 8) hn (hx_eqN_s e2) z), g⟩
    · rintro ⟨a, b, d, f, g⟩
      exact ⟨a, b, by rw [e _ (by omega)]; exact d, fun z => f (hx_isin_c (N := 8) hn e2 z), g⟩
  rcases p with ⟨a1, a2, a3, a4⟩ | ⟨a1, a2, a3, a4⟩ <;> rcases q with ⟨b1, b2, b3, b4⟩ | ⟨b1, b2, b3, b4⟩
  · exact ⟨by omega, Int32.toInt_inj.mp (by omega), by rw [a2, b2]; exact e2⟩
  · exact absurd (key.mpr b4) a4
  · exact absurd (key.mp a4) b4
  · exact ⟨by omega, Int32.toInt_inj.mp (by omega), hx_ins_k a4.2.2.2.2 e2 a3 b3⟩
end
section
/-! BOOKS: sums, order by days, twins -/
def hy_ln (o w d : Nat → Int32) (p q u : Int32) (x : Nat) : Bool := decide (o x = p) && (decide (w x = q) && decide ((d x).toInt ≤ u.toInt))
theorem hy_ln_t {o w d : Nat → Int32} {p q u : Int32} {x : Nat} : hy_ln o w d p q u x = true ↔ o x = p ∧ w x = q ∧ (d x).toInt ≤ u.toInt := by
  simp [hy_ln]
theorem hy_ln_f {o w d : Nat → Int32} {p q u : Int32} {x : Nat} (h : ¬ (o x = p ∧ w x = q ∧ (d x).toInt ≤ u.toInt)) : hy_ln o w d p q u x = false := by
  cases e : hy_ln o w d p q u x with
  | false => rfl
  | true => exact absurd (hy_ln_t.mp e) h
def hy_bt (k s : Nat → Int32) (i : Nat) : Int32 := if (k i).toInt = 0 ∨ (k i).toInt = 3 then s i else - s i
def hy_bs (o w d k s : Nat → Int32) (p q u : Int32) : Nat → Int32
  | 0 => 0
  | i + 1 => if hy_ln o w d p q u i then hy_bs o w d k s p q u i + hy_bt k s i else hy_bs o w d k s p q u i
theorem hy_bs_n {o w d k s : Nat → Int32} {p q u v i j : Int32} (h : v.toInt = (hy_bs o w d k s p q u i.toInt.toNat).toInt) (h0 : 0 ≤ i.toInt) (hl : hy_ln o w d p q u i.toNatClampNeg = false) (e : j.toInt = i.toInt + 1) : v.toInt = (hy_bs o w d k s p q u j.toInt.toNat).toInt := by
  have : j.toInt.toNat = i.toInt.toNat + 1 := by omega
  rw [this, h]
  show _ = (if hy_ln o w d p q u i.toNatClampNeg then _ else _ : Int32).toInt
  rw [hl]
  rfl
theorem hy_bs_y {o w d k s : Nat → Int32} {p q u v y t i j : Int32} (h : v.toInt = (hy_bs o w d k s p q u i.toInt.toNat).toInt) (h0 : 0 ≤ i.toInt) (hl : hy_ln o w d p q u i.toNatClampNeg = true) (hy : y = v + t) (ht : t = hy_bt k s i.toNatClampNeg) (e : j.toInt = i.toInt + 1) : y.toInt = (hy_bs o w d k s p q u j.toInt.toNat).toInt := by
  have e1 : j.toInt.toNat = i.toInt.toNat + 1 := by omega
  have e2 : v = hy_bs o w d k s p q u i.toInt.toNat := Int32.toInt_inj.mp h
  rw [e1, hy, ht, e2]
  show _ = (if hy_ln o w d p q u i.toNatClampNeg then _ else _ : Int32).toInt
  rw [hl]
  rfl
theorem hy_ln_c {n : Nat} {o w d o2 w2 d2 : Nat → Int32} {p q u : Int32} {x : Nat} (h : x < n) (eo : hx_eqN n o o2) (ew : hx_eqN n w w2) (ed : hx_eqN n d d2) : hy_ln o w d p q u x = hy_ln o2 w2 d2 p q u x := by
  unfold hy_ln
  rw [eo x h, ew x h, ed x h]
theorem hy_bs_c {n : Nat} {o w d k s o2 w2 d2 k2 s2 : Nat → Int32} {p q u : Int32} (eo : hx_eqN n o o2) (ew : hx_eqN n w w2) (ed : hx_eqN n d d2) (ek : hx_eqN n k k2) (es : hx_eqN n s s2) : ∀ i, i ≤ n → hy_bs o w d k s p q u i = hy_bs o2 w2 d2 k2 s2 p q u i
  | 0, _ => rfl
  | i + 1, h => by
    have ih := hy_bs_c (p := p) (q := q) (u := u) eo ew ed ek es i (by omega)
    show (if hy_ln o w d p q u i then hy_bs o w d k s p q u i + hy_bt k s i else hy_bs o w d k s p q u i) = (if hy_ln o2 w2 d2 p q u i then hy_bs o2 w2 d2 k2 s2 p q u i + hy_bt k2 s2 i else hy_bs o2 w2 d2 k2 s2 p q u i)
    unfold hy_bt
    rw [hy_ln_c (by omega) eo ew ed, ih, ek i (by omega), es i (by omega)]
/-- DISORDER: how many, and the DAY ahead -/
def hy_dr (o d : Nat → Int32) (p : Int32) (a : Int) : Nat → Int × Int
  | 0 => (0, a)
  | i + 1 => if o i = p then ((hy_dr o d p a i).1 + (if (d i).toInt < (hy_dr o d p a i).2 then 1 else 0), (d i).toInt) else hy_dr o d p a i
theorem hy_dr_n {o d : Nat → Int32} {p i j : Int32} {a m v : Int} (h : (m, v) = hy_dr o d p a i.toInt.toNat) (h0 : 0 ≤ i.toInt) (hl : ¬ o i.toNatClampNeg = p) (e : j.toInt = i.toInt + 1) : (m, v) = hy_dr o d p a j.toInt.toNat := by
  have e1 : j.toInt.toNat = i.toInt.toNat + 1 := by omega
  rw [e1, h]
  show _ = (if o i.toNatClampNeg = p then _ else _)
  rw [if_neg hl]
theorem hy_dr_y {o d : Nat → Int32} {p i j x : Int32} {a m v m1 : Int} (h : (m, v) = hy_dr o d p a i.toInt.toNat) (h0 : 0 ≤ i.toInt) (hl : o i.toNatClampNeg = p) (hx : x = d i.toNatClampNeg) (hm : m1 = m + (if x.toInt < v then 1 else 0)) (e : j.toInt = i.toInt + 1) : (m1, x.toInt) = hy_dr o d p a j.toInt.toNat := by
  have e1 : j.toInt.toNat = i.toInt.toNat + 1 := by omega
  have e2 : i.toInt.toNat = i.toNatClampNeg := rfl
  rw [e1]
  show _ = (if o i.toInt.toNat = p then _ else _)
  rw [e2, if_pos hl, ← e2, ← h, hm, hx]
  rfl
theorem hy_dr_c {n : Nat} {o d o2 d2 : Nat → Int32} {p : Int32} (eo : hx_eqN n o o2) (ed : hx_eqN n d d2) (hd : ∀ x, x < n → 0 ≤ (d x).toInt) : ∀ i, i ≤ n → (hy_dr o d p 0 i).1 = (hy_dr o2 d2 p (-1) i).1 ∧ ((hy_dr o d p 0 i).2 = (hy_dr o2 d2 p (-1) i).2 ∨ ((hy_dr o d p 0 i).2 = 0 ∧ (hy_dr o2 d2 p (-1) i).2 = -1))
  | 0, _ => ⟨rfl, Or.inr ⟨rfl, rfl⟩⟩
  | i + 1, h => by
    have ih := hy_dr_c (p := p) eo ed hd i (by omega)
    have h1 := hd i (by omega)
    simp only [hy_dr]
    rw [← eo i (by omega), ← ed i (by omega)]
    by_cases z : o i = p
    · rw [if_pos z, if_pos z]
      refine ⟨?_, Or.inl rfl⟩
      show _ + _ = _ + _
      rw [ih.1]
      rcases ih.2 with w | ⟨w1, w2⟩
      · rw [w]
      · rw [w1, w2, if_neg (by omega), if_neg (by omega)]
    · rw [if_neg z, if_neg z]
      exact ih
/-- how many below n -/
def hy_cnt (p : Nat → Bool) : Nat → Nat
  | 0 => 0
  | n + 1 => hy_cnt p n + (if p n then 1 else 0)
theorem hy_cnt_le {p q : Nat → Bool} : ∀ n, (∀ y, y < n → p y = true → q y = true) → hy_cnt p n ≤ hy_cnt q n
  | 0, _ => Nat.le_refl _
  | n + 1, h => by
    have ih := hy_cnt_le n (fun y hy => h y (by omega))
    have h1 := h n (by omega)
    simp only [hy_cnt]
    cases hp : p n
    · simp; omega
    · rw [h1 hp]; simp; omega
theorem hy_cnt_lt {p q : Nat → Bool} : ∀ n, (∀ y, y < n → p y = true → q y = true) → (∃ x, x < n ∧ q x = true ∧ p x = false) → hy_cnt p n < hy_cnt q n
  | 0, _, ⟨x, hx, _⟩ => by omega
  | n + 1, h, ⟨x, hx, h1, h2⟩ => by
    simp only [hy_cnt]
    by_cases e : x = n
    · subst e
      have := hy_cnt_le (p := p) (q := q) x (fun y hy => h y (by omega))
      rw [h1, h2]; simp; omega
    · have ih := hy_cnt_lt n (fun y hy => h y (by omega)) ⟨x, by omega, h1, h2⟩
      have h3 := h n (by omega)
      cases hp : p n
      · simp; omega
      · rw [h3 hp]; simp; omega
theorem hy_cnt_c {p q : Nat → Bool} : ∀ n, (∀ y, y < n → p y = q y) → hy_cnt p n = hy_cnt q n
  | 0, _ => rfl
  | n + 1, h => by simp only [hy_cnt]; rw [hy_cnt_c n (fun y hy => h y (by omega)), h n (by omega)]
theorem hy_cnt_n {p : Nat → Bool} : ∀ n, hy_cnt p n ≤ n
  | 0 => Nat.le_refl _
  | n + 1 => by have := hy_cnt_n (p := p) n; simp only [hy_cnt]; split <;> omega
/-- an earlier DAY, or the same and told earlier -/
def hy_kl (d : Nat → Int32) (x y : Nat) : Bool := decide ((d x).toInt < (d y).toInt ∨ ((d x).toInt = (d y).toInt ∧ x < y))
theorem hy_kl_t {d : Nat → Int32} {x y : Nat} : hy_kl d x y = true ↔ ((d x).toInt < (d y).toInt ∨ ((d x).toInt = (d y).toInt ∧ x < y)) := by simp [hy_kl]
def hy_rk (d : Nat → Int32) (n x : Nat) : Nat := hy_cnt (fun y => hy_kl d y x) n
def hy_pl (d : Nat → Int32) (n : Nat) (D : Int) : Nat := hy_cnt (fun y => decide ((d y).toInt ≤ D)) n
theorem hy_rk_lt {d : Nat → Int32} {n x : Nat} {D : Int} (hx : x < n) (h : (d x).toInt ≤ D) : hy_rk d n x < hy_pl d n D := by
  refine hy_cnt_lt n (fun y hy hk => ?_) ⟨x, hx, by simpa using h, ?_⟩
  · have := hy_kl_t.mp hk; simp; omega
  · cases e : hy_kl d x x
    · rfl
    · have := hy_kl_t.mp e; omega
theorem hy_rk_ge {d : Nat → Int32} {n x : Nat} {D : Int} (h : D < (d x).toInt) : hy_pl d n D ≤ hy_rk d n x := by
  refine hy_cnt_le n (fun y hy hk => hy_kl_t.mpr ?_)
  have : (d y).toInt ≤ D := by simpa using hk
  omega
theorem hy_rk_k {d : Nat → Int32} {n x y : Nat} (hx : x < n) (hk : hy_kl d x y = true) : hy_rk d n x < hy_rk d n y := by
  refine hy_cnt_lt n (fun z hz h => ?_) ⟨x, hx, hk, ?_⟩
  · have a := hy_kl_t.mp h; have b := hy_kl_t.mp hk; exact hy_kl_t.mpr (by omega)
  · cases e : hy_kl d x x
    · rfl
    · have := hy_kl_t.mp e; omega
/-- the order by DAYS -/
def hy_BD (d b : Nat → Int32) (n : Nat) : Prop := (∀ x, x < n → (b (hy_rk d n x)).toInt = x) ∧ ∀ j, j < n → ∃ x : Nat, x < n ∧ (b j).toInt = x ∧ hy_rk d n x = j
theorem hy_BD_0 {d b : Nat → Int32} : hy_BD d b 0 := ⟨fun x h => by omega, fun x h => by omega⟩
theorem hy_rk_c {d d2 : Nat → Int32} {n x : Nat} (hx : x < n) (e : hx_eqN n d d2) : hy_rk d n x = hy_rk d2 n x := hy_cnt_c n (fun y hy => by unfold hy_kl; rw [e y hy, e x hx])
theorem hy_BD_c {d d2 b : Nat → Int32} {n : Nat} (e : hx_eqN n d d2) (h : hy_BD d b n) : hy_BD d2 b n := by
  refine ⟨fun x hx => by rw [← hy_rk_c hx e]; exact h.1 x hx, fun j hj => ?_⟩
  obtain ⟨x, hx, e1, e2⟩ := h.2 j hj
  exact ⟨x, hx, e1, by rw [← hy_rk_c hx e]; exact e2⟩
/-- a LINE put in: so far as the place i -/
def hy_bi (d b b1 : Nat → Int32) (n : Nat) (i : Int) (D : Int) : Prop := (∀ k : Nat, (k : Int) < i → b1 k = b k) ∧ (∀ k : Nat, i < (k : Int) → k ≤ n → b1 k = b (k - 1)) ∧ (∀ k : Nat, i ≤ (k : Int) → k < n → D < (d (b k).toInt.toNat).toInt)
theorem hy_bi_0 {d b : Nat → Int32} {n : Nat} {i D : Int} (h : i = n) : hy_bi d b b n i D := ⟨fun _ _ => rfl, fun k h1 h2 => by exfalso; omega, fun k h1 h2 => by exfalso; omega⟩
theorem hy_bi_s {d b b1 b2 : Nat → Int32} {n : Nat} {i D : Int} {y j z x : Int32} (h : hy_bi d b b1 n i D) (hi : 0 < i) (hn : i ≤ n) (hy : y.toInt = i - 1) (hz : z = b1 y.toNatClampNeg) (hx : x = d z.toNatClampNeg) (hv : D < x.toInt) (hj : j.toInt = i) (e : b2 = hx_up b1 j.toNatClampNeg z) : hy_bi d b b2 n y.toInt D := by
  obtain ⟨a, c, f⟩ := h
  have cj : ((j.toNatClampNeg : Nat) : Int) = i := by unfold Int32.toNatClampNeg; omega
  have cy : ((y.toNatClampNeg : Nat) : Int) = i - 1 := by unfold Int32.toNatClampNeg; omega
  have gy : b1 y.toNatClampNeg = b y.toNatClampNeg := a _ (by omega)
  subst e
  refine ⟨fun k hk => ?_, fun k h1 h2 => ?_, fun k h1 h2 => ?_⟩
  · rw [hx_up_ne (by omega)]; exact a k (by omega)
  · by_cases w : k = j.toNatClampNeg
    · rw [w, hx_up_at, hz, gy]; congr 1; omega
    · rw [hx_up_ne w]; exact c k (by omega) h2
  · by_cases w : k = y.toNatClampNeg
    · rw [w, ← gy, ← hz]
      have : d z.toInt.toNat = x := hx.symm
      rw [this]; exact hv
    · exact f k (by omega) h2
theorem hy_BD_in {d b b1 b2 d1 : Nat → Int32} {n : Nat} {i D : Int} {j v nn : Int32} (hB : hy_BD d b n) (hd : ∀ x, x < n → d1 x = d x) (hv : (d1 n).toInt = D) (h : hy_bi d b b1 n i D) (h0 : 0 ≤ i) (hn : i ≤ n) (ho : i = 0 ∨ (d (b (i - 1).toNat).toInt.toNat).toInt ≤ D) (hj : j.toInt = i) (hnn : nn.toInt = n) (e : b2 = hx_up b1 j.toNatClampNeg nn) : hy_BD d1 b2 (n + 1) := by
  obtain ⟨a, c, f⟩ := h
  have cj : ((j.toNatClampNeg : Nat) : Int) = i := by unfold Int32.toNatClampNeg; omega
  have hP : i = hy_pl d n D := by
    have hPn : hy_pl d n D ≤ n := hy_cnt_n n
    rcases (show i < hy_pl d n D ∨ i = hy_pl d n D ∨ (hy_pl d n D : Int) < i by omega) with z | z | z
    · exfalso
      obtain ⟨x, hx, e1, e2⟩ := hB.2 i.toNat (by omega)
      have h1 := f i.toNat (by omega) (by omega)
      rw [e1] at h1
      have := hy_rk_ge (n := n) (x := x) (D := D) (by simpa using h1)
      omega
    · exact z
    · exfalso
      rcases ho with w | w
      · omega
      · obtain ⟨x, hx, e1, e2⟩ := hB.2 (i - 1).toNat (by omega)
        rw [e1] at w
        have := hy_rk_lt (n := n) hx (show (d x).toInt ≤ D by simpa using w)
        omega
  have kx : ∀ x, x < n → hy_rk d1 (n + 1) x = hy_rk d n x + (if D < (d x).toInt then 1 else 0) := by
    intro x hx
    show hy_cnt (fun y => hy_kl d1 y x) n + (if hy_kl d1 n x then 1 else 0) = _
    have e1 : hy_cnt (fun y => hy_kl d1 y x) n = hy_rk d n x := hy_cnt_c n (fun y hy => by unfold hy_kl; rw [hd y hy, hd x hx])
    rw [e1]
    congr 1
    by_cases z : D < (d x).toInt
    · rw [if_pos z, if_pos (hy_kl_t.mpr (by rw [hv, hd x hx]; omega))]
    · rw [if_neg z, if_neg (fun w => by have := hy_kl_t.mp w; rw [hv, hd x hx] at this; omega)]
  have kn : hy_rk d1 (n + 1) n = hy_pl d n D := by
    show hy_cnt (fun y => hy_kl d1 y n) n + (if hy_kl d1 n n then 1 else 0) = _
    have e0 : ¬ hy_kl d1 n n = true := fun w => by have := hy_kl_t.mp w; omega
    rw [if_neg e0]
    refine hy_cnt_c n (fun y hy => ?_)
    unfold hy_kl
    rw [hd y hy, hv]
    by_cases z : (d y).toInt ≤ D
    · rw [decide_eq_true z, decide_eq_true (by omega)]
    · rw [decide_eq_false z, decide_eq_false (by omega)]
  subst e
  refine ⟨fun x hx => ?_, fun k hk => ?_⟩
  · by_cases z : x = n
    · subst z
      rw [kn, show hy_pl d x D = j.toNatClampNeg by omega, hx_up_at, hnn]
    · have hxn : x < n := by omega
      rw [kx x hxn]
      by_cases w : D < (d x).toInt
      · have := hy_rk_ge (n := n) w
        have hr : hy_rk d n x < n := by
          have := hy_cnt_lt (p := fun y => hy_kl d y x) (q := fun _ => true) n (fun _ _ _ => rfl) ⟨x, hxn, rfl, by
            cases e9 : hy_kl d x x
            · rfl
            · have := hy_kl_t.mp e9; omega⟩
          exact Nat.lt_of_lt_of_le this (hy_cnt_n n)
        rw [if_pos w, hx_up_ne (by omega), c _ (by omega) (by omega)]
        exact hB.1 x hxn
      · have := hy_rk_lt hxn (show (d x).toInt ≤ D by omega)
        rw [if_neg w, Nat.add_zero, hx_up_ne (by omega), a _ (by omega)]
        exact hB.1 x hxn
  · rcases (show (k : Int) < i ∨ (k : Int) = i ∨ i < (k : Int) by omega) with z | z | z
    · obtain ⟨x, hx, e1, e2⟩ := hB.2 k (by omega)
      refine ⟨x, by omega, by rw [hx_up_ne (by omega), a k z]; exact e1, ?_⟩
      rw [kx x hx, if_neg (fun w => by have := hy_rk_ge (n := n) w; omega)]
      omega
    · exact ⟨n, by omega, by rw [show k = j.toNatClampNeg by omega, hx_up_at, hnn], by rw [kn]; omega⟩
    · obtain ⟨x, hx, e1, e2⟩ := hB.2 (k - 1) (by omega)
      refine ⟨x, by omega, by rw [hx_up_ne (by omega), c k z (by omega)]; exact e1, ?_⟩
      rw [kx x hx, if_pos (Int.not_le.mp (fun w => by have := hy_rk_lt hx w; omega))]
      omega
/-! twins -/
def hy_tw (d k s : Nat → Int32) (x y : Nat) : Bool := decide (k x ^^^ 1 = k y) && (decide (s x = s y) && decide (-3 ≤ (d x).toInt - (d y).toInt ∧ (d x).toInt - (d y).toInt ≤ 3))
theorem hy_tw_t {d k s : Nat → Int32} {x y : Nat} : hy_tw d k s x y = true ↔ k x ^^^ 1 = k y ∧ s x = s y ∧ -3 ≤ (d x).toInt - (d y).toInt ∧ (d x).toInt - (d y).toInt ≤ 3 := by simp [hy_tw]
def hy_tp (o w d k s T : Nat → Int32) (p q u : Int32) (x y : Nat) : Bool := decide ((T y).toInt = 0) && (hy_ln o w d q p u y && hy_tw d k s x y)
/-- the earliest of those -/
def hy_am (pr : Nat → Bool) (d : Nat → Int32) : Nat → Int
  | 0 => -1
  | b + 1 => if pr b then (if hy_am pr d b < 0 ∨ (d b).toInt < (d (hy_am pr d b).toNat).toInt then (b : Int) else hy_am pr d b) else hy_am pr d b
theorem hy_am_p {pr : Nat → Bool} {d : Nat → Int32} : ∀ n, (hy_am pr d n = -1 ∧ ∀ y, y < n → pr y = false) ∨ ∃ x : Nat, x < n ∧ hy_am pr d n = x ∧ pr x = true ∧ ∀ y, y < n → pr y = true → x = y ∨ hy_kl d x y = true
  | 0 => Or.inl ⟨rfl, fun y h => by omega⟩
  | n + 1 => by
    simp only [hy_am]
    cases hp : pr n
    · rw [if_neg (by simp)]
      rcases hy_am_p (pr := pr) (d := d) n with ⟨a, b⟩ | ⟨x, hx, a, b, c⟩
      · refine Or.inl ⟨a, fun y hy => ?_⟩
        by_cases z : y = n
        · rw [z]; exact hp
        · exact b y (by omega)
      · refine Or.inr ⟨x, by omega, a, b, fun y hy hpy => ?_⟩
        by_cases z : y = n
        · rw [z, hp] at hpy; cases hpy
        · exact c y (by omega) hpy
    · rw [if_pos rfl]
      rcases hy_am_p (pr := pr) (d := d) n with ⟨a, b⟩ | ⟨x, hx, a, b, c⟩
      · rw [if_pos (Or.inl (by omega))]
        refine Or.inr ⟨n, by omega, rfl, hp, fun y hy hpy => ?_⟩
        by_cases z : y = n
        · exact Or.inl z.symm
        · rw [b y (by omega)] at hpy; cases hpy
      · rw [a]
        by_cases z : (d n).toInt < (d x).toInt
        · rw [if_pos (Or.inr (by simpa using z))]
          refine Or.inr ⟨n, by omega, rfl, hp, fun y hy hpy => ?_⟩
          by_cases w : y = n
          · exact Or.inl w.symm
          · refine Or.inr (hy_kl_t.mpr ?_)
            rcases c y (by omega) hpy with e | e
            · subst e; omega
            · have := hy_kl_t.mp e; omega
        · rw [if_neg (by simp; omega)]
          refine Or.inr ⟨x, by omega, rfl, b, fun y hy hpy => ?_⟩
          by_cases w : y = n
          · subst w; exact Or.inr (hy_kl_t.mpr (by omega))
          · exact c y (by omega) hpy
/-- the first along the order by DAYS is the earliest -/
theorem hy_am_no {pr : Nat → Bool} {d b : Nat → Int32} {n : Nat} (hB : hy_BD d b n) (h : ∀ j, j < n → pr (b j).toInt.toNat = false) : hy_am pr d n = -1 := by
  rcases hy_am_p (pr := pr) (d := d) n with ⟨a, _⟩ | ⟨x, hx, a, e, c⟩
  · exact a
  · exfalso
    have hr : hy_rk d n x < n := by
      have := hy_cnt_lt (p := fun y => hy_kl d y x) (q := fun _ => true) n (fun _ _ _ => rfl) ⟨x, hx, rfl, by
        cases e9 : hy_kl d x x
        · rfl
        · have := hy_kl_t.mp e9; omega⟩
      exact Nat.lt_of_lt_of_le this (hy_cnt_n n)
    have h1 := h _ hr
    rw [hB.1 x hx] at h1
    simp only [Int.toNat_natCast] at h1
    rw [h1] at e; cases e
theorem hy_am_yes {pr : Nat → Bool} {d b : Nat → Int32} {n i : Nat} (hB : hy_BD d b n) (hi : i < n) (h : ∀ j, j < i → pr (b j).toInt.toNat = false) (hp : pr (b i).toInt.toNat = true) : hy_am pr d n = (b i).toInt := by
  obtain ⟨m, hm, em, rm⟩ := hB.2 i hi
  rw [em] at hp
  simp only [Int.toNat_natCast] at hp
  rcases hy_am_p (pr := pr) (d := d) n with ⟨a, c⟩ | ⟨x, hx, a, e, c⟩
  · rw [c m hm] at hp; cases hp
  · rw [a, em]
    rcases c m hm hp with z | z
    · rw [z]
    · exfalso
      have hk := hy_rk_k hx z
      rw [rm] at hk
      have h1 := h _ hk
      rw [hB.1 x hx] at h1
      simp only [Int.toNat_natCast] at h1
      rw [h1] at e; cases e
/-- what is taken, and how many, behind so many of the order -/
def hy_G (o w d k s b : Nat → Int32) (p q u : Int32) (n : Nat) : Nat → (Nat → Int32) × Int
  | 0 => (fun _ => 0, 0)
  | i + 1 => if hy_ln o w d p q u (b i).toInt.toNat then
      (if hy_am (hy_tp o w d k s (hy_G o w d k s b p q u n i).1 p q u (b i).toInt.toNat) d n < 0 then hy_G o w d k s b p q u n i
       else (hx_up (hy_G o w d k s b p q u n i).1 (hy_am (hy_tp o w d k s (hy_G o w d k s b p q u n i).1 p q u (b i).toInt.toNat) d n).toNat 1, (hy_G o w d k s b p q u n i).2 + 1))
      else hy_G o w d k s b p q u n i
theorem hy_am_c {pr pr2 : Nat → Bool} {d d2 : Nat → Int32} {N : Nat} (ed : hx_eqN N d d2) : ∀ n, n ≤ N → (∀ y, y < n → pr y = pr2 y) → hy_am pr d n = hy_am pr2 d2 n
  | 0, _, _ => rfl
  | n + 1, hn, h => by
    have ih := hy_am_c (pr := pr) (pr2 := pr2) ed n (by omega) (fun y hy => h y (by omega))
    simp only [hy_am]
    rw [h n (by omega), ih, ed n (by omega)]
    rcases hy_am_p (pr := pr2) (d := d2) n with ⟨a, _⟩ | ⟨x, hx, a, _⟩
    · rw [a]; simp
    · rw [a]; simp only [Int.toNat_natCast, ed x (by omega)]
theorem hy_tp_c {n : Nat} {o w d k s T T2 : Nat → Int32} {p q u : Int32} {x y : Nat} (h : y < n) (e : hx_eqN n T T2) : hy_tp o w d k s T p q u x y = hy_tp o w d k s T2 p q u x y := by
  unfold hy_tp
  rw [e y h]
theorem hy_tw_c {n : Nat} {d k s d2 k2 s2 : Nat → Int32} {x y : Nat} (hx : x < n) (hy : y < n) (ed : hx_eqN n d d2) (ek : hx_eqN n k k2) (es : hx_eqN n s s2) : hy_tw d k s x y = hy_tw d2 k2 s2 x y := by
  unfold hy_tw
  rw [ek x hx, ek y hy, es x hx, es y hy, ed x hx, ed y hy]
theorem hy_tp_c2 {n : Nat} {o w d k s o2 w2 d2 k2 s2 T : Nat → Int32} {p q u : Int32} {x y : Nat} (hx : x < n) (hy : y < n) (eo : hx_eqN n o o2) (ew : hx_eqN n w w2) (ed : hx_eqN n d d2) (ek : hx_eqN n k k2) (es : hx_eqN n s s2) : hy_tp o w d k s T p q u x y = hy_tp o2 w2 d2 k2 s2 T p q u x y := by
  unfold hy_tp
  rw [hy_ln_c hy eo ew ed, hy_tw_c hx hy ed ek es]
theorem hy_G_y {o w d k s b : Nat → Int32} {p q u : Int32} {n i : Nat} (hl : hy_ln o w d p q u (b i).toInt.toNat = true) : hy_G o w d k s b p q u n (i + 1) = (if hy_am (hy_tp o w d k s (hy_G o w d k s b p q u n i).1 p q u (b i).toInt.toNat) d n < 0 then hy_G o w d k s b p q u n i else (hx_up (hy_G o w d k s b p q u n i).1 (hy_am (hy_tp o w d k s (hy_G o w d k s b p q u n i).1 p q u (b i).toInt.toNat) d n).toNat 1, (hy_G o w d k s b p q u n i).2 + 1)) := by
  show (if hy_ln o w d p q u (b i).toInt.toNat then _ else _) = _
  rw [hl]
  rfl
theorem hy_G_n {o w d k s b : Nat → Int32} {p q u : Int32} {n i : Nat} (hl : hy_ln o w d p q u (b i).toInt.toNat = false) : hy_G o w d k s b p q u n (i + 1) = hy_G o w d k s b p q u n i := by
  show (if hy_ln o w d p q u (b i).toInt.toNat then _ else _) = _
  rw [hl]
  rfl
theorem hy_G_b {o w d k s b : Nat → Int32} {p q u : Int32} {n : Nat} : ∀ i, 0 ≤ (hy_G o w d k s b p q u n i).2 ∧ (hy_G o w d k s b p q u n i).2 ≤ i
  | 0 => ⟨Int.le_refl _, Int.le_refl _⟩
  | i + 1 => by
    have ih := hy_G_b (o := o) (w := w) (d := d) (k := k) (s := s) (b := b) (p := p) (q := q) (u := u) (n := n) i
    cases hl : hy_ln o w d p q u (b i).toInt.toNat
    · rw [hy_G_n hl]; omega
    · rw [hy_G_y hl]; split
      · omega
      · show 0 ≤ _ + 1 ∧ _ + 1 ≤ _; omega
/-- one step: what stands of the taken ones and of the count -/
theorem hy_st_y {o w d k s b T T1 : Nat → Int32} {p q u : Int32} {n i : Nat} {c c1 A : Int} (hB : hy_BD d b n) (hi : i < n) (e : hx_eqN n T (hy_G o w d k s b p q u n i).1) (hc : c = (hy_G o w d k s b p q u n i).2) (hl : hy_ln o w d p q u (b i).toInt.toNat = true) (hA : A = hy_am (hy_tp o w d k s T p q u (b i).toInt.toNat) d n) (h : (A < 0 ∧ T1 = T ∧ c1 = c) ∨ (0 ≤ A ∧ T1 = hx_up T A.toNat 1 ∧ c1 = c + 1)) : hx_eqN n T1 (hy_G o w d k s b p q u n (i + 1)).1 ∧ c1 = (hy_G o w d k s b p q u n (i + 1)).2 := by
  have hA2 : A = hy_am (hy_tp o w d k s (hy_G o w d k s b p q u n i).1 p q u (b i).toInt.toNat) d n := hA.trans (hy_am_c (N := n) (fun _ _ => rfl) n (Nat.le_refl _) (fun y hy => hy_tp_c hy e))
  rw [hy_G_y hl, ← hA2]
  rcases h with ⟨a1, a2, a3⟩ | ⟨a1, a2, a3⟩
  · rw [if_pos a1, a2, a3]; exact ⟨e, hc⟩
  · rw [if_neg (by omega), a2, a3, hc]; exact ⟨hx_eqN_up e, rfl⟩
theorem hy_G_c {o w d k s o2 w2 d2 k2 s2 b : Nat → Int32} {p q u : Int32} {n : Nat} (hB : hy_BD d b n) (eo : hx_eqN n o o2) (ew : hx_eqN n w w2) (ed : hx_eqN n d d2) (ek : hx_eqN n k k2) (es : hx_eqN n s s2) : ∀ i, i ≤ n → hy_G o w d k s b p q u n i = hy_G o2 w2 d2 k2 s2 b p q u n i
  | 0, _ => rfl
  | i + 1, h => by
    have ih := hy_G_c (p := p) (q := q) (u := u) hB eo ew ed ek es i (by omega)
    obtain ⟨x, hx, e1, _⟩ := hB.2 i (by omega)
    have hb : (b i).toInt.toNat < n := by omega
    have hl := hy_ln_c (p := p) (q := q) (u := u) hb eo ew ed
    cases z : hy_ln o w d p q u (b i).toInt.toNat
    · rw [hy_G_n z, hy_G_n (by rw [← hl]; exact z), ih]
    · rw [hy_G_y z, hy_G_y (by rw [← hl]; exact z), ih]
      have : hy_am (hy_tp o w d k s (hy_G o2 w2 d2 k2 s2 b p q u n i).1 p q u (b i).toInt.toNat) d n = hy_am (hy_tp o2 w2 d2 k2 s2 (hy_G o2 w2 d2 k2 s2 b p q u n i).1 p q u (b i).toInt.toNat) d2 n := hy_am_c ed n (Nat.le_refl _) (fun y hy => hy_tp_c2 hb hy eo ew ed ek es)
      rw [this]
/-- how many stand ahead of the place a of the DAY D -/
def hy_rd (d : Nat → Int32) (n : Nat) (D : Int) (a : Nat) : Nat := hy_cnt (fun y => decide ((d y).toInt < D ∨ ((d y).toInt = D ∧ y < a))) n
theorem hy_rd_n {d : Nat → Int32} {n a : Nat} {D : Int} (h : (d a).toInt ≠ D) : hy_rd d n D (a + 1) = hy_rd d n D a := by
  refine hy_cnt_c n (fun y hy => ?_)
  by_cases z : (d y).toInt < D ∨ ((d y).toInt = D ∧ y < a)
  · rw [decide_eq_true z, decide_eq_true (by omega)]
  · rw [decide_eq_false z, decide_eq_false]
    intro w
    rcases w with w | ⟨w1, w2⟩
    · exact z (Or.inl w)
    · by_cases e : y = a
      · rw [e] at w1; exact h w1
      · exact z (Or.inr ⟨w1, by omega⟩)
theorem hy_rd_k {d : Nat → Int32} {n a : Nat} {D : Int} (h : (d a).toInt = D) : hy_rd d n D a = hy_rk d n a := by
  refine hy_cnt_c n (fun y hy => ?_)
  unfold hy_kl
  by_cases z : (d y).toInt < D ∨ ((d y).toInt = D ∧ y < a)
  · rw [decide_eq_true z, decide_eq_true (by omega)]
  · rw [decide_eq_false z, decide_eq_false (by omega)]
theorem hy_cnt_1 {p q : Nat → Bool} {x : Nat} : ∀ n, x < n → p x = false → q x = true → (∀ y, y ≠ x → p y = q y) → hy_cnt q n = hy_cnt p n + 1
  | 0, h, _, _, _ => by omega
  | n + 1, h, h1, h2, h3 => by
    simp only [hy_cnt]
    by_cases e : x = n
    · subst e
      rw [hy_cnt_c (p := q) (q := p) x (fun y hy => (h3 y (by omega)).symm), h1, h2]; simp
    · rw [hy_cnt_1 n (by omega) h1 h2 h3, h3 n (Ne.symm e)]; omega
theorem hy_rd_y {d : Nat → Int32} {n a : Nat} {D : Int} (ha : a < n) (h : (d a).toInt = D) : hy_rd d n D (a + 1) = hy_rd d n D a + 1 := by
  refine hy_cnt_1 n ha (decide_eq_false (by omega)) (decide_eq_true (by omega)) (fun y hy => ?_)
  by_cases z : (d y).toInt < D ∨ ((d y).toInt = D ∧ y < a)
  · rw [decide_eq_true z, decide_eq_true (by omega)]
  · rw [decide_eq_false z, decide_eq_false (by omega)]
theorem hy_rd_e {d : Nat → Int32} {n : Nat} {D D1 : Int} (e : D1 = D + 1) : hy_rd d n D n = hy_rd d n D1 0 := by
  refine hy_cnt_c n (fun y hy => ?_)
  by_cases z : (d y).toInt < D ∨ ((d y).toInt = D ∧ y < n)
  · rw [decide_eq_true z, decide_eq_true (by omega)]
  · rw [decide_eq_false z, decide_eq_false (by omega)]
theorem hy_rd_0 {d : Nat → Int32} {n : Nat} (h : ∀ x, x < n → 0 ≤ (d x).toInt) : hy_rd d n 0 0 = 0 := by
  have : hy_rd d n 0 0 = hy_cnt (fun _ => false) n := hy_cnt_c n (fun y hy => by have := h y hy; rw [decide_eq_false (by omega)])
  rw [this]
  clear this h
  induction n with
  | zero => rfl
  | succ n ih => simp only [hy_cnt]; rw [ih]; simp
theorem hy_rd_l {d : Nat → Int32} {n : Nat} {D : Int} {a : Nat} : hy_rd d n D a ≤ n := hy_cnt_n n
theorem hy_rd_x {d b : Nat → Int32} {n a : Nat} {D : Int} (hB : hy_BD d b n) (ha : a < n) (h : (d a).toInt = D) : (b (hy_rd d n D a)).toInt = a ∧ hy_rd d n D a < n := by
  rw [hy_rd_k h]
  refine ⟨hB.1 a ha, ?_⟩
  have := hy_cnt_lt (p := fun y => hy_kl d y a) (q := fun _ => true) n (fun _ _ _ => rfl) ⟨a, ha, rfl, by
    cases e9 : hy_kl d a a
    · rfl
    · have := hy_kl_t.mp e9; omega⟩
  exact Nat.lt_of_lt_of_le this (hy_cnt_n n)
/-- behind the DAY u nothing comes -/
theorem hy_G_end {o w d k s b : Nat → Int32} {p q u : Int32} {n : Nat} {D : Int} (hB : hy_BD d b n) (e : D = u.toInt + 1) : ∀ m, hy_rd d n D 0 + m ≤ n → hy_G o w d k s b p q u n (hy_rd d n D 0 + m) = hy_G o w d k s b p q u n (hy_rd d n D 0)
  | 0, _ => rfl
  | m + 1, h => by
    have ih := hy_G_end (o := o) (w := w) (k := k) (s := s) (p := p) (q := q) (u := u) hB e m (by omega)
    obtain ⟨x, hx, e1, e2⟩ := hB.2 (hy_rd d n D 0 + m) (by omega)
    rw [← Nat.add_assoc, hy_G_n, ih]
    rw [e1]
    refine hy_ln_f (fun z => ?_)
    have z3 : (d x).toInt ≤ u.toInt := by simpa using z.2.2
    have h1 := hy_rk_lt (n := n) hx z3
    have h2 : hy_pl d n u.toInt = hy_rd d n D 0 := hy_cnt_c n (fun y hy => by
      by_cases w : (d y).toInt ≤ u.toInt
      · rw [decide_eq_true w, decide_eq_true (by omega)]
      · rw [decide_eq_false w, decide_eq_false (by omega)])
    omega
theorem hy_G_all {o w d k s b : Nat → Int32} {p q u : Int32} {n : Nat} {D : Int} (hB : hy_BD d b n) (e : D = u.toInt + 1) : hy_G o w d k s b p q u n n = hy_G o w d k s b p q u n (hy_rd d n D 0) := by
  have h := hy_G_end (o := o) (w := w) (k := k) (s := s) (p := p) (q := q) (u := u) hB e (n - hy_rd d n D 0) (by have := hy_rd_l (d := d) (n := n) (D := D) (a := 0); omega)
  have h2 : hy_rd d n D 0 + (n - hy_rd d n D 0) = n := by have := hy_rd_l (d := d) (n := n) (D := D) (a := 0); omega
  rw [h2] at h
  exact h
theorem hy_abs {x v : Int32} (e : x = if 0 ≤ v then v else 0 - v) (h0 : -100000 ≤ v.toInt) (h1 : v.toInt ≤ 100000) : (0 ≤ v.toInt ∧ x.toInt = v.toInt) ∨ (v.toInt < 0 ∧ x.toInt = - v.toInt) := by
  have z0 : (0 : Int32).toInt = 0 := by decide
  by_cases z : 0 ≤ v
  · rw [if_pos z] at e
    rw [Int32.le_iff_toInt_le] at z
    exact Or.inl ⟨by omega, by rw [e]⟩
  · rw [if_neg z] at e
    rw [Int32.le_iff_toInt_le] at z
    refine Or.inr ⟨by omega, ?_⟩
    rw [e, i32_sub rfl rfl (by omega) (by omega)]
    omega
def hy_DY (d : Nat → Int32) (n : Nat) : Prop := ∀ x, x < n → 0 ≤ (d x).toInt ∧ (d x).toInt ≤ 7999
def hy_TK (A r : Int) (T T1 : Nat → Int32) : Prop := (r = 0 ∧ A < 0 ∧ T1 = T) ∨ (r = 1 ∧ 0 ≤ A ∧ T1 = hx_up T A.toNat 1)
theorem hy_tp_f {o w d k s T : Nat → Int32} {p q u : Int32} {x y : Nat} (h : (T y).toInt ≠ 0 ∨ hy_ln o w d q p u y = false ∨ hy_tw d k s x y = false) : hy_tp o w d k s T p q u x y = false := by
  unfold hy_tp
  rcases h with h | h | h
  · rw [decide_eq_false h]; rfl
  · rw [h]; simp
  · rw [h]; simp
theorem hy_tp_t {o w d k s T : Nat → Int32} {p q u : Int32} {x y : Nat} (h1 : (T y).toInt = 0) (h2 : hy_ln o w d q p u y = true) (h3 : hy_tw d k s x y = true) : hy_tp o w d k s T p q u x y = true := by
  unfold hy_tp
  rw [decide_eq_true h1, h2, h3]; rfl
theorem hy_all_s {b : Nat → Int32} {pr : Nat → Bool} {i j : Int32} (h : ∀ m : Nat, (m : Int) < i.toInt → pr (b m).toInt.toNat = false) (h0 : 0 ≤ i.toInt) (hn : pr (b i.toNatClampNeg).toInt.toNat = false) (e : j.toInt = i.toInt + 1) : ∀ m : Nat, (m : Int) < j.toInt → pr (b m).toInt.toNat = false := fun m hm => by
  rcases (show (m : Int) < i.toInt ∨ m = i.toNatClampNeg by unfold Int32.toNatClampNeg; omega) with z | z
  · exact h m z
  · rw [z]; exact hn
theorem hy_cl_s {T T1 : Nat → Int32} {i j : Int32} (h : ∀ m : Nat, (m : Int) < i.toInt → T m = 0) (h0 : 0 ≤ i.toInt) (e1 : T1 = hx_up T i.toNatClampNeg 0) (e : j.toInt = i.toInt + 1) : ∀ m : Nat, (m : Int) < j.toInt → T1 m = 0 := fun m hm => by
  subst e1
  rcases (show (m : Int) < i.toInt ∨ m = i.toNatClampNeg by unfold Int32.toNatClampNeg; omega) with z | z
  · rw [hx_up_ne (by unfold Int32.toNatClampNeg; omega)]; exact h m z
  · rw [z, hx_up_at]
theorem hy_BD_b {d b : Nat → Int32} {n : Nat} {i x : Int32} (hB : hy_BD d b n) (h0 : 0 ≤ i.toInt) (h1 : i.toInt < n) (hx : x = b i.toNatClampNeg) : 0 ≤ x.toInt ∧ x.toInt < n := by
  obtain ⟨y, hy, e, _⟩ := hB.2 i.toNatClampNeg (by unfold Int32.toNatClampNeg; omega)
  rw [hx, e]; omega
theorem hy_bi_d {d d1 b b1 : Nat → Int32} {n : Nat} {i D : Int} (hB : hy_BD d b n) (hd : ∀ x, x < n → d1 x = d x) (h0 : 0 ≤ i) (h : hy_bi d1 b b1 n i D) : hy_bi d b b1 n i D := by
  refine ⟨h.1, h.2.1, fun k h1 h2 => ?_⟩
  have h3 := h.2.2 k h1 h2
  obtain ⟨x, hx, e, _⟩ := hB.2 k h2
  rw [e] at h3 ⊢
  rw [hd _ (by omega)] at h3
  exact h3
theorem hy_BD_in2 {d b b1 b2 d1 : Nat → Int32} {n : Nat} {j k0 D k1 : Int32} (hn0 : k0.toInt = n) (hk1 : k1.toInt = n + 1) (hB : hy_BD d b n) (hd1 : d1 = hx_up d k0.toNatClampNeg D) (h : hy_bi d1 b b1 n j.toInt D.toInt) (h0 : 0 ≤ j.toInt) (hn : j.toInt ≤ n) (ho : j.toInt = 0 ∨ ∃ x z y : Int32, y.toInt = j.toInt - 1 ∧ z = b1 y.toNatClampNeg ∧ x = d1 z.toNatClampNeg ∧ x.toInt ≤ D.toInt) (e : b2 = hx_up b1 j.toNatClampNeg k0) : hy_BD d1 b2 k1.toInt.toNat := by
  have ck : ((k0.toNatClampNeg : Nat) : Int) = k0.toInt := by unfold Int32.toNatClampNeg; omega
  have hd : ∀ x, x < n → d1 x = d x := fun x hx => by rw [hd1, hx_up_ne (by omega)]
  have hb := hy_bi_d hB hd h0 h
  rw [show k1.toInt.toNat = n + 1 by omega]
  refine hy_BD_in (D := D.toInt) (i := j.toInt) (v := D) hB hd (by rw [hd1, show n = k0.toNatClampNeg by omega, hx_up_at]) hb h0 hn ?_ rfl hn0 e
  rcases ho with z | ⟨x, z, y, hy, hz, hx, hv⟩
  · exact Or.inl z
  · rcases (show j.toInt = 0 ∨ 0 < j.toInt by omega) with w | w
    · exact Or.inl w
    · right
      have ey : y.toNatClampNeg = (j.toInt - 1).toNat := by unfold Int32.toNatClampNeg; omega
      rw [ey, hb.1 _ (by omega)] at hz
      obtain ⟨m, hm, em, _⟩ := hB.2 (j.toInt - 1).toNat (by omega)
      have ez : z.toNatClampNeg = m := by rw [hz]; unfold Int32.toNatClampNeg; omega
      rw [ez, hd m hm] at hx
      rw [em]
      simp only [Int.toNat_natCast]
      rw [← hx]; exact hv
theorem hy_am_sn {pr : Nat → Bool} {d : Nat → Int32} {v i j : Int32} (h : v.toInt = hy_am pr d i.toInt.toNat) (h0 : 0 ≤ i.toInt) (hp : pr i.toNatClampNeg = false) (e : j.toInt = i.toInt + 1) : v.toInt = hy_am pr d j.toInt.toNat := by
  rw [show j.toInt.toNat = i.toInt.toNat + 1 by omega, h]
  show _ = (if pr i.toNatClampNeg then _ else _)
  rw [hp]
  rfl
theorem hy_am_sy {pr : Nat → Bool} {d : Nat → Int32} {v v1 x y i j : Int32} (h : v.toInt = hy_am pr d i.toInt.toNat) (h0 : 0 ≤ i.toInt) (hp : pr i.toNatClampNeg = true) (hc : (v.toInt < 0 ∧ v1 = i) ∨ (0 ≤ v.toInt ∧ x = d i.toNatClampNeg ∧ y = d v.toNatClampNeg ∧ ((x.toInt < y.toInt ∧ v1 = i) ∨ (y.toInt ≤ x.toInt ∧ v1 = v)))) (e : j.toInt = i.toInt + 1) : v1.toInt = hy_am pr d j.toInt.toNat := by
  have e1 : hy_am pr d j.toInt.toNat = (if pr i.toNatClampNeg then (if hy_am pr d i.toInt.toNat < 0 ∨ (d i.toNatClampNeg).toInt < (d (hy_am pr d i.toInt.toNat).toNat).toInt then ((i.toNatClampNeg : Nat) : Int) else hy_am pr d i.toInt.toNat) else hy_am pr d i.toInt.toNat) := by
    rw [show j.toInt.toNat = i.toInt.toNat + 1 by omega]; rfl
  have ci : ((i.toNatClampNeg : Nat) : Int) = i.toInt := by unfold Int32.toNatClampNeg; omega
  rw [e1, if_pos hp, ← h]
  have ev : v.toInt.toNat = v.toNatClampNeg := rfl
  rw [ev]
  rcases hc with ⟨a, b⟩ | ⟨a, hx, hy, ⟨b, c⟩ | ⟨b, c⟩⟩
  · rw [if_pos (Or.inl a), b, ci]
  · rw [if_pos (Or.inr (by rw [← hx, ← hy]; exact b)), c, ci]
  · rw [if_neg (by rw [← hx, ← hy]; omega), c]
def hx_LA (n r : Int) (v : Int32) (f f1 : Nat → Int32) : Prop := (r = -1 ∧ f1 = f) ∨ (0 ≤ n ∧ r = n + 1 ∧ f1 = hx_up f n.toNat v)
theorem hx_lak {n r r2 n1 : Int} {v : Int32} {f f1 g g1 : Nat → Int32} (hr : r = r2) (h1 : (r = -1 ∧ n1 = n) ∨ (r = n + 1 ∧ n1 = n + 1)) (p : hx_LA n r v f f1) (q : hx_LA n r2 v g g1) (e : hx_eqN n.toNat f g) : hx_eqN n1.toNat f1 g1 := by
  rcases p with ⟨a, b⟩ | ⟨a0, a, b⟩ <;> rcases q with ⟨c, d⟩ | ⟨c0, c, d⟩
  · rw [b, d]
    rcases h1 with ⟨z, w⟩ | ⟨z, w⟩
    · rw [w]; exact e
    · have : n < 0 := by omega
      intro j hj; omega
  · exfalso; omega
  · exfalso; omega
  · rw [b, d]
    intro j hj
    by_cases z : j = n.toNat
    · rw [z, hx_up_at, hx_up_at]
    · rw [hx_up_ne z, hx_up_ne z]
      refine e j ?_
      rcases h1 with ⟨w1, w2⟩ | ⟨w1, w2⟩ <;> omega
theorem hy_DY_s {n r n1 : Int} {v : Int32} {f f1 : Nat → Int32} (h : hy_DY f n.toNat) (hn : (r = -1 ∧ n1 = n) ∨ (r = n + 1 ∧ n1 = n + 1 ∧ 0 ≤ v.toInt ∧ v.toInt ≤ 7999)) (h0 : 0 ≤ n) (p : hx_LA n r v f f1) : hy_DY f1 n1.toNat := by
  rcases p with ⟨a, b⟩ | ⟨a0, a, b⟩
  · rw [b]
    rcases hn with ⟨z, w⟩ | ⟨z, w, _⟩
    · rw [w]; exact h
    · exfalso; omega
  · rw [b]
    rcases hn with ⟨z, w⟩ | ⟨z, w, v0, v1⟩
    · exfalso; omega
    · intro j hj
      by_cases y : j = n.toNat
      · rw [y, hx_up_at]; exact ⟨v0, v1⟩
      · rw [hx_up_ne y]; exact h j (by omega)
def hy_BC (n a b d : Int) : Prop := (0 ≤ a ∧ a < n) ∧ (0 ≤ b ∧ b < n) ∧ a ≠ b ∧ (0 ≤ d ∧ d ≤ 7999)
/-- what book() answers -/
def hy_BK (n a b d w r x y z : Int) : Prop := (hy_BC n a b d ∧ w = 0 ∧ r = x) ∨ (hy_BC n a b d ∧ w = 1 ∧ r = y) ∨ (hy_BC n a b d ∧ w = 2 ∧ r = z) ∨ (¬ (hy_BC n a b d ∧ 0 ≤ w ∧ w ≤ 2) ∧ r = -1000000)
theorem hy_BK_0 {n a b d w r x y z : Int} (c : hy_BC n a b d) (hw : w = 0) (h : r = x) : hy_BK n a b d w r x y z := Or.inl ⟨c, hw, h⟩
theorem hy_BK_1 {n a b d w r x y z : Int} (c : hy_BC n a b d) (hw : w = 1) (h : r = y) : hy_BK n a b d w r x y z := Or.inr (Or.inl ⟨c, hw, h⟩)
theorem hy_BK_2 {n a b d w r x y z : Int} (c : hy_BC n a b d) (hw : w = 2) (h : r = z) : hy_BK n a b d w r x y z := Or.inr (Or.inr (Or.inl ⟨c, hw, h⟩))
theorem hy_BK_n {n a b d w r x y z : Int} (c : ¬ (hy_BC n a b d ∧ 0 ≤ w ∧ w ≤ 2)) (h : r = -1000000) : hy_BK n a b d w r x y z := Or.inr (Or.inr (Or.inr ⟨c, h⟩))
theorem hy_bk {n a b d w r r2 x y z x2 y2 z2 : Int} (e1 : x = x2) (e2 : y = y2) (e3 : z = z2) (p : hy_BK n a b d w r x y z) (q : hy_BK n a b d w r2 x2 y2 z2) : r = r2 := by
  subst e1; subst e2; subst e3
  rcases p with ⟨a1, a2, a3⟩ | ⟨a1, a2, a3⟩ | ⟨a1, a2, a3⟩ | ⟨a1, a2⟩ <;> rcases q with ⟨b1, b2, b3⟩ | ⟨b1, b2, b3⟩ | ⟨b1, b2, b3⟩ | ⟨b1, b2⟩ <;> first
    | omega
    | exact absurd ⟨a1, by omega, by omega⟩ b1
    | exact absurd ⟨b1, by omega, by omega⟩ a1
theorem hx_eqN_z {c : Int32} {f g : Nat → Int32} (h : c = 0) : hx_eqN c.toInt.toNat f g := fun j hj => by
  rw [h] at hj
  have : (0 : Int32).toInt.toNat = 0 := by decide
  omega
theorem hy_BD_z {c : Int32} {d b : Nat → Int32} (h : c = 0) : hy_BD d b c.toInt.toNat ∧ hy_DY d c.toInt.toNat := by
  have : c.toInt.toNat = 0 := by rw [h]; decide
  rw [this]
  exact ⟨hy_BD_0, fun x hx => by omega⟩
end
section
/-! THE WALK on the class's side; whom the claims are against -/
theorem hw_abs_s (a b : Int) : hx_ab a b = hx_ab b a := by
  unfold hx_ab
  split <;> split <;> omega
theorem hw_fg_s {gx gy : Nat → Int32} {n i k : Int} : hx_fg gx gy n i k = hx_fg gx gy n k i := by
  unfold hx_fg
  rw [hw_abs_s (hx_cg gx n i), hw_abs_s (hx_cg gy n i)]
theorem hw_cg_lt {g : Nat → Int32} {n i : Int} {x : Int32} (h : i < n) (e : x = g i.toNat) : hx_cg g n i = x.toInt := by
  unfold hx_cg
  rw [if_neg (by omega), e]
theorem hw_cg_n {g : Nat → Int32} {n : Int} : hx_cg g n n = 50 := by
  unfold hx_cg
  rw [if_pos rfl]
/-- the last one walked to; none: the court -/
def hw_la (n i : Int) : Int := if i = -1 then n else i
theorem hw_la1 {n i : Int} (h : i = -1) : hw_la n i = n := by
  unfold hw_la
  rw [if_pos h]
theorem hw_la2 {n i : Int} (h : 0 ≤ i) : hw_la n i = i := by
  unfold hw_la
  rw [if_neg (by omega)]
theorem hw_min {r x y : Int32} (e : r = if y < x then y else x) : (r.toInt = x.toInt ∧ x.toInt ≤ y.toInt) ∨ (r.toInt = y.toInt ∧ y.toInt ≤ x.toInt) := by
  by_cases z : y < x
  · rw [if_pos z] at e
    rw [Int32.lt_iff_toInt_lt] at z
    exact Or.inr ⟨by rw [e], by omega⟩
  · rw [if_neg z] at e
    rw [Int32.lt_iff_toInt_lt] at z
    exact Or.inl ⟨by rw [e], by omega⟩
theorem hw_E_w {F H : Int → Int → Int} {n l i : Int} (h : hw_E F H n l i) : hw_E F H n l 0 := ⟨h.1, fun i' a b => absurd b (by omega)⟩
theorem hw_E_le {F H : Int → Int → Int} {n l l0 : Int} (h : hw_E F H n l 0) (e : l0 ≤ l) : hw_E F H n l0 0 := ⟨fun l' i' a b => h.1 l' i' a (by omega), fun i' a b => absurd b (by omega)⟩
theorem hw_E_l {F H : Int → Int → Int} {n l l1 i : Int} (h : hw_E F H n l i) (e : l = l1) : hw_E F H n l1 i := by
  subst e
  exact h
theorem hw_p2n1 {n : Int} (n0 : 1 ≤ n) (n1 : n ≤ 8) : (2 : Int) ≤ 2 ^ n.toNat := by
  have h : (List.range 9).all (fun n => decide (n = 0) || decide ((2 : Int) ≤ 2 ^ n)) = true := by decide +kernel
  have h := List.all_eq_true.mp h n.toNat (List.mem_range.mpr (by omega))
  simp only [Bool.or_eq_true, decide_eq_true_eq] at h
  omega
theorem hw_bt0 {k : Int} : hx_bt 0 k = false := by simp [hx_bt]
theorem hw_mn0 {F H : Int → Int → Int} {n l i V : Int} (e : l = 0) (h : V = F i n) : hx_mn F H n l i V := by
  subst e
  exact ⟨fun _ => h, fun w => absurd rfl w, fun k _ _ kb => by rw [hw_bt0] at kb; cases kb⟩
theorem hw_mn_00 {gx gy : Nat → Int32} {H : Int → Int → Int} {n V : Int} (e : n = 0) (hV : V = 0) : hx_mn (hx_fg gx gy n) H n (2 ^ n.toNat - 1) n V := by
  subst e; subst hV
  refine hw_mn0 (by decide) ?_
  unfold hx_fg
  rw [hw_cg_n, hw_cg_n]
  decide
theorem hw_mn_c {F H : Int → Int → Int} {n l l1 i i1 V : Int} (h : hx_mn F H n l i V) (el : l = l1) (ei : i = i1) : hx_mn F H n l1 i1 V := by
  subst el; subst ei
  exact h
theorem hw_pc {l k : Int} (h0 : 0 ≤ l) (h1 : l ≤ 255) (k0 : 0 ≤ k) (k1 : k < 8) (hb : hx_bt l k = true) : hx_pc (l - hx_p2 k) = hx_pc l - 1 := by
  have h := List.all_eq_true.mp (List.all_eq_true.mp hx_bcb l.toNat (List.mem_range.mpr (by omega))) k.toNat (List.mem_range.mpr (by omega))
  have l1 : ((l.toNat : Nat) : Int) = l := by omega
  have l2 : ((k.toNat : Nat) : Int) = k := by omega
  simp only [hx_bck, Bool.and_eq_true, decide_eq_true_eq, Bool.or_eq_true, Bool.not_eq_true', l1, l2] at h
  rcases h.2 with d | d
  · rw [hb] at d; cases d
  · exact d.2
theorem hw_bf {n b k : Int} (n0 : 0 ≤ n) (n1 : n ≤ 8) (b0 : 0 ≤ b) (b1 : b < 2 ^ n.toNat) (k0 : 0 ≤ k) (k1 : k < n) (h : hx_bt (2 ^ n.toNat - 1 - b) k = true) : hx_bt b k = false := by
  rw [hx_btc n0 n1 b0 b1 k0 k1] at h
  simpa using h
theorem hw_bf2 {n b k : Int} (n0 : 0 ≤ n) (n1 : n ≤ 8) (b0 : 0 ≤ b) (b1 : b < 2 ^ n.toNat) (k0 : 0 ≤ k) (k1 : k < n) (h : hx_bt b k = true) : hx_bt (2 ^ n.toNat - 1 - b) k = false := by
  rw [hx_btc n0 n1 b0 b1 k0 k1, h]; rfl
theorem hw_bt2 {n b k : Int} (n0 : 0 ≤ n) (n1 : n ≤ 8) (b0 : 0 ≤ b) (b1 : b < 2 ^ n.toNat) (k0 : 0 ≤ k) (k1 : k < n) (h : hx_bt b k = false) : hx_bt (2 ^ n.toNat - 1 - b) k = true := by
  rw [hx_btc n0 n1 b0 b1 k0 k1, h]; rfl
theorem hw_lk {n : Int} {F : Int → Int → Int} {a : Nat → Int32} {B K : Int32} (n0 : 0 ≤ n) (n1 : n ≤ 8) (b0 : 0 ≤ B.toInt) (b1 : B.toInt < 2 ^ n.toNat) (k0 : 0 ≤ K.toInt) (k1 : K.toInt < n) (hb : hx_bt B.toInt K.toInt = false) (hE : hw_E F (hw_HC n a) n (2 ^ n.toNat - 1 - B.toInt) 0) : (B ||| ((1 : Int32) <<< (K &&& 31))).toInt = B.toInt + hx_p2 K.toInt ∧ 1 ≤ hx_p2 K.toInt ∧ B.toInt + hx_p2 K.toInt ≤ 2 ^ n.toNat - 1 ∧ hx_bt (2 ^ n.toNat - 1 - B.toInt) K.toInt = true ∧ 0 ≤ hw_HC n a (2 ^ n.toNat - 1 - B.toInt - hx_p2 K.toInt) K.toInt ∧ hw_HC n a (2 ^ n.toNat - 1 - B.toInt - hx_p2 K.toInt) K.toInt ≤ 198 * (2 ^ n.toNat - 1 - B.toInt - hx_p2 K.toInt + 1) := by
  have hn := hx_p2n n0 n1
  have h1 := hx_orc (B := B) (K := K) b0 (by omega) k0 (by omega) hb
  have hbl := hw_bt2 n0 n1 b0 b1 k0 k1 hb
  have hd := hx_sub_d n0 n1 (by omega) (by omega) k0 k1 hbl
  have hm := hE.1 _ _ hd.1 hd.2.1 k0 k1 hd.2.2.2
  exact ⟨h1.1, h1.2.1, by have := hd.1; omega, hbl, hm.1, hm.2.1⟩
theorem hw_HCv {n l i : Int} {a : Nat → Int32} {ix : Nat} {v : Int32} (e : v = a ix) (h : (ix : Int) = 8 * (2 ^ n.toNat - 1 - l) + i) : v.toInt = hw_HC n a l i := by
  subst e
  unfold hw_HC
  rw [show (8 * (2 ^ n.toNat - 1 - l) + i).toNat = ix by omega]
theorem hw_wd {n i : Int} {f g : Nat → Int32} {r1 r2 : Int32} (e : hx_eqN n.toNat f g) (p : (r1.toInt = -1 ∧ ¬ (0 ≤ i ∧ i < n)) ∨ ((0 ≤ i ∧ i < n) ∧ r1 = f i.toNat)) (q : (r2.toInt = -1 ∧ ¬ (0 ≤ i ∧ i < n)) ∨ ((0 ≤ i ∧ i < n) ∧ r2 = g i.toNat)) : r1.toInt = r2.toInt := by
  rcases p with ⟨a1, a2⟩ | ⟨a1, a2⟩ <;> rcases q with ⟨b1, b2⟩ | ⟨b1, b2⟩
  · omega
  · exact absurd b1 a2
  · exact absurd a1 b2
  · rw [a2, b2, e i.toNat (by omega)]
section HWS
variable {tb : List hx_d} {M : hx_m} {L L1 : List Nat} {h h1 : hx_h}
theorem hx_dc_S {q t t0 N u v pd px ci ci2 : Nat} {nn : Bool} {b : Bool} {fs fs2 : List hx_f} {g : Nat → Int32} {n : Int} (hs : hx_S tb M L h L1 h1) (hT : hx_T tb L h) (gq : hx_g L h q t) (hd : tb[t]? = some (.inr (t0, N, .inr (nn, [u])))) (hu : tb[u]? = some (.inl (ci, fs))) (hf : fs[pd]? = some (.inr (b, [v]))) (hv : tb[v]? = some (.inl (ci2, fs2))) (m1 : M.any (fun q => q.1 == t) = false) (m2 : M.contains (u, pd) = false) (m3 : M.contains (v, px) = false) (hn : n ≤ N) (H : hx_dc h q pd px g n) : hx_dc h1 q pd px g n := by
  intro k hk c d fc fd
  have hkN : k < N := by omega
  rw [(hs.a gq m1 k).2] at fc
  obtain ⟨c1, c2⟩ := (hT.er gq hd (k := k) hkN).2 c fc
  have gc : hx_g L h c u := ⟨c1, by simpa using c2⟩
  rw [(hs.o (k := pd) gc (by rw [hu]; trivial) m2).2] at fd
  obtain ⟨d1, d2⟩ := (hT.gr gc hu hf).2 d fd
  have gd : hx_g L h d v := ⟨d1, by simpa using d2⟩
  rw [(hs.o (k := px) gd (by rw [hv]; trivial) m3).1]
  exact H k hk c d fc fd
end HWS
/-- whom the claims are against, by their places: those of the numbers in agf -/
def hw_DF (h : hx_h) (qc qp pk : Nat) (agf : Nat → Int32) (n : Int) : Prop := ∀ c : Nat, c < 100 → (c : Int) < n → ∀ o d, h.2.2 qc c = some o → h.2.2 o pk = some d → 0 ≤ (agf c).toInt ∧ (agf c).toInt < 40 ∧ h.2.2 qp (agf c).toInt.toNat = some d
theorem hw_DF_S {tb : List hx_d} {M : hx_m} {L L1 : List Nat} {h h1 : hx_h} {qc qp pk t t2 t0 u ci : Nat} {nn : Bool} {fs : List hx_f} {agf : Nat → Int32} {n : Int} (hs : hx_S tb M L h L1 h1) (hT : hx_T tb L h) (gc : hx_g L h qc t) (gp : hx_g L h qp t2) (hd : tb[t]? = some (.inr (t0, 100, .inr (nn, [u])))) (hu : tb[u]? = some (.inl (ci, fs))) (m1 : M.any (fun q => q.1 == t) = false) (m2 : M.any (fun q => q.1 == t2) = false) (m3 : M.contains (u, pk) = false) (H : hw_DF h qc qp pk agf n) : hw_DF h1 qc qp pk agf n := by
  intro c hc hcn o d fo fd
  rw [(hs.a gc m1 c).2] at fo
  obtain ⟨c1, c2⟩ := (hT.er gc hd (k := c) hc).2 o fo
  have go : hx_g L h o u := ⟨c1, by simpa using c2⟩
  rw [(hs.o (k := pk) go (by rw [hu]; trivial) m3).2] at fd
  obtain ⟨a, b, e⟩ := H c hc hcn o d fo fd
  exact ⟨a, b, by rw [(hs.a gp m2 _).2]; exact e⟩
theorem hw_DF_X {tb : List hx_d} {M : hx_m} {L L1 : List Nat} {h h1 : hx_h} {qc qp pk x t t2 t9 t0 u ci : Nat} {nn : Bool} {fs : List hx_f} {agf : Nat → Int32} {n : Int} (hs : hx_S tb M (hx_X L x) h L1 h1) (hT : hx_T tb L h) (gc : hx_g (hx_X L x) h qc t) (gp : hx_g (hx_X L x) h qp t2) (gx : hx_g L h x t9) (hd : tb[t]? = some (.inr (t0, 100, .inr (nn, [u])))) (hu : tb[u]? = some (.inl (ci, fs))) (m1 : M.any (fun q => q.1 == t) = false) (m2 : M.any (fun q => q.1 == t2) = false) (m3 : M.contains (u, pk) = false) (ne : u ≠ t9) (H : hw_DF h qc qp pk agf n) : hw_DF h1 qc qp pk agf n := by
  intro c hc hcn o d fo fd
  rw [(hs.a gc m1 c).2] at fo
  obtain ⟨c1, c2⟩ := (hT.er ⟨(hx_X_m.mp gc.1).1, gc.2⟩ hd (k := c) hc).2 o fo
  have c2 : h.1 o = u := by simpa using c2
  have go : hx_g (hx_X L x) h o u := ⟨hx_X_m.mpr ⟨c1, fun z => ne (by rw [← c2, z, gx.2])⟩, c2⟩
  rw [(hs.o (k := pk) go (by rw [hu]; trivial) m3).2] at fd
  obtain ⟨a, b, e⟩ := H c hc hcn o d fo fd
  exact ⟨a, b, by rw [(hs.a gp m2 _).2]; exact e⟩
/-- one more person -/
theorem hw_DF_p {tb : List hx_d} {L : List Nat} {h h1 : hx_h} {qc qp pk p t t0 u k tp : Nat} {nn : Bool} {agf : Nat → Int32} {n np : Int} {i : Int32} (H : hw_DF h qc qp pk agf n) (hT : hx_T tb L h) (gc : hx_g L h qc t) (gp : hx_g L h qp tp) (hd : tb[t]? = some (.inr (t0, 100, .inr (nn, [u])))) (ne : t ≠ tp) (ne2 : u ≠ tp) (hn : hx_num 40 h qp k np) (eh : h1 = hx_pr h qp i.toNatClampNeg (some p)) (h0 : 0 ≤ i.toInt) (hi : i.toInt = np) : hw_DF h1 qc qp pk agf n := by
  have ei : ((i.toNatClampNeg : Nat) : Int) = i.toInt := by unfold Int32.toNatClampNeg; omega
  subst eh
  intro c hc hcn o d fo fd
  have q1 : qc ≠ qp := fun z => ne (by rw [← gc.2, z, gp.2])
  rw [hx_pr_ne h (some p) (fun z => q1 z.1)] at fo
  obtain ⟨c1, c2⟩ := (hT.er gc hd (k := c) hc).2 o fo
  have c2 : h.1 o = u := by simpa using c2
  have q2 : o ≠ qp := fun z => ne2 (by rw [← c2, z, gp.2])
  rw [hx_pr_ne h (some p) (fun z => q2 z.1)] at fd
  obtain ⟨a, b, e⟩ := H c hc hcn o d fo fd
  refine ⟨a, b, ?_⟩
  rw [hx_pr_ne h (some p) (fun z => ?_)]
  · exact e
  · have w := (hn (agf c).toInt.toNat (by omega)).2 (by have := z.2; omega)
    rw [w] at e; cases e
/-- one more claim -/
theorem hw_DF_c {tb : List hx_d} {L : List Nat} {h h1 : hx_h} {qc qp pk p d0 t t0 u tp : Nat} {nn : Bool} {agf : Nat → Int32} {n m : Int} {i j : Int32} (H : hw_DF h qc qp pk agf n) (hT : hx_T tb L h) (gc : hx_g L h qc t) (gp : hx_g L h qp tp) (gq : hx_g L h p u) (hd : tb[t]? = some (.inr (t0, 100, .inr (nn, [u])))) (ne : t ≠ tp) (ne2 : u ≠ t) (eh : h1 = hx_pr h qc i.toNatClampNeg (some p)) (h0 : 0 ≤ i.toInt) (hi : i.toInt = n) (fd : h.2.2 p pk = some d0) (fj : h.2.2 qp j.toNatClampNeg = some d0) (j0 : 0 ≤ j.toInt) (j1 : j.toInt < 40) (hm : m = n + 1) : hw_DF h1 qc qp pk (hx_up agf n.toNat j) m := by
  have ei : ((i.toNatClampNeg : Nat) : Int) = i.toInt := by unfold Int32.toNatClampNeg; omega
  have e1 : i.toNatClampNeg = n.toNat := by omega
  subst eh; subst hm
  rw [e1]
  have q1 : qp ≠ qc := fun z => ne (by rw [← gc.2, ← z, gp.2])
  intro c hc hcn o d fo fd1
  by_cases z : c = n.toNat
  · subst z
    rw [hx_pr_at] at fo
    cases fo
    have q2 : p ≠ qc := fun z => ne2 (by rw [← gq.2, z, gc.2])
    rw [hx_pr_ne h (some p) (fun z => q2 z.1), fd] at fd1
    cases fd1
    rw [hx_up_at]
    refine ⟨j0, j1, ?_⟩
    rw [hx_pr_ne h (some p) (fun z => q1 z.1)]
    exact fj
  · rw [hx_pr_ne h (some p) (fun w => z w.2)] at fo
    obtain ⟨c1, c2⟩ := (hT.er gc hd (k := c) hc).2 o fo
    have c2 : h.1 o = u := by simpa using c2
    have q2 : o ≠ qc := fun z => ne2 (by rw [← c2, z, gc.2])
    rw [hx_pr_ne h (some p) (fun z => q2 z.1)] at fd1
    obtain ⟨a, b, e⟩ := H c hc (by omega) o d fo fd1
    rw [hx_up_ne z]
    refine ⟨a, b, ?_⟩
    rw [hx_pr_ne h (some p) (fun z => q1 z.1)]
    exact e
theorem hw_DF_e {h : hx_h} {qc qp pk : Nat} {f g : Nat → Int32} {n m : Int} (H : hw_DF h qc qp pk f n) (e : f = g) (en : n = m) : hw_DF h qc qp pk g m := by
  subst e; subst en
  exact H
theorem hw_DF_0 {h : hx_h} {qc qp pk : Nat} {f : Nat → Int32} {n : Int} (z : ∀ j, h.2.1 qc j = 0 ∧ h.2.2 qc j = none) : hw_DF h qc qp pk f n := fun c _ _ o d fo _ => by
  rw [(z c).2] at fo; cases fo
/-- what becomes of a number that a claim is given -/
def hw_UP (r n : Int) (v : Int32) (f g : Nat → Int32) : Prop := (r = -1 ∧ g = f) ∨ (r ≠ -1 ∧ g = hx_up f n.toNat v)
theorem hw_UP_u {r r2 n : Int} {v : Int32} {f g g2 : Nat → Int32} (e : r = r2) (p : hw_UP r n v f g) (q : hw_UP r2 n v f g2) : g = g2 := by
  rcases p with ⟨a1, a2⟩ | ⟨a1, a2⟩ <;> rcases q with ⟨b1, b2⟩ | ⟨b1, b2⟩
  · rw [a2, b2]
  · exfalso; omega
  · exfalso; omega
  · rw [a2, b2]
theorem hw_dc_of {h : hx_h} {ql qc qp px k0 : Nat} {agf lf lm cx fx : Nat → Int32} {n c0 : Int} (hn : n ≤ 8) (hnu : hx_num 100 h qc k0 c0) (hLQ : hx_LQ 8 100 h ql qc) (cl : hx_col 8 h ql k0 = lf) (el : hx_eqN 8 lf lm) (hDF : hw_DF h qc qp 2 agf c0) (cx1 : hx_col 40 h qp px = cx) (ex : hx_eqN 40 cx fx) : hx_dc h ql 2 px (fun k => fx (agf (lm k).toInt.toNat).toInt.toNat) n := by
  intro k hk c d fc fd
  obtain ⟨c', hc', ec⟩ := hLQ k (by omega) c fc
  have hlt : (c' : Int) < c0 := by
    rcases (show (c' : Int) < c0 ∨ c0 ≤ (c' : Int) by omega) with z | z
    · exact z
    · rw [(hnu c' hc').2 z] at ec; cases ec
  obtain ⟨p, fp, en⟩ := (hnu c' hc').1 hlt
  rw [ec] at fp
  cases fp
  have e1 : lm k = h.2.1 c k0 := by rw [← el k (by omega), ← cl]; exact hx_col_at fc (by omega)
  have e2 : (lm k).toInt.toNat = c' := by rw [e1, en]; omega
  obtain ⟨a, b, e⟩ := hDF c' hc' hlt c d ec fd
  show h.2.1 d px = fx (agf (lm k).toInt.toNat).toInt.toNat
  rw [e2, ← ex _ (by omega), ← cx1]
  exact (hx_col_at e (by omega)).symm
theorem hw_B {agf lm fx : Nat → Int32} {n : Int} (hn : n ≤ 8) (b1 : ∀ k, k < 8 → 0 ≤ (lm k).toInt ∧ (lm k).toInt ≤ 99) (b2 : ∀ k, k < 100 → 0 ≤ (agf k).toInt ∧ (agf k).toInt ≤ 39) (b3 : ∀ k, k < 40 → 0 ≤ (fx k).toInt ∧ (fx k).toInt ≤ 99) : ∀ k : Nat, (k : Int) < n → 0 ≤ ((fun k => fx (agf (lm k).toInt.toNat).toInt.toNat) k).toInt ∧ ((fun k => fx (agf (lm k).toInt.toNat).toInt.toNat) k).toInt ≤ 99 := fun k hk => by
  have a1 := b1 k (by omega)
  have a2 := b2 (lm k).toInt.toNat (by omega)
  exact b3 (agf (lm k).toInt.toNat).toInt.toNat (by omega)
/-! A PERSON is told his household -/
theorem hw_col_k {N : Nat} {h h1 : hx_h} {q k x : Nat} {f : Nat → Int32} (e : ∀ a k, a ≠ x → h1.2.1 a k = h.2.1 a k) (er : ∀ j, h1.2.2 q j = h.2.2 q j) (hno : ∀ j, j < N → h.2.2 q j ≠ some x) (c : hx_col N h q k = f) : hx_col N h1 q k = f := by
  rw [← c]
  funext j
  unfold hx_col
  by_cases hj : j < N
  · rw [if_pos hj, if_pos hj, er j]
    cases hr : h.2.2 q j with
    | none => rfl
    | some p => exact e p k (fun z => hno j hj (by rw [hr, z]))
  · rw [if_neg hj, if_neg hj]
theorem hw_col_u {N : Nat} {h h1 : hx_h} {q k k0 x i : Nat} {v : Int32} {n : Int} {f : Nat → Int32} (e : ∀ a k, a ≠ x → h1.2.1 a k = h.2.1 a k) (er : ∀ j, h1.2.2 q j = h.2.2 q j) (hn : hx_num N h q k0 n) (fo : h.2.2 q i = some x) (hi : i < N) (ev : h1.2.1 x k = v) (c : hx_col N h q k = f) : hx_col N h1 q k = hx_up f i v := by
  rw [← c]
  funext j
  by_cases hji : j = i
  · subst hji
    rw [hx_up_at, hx_col_at (h := h1) (p := x) (by rw [er]; exact fo) hi, ev]
  · rw [hx_up_ne hji]
    unfold hx_col
    by_cases hj : j < N
    · rw [if_pos hj, if_pos hj, er j]
      cases hr : h.2.2 q j with
      | none => rfl
      | some p => exact e p k (fun z => hji (hx_num_eq hn hj hi (by rw [hr, z]) fo))
    · rw [if_neg hj, if_neg hj]
/-- one who has not come into the array yet has the number of none in it -/
theorem hw_num_no {N : Nat} {h : hx_h} {q k x : Nat} {n : Int} (hn : hx_num N h q k n) (hx : (h.2.1 x k).toInt = n) : ∀ j, j < N → h.2.2 q j ≠ some x := by
  intro j hj f
  rcases (show (j : Int) < n ∨ n ≤ (j : Int) by omega) with z | z
  · obtain ⟨p, fp, e⟩ := (hn j hj).1 z
    rw [f] at fp
    cases fp
    omega
  · rw [(hn j hj).2 z] at f; cases f
def hw_AD (r i : Int) (v : Int32) (d d1 : Nat → Int32) : Prop := (r = 0 ∧ d1 = d) ∨ (r = 1 ∧ d1 = hx_up d i.toNat v)
theorem hw_adk {N : Nat} {r r2 i : Int} {v : Int32} {d d1 g g1 : Nat → Int32} (er : r = r2) (e : hx_eqN N d g) (p : hw_AD r i v d d1) (q : hw_AD r2 i v g g1) : hx_eqN N d1 g1 := by
  rcases p with ⟨a1, a2⟩ | ⟨a1, a2⟩ <;> rcases q with ⟨b1, b2⟩ | ⟨b1, b2⟩
  · rw [a2, b2]; exact e
  · exfalso; omega
  · exfalso; omega
  · rw [a2, b2]; exact hx_eqN_up e
end
section
/-! THE READER OF TEXTS, AS A FUNCTION OF THE TEXT: blanks, words, digits -/
def hv_sc (P : Nat → Bool) : Nat → Nat → Nat
  | 0, p => p
  | k + 1, p => if P p = true then hv_sc P k (p + 1) else p
theorem hv_sc_a {P : Nat → Bool} : ∀ (k p : Nat), p ≤ hv_sc P k p ∧ hv_sc P k p ≤ p + k ∧ (∀ j, p ≤ j → j < hv_sc P k p → P j = true) ∧ (hv_sc P k p < p + k → P (hv_sc P k p) = false) := by
  intro k
  induction k with
  | zero => intro p; exact ⟨Nat.le_refl _, Nat.le_refl _, fun j h1 h2 => absurd h2 (Nat.not_lt.mpr h1), fun h => absurd h (Nat.lt_irrefl _)⟩
  | succ k ih =>
    intro p
    by_cases e : P p = true
    · have hs : hv_sc P (k + 1) p = hv_sc P k (p + 1) := by
        show (if P p = true then hv_sc P k (p + 1) else p) = _
        rw [if_pos e]
      obtain ⟨a, b, c, d⟩ := ih (p + 1)
      rw [hs]
      refine ⟨by omega, by omega, fun j h1 h2 => ?_, fun h => d (by omega)⟩
      by_cases z : j = p
      · rw [z]; exact e
      · exact c j (by omega) h2
    · have hs : hv_sc P (k + 1) p = p := by
        show (if P p = true then hv_sc P k (p + 1) else p) = _
        rw [if_neg e]
      rw [hs]
      exact ⟨Nat.le_refl _, by omega, fun j h1 h2 => by exfalso; omega, fun _ => by simpa using e⟩
def hv_sn (P : Nat → Bool) (n p : Nat) : Nat := hv_sc P (n - p) p
section HVS
variable {P : Nat → Bool} {n p : Nat}
theorem hv_sn_s (h : p < n) (e : P p = true) : hv_sn P n p = hv_sn P n (p + 1) := by
  unfold hv_sn
  rw [show n - p = (n - (p + 1)) + 1 by omega]
  show (if P p = true then hv_sc P (n - (p + 1)) (p + 1) else p) = _
  rw [if_pos e]
theorem hv_sn_e (h : p < n → P p = false) : hv_sn P n p = p := by
  unfold hv_sn
  rcases Nat.lt_or_ge p n with z | z
  · rw [show n - p = (n - (p + 1)) + 1 by omega]
    show (if P p = true then hv_sc P (n - (p + 1)) (p + 1) else p) = _
    rw [if_neg (by rw [h z]; decide)]
  · rw [show n - p = 0 by omega]; rfl
theorem hv_sn_ge : p ≤ hv_sn P n p := (hv_sc_a _ _).1
theorem hv_sn_le (h : p ≤ n) : hv_sn P n p ≤ n := by
  have := (hv_sc_a (P := P) (n - p) p).2.1
  unfold hv_sn
  omega
theorem hv_sn_in {j : Nat} (h1 : p ≤ j) (h2 : j < hv_sn P n p) : P j = true := (hv_sc_a _ _).2.2.1 j h1 h2
theorem hv_sn_st (h : hv_sn P n p < n) : P (hv_sn P n p) = false := by
  rcases Nat.lt_or_ge p n with z | z
  · exact (hv_sc_a (P := P) (n - p) p).2.2.2 (by unfold hv_sn at h; omega)
  · rw [hv_sn_e (fun h => by omega)] at h; exfalso; omega
theorem hv_sn_id : hv_sn P n (hv_sn P n p) = hv_sn P n p := hv_sn_e (fun h => hv_sn_st h)
theorem hv_sn_lt (h : p < hv_sn P n p) : hv_sn P n p ≤ n := by
  rcases Nat.lt_or_ge p n with z | z
  · exact hv_sn_le (by omega)
  · rw [hv_sn_e (fun h => by omega)] at h; exfalso; omega
end HVS
def hv_bl (T : Nat → Int32) (q : Nat) : Bool := decide ((T q).toInt = 32)
def hv_lt (T : Nat → Int32) (q : Nat) : Bool := decide (97 ≤ (T q).toInt ∧ (T q).toInt ≤ 122)
def hv_dg (T : Nat → Int32) (q : Nat) : Bool := decide (48 ≤ (T q).toInt ∧ (T q).toInt ≤ 57)
def hv_sk (T : Nat → Int32) (n p : Nat) : Nat := hv_sn (hv_bl T) n p
def hv_we (T : Nat → Int32) (n p : Nat) : Nat := hv_sn (hv_lt T) n p
def hv_de (T : Nat → Int32) (n p : Nat) : Nat := hv_sn (hv_dg T) n p
def hv_tx (T : Nat → Int32) : Nat → Nat → List Int
  | _, 0 => []
  | p, k + 1 => (T p).toInt :: hv_tx T (p + 1) k
theorem hv_tx_len {T : Nat → Int32} : ∀ (k p : Nat), (hv_tx T p k).length = k := by
  intro k
  induction k with
  | zero => intro p; rfl
  | succ k ih => intro p; show (hv_tx T (p + 1) k).length + 1 = k + 1; rw [ih]
theorem hv_tx_get {T : Nat → Int32} : ∀ (k p i : Nat), i < k → (hv_tx T p k).getD i 0 = (T (p + i)).toInt := by
  intro k
  induction k with
  | zero => intro p i h; exfalso; omega
  | succ k ih =>
    intro p i h
    cases i with
    | zero => rfl
    | succ i =>
      show (hv_tx T (p + 1) k).getD i 0 = _
      rw [ih (p + 1) i (by omega), show p + 1 + i = p + (i + 1) by omega]
theorem hv_tx_eq {T : Nat → Int32} : ∀ (l : List Int) (p : Nat), (∀ i, i < l.length → (T (p + i)).toInt = l.getD i 0) → hv_tx T p l.length = l := by
  intro l
  induction l with
  | nil => intro p _; rfl
  | cons a l ih =>
    intro p h
    show (T p).toInt :: hv_tx T (p + 1) l.length = a :: l
    have h0 : (T p).toInt = a := h 0 (by simp)
    rw [h0, ih (p + 1) (fun i hi => by
      have := h (i + 1) (by simp; exact hi)
      rw [show p + 1 + i = p + (i + 1) by omega, this]
      rfl)]
def hv_wl : List (List Int) := [[111, 114], [97, 110, 100], [110, 111, 116],
  [111, 97, 116, 104], [100, 101, 110, 105, 101, 100], [110, 111, 116, 101], [119, 105, 116, 110, 101, 115, 115], [111, 119, 110], [111, 116, 104, 101, 114], [97, 108, 105, 107, 101], [99, 108, 97, 105, 109, 101, 100],
  [109, 111, 115, 116], [115, 112, 108, 105, 116], [119, 101, 101, 107], [107, 101, 101, 112], [108, 97, 116, 101], [103, 97, 111, 108], [108, 111, 110, 103, 101, 115, 116], [97, 103, 101], [99, 111, 115, 116], [112, 114, 111, 118, 101],
  [115, 117, 109, 109, 111, 110, 115], [104, 101, 97, 114, 105, 110, 103], [111, 114, 100, 101, 114], [115, 101, 105, 122, 117, 114, 101]]
def hv_fi (l : List Int) : List (List Int) → Int → Int
  | [], _ => -1
  | w :: ws, i => if l = w then i else hv_fi l ws (i + 1)
def hv_ix (l : List Int) : Int := hv_fi l hv_wl 0
theorem hv_fi_c {l : List Int} : ∀ (ws : List (List Int)) (i : Int), (hv_fi l ws i = -1 ∧ ∀ k : Nat, k < ws.length → l ≠ ws.getD k []) ∨ ∃ k : Nat, k < ws.length ∧ hv_fi l ws i = i + (k : Int) ∧ l = ws.getD k [] := by
  intro ws
  induction ws with
  | nil => intro i; exact Or.inl ⟨rfl, fun k hk => absurd hk (Nat.not_lt_zero _)⟩
  | cons w ws ih =>
    intro i
    by_cases e : l = w
    · refine Or.inr ⟨0, by simp, ?_, e⟩
      show (if l = w then i else hv_fi l ws (i + 1)) = i + ((0 : Nat) : Int)
      rw [if_pos e]; omega
    · have hs : hv_fi l (w :: ws) i = hv_fi l ws (i + 1) := by
        show (if l = w then i else hv_fi l ws (i + 1)) = _
        rw [if_neg e]
      rw [hs]
      rcases ih (i + 1) with ⟨h1, h2⟩ | ⟨k, h1, h2, h3⟩
      · refine Or.inl ⟨h1, fun k hk => ?_⟩
        cases k with
        | zero => exact e
        | succ k => exact h2 k (by simpa using hk)
      · exact Or.inr ⟨k + 1, by simp; exact h1, by rw [h2]; omega, h3⟩
def hv_wd (T : Nat → Int32) (n p : Nat) : Int := hv_ix (hv_tx T p (hv_we T n p - p))
theorem hv_ix_w : ∀ w : Nat, w < 25 → hv_ix (hv_wl.getD w []) = (w : Int) := by decide +kernel
theorem hv_ix_l : ∀ w : Nat, w < 25 → 2 ≤ (hv_wl.getD w []).length ∧ (hv_wl.getD w []).length ≤ 7 ∧ (1 ≤ w → 3 ≤ (hv_wl.getD w []).length) := by decide +kernel
theorem hv_ix_c (l : List Int) : (hv_ix l = -1 ∧ ∀ k : Nat, k < 25 → l ≠ hv_wl.getD k []) ∨ ∃ k : Nat, k < 25 ∧ hv_ix l = (k : Int) ∧ l = hv_wl.getD k [] := by
  rcases hv_fi_c (l := l) hv_wl 0 with z | ⟨k, a, b, c⟩
  · exact Or.inl z
  · exact Or.inr ⟨k, a, by show hv_fi l hv_wl 0 = _; rw [b]; omega, c⟩
section HVW
variable {T : Nat → Int32} {n p : Nat}
theorem hv_wd_b : -1 ≤ hv_wd T n p ∧ hv_wd T n p ≤ 24 := by
  rcases hv_ix_c (hv_tx T p (hv_we T n p - p)) with ⟨a, _⟩ | ⟨k, a, b, _⟩
  · unfold hv_wd; omega
  · unfold hv_wd; omega
theorem hv_wd_k {w : Nat} (h : hv_wd T n p = (w : Int)) : w < 25 ∧ hv_tx T p (hv_we T n p - p) = hv_wl.getD w [] ∧ hv_we T n p = p + (hv_wl.getD w []).length ∧ hv_we T n p ≤ n := by
  unfold hv_wd at h
  rcases hv_ix_c (hv_tx T p (hv_we T n p - p)) with ⟨a, _⟩ | ⟨k, a, b, c⟩
  · exfalso; omega
  · have e : k = w := by omega
    subst e
    have hl := congrArg List.length c
    rw [hv_tx_len] at hl
    have h2 := hv_ix_l k a
    have hg : p ≤ hv_we T n p := hv_sn_ge
    exact ⟨a, c, by omega, hv_sn_lt (p := p) (by show p < hv_we T n p; omega)⟩
theorem hv_wd_3 (h : 1 ≤ hv_wd T n p) : p + 3 ≤ hv_we T n p ∧ hv_we T n p ≤ n ∧ hv_we T n p ≤ p + 7 := by
  have hb := hv_wd_b (T := T) (n := n) (p := p)
  obtain ⟨a, b, c, d⟩ := hv_wd_k (T := T) (n := n) (p := p) (w := (hv_wd T n p).toNat) (by omega)
  have h2 := hv_ix_l _ a
  have h3 := h2.2.2 (by omega)
  omega
theorem hv_wd_0 (h : hv_wd T n p = 0) : hv_we T n p = p + 2 ∧ hv_we T n p ≤ n := by
  obtain ⟨a, b, c, d⟩ := hv_wd_k (T := T) (n := n) (p := p) (w := 0) (by omega)
  have h2 : (hv_wl.getD 0 []).length = 2 := rfl
  omega
theorem hv_wd_1 (h : hv_wd T n p = 1) : hv_we T n p = p + 3 ∧ hv_we T n p ≤ n := by
  obtain ⟨a, b, c, d⟩ := hv_wd_k (T := T) (n := n) (p := p) (w := 1) (by omega)
  have h2 : (hv_wl.getD 1 []).length = 3 := rfl
  omega
theorem hv_wd_2 (h : hv_wd T n p = 2) : hv_we T n p = p + 3 ∧ hv_we T n p ≤ n := by
  obtain ⟨a, b, c, d⟩ := hv_wd_k (T := T) (n := n) (p := p) (w := 2) (by omega)
  have h2 : (hv_wl.getD 2 []).length = 3 := rfl
  omega
/-- no word where no letter is -/
theorem hv_wd_n (h : p < n → hv_lt T p = false) : hv_wd T n p = -1 := by
  have e : hv_we T n p = p := hv_sn_e h
  unfold hv_wd
  rw [e, Nat.sub_self]
  rcases hv_ix_c (hv_tx T p 0) with ⟨a, _⟩ | ⟨k, a, b, c⟩
  · exact a
  · have hl := congrArg List.length c
    rw [hv_tx_len] at hl
    have h2 := hv_ix_l k a
    exfalso; omega
theorem hv_sk_ge : p ≤ hv_sk T n p := hv_sn_ge
theorem hv_sk_le (h : p ≤ n) : hv_sk T n p ≤ n := hv_sn_le h
theorem hv_sk_id : hv_sk T n (hv_sk T n p) = hv_sk T n p := hv_sn_id
theorem hv_sk_e (h : n ≤ p) : hv_sk T n p = p := hv_sn_e (fun z => by exfalso; omega)
theorem hv_de_gt (h : p < n) (e : hv_dg T p = true) : p + 1 ≤ hv_de T n p ∧ hv_de T n p ≤ n := by
  have h1 : hv_de T n p = hv_de T n (p + 1) := hv_sn_s h e
  have h2 : p + 1 ≤ hv_de T n (p + 1) := hv_sn_ge
  have h3 : hv_de T n (p + 1) ≤ n := hv_sn_le (by omega)
  omega
end HVW
def hv_dv (T : Nat → Int32) (p : Nat) : Nat → Int
  | 0 => 0
  | k + 1 => 10 * hv_dv T p k + ((T (p + k)).toInt - 48)
theorem hv_dv_b {T : Nat → Int32} {p : Nat} : ∀ k, (∀ j, p ≤ j → j < p + k → hv_dg T j = true) → 0 ≤ hv_dv T p k ∧ hv_dv T p k < 10 ^ k := by
  intro k
  induction k with
  | zero => intro _; exact ⟨Int.le_refl _, by show (0 : Int) < 10 ^ 0; decide⟩
  | succ k ih =>
    intro h
    have h1 := ih (fun j a b => h j a (by omega))
    have h2 := h (p + k) (by omega) (by omega)
    simp only [hv_dg, decide_eq_true_eq] at h2
    show 0 ≤ 10 * hv_dv T p k + ((T (p + k)).toInt - 48) ∧ 10 * hv_dv T p k + ((T (p + k)).toInt - 48) < 10 ^ (k + 1)
    rw [Int.pow_succ]
    omega
/-! THE RESULTS -/
abbrev hv_tok : Type := Int × Nat × Int
abbrev hv_R : Type := Nat ⊕ (Nat × Nat × List hv_tok)
def hv_bd {α β : Type} (r : Nat ⊕ α) (f : α → Nat ⊕ β) : Nat ⊕ β := match r with
  | .inl x => .inl x
  | .inr a => f a
theorem hv_bd_l {α β : Type} {x : Nat} {f : α → Nat ⊕ β} : hv_bd (.inl x) f = .inl x := rfl
theorem hv_bd_r {α β : Type} {a : α} {f : α → Nat ⊕ β} : hv_bd (.inr a) f = f a := rfl
theorem hv_bd_i {α β : Type} {r : Nat ⊕ α} {f : α → Nat ⊕ β} {q : β} (h : hv_bd r f = .inr q) : ∃ a, r = .inr a ∧ f a = .inr q := by
  cases r with
  | inl x => cases h
  | inr a => exact ⟨a, rfl, h⟩
/-- a SIGN: its number and how many bytes; none: 0 -/
def hv_sg (T : Nat → Int32) (n q : Nat) : Nat × Nat :=
  if q < n then
    if (T q).toInt = 61 then (2, 1)
    else if (T q).toInt = 60 then (if q + 1 < n ∧ (T (q + 1)).toInt = 61 then (1, 2) else (0, 1))
    else if (T q).toInt = 62 then (if q + 1 < n ∧ (T (q + 1)).toInt = 61 then (3, 2) else (4, 1))
    else (0, 0)
  else (0, 0)
def hv_rt (T : Nat → Int32) (n : Nat) (w : Int) (s u t : Nat) (o : List hv_tok) : hv_R :=
  if 3 ≤ hv_wd T n u ∧ hv_wd T n u ≤ 10 then .inr (hv_we T n u, t + 1, (w - 2, s, 10000 + (hv_wd T n u - 3)) :: o)
  else if u < n ∧ hv_dg T u = true then (if hv_de T n u - u ≤ 4 then .inr (hv_de T n u, t + 1, (w - 2, s, hv_dv T u (hv_de T n u - u)) :: o) else .inl (2 + 8 * u))
  else .inl (1 + 8 * u)
def hv_lf (T : Nat → Int32) (n : Nat) (w : Int) (q t : Nat) (o : List hv_tok) : hv_R :=
  if (hv_sg T n q).2 = 0 then .inl (1 + 8 * q) else hv_rt T n w (hv_sg T n q).1 (hv_sk T n (q + (hv_sg T n q).2)) t o
def hv_term (T : Nat → Int32) (n p t : Nat) (o : List hv_tok) : hv_R :=
  if 3 ≤ hv_wd T n p ∧ hv_wd T n p ≤ 10 then (if 20 ≤ t then .inl (5 + 8 * p) else hv_lf T n (hv_wd T n p) (hv_sk T n (hv_we T n p)) t o) else .inl (1 + 8 * p)
def hv_j (b : Bool) (s : Nat) (o : List hv_tok) : List hv_tok := if b = true then (0, s, 0) :: o else o
def hv_lp (T : Nat → Int32) (n : Nat) (one : Nat → Nat → List hv_tok → hv_R) : Nat → Bool → Bool → Nat → Nat → List hv_tok → hv_R
  | 0, _, _, _, _, _ => .inl 0
  | f + 1, a, w, p, t, o => hv_bd (one p t o) (fun q =>
    if hv_wd T n (hv_sk T n q.1) = 1 then hv_lp T n one f true w (hv_sk T n q.1 + 3) q.2.1 (hv_j a 1 q.2.2)
    else if hv_wd T n (hv_sk T n q.1) = 0 then hv_lp T n one f false true (hv_sk T n q.1 + 2) q.2.1 (hv_j w 0 (hv_j a 1 q.2.2))
    else .inr (hv_sk T n q.1, q.2.1, hv_j w 0 (hv_j a 1 q.2.2)))
theorem hv_lp_s {T : Nat → Int32} {n : Nat} {one : Nat → Nat → List hv_tok → hv_R} {f : Nat} {a w : Bool} {p t : Nat} {o : List hv_tok} : hv_lp T n one (f + 1) a w p t o = hv_bd (one p t o) (fun q =>
    if hv_wd T n (hv_sk T n q.1) = 1 then hv_lp T n one f true w (hv_sk T n q.1 + 3) q.2.1 (hv_j a 1 q.2.2)
    else if hv_wd T n (hv_sk T n q.1) = 0 then hv_lp T n one f false true (hv_sk T n q.1 + 2) q.2.1 (hv_j w 0 (hv_j a 1 q.2.2))
    else .inr (hv_sk T n q.1, q.2.1, hv_j w 0 (hv_j a 1 q.2.2))) := rfl
def hv_par (T : Nat → Int32) (n : Nat) (q : Nat × Nat × List hv_tok) : hv_R :=
  if hv_sk T n q.1 < n ∧ (T (hv_sk T n q.1)).toInt = 41 then .inr (hv_sk T n q.1 + 1, q.2.1, q.2.2) else .inl (1 + 8 * hv_sk T n q.1)
def hv_one (T : Nat → Int32) (n : Nat) : Nat → Nat → Nat → List hv_tok → hv_R
  | 0, p, t, o => if hv_wd T n (hv_sk T n p) = 2 then .inl (4 + 8 * hv_sk T n p) else if hv_sk T n p < n ∧ (T (hv_sk T n p)).toInt = 40 then .inl (4 + 8 * hv_sk T n p) else hv_term T n (hv_sk T n p) t o
  | D + 1, p, t, o => if hv_wd T n (hv_sk T n p) = 2 then hv_bd (hv_one T n D (hv_sk T n p + 3) t o) (fun q => .inr (q.1, q.2.1, (0, 2, 0) :: q.2.2))
    else if hv_sk T n p < n ∧ (T (hv_sk T n p)).toInt = 40 then hv_bd (hv_lp T n (hv_one T n D) (n + 2) false false (hv_sk T n p + 1) t o) (hv_par T n)
    else hv_term T n (hv_sk T n p) t o
def hv_LE (T : Nat → Int32) (n D : Nat) (a w : Bool) (p t : Nat) (o : List hv_tok) : hv_R := hv_lp T n (hv_one T n D) (n + 2) a w p t o
/-- how far it comes, and how much is written -/
def hv_G (n p t : Nat) (o : List hv_tok) (q : Nat × Nat × List hv_tok) : Prop := p < q.1 ∧ q.1 ≤ n ∧ t ≤ q.2.1 ∧ q.2.1 ≤ max t 20 ∧ 3 * q.2.2.length + 3 + p + t ≤ 3 * o.length + q.1 + q.2.1
section HVB
variable {T : Nat → Int32} {n : Nat}
theorem hv_sg_b (q : Nat) : ((hv_sg T n q).2 = 0 ∨ (1 ≤ (hv_sg T n q).2 ∧ q + (hv_sg T n q).2 ≤ n)) ∧ (hv_sg T n q).2 ≤ 2 ∧ (hv_sg T n q).1 ≤ 4 := by
  unfold hv_sg
  repeat' split
  all_goals (dsimp only; omega)
theorem hv_term_b {p t : Nat} {o : List hv_tok} {q : Nat × Nat × List hv_tok} (h : hv_term T n p t o = .inr q) : p < q.1 ∧ q.1 ≤ n ∧ q.2.1 = t + 1 ∧ t < 20 ∧ q.2.2.length = o.length + 1 ∧ p + 5 ≤ q.1 ∧ hv_G n p t o q := by
  have key : p + 5 ≤ q.1 ∧ q.1 ≤ n ∧ q.2.1 = t + 1 ∧ t < 20 ∧ q.2.2.length = o.length + 1 := by
    unfold hv_term at h
    split at h
    · next hw =>
      split at h
      · cases h
      · next ht =>
        have hl := hv_wd_3 (T := T) (n := n) (p := p) (by omega)
        have hs1 := hv_sk_ge (T := T) (n := n) (p := hv_we T n p)
        unfold hv_lf at h
        split at h
        · cases h
        · next hz =>
          have hsg := hv_sg_b (T := T) (n := n) (hv_sk T n (hv_we T n p))
          have hs2 := hv_sk_ge (T := T) (n := n) (p := hv_sk T n (hv_we T n p) + (hv_sg T n (hv_sk T n (hv_we T n p))).2)
          unfold hv_rt at h
          split at h
          · next hv =>
            have hl2 := hv_wd_3 (T := T) (n := n) (p := hv_sk T n (hv_sk T n (hv_we T n p) + (hv_sg T n (hv_sk T n (hv_we T n p))).2)) (by omega)
            have h2 := Sum.inr.inj h
            subst h2
            show p + 5 ≤ hv_we T n _ ∧ hv_we T n _ ≤ n ∧ t + 1 = t + 1 ∧ t < 20 ∧ o.length + 1 = o.length + 1
            omega
          · split at h
            · next hd =>
              have hl2 := hv_de_gt (T := T) hd.1 hd.2
              split at h
              · have h2 := Sum.inr.inj h
                subst h2
                show p + 5 ≤ hv_de T n _ ∧ hv_de T n _ ≤ n ∧ t + 1 = t + 1 ∧ t < 20 ∧ o.length + 1 = o.length + 1
                omega
              · cases h
            · cases h
    · cases h
  obtain ⟨a, b, c, d, e⟩ := key
  exact ⟨by omega, b, c, d, e, a, by unfold hv_G; omega⟩
/-- what waits to be written: an and, an or -/
def hv_w1 (a : Bool) : Nat := if a = true then 1 else 0
theorem hv_w1_j {a : Bool} {s : Nat} {o : List hv_tok} : (hv_j a s o).length = o.length + hv_w1 a := by
  unfold hv_j hv_w1
  split <;> simp
theorem hv_lp_b {one : Nat → Nat → List hv_tok → hv_R} (hone : ∀ p t o q, one p t o = .inr q → hv_G n p t o q) : ∀ (f : Nat) (a w : Bool) (p t : Nat) (o : List hv_tok) (q : Nat × Nat × List hv_tok), hv_lp T n one f a w p t o = .inr q → p < q.1 ∧ q.1 ≤ n ∧ t ≤ q.2.1 ∧ q.2.1 ≤ max t 20 ∧ 3 * q.2.2.length + 3 + p + t ≤ 3 * o.length + 3 * hv_w1 a + 3 * hv_w1 w + q.1 + q.2.1 ∧ hv_sk T n q.1 = q.1 ∧ hv_wd T n q.1 ≠ 0 ∧ hv_wd T n q.1 ≠ 1 := by
  intro f
  induction f with
  | zero => intro a w p t o q h; cases h
  | succ f ih =>
    intro a w p t o q h
    rw [hv_lp_s] at h
    obtain ⟨r, h1, h2⟩ := hv_bd_i h
    obtain ⟨g1, g2, g3, g4, g5⟩ := hone p t o r h1
    have hs := hv_sk_ge (T := T) (n := n) (p := r.1)
    have hsn := hv_sk_le (T := T) (n := n) (p := r.1) g2
    have j1 := hv_w1_j (a := a) (s := 1) (o := r.2.2)
    have j2 := hv_w1_j (a := w) (s := 0) (o := hv_j a 1 r.2.2)
    have wf : hv_w1 false = 0 := rfl
    have wt : hv_w1 true = 1 := rfl
    split at h2
    · next e =>
      have hl := hv_wd_1 e
      have := ih _ _ _ _ _ _ h2
      refine ⟨by omega, this.2.1, by omega, by omega, ?_, this.2.2.2.2.2⟩
      have h5 := this.2.2.2.2.1
      rw [j1, wt] at h5
      omega
    · next e1 =>
      split at h2
      · next e =>
        have hl := hv_wd_0 e
        have := ih _ _ _ _ _ _ h2
        refine ⟨by omega, this.2.1, by omega, by omega, ?_, this.2.2.2.2.2⟩
        have h5 := this.2.2.2.2.1
        rw [j2, j1, wt, wf] at h5
        omega
      · next e0 =>
        cases h2
        refine ⟨by show p < hv_sk T n r.1; omega, hsn, g3, g4, ?_, hv_sk_id, e0, e1⟩
        show 3 * (hv_j w 0 (hv_j a 1 r.2.2)).length + 3 + p + t ≤ 3 * o.length + 3 * hv_w1 a + 3 * hv_w1 w + hv_sk T n r.1 + r.2.1
        rw [j2, j1]
        omega
theorem hv_one_b : ∀ (D p t : Nat) (o : List hv_tok) (q : Nat × Nat × List hv_tok), hv_one T n D p t o = .inr q → hv_G n p t o q := by
  intro D
  induction D with
  | zero =>
    intro p t o q h
    have hs := hv_sk_ge (T := T) (n := n) (p := p)
    unfold hv_one at h
    split at h
    · cases h
    · split at h
      · cases h
      · obtain ⟨a, b, c, d, e, f, g⟩ := hv_term_b h
        unfold hv_G at g ⊢
        omega
  | succ D ih =>
    intro p t o q h
    have hs := hv_sk_ge (T := T) (n := n) (p := p)
    unfold hv_one at h
    split at h
    · next e =>
      obtain ⟨r, h1, h2⟩ := hv_bd_i h
      have g := ih _ _ _ _ h1
      have h3 := Sum.inr.inj h2
      subst h3
      unfold hv_G at g ⊢
      simp only [List.length_cons]
      omega
    · split at h
      · obtain ⟨r, h1, h2⟩ := hv_bd_i h
        have g := hv_lp_b ih _ _ _ _ _ _ _ h1
        have wf : hv_w1 false = 0 := rfl
        rw [wf] at g
        unfold hv_par at h2
        split at h2
        · next hc =>
          cases h2
          have hs2 := hv_sk_ge (T := T) (n := n) (p := r.1)
          unfold hv_G
          show _ ∧ hv_sk T n r.1 + 1 ≤ n ∧ t ≤ r.2.1 ∧ r.2.1 ≤ max t 20 ∧ 3 * r.2.2.length + 3 + p + t ≤ 3 * o.length + (hv_sk T n r.1 + 1) + r.2.1
          refine ⟨by show p < hv_sk T n r.1 + 1; omega, by omega, by omega, by omega, by omega⟩
        · cases h2
      · obtain ⟨a, b, c, d, e, f, g⟩ := hv_term_b h
        unfold hv_G at g ⊢
        omega
theorem hv_LE_b {D : Nat} {a w : Bool} {p t : Nat} {o : List hv_tok} {q : Nat × Nat × List hv_tok} (h : hv_LE T n D a w p t o = .inr q) : p < q.1 ∧ q.1 ≤ n ∧ t ≤ q.2.1 ∧ q.2.1 ≤ max t 20 ∧ 3 * q.2.2.length + 3 + p + t ≤ 3 * o.length + 3 * hv_w1 a + 3 * hv_w1 w + q.1 + q.2.1 ∧ hv_sk T n q.1 = q.1 ∧ hv_wd T n q.1 ≠ 0 ∧ hv_wd T n q.1 ≠ 1 := hv_lp_b (hv_one_b D) _ _ _ _ _ _ _ h
theorem hv_lp_f {one : Nat → Nat → List hv_tok → hv_R} (hone : ∀ p t o q, one p t o = .inr q → hv_G n p t o q) : ∀ (f f' : Nat) (a w : Bool) (p t : Nat) (o : List hv_tok), n + 1 < f + p → 0 < f → n + 1 < f' + p → 0 < f' → hv_lp T n one f a w p t o = hv_lp T n one f' a w p t o := by
  intro f
  induction f with
  | zero => intro f' a w p t o _ h; exfalso; omega
  | succ f ih =>
    intro f' a w p t o h1 h2 h3 h4
    obtain ⟨g, rfl⟩ : ∃ g, f' = g + 1 := ⟨f' - 1, by omega⟩
    rw [hv_lp_s, hv_lp_s]
    cases hr : one p t o with
    | inl x => rfl
    | inr r =>
      obtain ⟨g1, g2, g3, g4, g5⟩ := hone p t o r hr
      have hs := hv_sk_ge (T := T) (n := n) (p := r.1)
      rw [hv_bd_r, hv_bd_r]
      by_cases e : hv_wd T n (hv_sk T n r.1) = 1
      · have hl := hv_wd_1 e
        rw [if_pos e, if_pos e]
        exact ih _ _ _ _ _ _ (by omega) (by omega) (by omega) (by omega)
      · rw [if_neg e, if_neg e]
        by_cases e0 : hv_wd T n (hv_sk T n r.1) = 0
        · have hl := hv_wd_0 e0
          rw [if_pos e0, if_pos e0]
          exact ih _ _ _ _ _ _ (by omega) (by omega) (by omega) (by omega)
        · rw [if_neg e0, if_neg e0]
/-- a turn of the loop -/
theorem hv_LE_t {D : Nat} {a w : Bool} {p t : Nat} {o : List hv_tok} : hv_LE T n D a w p t o = hv_bd (hv_one T n D p t o) (fun q =>
    if hv_wd T n (hv_sk T n q.1) = 1 then hv_LE T n D true w (hv_sk T n q.1 + 3) q.2.1 (hv_j a 1 q.2.2)
    else if hv_wd T n (hv_sk T n q.1) = 0 then hv_LE T n D false true (hv_sk T n q.1 + 2) q.2.1 (hv_j w 0 (hv_j a 1 q.2.2))
    else .inr (hv_sk T n q.1, q.2.1, hv_j w 0 (hv_j a 1 q.2.2))) := by
  show hv_lp T n (hv_one T n D) ((n + 1) + 1) a w p t o = _
  rw [hv_lp_s]
  cases hr : hv_one T n D p t o with
  | inl x => rfl
  | inr r =>
    have hs := hv_sk_ge (T := T) (n := n) (p := r.1)
    rw [hv_bd_r, hv_bd_r]
    by_cases e : hv_wd T n (hv_sk T n r.1) = 1
    · rw [if_pos e, if_pos e]
      exact hv_lp_f (hv_one_b D) _ _ _ _ _ _ _ (by omega) (by omega) (by omega) (by omega)
    · rw [if_neg e, if_neg e]
      by_cases e0 : hv_wd T n (hv_sk T n r.1) = 0
      · rw [if_pos e0, if_pos e0]
        exact hv_lp_f (hv_one_b D) _ _ _ _ _ _ _ (by omega) (by omega) (by omega) (by omega)
      · rw [if_neg e0, if_neg e0]
end HVB
end
section
/-! THE OTHER READER: a stack instead of calls -/
def hv_cn : List hv_tok → List Int → List hv_tok × List Int
  | o, [] => (o, [])
  | o, a :: s => if a = 2 then hv_cn ((0, 2, 0) :: o) s else (o, a :: s)
def hv_cd (low : Int) : List hv_tok → List Int → List hv_tok × List Int
  | o, [] => (o, [])
  | o, a :: s => if a ≠ 100 ∧ low ≤ a then hv_cd low ((0, a.toNat, 0) :: o) s else (o, a :: s)
def hv_dp : List Int → Nat
  | [] => 0
  | a :: s => hv_dp s + (if a = 2 ∨ a = 100 then 1 else 0)
def hv_shut (T : Nat → Int32) (n p t : Nat) (run : Nat → Nat → List hv_tok → List Int → hv_R) (x : List hv_tok × List Int) : hv_R :=
  if p < n ∧ (T p).toInt = 41 then (match x.2 with
    | [] => .inl (1 + 8 * p)
    | _ :: s => run (p + 1) t (hv_cn x.1 s).1 (hv_cn x.1 s).2)
  else if x.2 = [] then .inr (p, t, x.1) else .inl (1 + 8 * p)
def hv_run (T : Nat → Int32) (n : Nat) : Nat → Bool → Nat → Nat → List hv_tok → List Int → hv_R
  | 0, _, _, _, _, _ => .inl 0
  | f + 1, true, p, t, o, s =>
    if hv_wd T n (hv_sk T n p) = 2 then (if hv_dp s = 8 then .inl (4 + 8 * hv_sk T n p) else hv_run T n f true (hv_sk T n p + 3) t o (2 :: s))
    else if hv_sk T n p < n ∧ (T (hv_sk T n p)).toInt = 40 then (if hv_dp s = 8 then .inl (4 + 8 * hv_sk T n p) else hv_run T n f true (hv_sk T n p + 1) t o (100 :: s))
    else hv_bd (hv_term T n (hv_sk T n p) t o) (fun q => hv_run T n f false q.1 q.2.1 (hv_cn q.2.2 s).1 (hv_cn q.2.2 s).2)
  | f + 1, false, p, t, o, s =>
    if hv_wd T n (hv_sk T n p) = 1 ∨ hv_wd T n (hv_sk T n p) = 0 then hv_run T n f true (hv_we T n (hv_sk T n p)) t (hv_cd (hv_wd T n (hv_sk T n p)) o s).1 (hv_wd T n (hv_sk T n p) :: (hv_cd (hv_wd T n (hv_sk T n p)) o s).2)
    else hv_shut T n (hv_sk T n p) t (hv_run T n f false) (hv_cd 0 o s)
section HVR
variable {T : Nat → Int32} {n : Nat}
theorem hv_run_1 {f p t : Nat} {o : List hv_tok} {s : List Int} : hv_run T n (f + 1) true p t o s =
    (if hv_wd T n (hv_sk T n p) = 2 then (if hv_dp s = 8 then .inl (4 + 8 * hv_sk T n p) else hv_run T n f true (hv_sk T n p + 3) t o (2 :: s))
    else if hv_sk T n p < n ∧ (T (hv_sk T n p)).toInt = 40 then (if hv_dp s = 8 then .inl (4 + 8 * hv_sk T n p) else hv_run T n f true (hv_sk T n p + 1) t o (100 :: s))
    else hv_bd (hv_term T n (hv_sk T n p) t o) (fun q => hv_run T n f false q.1 q.2.1 (hv_cn q.2.2 s).1 (hv_cn q.2.2 s).2)) := rfl
theorem hv_run_0 {f p t : Nat} {o : List hv_tok} {s : List Int} : hv_run T n (f + 1) false p t o s =
    (if hv_wd T n (hv_sk T n p) = 1 ∨ hv_wd T n (hv_sk T n p) = 0 then hv_run T n f true (hv_we T n (hv_sk T n p)) t (hv_cd (hv_wd T n (hv_sk T n p)) o s).1 (hv_wd T n (hv_sk T n p) :: (hv_cd (hv_wd T n (hv_sk T n p)) o s).2)
    else hv_shut T n (hv_sk T n p) t (hv_run T n f false) (hv_cd 0 o s)) := rfl
theorem hv_shut_c {p t : Nat} {r r' : Nat → Nat → List hv_tok → List Int → hv_R} {x : List hv_tok × List Int} (h : p < n → ∀ o s, r (p + 1) t o s = r' (p + 1) t o s) : hv_shut T n p t r x = hv_shut T n p t r' x := by
  unfold hv_shut
  by_cases e : p < n ∧ (T p).toInt = 41
  · rw [if_pos e, if_pos e]
    cases x.2 with
    | nil => rfl
    | cons a s => exact h e.1 _ _
  · rw [if_neg e, if_neg e]
theorem hv_run_f : ∀ (f f' : Nat) (b : Bool) (p t : Nat) (o : List hv_tok) (s : List Int), n + 1 < f + p → 0 < f → n + 1 < f' + p → 0 < f' → hv_run T n f b p t o s = hv_run T n f' b p t o s := by
  intro f
  induction f with
  | zero => intro f' b p t o s _ h; exfalso; omega
  | succ f ih =>
    intro f' b p t o s h1 h2 h3 h4
    obtain ⟨g, rfl⟩ : ∃ g, f' = g + 1 := ⟨f' - 1, by omega⟩
    have hs := hv_sk_ge (T := T) (n := n) (p := p)
    cases b with
    | true =>
      rw [hv_run_1, hv_run_1]
      by_cases e : hv_wd T n (hv_sk T n p) = 2
      · have hl := hv_wd_2 e
        rw [if_pos e, if_pos e]
        by_cases d : hv_dp s = 8
        · rw [if_pos d, if_pos d]
        · rw [if_neg d, if_neg d]
          exact ih _ _ _ _ _ _ (by omega) (by omega) (by omega) (by omega)
      · rw [if_neg e, if_neg e]
        by_cases c : hv_sk T n p < n ∧ (T (hv_sk T n p)).toInt = 40
        · rw [if_pos c, if_pos c]
          by_cases d : hv_dp s = 8
          · rw [if_pos d, if_pos d]
          · rw [if_neg d, if_neg d]
            exact ih _ _ _ _ _ _ (by omega) (by omega) (by omega) (by omega)
        · rw [if_neg c, if_neg c]
          cases hr : hv_term T n (hv_sk T n p) t o with
          | inl x => rfl
          | inr q =>
            obtain ⟨q1, q2, _⟩ := hv_term_b hr
            rw [hv_bd_r, hv_bd_r]
            exact ih _ _ _ _ _ _ (by omega) (by omega) (by omega) (by omega)
    | false =>
      rw [hv_run_0, hv_run_0]
      by_cases e : hv_wd T n (hv_sk T n p) = 1 ∨ hv_wd T n (hv_sk T n p) = 0
      · have hl : hv_sk T n p + 2 ≤ hv_we T n (hv_sk T n p) ∧ hv_we T n (hv_sk T n p) ≤ n := by
          rcases e with e | e
          · have := hv_wd_1 e; omega
          · have := hv_wd_0 e; omega
        rw [if_pos e, if_pos e]
        exact ih _ _ _ _ _ _ (by omega) (by omega) (by omega) (by omega)
      · rw [if_neg e, if_neg e]
        exact hv_shut_c (fun hp o s => ih _ _ _ _ _ _ (by omega) (by omega) (by omega) (by omega))
def hv_RN (T : Nat → Int32) (n : Nat) (b : Bool) (p t : Nat) (o : List hv_tok) (s : List Int) : hv_R := hv_run T n (n + 2) b p t o s
theorem hv_RN_1 {p t : Nat} {o : List hv_tok} {s : List Int} : hv_RN T n true p t o s =
    (if hv_wd T n (hv_sk T n p) = 2 then (if hv_dp s = 8 then .inl (4 + 8 * hv_sk T n p) else hv_RN T n true (hv_sk T n p + 3) t o (2 :: s))
    else if hv_sk T n p < n ∧ (T (hv_sk T n p)).toInt = 40 then (if hv_dp s = 8 then .inl (4 + 8 * hv_sk T n p) else hv_RN T n true (hv_sk T n p + 1) t o (100 :: s))
    else hv_bd (hv_term T n (hv_sk T n p) t o) (fun q => hv_RN T n false q.1 q.2.1 (hv_cn q.2.2 s).1 (hv_cn q.2.2 s).2)) := by
  show hv_run T n ((n + 1) + 1) true p t o s = _
  rw [hv_run_1]
  have hs := hv_sk_ge (T := T) (n := n) (p := p)
  by_cases e : hv_wd T n (hv_sk T n p) = 2
  · rw [if_pos e, if_pos e]
    by_cases d : hv_dp s = 8
    · rw [if_pos d, if_pos d]
    · rw [if_neg d, if_neg d]
      exact hv_run_f _ _ _ _ _ _ _ (by omega) (by omega) (by omega) (by omega)
  · rw [if_neg e, if_neg e]
    by_cases c : hv_sk T n p < n ∧ (T (hv_sk T n p)).toInt = 40
    · rw [if_pos c, if_pos c]
      by_cases d : hv_dp s = 8
      · rw [if_pos d, if_pos d]
      · rw [if_neg d, if_neg d]
        exact hv_run_f _ _ _ _ _ _ _ (by omega) (by omega) (by omega) (by omega)
    · rw [if_neg c, if_neg c]
      cases hr : hv_term T n (hv_sk T n p) t o with
      | inl x => rfl
      | inr q =>
        obtain ⟨q1, q2, _⟩ := hv_term_b hr
        rw [hv_bd_r, hv_bd_r]
        exact hv_run_f _ _ _ _ _ _ _ (by omega) (by omega) (by omega) (by omega)
theorem hv_RN_0 {p t : Nat} {o : List hv_tok} {s : List Int} : hv_RN T n false p t o s =
    (if hv_wd T n (hv_sk T n p) = 1 ∨ hv_wd T n (hv_sk T n p) = 0 then hv_RN T n true (hv_we T n (hv_sk T n p)) t (hv_cd (hv_wd T n (hv_sk T n p)) o s).1 (hv_wd T n (hv_sk T n p) :: (hv_cd (hv_wd T n (hv_sk T n p)) o s).2)
    else hv_shut T n (hv_sk T n p) t (hv_RN T n false) (hv_cd 0 o s)) := by
  show hv_run T n ((n + 1) + 1) false p t o s = _
  rw [hv_run_0]
  have hs := hv_sk_ge (T := T) (n := n) (p := p)
  by_cases e : hv_wd T n (hv_sk T n p) = 1 ∨ hv_wd T n (hv_sk T n p) = 0
  · have hl : hv_sk T n p + 2 ≤ hv_we T n (hv_sk T n p) ∧ hv_we T n (hv_sk T n p) ≤ n := by
      rcases e with e | e
      · have := hv_wd_1 e; omega
      · have := hv_wd_0 e; omega
    rw [if_pos e, if_pos e]
    exact hv_run_f _ _ _ _ _ _ _ (by omega) (by omega) (by omega) (by omega)
  · rw [if_neg e, if_neg e]
    exact hv_shut_c (fun hp o s => hv_run_f _ _ _ _ _ _ _ (by omega) (by omega) (by omega) (by omega))
/-- what waits stands on the stack -/
def hv_stk (a w : Bool) (B : List Int) : List Int := if a = true then 1 :: (if w = true then 0 :: B else B) else (if w = true then 0 :: B else B)
/-- a base: nothing, or what was opened -/
def hv_bs (B : List Int) : Prop := B = [] ∨ ∃ s, B = 100 :: s
theorem hv_cn_b {o : List hv_tok} {a w : Bool} {B : List Int} (hB : hv_bs B) : hv_cn o (hv_stk a w B) = (o, hv_stk a w B) := by
  rcases hB with rfl | ⟨s, rfl⟩ <;> cases a <;> cases w <;> rfl
theorem hv_cd_1 {o : List hv_tok} {a w : Bool} {B : List Int} (hB : hv_bs B) : hv_cd 1 o (hv_stk a w B) = (hv_j a 1 o, hv_stk false w B) := by
  rcases hB with rfl | ⟨s, rfl⟩ <;> cases a <;> cases w <;> rfl
theorem hv_cd_0 {o : List hv_tok} {a w : Bool} {B : List Int} (hB : hv_bs B) : hv_cd 0 o (hv_stk a w B) = (hv_j w 0 (hv_j a 1 o), B) := by
  rcases hB with rfl | ⟨s, rfl⟩ <;> cases a <;> cases w <;> rfl
theorem hv_dp_b {a w : Bool} {B : List Int} : hv_dp (hv_stk a w B) = hv_dp B := by
  cases a <;> cases w <;> rfl
def hv_go (T : Nat → Int32) (n : Nat) (s : List Int) (q : Nat × Nat × List hv_tok) : hv_R := hv_RN T n false q.1 q.2.1 (hv_cn q.2.2 s).1 (hv_cn q.2.2 s).2
def hv_fin (T : Nat → Int32) (n : Nat) (B : List Int) (q : Nat × Nat × List hv_tok) : hv_R := hv_shut T n q.1 q.2.1 (hv_RN T n false) (q.2.2, B)
theorem hv_B {D : Nat} (A : ∀ (p t : Nat) (o : List hv_tok) (s : List Int), hv_dp s + D = 8 → hv_RN T n true p t o s = hv_bd (hv_one T n D p t o) (hv_go T n s)) {B : List Int} (hB : hv_bs B) (hd : hv_dp B + D = 8) : ∀ (k : Nat) (a w : Bool) (p t : Nat) (o : List hv_tok), n ≤ p + k → hv_RN T n true p t o (hv_stk a w B) = hv_bd (hv_LE T n D a w p t o) (hv_fin T n B) := by
  intro k
  induction k with
  | zero =>
    intro a w p t o hk
    rw [A p t o _ (by rw [hv_dp_b]; exact hd), hv_LE_t]
    cases hr : hv_one T n D p t o with
    | inl x => rfl
    | inr r => have := hv_one_b _ _ _ _ _ hr; unfold hv_G at this; exfalso; omega
  | succ k ih =>
    intro a w p t o hk
    rw [A p t o _ (by rw [hv_dp_b]; exact hd), hv_LE_t]
    cases hr : hv_one T n D p t o with
    | inl x => rfl
    | inr r =>
      have hg := hv_one_b _ _ _ _ _ hr
      unfold hv_G at hg
      have hs := hv_sk_ge (T := T) (n := n) (p := r.1)
      rw [hv_bd_r, hv_bd_r]
      show hv_RN T n false r.1 r.2.1 (hv_cn r.2.2 (hv_stk a w B)).1 (hv_cn r.2.2 (hv_stk a w B)).2 = _
      rw [hv_cn_b hB, hv_RN_0]
      dsimp only
      by_cases e1 : hv_wd T n (hv_sk T n r.1) = 1
      · rw [if_pos (Or.inl e1), if_pos e1, e1, hv_cd_1 hB, (hv_wd_1 e1).1]
        exact ih true w _ _ _ (by omega)
      · by_cases e0 : hv_wd T n (hv_sk T n r.1) = 0
        · rw [if_pos (Or.inr e0), if_neg e1, if_pos e0, e0, hv_cd_0 hB, (hv_wd_0 e0).1]
          exact ih false true _ _ _ (by omega)
        · rw [if_neg (fun z => z.elim e1 e0), if_neg e1, if_neg e0, hv_cd_0 hB]
          rfl
theorem hv_A : ∀ (D p t : Nat) (o : List hv_tok) (s : List Int), hv_dp s + D = 8 → hv_RN T n true p t o s = hv_bd (hv_one T n D p t o) (hv_go T n s) := by
  intro D
  induction D with
  | zero =>
    intro p t o s hd
    rw [hv_RN_1]
    unfold hv_one
    by_cases e : hv_wd T n (hv_sk T n p) = 2
    · rw [if_pos e, if_pos e, if_pos (by omega)]; rfl
    · rw [if_neg e, if_neg e]
      by_cases c : hv_sk T n p < n ∧ (T (hv_sk T n p)).toInt = 40
      · rw [if_pos c, if_pos c, if_pos (by omega)]; rfl
      · rw [if_neg c, if_neg c]; rfl
  | succ D ih =>
    intro p t o s hd
    rw [hv_RN_1]
    unfold hv_one
    by_cases e : hv_wd T n (hv_sk T n p) = 2
    · rw [if_pos e, if_pos e, if_neg (by omega), ih _ _ _ (2 :: s) (by show hv_dp s + (if (2 : Int) = 2 ∨ (2 : Int) = 100 then 1 else 0) + D = 8; rw [if_pos (Or.inl rfl)]; omega)]
      cases hv_one T n D (hv_sk T n p + 3) t o with
      | inl x => rfl
      | inr r => rfl
    · rw [if_neg e, if_neg e]
      by_cases c : hv_sk T n p < n ∧ (T (hv_sk T n p)).toInt = 40
      · have hd2 : hv_dp (100 :: s) + D = 8 := by show hv_dp s + (if (100 : Int) = 2 ∨ (100 : Int) = 100 then 1 else 0) + D = 8; rw [if_pos (Or.inr rfl)]; omega
        have hb := hv_B (T := T) (n := n) ih (B := 100 :: s) (Or.inr ⟨s, rfl⟩) hd2 n false false (hv_sk T n p + 1) t o (by omega)
        rw [if_pos c, if_pos c, if_neg (by omega)]
        have hst : hv_stk false false (100 :: s) = 100 :: s := rfl
        rw [hst] at hb
        rw [hb]
        show hv_bd (hv_LE T n D false false (hv_sk T n p + 1) t o) (hv_fin T n (100 :: s)) = hv_bd (hv_bd (hv_LE T n D false false (hv_sk T n p + 1) t o) (hv_par T n)) (hv_go T n s)
        cases hr : hv_LE T n D false false (hv_sk T n p + 1) t o with
        | inl x => rfl
        | inr r =>
          have hg := hv_LE_b hr
          rw [hv_bd_r, hv_bd_r]
          unfold hv_fin hv_shut hv_par
          rw [hg.2.2.2.2.2.1]
          by_cases c2 : r.1 < n ∧ (T r.1).toInt = 41
          · rw [if_pos c2, if_pos c2]; rfl
          · rw [if_neg c2, if_neg c2, if_neg (by intro z; cases z)]; rfl
      · rw [if_neg c, if_neg c]; rfl
/-- both readers of what proves -/
theorem hv_top {p : Nat} : hv_RN T n true p 0 [] [] = hv_bd (hv_LE T n 8 false false p 0 []) (fun q => if q.1 < n ∧ (T q.1).toInt = 41 then .inl (1 + 8 * q.1) else .inr q) := by
  have hb := hv_B (T := T) (n := n) (hv_A 8) (B := []) (Or.inl rfl) rfl n false false p 0 [] (by omega)
  have hst : hv_stk false false [] = [] := rfl
  rw [hst] at hb
  rw [hb]
  cases hv_LE T n 8 false false p 0 [] with
  | inl x => rfl
  | inr r =>
    rw [hv_bd_r, hv_bd_r]
    unfold hv_fin hv_shut
    by_cases c2 : r.1 < n ∧ (T r.1).toInt = 41
    · rw [if_pos c2, if_pos c2]
    · rw [if_neg c2, if_neg c2, if_pos rfl]
end HVR
end
section
/-! CLAUSES -/
abbrev hv_st : Type := Nat × (Nat → Bool) × (Nat → Int) × List hv_tok
def hv_num (T : Nat → Int32) (n p : Nat) (lo hi : Int) : Nat ⊕ (Nat × Int) :=
  if hv_sk T n p < n ∧ hv_dg T (hv_sk T n p) = true then
    (if hv_de T n (hv_sk T n p) - hv_sk T n p ≤ 4 ∧ lo ≤ hv_dv T (hv_sk T n p) (hv_de T n (hv_sk T n p) - hv_sk T n p) ∧ hv_dv T (hv_sk T n p) (hv_de T n (hv_sk T n p) - hv_sk T n p) ≤ hi
      then .inr (hv_de T n (hv_sk T n p), hv_dv T (hv_sk T n p) (hv_de T n (hv_sk T n p) - hv_sk T n p)) else .inl (2 + 8 * hv_sk T n p))
  else .inl (1 + 8 * hv_sk T n p)
def hv_ub (f : Nat → Bool) (k : Nat) : Nat → Bool := fun j => if j = k then true else f j
def hv_ud (f : Nat → Int) (k : Nat) (v : Int) : Nat → Int := fun j => if j = k then v else f j
def hv_lo (k : Nat) : Int := if k = 1 ∨ k = 3 ∨ 8 ≤ k then 0 else 1
def hv_hi (k : Nat) : Int := match k with | 0 => 9999 | 1 => 365 | 2 => 999 | 3 => 999 | 4 => 20 | 5 => 20 | 6 => 30 | 7 => 400 | 8 => 40 | _ => 999
def hv_kk (w : Int) : Nat := if w ≤ 16 then (w - 11).toNat else (w - 10).toNat
def hv_ck (T : Nat → Int32) (n p k : Nat) (sn : Nat → Bool) (rd : Nat → Int) (o : List hv_tok) : Nat ⊕ hv_st :=
  if sn k = true then .inl (3 + 8 * p) else hv_bd (hv_num T n (hv_we T n p) (hv_lo k) (hv_hi k)) (fun a =>
    if k = 5 then hv_bd (hv_num T n a.1 1 30) (fun b => .inr (b.1, hv_ub sn 5, hv_ud (hv_ud rd 5 a.2) 6 b.2, o)) else .inr (a.1, hv_ub sn k, hv_ud rd k a.2, o))
def hv_co (T : Nat → Int32) (n q : Nat) (sn : Nat → Bool) (rd : Nat → Int) (o : List hv_tok) : Nat ⊕ hv_st :=
  if 21 ≤ hv_wd T n q ∧ hv_wd T n q ≤ 24 then
    (if sn (hv_wd T n q - 12).toNat = true then .inl (3 + 8 * q) else hv_bd (hv_num T n (hv_we T n q) 0 999) (fun a => .inr (a.1, hv_ub sn (hv_wd T n q - 12).toNat, hv_ud rd (hv_wd T n q - 12).toNat a.2, o)))
  else .inl (1 + 8 * q)
def hv_cl (T : Nat → Int32) (n p : Nat) (sn : Nat → Bool) (rd : Nat → Int) (o : List hv_tok) : Nat ⊕ hv_st :=
  if 11 ≤ hv_wd T n (hv_sk T n p) ∧ hv_wd T n (hv_sk T n p) ≤ 20 then
    (if hv_wd T n (hv_sk T n p) = 20 then (if sn 13 = true then .inl (3 + 8 * hv_sk T n p) else hv_bd (hv_LE T n 8 false false (hv_we T n (hv_sk T n p)) 0 []) (fun q => .inr (q.1, hv_ub sn 13, rd, q.2.2)))
    else if hv_wd T n (hv_sk T n p) = 19 then hv_co T n (hv_sk T n (hv_we T n (hv_sk T n p))) sn rd o
    else hv_ck T n (hv_sk T n p) (hv_kk (hv_wd T n (hv_sk T n p))) sn rd o)
  else .inl (1 + 8 * hv_sk T n p)
def hv_al (T : Nat → Int32) (n : Nat) : Nat → hv_st → Nat ⊕ hv_st
  | 0, _ => .inl 0
  | f + 1, s => hv_bd (hv_cl T n s.1 s.2.1 s.2.2.1 s.2.2.2) (fun q =>
    if hv_sk T n q.1 < n then (if (T (hv_sk T n q.1)).toInt = 59 then hv_al T n f (hv_sk T n q.1 + 1, q.2) else .inl (1 + 8 * hv_sk T n q.1)) else .inr (hv_sk T n q.1, q.2))
section HVC
variable {T : Nat → Int32} {n : Nat}
theorem hv_num_b {p : Nat} {lo hi : Int} {q : Nat × Int} (h : hv_num T n p lo hi = .inr q) : p < q.1 ∧ q.1 ≤ n ∧ lo ≤ q.2 ∧ q.2 ≤ hi := by
  unfold hv_num at h
  have hs := hv_sk_ge (T := T) (n := n) (p := p)
  split at h
  · next hd =>
    have hl := hv_de_gt (T := T) hd.1 hd.2
    split at h
    · next hc =>
      have h2 := Sum.inr.inj h
      subst h2
      exact ⟨by show p < hv_de T n (hv_sk T n p); omega, hl.2, hc.2.1, hc.2.2⟩
    · cases h
  · cases h
theorem hv_cl_b {p : Nat} {sn : Nat → Bool} {rd : Nat → Int} {o : List hv_tok} {q : hv_st} (h : hv_cl T n p sn rd o = .inr q) : p < q.1 ∧ q.1 ≤ n := by
  unfold hv_cl at h
  have hs := hv_sk_ge (T := T) (n := n) (p := p)
  split at h
  · next hw =>
    have hl := hv_wd_3 (T := T) (n := n) (p := hv_sk T n p) (by omega)
    split at h
    · split at h
      · cases h
      · obtain ⟨r, h1, h2⟩ := hv_bd_i h
        have hg := hv_LE_b h1
        have h3 := Sum.inr.inj h2
        subst h3
        exact ⟨by show p < r.1; omega, hg.2.1⟩
    · split at h
      · unfold hv_co at h
        have hs2 := hv_sk_ge (T := T) (n := n) (p := hv_we T n (hv_sk T n p))
        split at h
        · next hw2 =>
          have hl2 := hv_wd_3 (T := T) (n := n) (p := hv_sk T n (hv_we T n (hv_sk T n p))) (by omega)
          split at h
          · cases h
          · obtain ⟨r, h1, h2⟩ := hv_bd_i h
            have hg := hv_num_b h1
            have h3 := Sum.inr.inj h2
            subst h3
            exact ⟨by show p < r.1; omega, hg.2.1⟩
        · cases h
      · unfold hv_ck at h
        split at h
        · cases h
        · obtain ⟨r, h1, h2⟩ := hv_bd_i h
          have hg := hv_num_b h1
          split at h2
          · obtain ⟨r2, h3, h4⟩ := hv_bd_i h2
            have hg2 := hv_num_b h3
            have h5 := Sum.inr.inj h4
            subst h5
            exact ⟨by show p < r2.1; omega, hg2.2.1⟩
          · have h3 := Sum.inr.inj h2
            subst h3
            exact ⟨by show p < r.1; omega, hg.2.1⟩
  · cases h
theorem hv_cl_sk {p : Nat} {sn : Nat → Bool} {rd : Nat → Int} {o : List hv_tok} : hv_cl T n (hv_sk T n p) sn rd o = hv_cl T n p sn rd o := by
  unfold hv_cl
  rw [hv_sk_id]
theorem hv_al_s {f : Nat} {s : hv_st} : hv_al T n (f + 1) s = hv_bd (hv_cl T n s.1 s.2.1 s.2.2.1 s.2.2.2) (fun q =>
    if hv_sk T n q.1 < n then (if (T (hv_sk T n q.1)).toInt = 59 then hv_al T n f (hv_sk T n q.1 + 1, q.2) else .inl (1 + 8 * hv_sk T n q.1)) else .inr (hv_sk T n q.1, q.2)) := rfl
theorem hv_al_f : ∀ (f f' : Nat) (s : hv_st), n + 1 < f + s.1 → 0 < f → n + 1 < f' + s.1 → 0 < f' → hv_al T n f s = hv_al T n f' s := by
  intro f
  induction f with
  | zero => intro f' s _ h; exfalso; omega
  | succ f ih =>
    intro f' s h1 h2 h3 h4
    obtain ⟨g, rfl⟩ : ∃ g, f' = g + 1 := ⟨f' - 1, by omega⟩
    rw [hv_al_s, hv_al_s]
    cases hr : hv_cl T n s.1 s.2.1 s.2.2.1 s.2.2.2 with
    | inl x => rfl
    | inr q =>
      have hb := hv_cl_b hr
      have hs := hv_sk_ge (T := T) (n := n) (p := q.1)
      rw [hv_bd_r, hv_bd_r]
      by_cases c : hv_sk T n q.1 < n
      · rw [if_pos c, if_pos c]
        by_cases d : (T (hv_sk T n q.1)).toInt = 59
        · rw [if_pos d, if_pos d]
          exact ih _ _ (by show n + 1 < f + (hv_sk T n q.1 + 1); omega) (by omega) (by show n + 1 < g + (hv_sk T n q.1 + 1); omega) (by omega)
        · rw [if_neg d, if_neg d]
      · rw [if_neg c, if_neg c]
def hv_AL (T : Nat → Int32) (n : Nat) (s : hv_st) : Nat ⊕ hv_st := hv_al T n (n + 2) s
theorem hv_AL_t {s : hv_st} : hv_AL T n s = hv_bd (hv_cl T n s.1 s.2.1 s.2.2.1 s.2.2.2) (fun q =>
    if hv_sk T n q.1 < n then (if (T (hv_sk T n q.1)).toInt = 59 then hv_AL T n (hv_sk T n q.1 + 1, q.2) else .inl (1 + 8 * hv_sk T n q.1)) else .inr (hv_sk T n q.1, q.2)) := by
  show hv_al T n ((n + 1) + 1) s = _
  rw [hv_al_s]
  cases hr : hv_cl T n s.1 s.2.1 s.2.2.1 s.2.2.2 with
  | inl x => rfl
  | inr q =>
    have hb := hv_cl_b hr
    have hs := hv_sk_ge (T := T) (n := n) (p := q.1)
    rw [hv_bd_r, hv_bd_r]
    by_cases c : hv_sk T n q.1 < n
    · rw [if_pos c, if_pos c]
      by_cases d : (T (hv_sk T n q.1)).toInt = 59
      · rw [if_pos d, if_pos d]
        exact hv_al_f _ _ _ (by show n + 1 < n + 1 + (hv_sk T n q.1 + 1); omega) (by omega) (by show n + 1 < n + 2 + (hv_sk T n q.1 + 1); omega) (by omega)
      · rw [if_neg d, if_neg d]
    · rw [if_neg c, if_neg c]
theorem hv_AL_sk {p : Nat} {x : (Nat → Bool) × (Nat → Int) × List hv_tok} : hv_AL T n (hv_sk T n p, x) = hv_AL T n (p, x) := by
  rw [hv_AL_t, hv_AL_t]
  dsimp only
  rw [hv_cl_sk]
theorem hv_cl_n {p : Nat} {sn : Nat → Bool} {rd : Nat → Int} {o : List hv_tok} (h : n ≤ p) : hv_cl T n p sn rd o = .inl (1 + 8 * p) := by
  unfold hv_cl
  rw [hv_sk_e h, if_neg (by rw [hv_wd_n (fun z => by exfalso; omega)]; omega)]
theorem hv_AL_n {p : Nat} {x : (Nat → Bool) × (Nat → Int) × List hv_tok} (h : n ≤ p) : hv_AL T n (p, x) = .inl (1 + 8 * p) := by
  rw [hv_AL_t]
  dsimp only
  rw [hv_cl_n h]
  rfl
end HVC
def hv_ACT (T : Nat → Int32) (n : Nat) (rd : Nat → Int) (o : List hv_tok) : Nat ⊕ hv_st :=
  if hv_sk T n 0 < n then hv_AL T n (hv_sk T n 0, (fun _ => false), rd, o) else .inr (hv_sk T n 0, (fun _ => false), rd, o)
/-! WORDS IN SLOTS OF EIGHT -/
def hv_chs (js k : Nat) : Int := ((P_by.getD js []).getD k 0).toInt
def hv_c1 (T : Nat → Int32) (js s p e i : Nat) : Prop := s + i < P_ln.getD js 0 → hv_chs js (s + i) = (if p + i < e then (T (p + i)).toInt else 32)
def hv_sl (T : Nat → Int32) (js s p e : Nat) : Prop := e ≤ p + 8 ∧ ∀ i, i < 8 → hv_c1 T js s p e i
/-- the word in a slot; none: 25 -/
def hv_slw (js k : Nat) : Nat := match js with
  | 0 => [25, 11, 12, 13, 14, 15, 16, 25, 17, 18, 19, 20].getD k 25
  | 1 => 21 + k
  | 2 => 1
  | 3 => 0
  | 4 => 2
  | _ => 3 + k
theorem hv_slt : ∀ js, js < 6 → ∀ k, k < 12 → 8 * k + 8 ≤ P_ln.getD js 0 → (hv_slw js k = 25 ∧ hv_chs js (8 * k) = 45) ∨ (hv_slw js k < 25 ∧ ∀ i, i < 8 → hv_chs js (8 * k + i) = (if i < (hv_wl.getD (hv_slw js k) []).length then (hv_wl.getD (hv_slw js k) []).getD i 0 else 32)) := by decide +kernel
theorem hv_wlt : ∀ w, w < 25 → ∀ i, i < (hv_wl.getD w []).length → 97 ≤ (hv_wl.getD w []).getD i 0 ∧ (hv_wl.getD w []).getD i 0 ≤ 122 := by decide +kernel
theorem hv_lnb : ∀ js, js < 6 → P_ln.getD js 0 ≤ 96 := by decide +kernel
theorem hv_sl_w {T : Nat → Int32} {n p js k : Nat} (hj : js < 6) (hk : 8 * k + 8 ≤ P_ln.getD js 0) (hp : p < hv_we T n p) (h : hv_sl T js (8 * k) p (hv_we T n p)) : hv_slw js k < 25 ∧ hv_wd T n p = (hv_slw js k : Int) := by
  have hb := hv_lnb js hj
  have hlt : ∀ i, i < hv_we T n p - p → 97 ≤ (T (p + i)).toInt ∧ (T (p + i)).toInt ≤ 122 := fun i hi => by
    have := hv_sn_in (P := hv_lt T) (n := n) (p := p) (j := p + i) (by omega) (by show p + i < hv_we T n p; omega)
    simpa only [hv_lt, decide_eq_true_eq] using this
  rcases hv_slt js hj k (by omega) hk with ⟨_, h2⟩ | ⟨hw, h2⟩
  · have h3 := h.2 0 (by omega) (by omega)
    rw [Nat.add_zero, Nat.add_zero, if_pos hp, h2] at h3
    have h4 := hlt 0 (by omega)
    rw [Nat.add_zero] at h4
    exfalso; omega
  · have hL := hv_ix_l _ hw
    have hin : ∀ i, i < 8 → i < hv_we T n p - p → i < (hv_wl.getD (hv_slw js k) []).length ∧ (T (p + i)).toInt = (hv_wl.getD (hv_slw js k) []).getD i 0 := fun i h8 hi => by
      have h3 := h.2 i h8 (by omega)
      have h4 := hlt i hi
      rw [if_pos (by omega), h2 i h8] at h3
      by_cases c : i < (hv_wl.getD (hv_slw js k) []).length
      · rw [if_pos c] at h3
        exact ⟨c, h3.symm⟩
      · rw [if_neg c] at h3
        exfalso; omega
    have hle := h.1
    have e8 : hv_we T n p - p < 8 := by
      rcases Nat.lt_or_ge (hv_we T n p - p) 8 with z | z
      · exact z
      · have := (hin 7 (by omega) (by omega)).1
        exfalso; omega
    have h3 := h.2 (hv_we T n p - p) e8 (by omega)
    rw [if_neg (by omega), h2 _ e8] at h3
    have hge : (hv_wl.getD (hv_slw js k) []).length ≤ hv_we T n p - p := by
      rcases Nat.lt_or_ge (hv_we T n p - p) (hv_wl.getD (hv_slw js k) []).length with z | z
      · rw [if_pos z] at h3
        have := hv_wlt _ hw _ z
        exfalso; omega
      · exact z
    have hl1 := (hin (hv_we T n p - p - 1) (by omega) (by omega)).1
    have el : hv_we T n p - p = (hv_wl.getD (hv_slw js k) []).length := by omega
    refine ⟨hw, ?_⟩
    unfold hv_wd
    rw [el, hv_tx_eq _ _ (fun i hi => (hin i (by omega) (by omega)).2), hv_ix_w _ hw]
theorem hv_sl_v {T : Nat → Int32} {n p js k : Nat} (hj : js < 6) (hk : 8 * k + 8 ≤ P_ln.getD js 0) (hw : hv_slw js k < 25) (h : hv_wd T n p = (hv_slw js k : Int)) : p < hv_we T n p ∧ hv_sl T js (8 * k) p (hv_we T n p) := by
  have hb := hv_lnb js hj
  obtain ⟨_, b, c, d⟩ := hv_wd_k h
  have hL := hv_ix_l _ hw
  rcases hv_slt js hj k (by omega) hk with ⟨h1, _⟩ | ⟨_, h2⟩
  · exfalso; omega
  · refine ⟨by omega, by omega, fun i hi _ => ?_⟩
    rw [h2 i hi]
    by_cases z : i < (hv_wl.getD (hv_slw js k) []).length
    · rw [if_pos z, if_pos (by omega), ← b, hv_tx_get _ _ _ (by omega)]
    · rw [if_neg z, if_neg (by omega)]
/-- a word among those of a text -/
def hv_RW (T : Nat → Int32) (n js : Nat) (r : Int) (p : Nat) : Prop :=
  (r = -1 ∧ ∀ k, 8 * k + 8 ≤ P_ln.getD js 0 → p < hv_we T n p → ¬ hv_sl T js (8 * k) p (hv_we T n p)) ∨
  (0 ≤ r ∧ 8 * r + 8 ≤ (P_ln.getD js 0 : Nat) ∧ p < hv_we T n p ∧ hv_sl T js (8 * r.toNat) p (hv_we T n p))
theorem hv_RW_u {T : Nat → Int32} {n js p : Nat} {r : Int} (hj : js < 6) (h : hv_RW T n js r p) : (r = -1 ∧ ∀ k, 8 * k + 8 ≤ P_ln.getD js 0 → hv_slw js k < 25 → hv_wd T n p ≠ (hv_slw js k : Int)) ∨ (0 ≤ r ∧ 8 * r + 8 ≤ (P_ln.getD js 0 : Nat) ∧ hv_slw js r.toNat < 25 ∧ hv_wd T n p = (hv_slw js r.toNat : Int)) := by
  rcases h with ⟨a, b⟩ | ⟨a, b, c, d⟩
  · exact Or.inl ⟨a, fun k hk hw e => b k hk (hv_sl_v hj hk hw e).1 (hv_sl_v hj hk hw e).2⟩
  · have := hv_sl_w (k := r.toNat) hj (by omega) c d
    exact Or.inr ⟨a, b, this.1, this.2⟩
theorem hv_RW_5 {T : Nat → Int32} {n p : Nat} {r : Int} (h : hv_RW T n 5 r p) : (r = -1 ∧ ¬ (3 ≤ hv_wd T n p ∧ hv_wd T n p ≤ 10)) ∨ (0 ≤ r ∧ r ≤ 7 ∧ hv_wd T n p = 3 + r) := by
  have hl : P_ln.getD 5 0 = 64 := rfl
  rcases hv_RW_u (by decide) h with ⟨a, b⟩ | ⟨a, b, _, d⟩
  · refine Or.inl ⟨a, fun z => b ((hv_wd T n p - 3).toNat) (by omega) ?_ ?_⟩
    · show 3 + (hv_wd T n p - 3).toNat < 25; omega
    · show _ = ((3 + (hv_wd T n p - 3).toNat : Nat) : Int); omega
  · have d' : hv_wd T n p = ((3 + r.toNat : Nat) : Int) := d
    exact Or.inr ⟨a, by omega, by omega⟩
theorem hv_RW_1 {T : Nat → Int32} {n p : Nat} {r : Int} (h : hv_RW T n 1 r p) : (r = -1 ∧ ¬ (21 ≤ hv_wd T n p ∧ hv_wd T n p ≤ 24)) ∨ (0 ≤ r ∧ r ≤ 3 ∧ hv_wd T n p = 21 + r) := by
  have hl : P_ln.getD 1 0 = 32 := rfl
  rcases hv_RW_u (by decide) h with ⟨a, b⟩ | ⟨a, b, _, d⟩
  · refine Or.inl ⟨a, fun z => b ((hv_wd T n p - 21).toNat) (by omega) ?_ ?_⟩
    · show 21 + (hv_wd T n p - 21).toNat < 25; omega
    · show _ = ((21 + (hv_wd T n p - 21).toNat : Nat) : Int); omega
  · have d' : hv_wd T n p = ((21 + r.toNat : Nat) : Int) := d
    exact Or.inr ⟨a, by omega, by omega⟩
theorem hv_slw0 : ∀ k, k < 12 → hv_slw 0 k = (if k = 0 ∨ k = 7 then 25 else if k ≤ 6 then 10 + k else 9 + k) := by decide
theorem hv_RW_0 {T : Nat → Int32} {n p : Nat} {r : Int} (h : hv_RW T n 0 r p) : (r = -1 ∧ ¬ (11 ≤ hv_wd T n p ∧ hv_wd T n p ≤ 20)) ∨ (1 ≤ r ∧ r ≤ 11 ∧ r ≠ 7 ∧ hv_wd T n p = (if r ≤ 6 then 10 + r else 9 + r)) := by
  have hl : P_ln.getD 0 0 = 96 := rfl
  rcases hv_RW_u (by decide) h with ⟨a, b⟩ | ⟨a, b, c, d⟩
  · refine Or.inl ⟨a, fun z => ?_⟩
    rcases (show hv_wd T n p ≤ 16 ∨ 17 ≤ hv_wd T n p by omega) with y | y
    · have e := hv_slw0 (hv_wd T n p - 10).toNat (by omega)
      rw [if_neg (by omega), if_pos (by omega)] at e
      exact b (hv_wd T n p - 10).toNat (by omega) (by omega) (by omega)
    · have e := hv_slw0 (hv_wd T n p - 9).toNat (by omega)
      rw [if_neg (by omega), if_neg (by omega)] at e
      exact b (hv_wd T n p - 9).toNat (by omega) (by omega) (by omega)
  · have e := hv_slw0 r.toNat (by omega)
    rw [e] at c d
    split at c
    · exfalso; omega
    · next h7 =>
      rw [if_neg h7] at d
      refine Or.inr ⟨by omega, by omega, by omega, ?_⟩
      split at d
      · rw [if_pos (by omega)]; omega
      · rw [if_neg (by omega)]; omega
/-- the word of a text of one slot alone -/
def hv_NW (T : Nat → Int32) (n js : Nat) (r : Int) (p : Nat) : Prop := (r = 1 ∧ p < hv_we T n p ∧ hv_sl T js 0 p (hv_we T n p)) ∨ (r = 0 ∧ (p < hv_we T n p → ¬ hv_sl T js 0 p (hv_we T n p)))
theorem hv_NW_u {T : Nat → Int32} {n js p : Nat} {r : Int} (hj : 2 ≤ js ∧ js ≤ 4) (h : hv_NW T n js r p) : (r = 1 ∧ hv_wd T n p = (hv_slw js 0 : Int)) ∨ (r = 0 ∧ hv_wd T n p ≠ (hv_slw js 0 : Int)) := by
  have hl : 8 * 0 + 8 ≤ P_ln.getD js 0 ∧ hv_slw js 0 < 25 := by
    rcases (show js = 2 ∨ js = 3 ∨ js = 4 by omega) with z | z | z <;> subst z <;> decide
  rcases h with ⟨a, b, c⟩ | ⟨a, b⟩
  · exact Or.inl ⟨a, (hv_sl_w (k := 0) (by omega) hl.1 b c).2⟩
  · refine Or.inr ⟨a, fun e => ?_⟩
    have := hv_sl_v (k := 0) (by omega) hl.1 hl.2 e
    exact b this.1 this.2
end
