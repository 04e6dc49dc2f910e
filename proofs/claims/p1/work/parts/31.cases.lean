set_option maxHeartbeats 4000000 in
set_option maxRecDepth 100000 in
theorem law_case_0 {p : Program} {e : Env} {s : State} {m : MethodId} {below : List Frame} {meth : Method} {c : Code} (l : Launch) {b LN : Nat} {xs : Nat → Int32} (hx : p.tables.exec = Jvm.exec) (hb : c.code = code) (hr : meth.sig.returnType = ret) (hlocks : meth.locks = false) (hml : c.maxLocals = 4) (hown : s.vm.findClass "SmallCourtLaw" = some m.cls) (hts : ∀ w ∈ hx_all, w.before #[Value.ref b] s = true) (hX : va_X b LN xs s s.heap) (hbl : b < s.heap.size) (hbA : ¬ s.heap.size ≤ b) (hL7 : LN = 7) (dC : Nat → ClassId) (dI : Nat → Nat → Nat) (dA : Nat → ClassId) (b0 : Nat) (q_2 q_27 q_29 q_31 q_34 q_37 q_39 q_41 q_44 q_47 q_50 q_53 q_55 q_60 q_163 q_165 q_168 q_170 q_172 q_174 q_176 q_178 q_180 q_182 q_184 q_186 q_188 q_190 q_192 : Nat) (L1 : List Nat) (hl1 : hx_h) (H : Heap) (locs : List Loc) (ls : Array Slot) (hW : hx_W P_tb (P_ty dA) (dC, dI) vwCl (fun q : Nat => s.heap.size ≤ q) s.heap L1 hl1 s H locs) (hZ : hx_Xt (fun q : Nat => s.heap.size ≤ q) b0 s) (f_4 : hl1.2.1 q_2 1 = (0 : Int32)) (f_5 : hl1.2.1 q_2 2 = (0 : Int32)) (f_9 : hl1.2.1 q_2 6 = (0 : Int32)) (f_11 : hl1.2.1 q_2 8 = (0 : Int32)) (f_14 : hl1.2.1 q_2 11 = (0 : Int32)) (f_16 : hl1.2.1 q_2 13 = (0 : Int32)) (f_28 : hl1.2.2 q_2 0 = some q_27) (f_30 : hl1.2.2 q_2 3 = some q_29) (f_32 : hl1.2.2 q_2 4 = some q_31) (f_33 : hl1.2.1 q_31 0 = (-1 : Int32)) (f_35 : hl1.2.2 q_31 2 = some q_34) (f_38 : hl1.2.2 q_2 5 = some q_37) (f_40 : hl1.2.2 q_2 7 = some q_39) (f_42 : hl1.2.2 q_2 9 = some q_41) (f_43 : hl1.2.1 q_41 0 = (0 : Int32)) (f_45 : hl1.2.2 q_2 14 = some q_44) (f_46 : hl1.2.1 q_44 0 = (0 : Int32)) (f_48 : hl1.2.2 q_2 17 = some q_47) (f_49 : hl1.2.1 q_47 1 = (0 : Int32)) (f_51 : hl1.2.2 q_2 18 = some q_50) (f_52 : hl1.2.1 q_50 0 = (-1 : Int32)) (f_54 : hl1.2.2 q_50 5 = some q_53) (f_56 : hl1.2.2 q_2 19 = some q_55) (f_57 : hl1.2.1 q_55 0 = (0 : Int32)) (f_58 : hl1.2.1 q_55 1 = (0 : Int32)) (f_61 : hl1.2.1 q_60 0 = (0 : Int32)) (f_62 : hl1.2.1 q_60 1 = (0 : Int32)) (f_68 : hl1.2.1 q_60 7 = (0 : Int32)) (f_69 : hl1.2.1 q_60 8 = (0 : Int32)) (f_70 : hl1.2.1 q_60 9 = (0 : Int32)) (f_71 : hl1.2.1 q_60 10 = (0 : Int32)) (f_72 : hl1.2.1 q_60 11 = (0 : Int32)) (f_74 : hl1.2.1 q_60 13 = (0 : Int32)) (f_81 : hl1.2.1 q_60 20 = (0 : Int32)) (f_90 : hl1.2.1 q_60 29 = (0 : Int32)) (f_97 : hl1.2.1 q_60 36 = (0 : Int32)) (f_118 : hl1.2.1 q_60 57 = (0 : Int32)) (f_120 : hl1.2.1 q_60 59 = (0 : Int32)) (f_128 : hl1.2.1 q_60 67 = (0 : Int32)) (f_129 : hl1.2.1 q_60 68 = (0 : Int32)) (f_130 : hl1.2.1 q_60 69 = (0 : Int32)) (f_131 : hl1.2.1 q_60 70 = (0 : Int32)) (f_132 : hl1.2.1 q_60 71 = (0 : Int32)) (f_133 : hl1.2.1 q_60 72 = (0 : Int32)) (f_136 : hl1.2.1 q_60 75 = (0 : Int32)) (f_144 : hl1.2.1 q_60 83 = (0 : Int32)) (f_145 : hl1.2.1 q_60 84 = (0 : Int32)) (f_147 : hl1.2.1 q_60 86 = (0 : Int32)) (f_148 : hl1.2.1 q_60 87 = (0 : Int32)) (f_151 : hl1.2.1 q_60 90 = (0 : Int32)) (f_153 : hl1.2.1 q_60 92 = (0 : Int32)) (f_156 : hl1.2.1 q_60 95 = (0 : Int32)) (f_157 : hl1.2.1 q_60 96 = (0 : Int32)) (f_164 : hl1.2.2 q_60 2 = some q_163) (f_166 : hl1.2.2 q_60 3 = some q_165) (f_169 : hl1.2.2 q_60 4 = some q_168) (f_171 : hl1.2.2 q_60 5 = some q_170) (f_173 : hl1.2.2 q_60 6 = some q_172) (f_175 : hl1.2.2 q_60 12 = some q_174) (f_177 : hl1.2.2 q_60 15 = some q_176) (f_179 : hl1.2.2 q_60 21 = some q_178) (f_181 : hl1.2.2 q_60 22 = some q_180) (f_183 : hl1.2.2 q_60 23 = some q_182) (f_185 : hl1.2.2 q_60 24 = some q_184) (f_187 : hl1.2.2 q_60 25 = some q_186) (f_189 : hl1.2.2 q_60 26 = some q_188) (f_191 : hl1.2.2 q_60 82 = some q_190) (f_193 : hl1.2.2 q_60 94 = some q_192) (fa_36 : ∀ j, j < 14 → hl1.2.1 q_34 j = P_wo j) (fa_167 : ∀ j, j < 13 → hl1.2.1 q_165 j = P_w1 j) (gq_2 : hx_g L1 hl1 q_2 9) (gq_27 : hx_g L1 hl1 q_27 42) (gq_29 : hx_g L1 hl1 q_29 6) (gq_31 : hx_g L1 hl1 q_31 0) (gq_34 : hx_g L1 hl1 q_34 11) (gq_37 : hx_g L1 hl1 q_37 43) (gq_39 : hx_g L1 hl1 q_39 44) (gq_41 : hx_g L1 hl1 q_41 1) (gq_44 : hx_g L1 hl1 q_44 3) (gq_47 : hx_g L1 hl1 q_47 5) (gq_50 : hx_g L1 hl1 q_50 7) (gq_53 : hx_g L1 hl1 q_53 36) (gq_55 : hx_g L1 hl1 q_55 8) (gq_60 : hx_g L1 hl1 q_60 10) (gq_163 : hx_g L1 hl1 q_163 49) (gq_165 : hx_g L1 hl1 q_165 50) (gq_168 : hx_g L1 hl1 q_168 51) (gq_170 : hx_g L1 hl1 q_170 52) (gq_172 : hx_g L1 hl1 q_172 53) (gq_174 : hx_g L1 hl1 q_174 54) (gq_176 : hx_g L1 hl1 q_176 55) (gq_178 : hx_g L1 hl1 q_178 58) (gq_180 : hx_g L1 hl1 q_180 59) (gq_182 : hx_g L1 hl1 q_182 60) (gq_184 : hx_g L1 hl1 q_184 61) (gq_186 : hx_g L1 hl1 q_186 62) (gq_188 : hx_g L1 hl1 q_188 63) (gq_190 : hx_g L1 hl1 q_190 108) (gq_192 : hx_g L1 hl1 q_192 114) (hl : lv_has ls 4 [(3, .int (0 : Int32)), (2, .ref q_60), (1, .ref q_2), (0, .ref b)]) : W p l e room_1 s m #[Value.ref b] below meth c H locs 112 26072 (lw_Z below #[Value.ref b] s) (F0 m 172 ls []) := by
  refine lv_aload_n hx hb dL_law_172 rfl (lv_at hl 2 rfl) ?_
  refine lv_aload_n hx hb dL_law_173 rfl (lv_at hl 3 rfl) ?_
  refine lv_iload_n hx hb dL_law_174 rfl (lv_at hl 0 rfl) ?_
  refine lv_iconst (v := 1) hx hb dL_law_175 (by decide) ?_
  refine lv_iadd hx hb dL_law_176 ?_
  refine lv_topi (fun x_199 ex_199 => ?_)
  obtain rfl : x_199 = (1 : Int32) := ex_199.trans (by decide)
  refine va_sld hx hb hX hbl hbA hW.2.2.2.1 (vp_in_iff.mpr (by rw [hL7]; decide)) dL_law_177 ?_
  rw [show (1 : Int32).toNatClampNeg = 1 from by decide]
  refine hx_goi (hx_runV (As := [.int (xs 1)]) (rest := []) ⟨hx, hb, hml, hown, hts⟩ hW gq_2 td_9 (T := TX9) (N := 20) rfl (c_X9_clock l dC dI dA L1 hl1 H.size q_2 (xs 1) gq_2 f_5) (cwV 1 hts (hx_gV kw_428 kw_425 kw_426 kw_427 kw_94) rfl rfl rfl (by decide +kernel) ⟨Nat.le_of_ble_eq_true rfl, Nat.le_of_ble_eq_true rfl⟩) rfl hl.1 rfl (Nat.le_of_ble_eq_true rfl) dL_law_178 ⟨Nat.le_of_ble_eq_true rfl, Nat.le_of_ble_eq_true rfl⟩) hW (fun r_202 L_200 h_201 H locs p_203 hW => ?_)
  obtain ⟨hr_204, hs⟩ := p_203
  have hs : hx_S P_tb [(9, 2)] L1 hl1 L_200 h_201 := hs
  have f_4 := (hs.o gq_2 trivial rfl).1.trans f_4
  have f_9 := (hs.o gq_2 trivial rfl).1.trans f_9
  have f_11 := (hs.o gq_2 trivial rfl).1.trans f_11
  have f_14 := (hs.o gq_2 trivial rfl).1.trans f_14
  have f_16 := (hs.o gq_2 trivial rfl).1.trans f_16
  have f_28 := (hs.o gq_2 trivial rfl).2.trans f_28
  have f_30 := (hs.o gq_2 trivial rfl).2.trans f_30
  have f_32 := (hs.o gq_2 trivial rfl).2.trans f_32
  have f_33 := (hs.o gq_31 trivial rfl).1.trans f_33
  have f_35 := (hs.o gq_31 trivial rfl).2.trans f_35
  have f_38 := (hs.o gq_2 trivial rfl).2.trans f_38
  have f_40 := (hs.o gq_2 trivial rfl).2.trans f_40
  have f_42 := (hs.o gq_2 trivial rfl).2.trans f_42
  have f_43 := (hs.o gq_41 trivial rfl).1.trans f_43
  have f_45 := (hs.o gq_2 trivial rfl).2.trans f_45
  have f_46 := (hs.o gq_44 trivial rfl).1.trans f_46
  have f_48 := (hs.o gq_2 trivial rfl).2.trans f_48
  have f_49 := (hs.o gq_47 trivial rfl).1.trans f_49
  have f_51 := (hs.o gq_2 trivial rfl).2.trans f_51
  have f_52 := (hs.o gq_50 trivial rfl).1.trans f_52
  have f_54 := (hs.o gq_50 trivial rfl).2.trans f_54
  have f_56 := (hs.o gq_2 trivial rfl).2.trans f_56
  have f_57 := (hs.o gq_55 trivial rfl).1.trans f_57
  have f_58 := (hs.o gq_55 trivial rfl).1.trans f_58
  have f_61 := (hs.o gq_60 trivial rfl).1.trans f_61
  have f_62 := (hs.o gq_60 trivial rfl).1.trans f_62
  have f_68 := (hs.o gq_60 trivial rfl).1.trans f_68
  have f_69 := (hs.o gq_60 trivial rfl).1.trans f_69
  have f_70 := (hs.o gq_60 trivial rfl).1.trans f_70
  have f_71 := (hs.o gq_60 trivial rfl).1.trans f_71
  have f_72 := (hs.o gq_60 trivial rfl).1.trans f_72
  have f_74 := (hs.o gq_60 trivial rfl).1.trans f_74
  have f_81 := (hs.o gq_60 trivial rfl).1.trans f_81
  have f_90 := (hs.o gq_60 trivial rfl).1.trans f_90
  have f_97 := (hs.o gq_60 trivial rfl).1.trans f_97
  have f_118 := (hs.o gq_60 trivial rfl).1.trans f_118
  have f_120 := (hs.o gq_60 trivial rfl).1.trans f_120
  have f_128 := (hs.o gq_60 trivial rfl).1.trans f_128
  have f_129 := (hs.o gq_60 trivial rfl).1.trans f_129
  have f_130 := (hs.o gq_60 trivial rfl).1.trans f_130
  have f_131 := (hs.o gq_60 trivial rfl).1.trans f_131
  have f_132 := (hs.o gq_60 trivial rfl).1.trans f_132
  have f_133 := (hs.o gq_60 trivial rfl).1.trans f_133
  have f_136 := (hs.o gq_60 trivial rfl).1.trans f_136
  have f_144 := (hs.o gq_60 trivial rfl).1.trans f_144
  have f_145 := (hs.o gq_60 trivial rfl).1.trans f_145
  have f_147 := (hs.o gq_60 trivial rfl).1.trans f_147
  have f_148 := (hs.o gq_60 trivial rfl).1.trans f_148
  have f_151 := (hs.o gq_60 trivial rfl).1.trans f_151
  have f_153 := (hs.o gq_60 trivial rfl).1.trans f_153
  have f_156 := (hs.o gq_60 trivial rfl).1.trans f_156
  have f_157 := (hs.o gq_60 trivial rfl).1.trans f_157
  have f_164 := (hs.o gq_60 trivial rfl).2.trans f_164
  have f_166 := (hs.o gq_60 trivial rfl).2.trans f_166
  have f_169 := (hs.o gq_60 trivial rfl).2.trans f_169
  have f_171 := (hs.o gq_60 trivial rfl).2.trans f_171
  have f_173 := (hs.o gq_60 trivial rfl).2.trans f_173
  have f_175 := (hs.o gq_60 trivial rfl).2.trans f_175
  have f_177 := (hs.o gq_60 trivial rfl).2.trans f_177
  have f_179 := (hs.o gq_60 trivial rfl).2.trans f_179
  have f_181 := (hs.o gq_60 trivial rfl).2.trans f_181
  have f_183 := (hs.o gq_60 trivial rfl).2.trans f_183
  have f_185 := (hs.o gq_60 trivial rfl).2.trans f_185
  have f_187 := (hs.o gq_60 trivial rfl).2.trans f_187
  have f_189 := (hs.o gq_60 trivial rfl).2.trans f_189
  have f_191 := (hs.o gq_60 trivial rfl).2.trans f_191
  have f_193 := (hs.o gq_60 trivial rfl).2.trans f_193
  have fa_36 : ∀ j, j < 14 → _ = P_wo j := fun j hj => (hs.a gq_34 rfl j).1.trans (fa_36 j hj)
  have fa_167 : ∀ j, j < 13 → _ = P_w1 j := fun j hj => (hs.a gq_165 rfl j).1.trans (fa_167 j hj)
  have gq_2 := gq_2.S hs
  have gq_27 := gq_27.S hs
  have gq_29 := gq_29.S hs
  have gq_31 := gq_31.S hs
  have gq_34 := gq_34.S hs
  have gq_37 := gq_37.S hs
  have gq_39 := gq_39.S hs
  have gq_41 := gq_41.S hs
  have gq_44 := gq_44.S hs
  have gq_47 := gq_47.S hs
  have gq_50 := gq_50.S hs
  have gq_53 := gq_53.S hs
  have gq_55 := gq_55.S hs
  have gq_60 := gq_60.S hs
  have gq_163 := gq_163.S hs
  have gq_165 := gq_165.S hs
  have gq_168 := gq_168.S hs
  have gq_170 := gq_170.S hs
  have gq_172 := gq_172.S hs
  have gq_174 := gq_174.S hs
  have gq_176 := gq_176.S hs
  have gq_178 := gq_178.S hs
  have gq_180 := gq_180.S hs
  have gq_182 := gq_182.S hs
  have gq_184 := gq_184.S hs
  have gq_186 := gq_186.S hs
  have gq_188 := gq_188.S hs
  have gq_190 := gq_190.S hs
  have gq_192 := gq_192.S hs
  refine lv_aload_n hx hb dL_law_181 rfl (lv_at hl 1 rfl) ?_
  refine lv_aload_n hx hb dL_law_182 rfl (lv_at hl 3 rfl) ?_
  refine lv_iload_n hx hb dL_law_183 rfl (lv_at hl 0 rfl) ?_
  refine lv_iconst (v := 1) hx hb dL_law_184 (by decide) ?_
  refine lv_iadd hx hb dL_law_185 ?_
  refine lv_topi (fun x_205 ex_205 => ?_)
  obtain rfl : x_205 = (1 : Int32) := ex_205.trans (by decide)
  refine va_sld hx hb hX hbl hbA hW.2.2.2.1 (vp_in_iff.mpr (by rw [hL7]; decide)) dL_law_186 ?_
  rw [show (1 : Int32).toNatClampNeg = 1 from by decide]
  refine hx_goi (hx_runV (As := [.int (xs 1)]) (rest := [.int r_202]) ⟨hx, hb, hml, hown, hts⟩ hW gq_60 td_10 (T := TX10) (N := 98) rfl (c_X10_clock l dC dI dA L_200 h_201 H.size q_60 (xs 1) gq_60 f_61) (cwV 1 hts (hx_gV kw_1442 kw_1439 kw_1440 kw_1441 kw_103) rfl rfl rfl (by decide +kernel) ⟨Nat.le_of_ble_eq_true rfl, Nat.le_of_ble_eq_true rfl⟩) rfl hl.1 rfl (Nat.le_of_ble_eq_true rfl) dL_law_187 ⟨Nat.le_of_ble_eq_true rfl, Nat.le_of_ble_eq_true rfl⟩) hW (fun r_208 L_206 h_207 H locs p_209 hW => ?_)
  obtain ⟨hr_210, hs⟩ := p_209
  have hs : hx_S P_tb [(10, 0)] L_200 h_201 L_206 h_207 := hs
  have f_4 := (hs.o gq_2 trivial rfl).1.trans f_4
  have f_9 := (hs.o gq_2 trivial rfl).1.trans f_9
  have f_11 := (hs.o gq_2 trivial rfl).1.trans f_11
  have f_14 := (hs.o gq_2 trivial rfl).1.trans f_14
  have f_16 := (hs.o gq_2 trivial rfl).1.trans f_16
  have f_28 := (hs.o gq_2 trivial rfl).2.trans f_28
  have f_30 := (hs.o gq_2 trivial rfl).2.trans f_30
  have f_32 := (hs.o gq_2 trivial rfl).2.trans f_32
  have f_33 := (hs.o gq_31 trivial rfl).1.trans f_33
  have f_35 := (hs.o gq_31 trivial rfl).2.trans f_35
  have f_38 := (hs.o gq_2 trivial rfl).2.trans f_38
  have f_40 := (hs.o gq_2 trivial rfl).2.trans f_40
  have f_42 := (hs.o gq_2 trivial rfl).2.trans f_42
  have f_43 := (hs.o gq_41 trivial rfl).1.trans f_43
  have f_45 := (hs.o gq_2 trivial rfl).2.trans f_45
  have f_46 := (hs.o gq_44 trivial rfl).1.trans f_46
  have f_48 := (hs.o gq_2 trivial rfl).2.trans f_48
  have f_49 := (hs.o gq_47 trivial rfl).1.trans f_49
  have f_51 := (hs.o gq_2 trivial rfl).2.trans f_51
  have f_52 := (hs.o gq_50 trivial rfl).1.trans f_52
  have f_54 := (hs.o gq_50 trivial rfl).2.trans f_54
  have f_56 := (hs.o gq_2 trivial rfl).2.trans f_56
  have f_57 := (hs.o gq_55 trivial rfl).1.trans f_57
  have f_58 := (hs.o gq_55 trivial rfl).1.trans f_58
  have f_62 := (hs.o gq_60 trivial rfl).1.trans f_62
  have f_68 := (hs.o gq_60 trivial rfl).1.trans f_68
  have f_69 := (hs.o gq_60 trivial rfl).1.trans f_69
  have f_70 := (hs.o gq_60 trivial rfl).1.trans f_70
  have f_71 := (hs.o gq_60 trivial rfl).1.trans f_71
  have f_72 := (hs.o gq_60 trivial rfl).1.trans f_72
  have f_74 := (hs.o gq_60 trivial rfl).1.trans f_74
  have f_81 := (hs.o gq_60 trivial rfl).1.trans f_81
  have f_90 := (hs.o gq_60 trivial rfl).1.trans f_90
  have f_97 := (hs.o gq_60 trivial rfl).1.trans f_97
  have f_118 := (hs.o gq_60 trivial rfl).1.trans f_118
  have f_120 := (hs.o gq_60 trivial rfl).1.trans f_120
  have f_128 := (hs.o gq_60 trivial rfl).1.trans f_128
  have f_129 := (hs.o gq_60 trivial rfl).1.trans f_129
  have f_130 := (hs.o gq_60 trivial rfl).1.trans f_130
  have f_131 := (hs.o gq_60 trivial rfl).1.trans f_131
  have f_132 := (hs.o gq_60 trivial rfl).1.trans f_132
  have f_133 := (hs.o gq_60 trivial rfl).1.trans f_133
  have f_136 := (hs.o gq_60 trivial rfl).1.trans f_136
  have f_144 := (hs.o gq_60 trivial rfl).1.trans f_144
  have f_145 := (hs.o gq_60 trivial rfl).1.trans f_145
  have f_147 := (hs.o gq_60 trivial rfl).1.trans f_147
  have f_148 := (hs.o gq_60 trivial rfl).1.trans f_148
  have f_151 := (hs.o gq_60 trivial rfl).1.trans f_151
  have f_153 := (hs.o gq_60 trivial rfl).1.trans f_153
  have f_156 := (hs.o gq_60 trivial rfl).1.trans f_156
  have f_157 := (hs.o gq_60 trivial rfl).1.trans f_157
  have f_164 := (hs.o gq_60 trivial rfl).2.trans f_164
  have f_166 := (hs.o gq_60 trivial rfl).2.trans f_166
  have f_169 := (hs.o gq_60 trivial rfl).2.trans f_169
  have f_171 := (hs.o gq_60 trivial rfl).2.trans f_171
  have f_173 := (hs.o gq_60 trivial rfl).2.trans f_173
  have f_175 := (hs.o gq_60 trivial rfl).2.trans f_175
  have f_177 := (hs.o gq_60 trivial rfl).2.trans f_177
  have f_179 := (hs.o gq_60 trivial rfl).2.trans f_179
  have f_181 := (hs.o gq_60 trivial rfl).2.trans f_181
  have f_183 := (hs.o gq_60 trivial rfl).2.trans f_183
  have f_185 := (hs.o gq_60 trivial rfl).2.trans f_185
  have f_187 := (hs.o gq_60 trivial rfl).2.trans f_187
  have f_189 := (hs.o gq_60 trivial rfl).2.trans f_189
  have f_191 := (hs.o gq_60 trivial rfl).2.trans f_191
  have f_193 := (hs.o gq_60 trivial rfl).2.trans f_193
  have fa_36 : ∀ j, j < 14 → _ = P_wo j := fun j hj => (hs.a gq_34 rfl j).1.trans (fa_36 j hj)
  have fa_167 : ∀ j, j < 13 → _ = P_w1 j := fun j hj => (hs.a gq_165 rfl j).1.trans (fa_167 j hj)
  have gq_2 := gq_2.S hs
  have gq_27 := gq_27.S hs
  have gq_29 := gq_29.S hs
  have gq_31 := gq_31.S hs
  have gq_34 := gq_34.S hs
  have gq_37 := gq_37.S hs
  have gq_39 := gq_39.S hs
  have gq_41 := gq_41.S hs
  have gq_44 := gq_44.S hs
  have gq_47 := gq_47.S hs
  have gq_50 := gq_50.S hs
  have gq_53 := gq_53.S hs
  have gq_55 := gq_55.S hs
  have gq_60 := gq_60.S hs
  have gq_163 := gq_163.S hs
  have gq_165 := gq_165.S hs
  have gq_168 := gq_168.S hs
  have gq_170 := gq_170.S hs
  have gq_172 := gq_172.S hs
  have gq_174 := gq_174.S hs
  have gq_176 := gq_176.S hs
  have gq_178 := gq_178.S hs
  have gq_180 := gq_180.S hs
  have gq_182 := gq_182.S hs
  have gq_184 := gq_184.S hs
  have gq_186 := gq_186.S hs
  have gq_188 := gq_188.S hs
  have gq_190 := gq_190.S hs
  have gq_192 := gq_192.S hs
  have heq : r_202 = r_208 := by
    first | exact hr_204.trans hr_210.symm | (rcases hr_204 with ⟨k1, k2⟩ | ⟨k1, k2⟩ <;> rcases hr_210 with ⟨k3, k4⟩ | ⟨k3, k4⟩ <;> first | exact k2.trans k4.symm | (exfalso; omega) | exact absurd k1 k3 | exact absurd k3 k1)
  refine hb_icmp_eq (zx := r_202.toInt) (zy := r_208.toInt) (tgt := 1379) hx hb rfl rfl dL_law_190 (by decide) (fun c_211 => ?_) (fun c_211 => absurd (congrArg Int32.toInt heq) c_211)
  exact law_tail hx hb hr hlocks hX hbl hbA hL7 _ _ hW.2.2.2.1 ls hl (Nat.le_of_ble_eq_true rfl) (Nat.le_of_ble_eq_true rfl)

set_option maxHeartbeats 4000000 in
set_option maxRecDepth 100000 in
theorem law_case_1 {p : Program} {e : Env} {s : State} {m : MethodId} {below : List Frame} {meth : Method} {c : Code} (l : Launch) {b LN : Nat} {xs : Nat → Int32} (hx : p.tables.exec = Jvm.exec) (hb : c.code = code) (hr : meth.sig.returnType = ret) (hlocks : meth.locks = false) (hml : c.maxLocals = 4) (hown : s.vm.findClass "SmallCourtLaw" = some m.cls) (hts : ∀ w ∈ hx_all, w.before #[Value.ref b] s = true) (hX : va_X b LN xs s s.heap) (hbl : b < s.heap.size) (hbA : ¬ s.heap.size ≤ b) (hL7 : LN = 7) (dC : Nat → ClassId) (dI : Nat → Nat → Nat) (dA : Nat → ClassId) (b0 : Nat) (q_2 q_27 q_29 q_31 q_34 q_37 q_39 q_41 q_44 q_47 q_50 q_53 q_55 q_60 q_163 q_165 q_168 q_170 q_172 q_174 q_176 q_178 q_180 q_182 q_184 q_186 q_188 q_190 q_192 : Nat) (L1 : List Nat) (hl1 : hx_h) (H : Heap) (locs : List Loc) (ls : Array Slot) (hW : hx_W P_tb (P_ty dA) (dC, dI) vwCl (fun q : Nat => s.heap.size ≤ q) s.heap L1 hl1 s H locs) (hZ : hx_Xt (fun q : Nat => s.heap.size ≤ q) b0 s) (f_4 : hl1.2.1 q_2 1 = (0 : Int32)) (f_5 : hl1.2.1 q_2 2 = (0 : Int32)) (f_9 : hl1.2.1 q_2 6 = (0 : Int32)) (f_11 : hl1.2.1 q_2 8 = (0 : Int32)) (f_14 : hl1.2.1 q_2 11 = (0 : Int32)) (f_16 : hl1.2.1 q_2 13 = (0 : Int32)) (f_28 : hl1.2.2 q_2 0 = some q_27) (f_30 : hl1.2.2 q_2 3 = some q_29) (f_32 : hl1.2.2 q_2 4 = some q_31) (f_33 : hl1.2.1 q_31 0 = (-1 : Int32)) (f_35 : hl1.2.2 q_31 2 = some q_34) (f_38 : hl1.2.2 q_2 5 = some q_37) (f_40 : hl1.2.2 q_2 7 = some q_39) (f_42 : hl1.2.2 q_2 9 = some q_41) (f_43 : hl1.2.1 q_41 0 = (0 : Int32)) (f_45 : hl1.2.2 q_2 14 = some q_44) (f_46 : hl1.2.1 q_44 0 = (0 : Int32)) (f_48 : hl1.2.2 q_2 17 = some q_47) (f_49 : hl1.2.1 q_47 1 = (0 : Int32)) (f_51 : hl1.2.2 q_2 18 = some q_50) (f_52 : hl1.2.1 q_50 0 = (-1 : Int32)) (f_54 : hl1.2.2 q_50 5 = some q_53) (f_56 : hl1.2.2 q_2 19 = some q_55) (f_57 : hl1.2.1 q_55 0 = (0 : Int32)) (f_58 : hl1.2.1 q_55 1 = (0 : Int32)) (f_61 : hl1.2.1 q_60 0 = (0 : Int32)) (f_62 : hl1.2.1 q_60 1 = (0 : Int32)) (f_68 : hl1.2.1 q_60 7 = (0 : Int32)) (f_69 : hl1.2.1 q_60 8 = (0 : Int32)) (f_70 : hl1.2.1 q_60 9 = (0 : Int32)) (f_71 : hl1.2.1 q_60 10 = (0 : Int32)) (f_72 : hl1.2.1 q_60 11 = (0 : Int32)) (f_74 : hl1.2.1 q_60 13 = (0 : Int32)) (f_81 : hl1.2.1 q_60 20 = (0 : Int32)) (f_90 : hl1.2.1 q_60 29 = (0 : Int32)) (f_97 : hl1.2.1 q_60 36 = (0 : Int32)) (f_118 : hl1.2.1 q_60 57 = (0 : Int32)) (f_120 : hl1.2.1 q_60 59 = (0 : Int32)) (f_128 : hl1.2.1 q_60 67 = (0 : Int32)) (f_129 : hl1.2.1 q_60 68 = (0 : Int32)) (f_130 : hl1.2.1 q_60 69 = (0 : Int32)) (f_131 : hl1.2.1 q_60 70 = (0 : Int32)) (f_132 : hl1.2.1 q_60 71 = (0 : Int32)) (f_133 : hl1.2.1 q_60 72 = (0 : Int32)) (f_136 : hl1.2.1 q_60 75 = (0 : Int32)) (f_144 : hl1.2.1 q_60 83 = (0 : Int32)) (f_145 : hl1.2.1 q_60 84 = (0 : Int32)) (f_147 : hl1.2.1 q_60 86 = (0 : Int32)) (f_148 : hl1.2.1 q_60 87 = (0 : Int32)) (f_151 : hl1.2.1 q_60 90 = (0 : Int32)) (f_153 : hl1.2.1 q_60 92 = (0 : Int32)) (f_156 : hl1.2.1 q_60 95 = (0 : Int32)) (f_157 : hl1.2.1 q_60 96 = (0 : Int32)) (f_164 : hl1.2.2 q_60 2 = some q_163) (f_166 : hl1.2.2 q_60 3 = some q_165) (f_169 : hl1.2.2 q_60 4 = some q_168) (f_171 : hl1.2.2 q_60 5 = some q_170) (f_173 : hl1.2.2 q_60 6 = some q_172) (f_175 : hl1.2.2 q_60 12 = some q_174) (f_177 : hl1.2.2 q_60 15 = some q_176) (f_179 : hl1.2.2 q_60 21 = some q_178) (f_181 : hl1.2.2 q_60 22 = some q_180) (f_183 : hl1.2.2 q_60 23 = some q_182) (f_185 : hl1.2.2 q_60 24 = some q_184) (f_187 : hl1.2.2 q_60 25 = some q_186) (f_189 : hl1.2.2 q_60 26 = some q_188) (f_191 : hl1.2.2 q_60 82 = some q_190) (f_193 : hl1.2.2 q_60 94 = some q_192) (fa_36 : ∀ j, j < 14 → hl1.2.1 q_34 j = P_wo j) (fa_167 : ∀ j, j < 13 → hl1.2.1 q_165 j = P_w1 j) (gq_2 : hx_g L1 hl1 q_2 9) (gq_27 : hx_g L1 hl1 q_27 42) (gq_29 : hx_g L1 hl1 q_29 6) (gq_31 : hx_g L1 hl1 q_31 0) (gq_34 : hx_g L1 hl1 q_34 11) (gq_37 : hx_g L1 hl1 q_37 43) (gq_39 : hx_g L1 hl1 q_39 44) (gq_41 : hx_g L1 hl1 q_41 1) (gq_44 : hx_g L1 hl1 q_44 3) (gq_47 : hx_g L1 hl1 q_47 5) (gq_50 : hx_g L1 hl1 q_50 7) (gq_53 : hx_g L1 hl1 q_53 36) (gq_55 : hx_g L1 hl1 q_55 8) (gq_60 : hx_g L1 hl1 q_60 10) (gq_163 : hx_g L1 hl1 q_163 49) (gq_165 : hx_g L1 hl1 q_165 50) (gq_168 : hx_g L1 hl1 q_168 51) (gq_170 : hx_g L1 hl1 q_170 52) (gq_172 : hx_g L1 hl1 q_172 53) (gq_174 : hx_g L1 hl1 q_174 54) (gq_176 : hx_g L1 hl1 q_176 55) (gq_178 : hx_g L1 hl1 q_178 58) (gq_180 : hx_g L1 hl1 q_180 59) (gq_182 : hx_g L1 hl1 q_182 60) (gq_184 : hx_g L1 hl1 q_184 61) (gq_186 : hx_g L1 hl1 q_186 62) (gq_188 : hx_g L1 hl1 q_188 63) (gq_190 : hx_g L1 hl1 q_190 108) (gq_192 : hx_g L1 hl1 q_192 114) (hl : lv_has ls 4 [(3, .int (0 : Int32)), (2, .ref q_60), (1, .ref q_2), (0, .ref b)]) : W p l e room_1 s m #[Value.ref b] below meth c H locs 112 26072 (lw_Z below #[Value.ref b] s) (F0 m 195 ls []) := by
  refine lv_aload_n hx hb dL_law_195 rfl (lv_at hl 2 rfl) ?_
  refine lv_aload_n hx hb dL_law_196 rfl (lv_at hl 3 rfl) ?_
  refine lv_iload_n hx hb dL_law_197 rfl (lv_at hl 0 rfl) ?_
  refine lv_iconst (v := 1) hx hb dL_law_198 (by decide) ?_
  refine lv_iadd hx hb dL_law_199 ?_
  refine lv_topi (fun x_212 ex_212 => ?_)
  obtain rfl : x_212 = (1 : Int32) := ex_212.trans (by decide)
  refine va_sld hx hb hX hbl hbA hW.2.2.2.1 (vp_in_iff.mpr (by rw [hL7]; decide)) dL_law_200 ?_
  rw [show (1 : Int32).toNatClampNeg = 1 from by decide]
  refine lv_aload_n hx hb dL_law_201 rfl (lv_at hl 3 rfl) ?_
  refine lv_iload_n hx hb dL_law_202 rfl (lv_at hl 0 rfl) ?_
  refine lv_iconst (v := 2) hx hb dL_law_203 (by decide) ?_
  refine lv_iadd hx hb dL_law_204 ?_
  refine lv_topi (fun x_213 ex_213 => ?_)
  obtain rfl : x_213 = (2 : Int32) := ex_213.trans (by decide)
  refine va_sld hx hb hX hbl hbA hW.2.2.2.1 (vp_in_iff.mpr (by rw [hL7]; decide)) dL_law_205 ?_
  rw [show (2 : Int32).toNatClampNeg = 2 from by decide]
  refine lv_aload_n hx hb dL_law_206 rfl (lv_at hl 3 rfl) ?_
  refine lv_iload_n hx hb dL_law_207 rfl (lv_at hl 0 rfl) ?_
  refine lv_iconst (v := 3) hx hb dL_law_208 (by decide) ?_
  refine lv_iadd hx hb dL_law_209 ?_
  refine lv_topi (fun x_214 ex_214 => ?_)
  obtain rfl : x_214 = (3 : Int32) := ex_214.trans (by decide)
  refine va_sld hx hb hX hbl hbA hW.2.2.2.1 (vp_in_iff.mpr (by rw [hL7]; decide)) dL_law_210 ?_
  rw [show (3 : Int32).toNatClampNeg = 3 from by decide]
  refine lv_aload_n hx hb dL_law_211 rfl (lv_at hl 3 rfl) ?_
  refine lv_iload_n hx hb dL_law_212 rfl (lv_at hl 0 rfl) ?_
  refine lv_iconst (v := 4) hx hb dL_law_213 (by decide) ?_
  refine lv_iadd hx hb dL_law_214 ?_
  refine lv_topi (fun x_215 ex_215 => ?_)
  obtain rfl : x_215 = (4 : Int32) := ex_215.trans (by decide)
  refine va_sld hx hb hX hbl hbA hW.2.2.2.1 (vp_in_iff.mpr (by rw [hL7]; decide)) dL_law_215 ?_
  rw [show (4 : Int32).toNatClampNeg = 4 from by decide]
  refine lv_aload_n hx hb dL_law_216 rfl (lv_at hl 3 rfl) ?_
  refine lv_iload_n hx hb dL_law_217 rfl (lv_at hl 0 rfl) ?_
  refine lv_iconst (v := 5) hx hb dL_law_218 (by decide) ?_
  refine lv_iadd hx hb dL_law_219 ?_
  refine lv_topi (fun x_216 ex_216 => ?_)
  obtain rfl : x_216 = (5 : Int32) := ex_216.trans (by decide)
  refine va_sld hx hb hX hbl hbA hW.2.2.2.1 (vp_in_iff.mpr (by rw [hL7]; decide)) dL_law_220 ?_
  rw [show (5 : Int32).toNatClampNeg = 5 from by decide]
  refine hx_goi (hx_runV (As := [.int (xs 1), .int (xs 2), .int (xs 3), .int (xs 4), .int (xs 5)]) (rest := []) ⟨hx, hb, hml, hown, hts⟩ hW gq_2 td_9 (T := TX9) (N := 20) rfl (c_X9_feed l dC dI dA L1 hl1 H.size q_2 (xs 1) (xs 2) (xs 3) (xs 4) (xs 5) gq_2 f_4 q_27 gq_27 f_28) (cwV 5 hts (hx_gV kw_438 kw_435 kw_436 kw_437 kw_94) rfl rfl rfl (by decide +kernel) ⟨Nat.le_of_ble_eq_true rfl, Nat.le_of_ble_eq_true rfl⟩) rfl hl.1 rfl (Nat.le_of_ble_eq_true rfl) dL_law_221 ⟨Nat.le_of_ble_eq_true rfl, Nat.le_of_ble_eq_true rfl⟩) hW (fun r_219 L_217 h_218 H locs p_220 hW => ?_)
  obtain ⟨hr_221, hs⟩ := p_220
  have hs : hx_S P_tb [(9, 1), (42, 0)] L1 hl1 L_217 h_218 := hs
  have f_5 := (hs.o gq_2 trivial rfl).1.trans f_5
  have f_9 := (hs.o gq_2 trivial rfl).1.trans f_9
  have f_11 := (hs.o gq_2 trivial rfl).1.trans f_11
  have f_14 := (hs.o gq_2 trivial rfl).1.trans f_14
  have f_16 := (hs.o gq_2 trivial rfl).1.trans f_16
  have f_28 := (hs.o gq_2 trivial rfl).2.trans f_28
  have f_30 := (hs.o gq_2 trivial rfl).2.trans f_30
  have f_32 := (hs.o gq_2 trivial rfl).2.trans f_32
  have f_33 := (hs.o gq_31 trivial rfl).1.trans f_33
  have f_35 := (hs.o gq_31 trivial rfl).2.trans f_35
  have f_38 := (hs.o gq_2 trivial rfl).2.trans f_38
  have f_40 := (hs.o gq_2 trivial rfl).2.trans f_40
  have f_42 := (hs.o gq_2 trivial rfl).2.trans f_42
  have f_43 := (hs.o gq_41 trivial rfl).1.trans f_43
  have f_45 := (hs.o gq_2 trivial rfl).2.trans f_45
  have f_46 := (hs.o gq_44 trivial rfl).1.trans f_46
  have f_48 := (hs.o gq_2 trivial rfl).2.trans f_48
  have f_49 := (hs.o gq_47 trivial rfl).1.trans f_49
  have f_51 := (hs.o gq_2 trivial rfl).2.trans f_51
  have f_52 := (hs.o gq_50 trivial rfl).1.trans f_52
  have f_54 := (hs.o gq_50 trivial rfl).2.trans f_54
  have f_56 := (hs.o gq_2 trivial rfl).2.trans f_56
  have f_57 := (hs.o gq_55 trivial rfl).1.trans f_57
  have f_58 := (hs.o gq_55 trivial rfl).1.trans f_58
  have f_61 := (hs.o gq_60 trivial rfl).1.trans f_61
  have f_62 := (hs.o gq_60 trivial rfl).1.trans f_62
  have f_68 := (hs.o gq_60 trivial rfl).1.trans f_68
  have f_69 := (hs.o gq_60 trivial rfl).1.trans f_69
  have f_70 := (hs.o gq_60 trivial rfl).1.trans f_70
  have f_71 := (hs.o gq_60 trivial rfl).1.trans f_71
  have f_72 := (hs.o gq_60 trivial rfl).1.trans f_72
  have f_74 := (hs.o gq_60 trivial rfl).1.trans f_74
  have f_81 := (hs.o gq_60 trivial rfl).1.trans f_81
  have f_90 := (hs.o gq_60 trivial rfl).1.trans f_90
  have f_97 := (hs.o gq_60 trivial rfl).1.trans f_97
  have f_118 := (hs.o gq_60 trivial rfl).1.trans f_118
  have f_120 := (hs.o gq_60 trivial rfl).1.trans f_120
  have f_128 := (hs.o gq_60 trivial rfl).1.trans f_128
  have f_129 := (hs.o gq_60 trivial rfl).1.trans f_129
  have f_130 := (hs.o gq_60 trivial rfl).1.trans f_130
  have f_131 := (hs.o gq_60 trivial rfl).1.trans f_131
  have f_132 := (hs.o gq_60 trivial rfl).1.trans f_132
  have f_133 := (hs.o gq_60 trivial rfl).1.trans f_133
  have f_136 := (hs.o gq_60 trivial rfl).1.trans f_136
  have f_144 := (hs.o gq_60 trivial rfl).1.trans f_144
  have f_145 := (hs.o gq_60 trivial rfl).1.trans f_145
  have f_147 := (hs.o gq_60 trivial rfl).1.trans f_147
  have f_148 := (hs.o gq_60 trivial rfl).1.trans f_148
  have f_151 := (hs.o gq_60 trivial rfl).1.trans f_151
  have f_153 := (hs.o gq_60 trivial rfl).1.trans f_153
  have f_156 := (hs.o gq_60 trivial rfl).1.trans f_156
  have f_157 := (hs.o gq_60 trivial rfl).1.trans f_157
  have f_164 := (hs.o gq_60 trivial rfl).2.trans f_164
  have f_166 := (hs.o gq_60 trivial rfl).2.trans f_166
  have f_169 := (hs.o gq_60 trivial rfl).2.trans f_169
  have f_171 := (hs.o gq_60 trivial rfl).2.trans f_171
  have f_173 := (hs.o gq_60 trivial rfl).2.trans f_173
  have f_175 := (hs.o gq_60 trivial rfl).2.trans f_175
  have f_177 := (hs.o gq_60 trivial rfl).2.trans f_177
  have f_179 := (hs.o gq_60 trivial rfl).2.trans f_179
  have f_181 := (hs.o gq_60 trivial rfl).2.trans f_181
  have f_183 := (hs.o gq_60 trivial rfl).2.trans f_183
  have f_185 := (hs.o gq_60 trivial rfl).2.trans f_185
  have f_187 := (hs.o gq_60 trivial rfl).2.trans f_187
  have f_189 := (hs.o gq_60 trivial rfl).2.trans f_189
  have f_191 := (hs.o gq_60 trivial rfl).2.trans f_191
  have f_193 := (hs.o gq_60 trivial rfl).2.trans f_193
  have fa_36 : ∀ j, j < 14 → _ = P_wo j := fun j hj => (hs.a gq_34 rfl j).1.trans (fa_36 j hj)
  have fa_167 : ∀ j, j < 13 → _ = P_w1 j := fun j hj => (hs.a gq_165 rfl j).1.trans (fa_167 j hj)
  have gq_2 := gq_2.S hs
  have gq_27 := gq_27.S hs
  have gq_29 := gq_29.S hs
  have gq_31 := gq_31.S hs
  have gq_34 := gq_34.S hs
  have gq_37 := gq_37.S hs
  have gq_39 := gq_39.S hs
  have gq_41 := gq_41.S hs
  have gq_44 := gq_44.S hs
  have gq_47 := gq_47.S hs
  have gq_50 := gq_50.S hs
  have gq_53 := gq_53.S hs
  have gq_55 := gq_55.S hs
  have gq_60 := gq_60.S hs
  have gq_163 := gq_163.S hs
  have gq_165 := gq_165.S hs
  have gq_168 := gq_168.S hs
  have gq_170 := gq_170.S hs
  have gq_172 := gq_172.S hs
  have gq_174 := gq_174.S hs
  have gq_176 := gq_176.S hs
  have gq_178 := gq_178.S hs
  have gq_180 := gq_180.S hs
  have gq_182 := gq_182.S hs
  have gq_184 := gq_184.S hs
  have gq_186 := gq_186.S hs
  have gq_188 := gq_188.S hs
  have gq_190 := gq_190.S hs
  have gq_192 := gq_192.S hs
  refine lv_aload_n hx hb dL_law_224 rfl (lv_at hl 1 rfl) ?_
  refine lv_aload_n hx hb dL_law_225 rfl (lv_at hl 3 rfl) ?_
  refine lv_iload_n hx hb dL_law_226 rfl (lv_at hl 0 rfl) ?_
  refine lv_iconst (v := 1) hx hb dL_law_227 (by decide) ?_
  refine lv_iadd hx hb dL_law_228 ?_
  refine lv_topi (fun x_222 ex_222 => ?_)
  obtain rfl : x_222 = (1 : Int32) := ex_222.trans (by decide)
  refine va_sld hx hb hX hbl hbA hW.2.2.2.1 (vp_in_iff.mpr (by rw [hL7]; decide)) dL_law_229 ?_
  rw [show (1 : Int32).toNatClampNeg = 1 from by decide]
  refine lv_aload_n hx hb dL_law_230 rfl (lv_at hl 3 rfl) ?_
  refine lv_iload_n hx hb dL_law_231 rfl (lv_at hl 0 rfl) ?_
  refine lv_iconst (v := 2) hx hb dL_law_232 (by decide) ?_
  refine lv_iadd hx hb dL_law_233 ?_
  refine lv_topi (fun x_223 ex_223 => ?_)
  obtain rfl : x_223 = (2 : Int32) := ex_223.trans (by decide)
  refine va_sld hx hb hX hbl hbA hW.2.2.2.1 (vp_in_iff.mpr (by rw [hL7]; decide)) dL_law_234 ?_
  rw [show (2 : Int32).toNatClampNeg = 2 from by decide]
  refine lv_aload_n hx hb dL_law_235 rfl (lv_at hl 3 rfl) ?_
  refine lv_iload_n hx hb dL_law_236 rfl (lv_at hl 0 rfl) ?_
  refine lv_iconst (v := 3) hx hb dL_law_237 (by decide) ?_
  refine lv_iadd hx hb dL_law_238 ?_
  refine lv_topi (fun x_224 ex_224 => ?_)
  obtain rfl : x_224 = (3 : Int32) := ex_224.trans (by decide)
  refine va_sld hx hb hX hbl hbA hW.2.2.2.1 (vp_in_iff.mpr (by rw [hL7]; decide)) dL_law_239 ?_
  rw [show (3 : Int32).toNatClampNeg = 3 from by decide]
  refine lv_aload_n hx hb dL_law_240 rfl (lv_at hl 3 rfl) ?_
  refine lv_iload_n hx hb dL_law_241 rfl (lv_at hl 0 rfl) ?_
  refine lv_iconst (v := 4) hx hb dL_law_242 (by decide) ?_
  refine lv_iadd hx hb dL_law_243 ?_
  refine lv_topi (fun x_225 ex_225 => ?_)
  obtain rfl : x_225 = (4 : Int32) := ex_225.trans (by decide)
  refine va_sld hx hb hX hbl hbA hW.2.2.2.1 (vp_in_iff.mpr (by rw [hL7]; decide)) dL_law_244 ?_
  rw [show (4 : Int32).toNatClampNeg = 4 from by decide]
  refine lv_aload_n hx hb dL_law_245 rfl (lv_at hl 3 rfl) ?_
  refine lv_iload_n hx hb dL_law_246 rfl (lv_at hl 0 rfl) ?_
  refine lv_iconst (v := 5) hx hb dL_law_247 (by decide) ?_
  refine lv_iadd hx hb dL_law_248 ?_
  refine lv_topi (fun x_226 ex_226 => ?_)
  obtain rfl : x_226 = (5 : Int32) := ex_226.trans (by decide)
  refine va_sld hx hb hX hbl hbA hW.2.2.2.1 (vp_in_iff.mpr (by rw [hL7]; decide)) dL_law_249 ?_
  rw [show (5 : Int32).toNatClampNeg = 5 from by decide]
  refine hx_goi (hx_runV (As := [.int (xs 1), .int (xs 2), .int (xs 3), .int (xs 4), .int (xs 5)]) (rest := [.int r_219]) ⟨hx, hb, hml, hown, hts⟩ hW gq_60 td_10 (T := TX10) (N := 98) rfl (c_X10_feed l dC dI dA L_217 h_218 H.size q_60 (xs 1) (xs 2) (xs 3) (xs 4) (xs 5) gq_60 f_68 q_172 gq_172 f_173) (cwV 5 hts (hx_gV kw_1449 kw_1446 kw_1447 kw_1448 kw_103) rfl rfl rfl (by decide +kernel) ⟨Nat.le_of_ble_eq_true rfl, Nat.le_of_ble_eq_true rfl⟩) rfl hl.1 rfl (Nat.le_of_ble_eq_true rfl) dL_law_250 ⟨Nat.le_of_ble_eq_true rfl, Nat.le_of_ble_eq_true rfl⟩) hW (fun r_229 L_227 h_228 H locs p_230 hW => ?_)
  obtain ⟨hr_231, hs⟩ := p_230
  have hs : hx_S P_tb [(10, 7), (53, 0)] L_217 h_218 L_227 h_228 := hs
  have f_5 := (hs.o gq_2 trivial rfl).1.trans f_5
  have f_9 := (hs.o gq_2 trivial rfl).1.trans f_9
  have f_11 := (hs.o gq_2 trivial rfl).1.trans f_11
  have f_14 := (hs.o gq_2 trivial rfl).1.trans f_14
  have f_16 := (hs.o gq_2 trivial rfl).1.trans f_16
  have f_28 := (hs.o gq_2 trivial rfl).2.trans f_28
  have f_30 := (hs.o gq_2 trivial rfl).2.trans f_30
  have f_32 := (hs.o gq_2 trivial rfl).2.trans f_32
  have f_33 := (hs.o gq_31 trivial rfl).1.trans f_33
  have f_35 := (hs.o gq_31 trivial rfl).2.trans f_35
  have f_38 := (hs.o gq_2 trivial rfl).2.trans f_38
  have f_40 := (hs.o gq_2 trivial rfl).2.trans f_40
  have f_42 := (hs.o gq_2 trivial rfl).2.trans f_42
  have f_43 := (hs.o gq_41 trivial rfl).1.trans f_43
  have f_45 := (hs.o gq_2 trivial rfl).2.trans f_45
  have f_46 := (hs.o gq_44 trivial rfl).1.trans f_46
  have f_48 := (hs.o gq_2 trivial rfl).2.trans f_48
  have f_49 := (hs.o gq_47 trivial rfl).1.trans f_49
  have f_51 := (hs.o gq_2 trivial rfl).2.trans f_51
  have f_52 := (hs.o gq_50 trivial rfl).1.trans f_52
  have f_54 := (hs.o gq_50 trivial rfl).2.trans f_54
  have f_56 := (hs.o gq_2 trivial rfl).2.trans f_56
  have f_57 := (hs.o gq_55 trivial rfl).1.trans f_57
  have f_58 := (hs.o gq_55 trivial rfl).1.trans f_58
  have f_61 := (hs.o gq_60 trivial rfl).1.trans f_61
  have f_62 := (hs.o gq_60 trivial rfl).1.trans f_62
  have f_69 := (hs.o gq_60 trivial rfl).1.trans f_69
  have f_70 := (hs.o gq_60 trivial rfl).1.trans f_70
  have f_71 := (hs.o gq_60 trivial rfl).1.trans f_71
  have f_72 := (hs.o gq_60 trivial rfl).1.trans f_72
  have f_74 := (hs.o gq_60 trivial rfl).1.trans f_74
  have f_81 := (hs.o gq_60 trivial rfl).1.trans f_81
  have f_90 := (hs.o gq_60 trivial rfl).1.trans f_90
  have f_97 := (hs.o gq_60 trivial rfl).1.trans f_97
  have f_118 := (hs.o gq_60 trivial rfl).1.trans f_118
  have f_120 := (hs.o gq_60 trivial rfl).1.trans f_120
  have f_128 := (hs.o gq_60 trivial rfl).1.trans f_128
  have f_129 := (hs.o gq_60 trivial rfl).1.trans f_129
  have f_130 := (hs.o gq_60 trivial rfl).1.trans f_130
  have f_131 := (hs.o gq_60 trivial rfl).1.trans f_131
  have f_132 := (hs.o gq_60 trivial rfl).1.trans f_132
  have f_133 := (hs.o gq_60 trivial rfl).1.trans f_133
  have f_136 := (hs.o gq_60 trivial rfl).1.trans f_136
  have f_144 := (hs.o gq_60 trivial rfl).1.trans f_144
  have f_145 := (hs.o gq_60 trivial rfl).1.trans f_145
  have f_147 := (hs.o gq_60 trivial rfl).1.trans f_147
  have f_148 := (hs.o gq_60 trivial rfl).1.trans f_148
  have f_151 := (hs.o gq_60 trivial rfl).1.trans f_151
  have f_153 := (hs.o gq_60 trivial rfl).1.trans f_153
  have f_156 := (hs.o gq_60 trivial rfl).1.trans f_156
  have f_157 := (hs.o gq_60 trivial rfl).1.trans f_157
  have f_164 := (hs.o gq_60 trivial rfl).2.trans f_164
  have f_166 := (hs.o gq_60 trivial rfl).2.trans f_166
  have f_169 := (hs.o gq_60 trivial rfl).2.trans f_169
  have f_171 := (hs.o gq_60 trivial rfl).2.trans f_171
  have f_173 := (hs.o gq_60 trivial rfl).2.trans f_173
  have f_175 := (hs.o gq_60 trivial rfl).2.trans f_175
  have f_177 := (hs.o gq_60 trivial rfl).2.trans f_177
  have f_179 := (hs.o gq_60 trivial rfl).2.trans f_179
  have f_181 := (hs.o gq_60 trivial rfl).2.trans f_181
  have f_183 := (hs.o gq_60 trivial rfl).2.trans f_183
  have f_185 := (hs.o gq_60 trivial rfl).2.trans f_185
  have f_187 := (hs.o gq_60 trivial rfl).2.trans f_187
  have f_189 := (hs.o gq_60 trivial rfl).2.trans f_189
  have f_191 := (hs.o gq_60 trivial rfl).2.trans f_191
  have f_193 := (hs.o gq_60 trivial rfl).2.trans f_193
  have fa_36 : ∀ j, j < 14 → _ = P_wo j := fun j hj => (hs.a gq_34 rfl j).1.trans (fa_36 j hj)
  have fa_167 : ∀ j, j < 13 → _ = P_w1 j := fun j hj => (hs.a gq_165 rfl j).1.trans (fa_167 j hj)
  have gq_2 := gq_2.S hs
  have gq_27 := gq_27.S hs
  have gq_29 := gq_29.S hs
  have gq_31 := gq_31.S hs
  have gq_34 := gq_34.S hs
  have gq_37 := gq_37.S hs
  have gq_39 := gq_39.S hs
  have gq_41 := gq_41.S hs
  have gq_44 := gq_44.S hs
  have gq_47 := gq_47.S hs
  have gq_50 := gq_50.S hs
  have gq_53 := gq_53.S hs
  have gq_55 := gq_55.S hs
  have gq_60 := gq_60.S hs
  have gq_163 := gq_163.S hs
  have gq_165 := gq_165.S hs
  have gq_168 := gq_168.S hs
  have gq_170 := gq_170.S hs
  have gq_172 := gq_172.S hs
  have gq_174 := gq_174.S hs
  have gq_176 := gq_176.S hs
  have gq_178 := gq_178.S hs
  have gq_180 := gq_180.S hs
  have gq_182 := gq_182.S hs
  have gq_184 := gq_184.S hs
  have gq_186 := gq_186.S hs
  have gq_188 := gq_188.S hs
  have gq_190 := gq_190.S hs
  have gq_192 := gq_192.S hs
  have heq : r_219 = r_229 := by
    first | exact hr_221.trans hr_231.symm | (rcases hr_221 with ⟨k1, k2⟩ | ⟨k1, k2⟩ <;> rcases hr_231 with ⟨k3, k4⟩ | ⟨k3, k4⟩ <;> first | exact k2.trans k4.symm | (exfalso; omega) | exact absurd k1 k3 | exact absurd k3 k1)
  refine hb_icmp_eq (zx := r_219.toInt) (zy := r_229.toInt) (tgt := 1379) hx hb rfl rfl dL_law_253 (by decide) (fun c_232 => ?_) (fun c_232 => absurd (congrArg Int32.toInt heq) c_232)
  exact law_tail hx hb hr hlocks hX hbl hbA hL7 _ _ hW.2.2.2.1 ls hl (Nat.le_of_ble_eq_true rfl) (Nat.le_of_ble_eq_true rfl)

set_option maxHeartbeats 4000000 in
set_option maxRecDepth 100000 in
theorem law_case_2 {p : Program} {e : Env} {s : State} {m : MethodId} {below : List Frame} {meth : Method} {c : Code} (l : Launch) {b LN : Nat} {xs : Nat → Int32} (hx : p.tables.exec = Jvm.exec) (hb : c.code = code) (hr : meth.sig.returnType = ret) (hlocks : meth.locks = false) (hml : c.maxLocals = 4) (hown : s.vm.findClass "SmallCourtLaw" = some m.cls) (hts : ∀ w ∈ hx_all, w.before #[Value.ref b] s = true) (hX : va_X b LN xs s s.heap) (hbl : b < s.heap.size) (hbA : ¬ s.heap.size ≤ b) (hL7 : LN = 7) (dC : Nat → ClassId) (dI : Nat → Nat → Nat) (dA : Nat → ClassId) (b0 : Nat) (q_2 q_27 q_29 q_31 q_34 q_37 q_39 q_41 q_44 q_47 q_50 q_53 q_55 q_60 q_163 q_165 q_168 q_170 q_172 q_174 q_176 q_178 q_180 q_182 q_184 q_186 q_188 q_190 q_192 : Nat) (L1 : List Nat) (hl1 : hx_h) (H : Heap) (locs : List Loc) (ls : Array Slot) (hW : hx_W P_tb (P_ty dA) (dC, dI) vwCl (fun q : Nat => s.heap.size ≤ q) s.heap L1 hl1 s H locs) (hZ : hx_Xt (fun q : Nat => s.heap.size ≤ q) b0 s) (f_4 : hl1.2.1 q_2 1 = (0 : Int32)) (f_5 : hl1.2.1 q_2 2 = (0 : Int32)) (f_9 : hl1.2.1 q_2 6 = (0 : Int32)) (f_11 : hl1.2.1 q_2 8 = (0 : Int32)) (f_14 : hl1.2.1 q_2 11 = (0 : Int32)) (f_16 : hl1.2.1 q_2 13 = (0 : Int32)) (f_28 : hl1.2.2 q_2 0 = some q_27) (f_30 : hl1.2.2 q_2 3 = some q_29) (f_32 : hl1.2.2 q_2 4 = some q_31) (f_33 : hl1.2.1 q_31 0 = (-1 : Int32)) (f_35 : hl1.2.2 q_31 2 = some q_34) (f_38 : hl1.2.2 q_2 5 = some q_37) (f_40 : hl1.2.2 q_2 7 = some q_39) (f_42 : hl1.2.2 q_2 9 = some q_41) (f_43 : hl1.2.1 q_41 0 = (0 : Int32)) (f_45 : hl1.2.2 q_2 14 = some q_44) (f_46 : hl1.2.1 q_44 0 = (0 : Int32)) (f_48 : hl1.2.2 q_2 17 = some q_47) (f_49 : hl1.2.1 q_47 1 = (0 : Int32)) (f_51 : hl1.2.2 q_2 18 = some q_50) (f_52 : hl1.2.1 q_50 0 = (-1 : Int32)) (f_54 : hl1.2.2 q_50 5 = some q_53) (f_56 : hl1.2.2 q_2 19 = some q_55) (f_57 : hl1.2.1 q_55 0 = (0 : Int32)) (f_58 : hl1.2.1 q_55 1 = (0 : Int32)) (f_61 : hl1.2.1 q_60 0 = (0 : Int32)) (f_62 : hl1.2.1 q_60 1 = (0 : Int32)) (f_68 : hl1.2.1 q_60 7 = (0 : Int32)) (f_69 : hl1.2.1 q_60 8 = (0 : Int32)) (f_70 : hl1.2.1 q_60 9 = (0 : Int32)) (f_71 : hl1.2.1 q_60 10 = (0 : Int32)) (f_72 : hl1.2.1 q_60 11 = (0 : Int32)) (f_74 : hl1.2.1 q_60 13 = (0 : Int32)) (f_81 : hl1.2.1 q_60 20 = (0 : Int32)) (f_90 : hl1.2.1 q_60 29 = (0 : Int32)) (f_97 : hl1.2.1 q_60 36 = (0 : Int32)) (f_118 : hl1.2.1 q_60 57 = (0 : Int32)) (f_120 : hl1.2.1 q_60 59 = (0 : Int32)) (f_128 : hl1.2.1 q_60 67 = (0 : Int32)) (f_129 : hl1.2.1 q_60 68 = (0 : Int32)) (f_130 : hl1.2.1 q_60 69 = (0 : Int32)) (f_131 : hl1.2.1 q_60 70 = (0 : Int32)) (f_132 : hl1.2.1 q_60 71 = (0 : Int32)) (f_133 : hl1.2.1 q_60 72 = (0 : Int32)) (f_136 : hl1.2.1 q_60 75 = (0 : Int32)) (f_144 : hl1.2.1 q_60 83 = (0 : Int32)) (f_145 : hl1.2.1 q_60 84 = (0 : Int32)) (f_147 : hl1.2.1 q_60 86 = (0 : Int32)) (f_148 : hl1.2.1 q_60 87 = (0 : Int32)) (f_151 : hl1.2.1 q_60 90 = (0 : Int32)) (f_153 : hl1.2.1 q_60 92 = (0 : Int32)) (f_156 : hl1.2.1 q_60 95 = (0 : Int32)) (f_157 : hl1.2.1 q_60 96 = (0 : Int32)) (f_164 : hl1.2.2 q_60 2 = some q_163) (f_166 : hl1.2.2 q_60 3 = some q_165) (f_169 : hl1.2.2 q_60 4 = some q_168) (f_171 : hl1.2.2 q_60 5 = some q_170) (f_173 : hl1.2.2 q_60 6 = some q_172) (f_175 : hl1.2.2 q_60 12 = some q_174) (f_177 : hl1.2.2 q_60 15 = some q_176) (f_179 : hl1.2.2 q_60 21 = some q_178) (f_181 : hl1.2.2 q_60 22 = some q_180) (f_183 : hl1.2.2 q_60 23 = some q_182) (f_185 : hl1.2.2 q_60 24 = some q_184) (f_187 : hl1.2.2 q_60 25 = some q_186) (f_189 : hl1.2.2 q_60 26 = some q_188) (f_191 : hl1.2.2 q_60 82 = some q_190) (f_193 : hl1.2.2 q_60 94 = some q_192) (fa_36 : ∀ j, j < 14 → hl1.2.1 q_34 j = P_wo j) (fa_167 : ∀ j, j < 13 → hl1.2.1 q_165 j = P_w1 j) (gq_2 : hx_g L1 hl1 q_2 9) (gq_27 : hx_g L1 hl1 q_27 42) (gq_29 : hx_g L1 hl1 q_29 6) (gq_31 : hx_g L1 hl1 q_31 0) (gq_34 : hx_g L1 hl1 q_34 11) (gq_37 : hx_g L1 hl1 q_37 43) (gq_39 : hx_g L1 hl1 q_39 44) (gq_41 : hx_g L1 hl1 q_41 1) (gq_44 : hx_g L1 hl1 q_44 3) (gq_47 : hx_g L1 hl1 q_47 5) (gq_50 : hx_g L1 hl1 q_50 7) (gq_53 : hx_g L1 hl1 q_53 36) (gq_55 : hx_g L1 hl1 q_55 8) (gq_60 : hx_g L1 hl1 q_60 10) (gq_163 : hx_g L1 hl1 q_163 49) (gq_165 : hx_g L1 hl1 q_165 50) (gq_168 : hx_g L1 hl1 q_168 51) (gq_170 : hx_g L1 hl1 q_170 52) (gq_172 : hx_g L1 hl1 q_172 53) (gq_174 : hx_g L1 hl1 q_174 54) (gq_176 : hx_g L1 hl1 q_176 55) (gq_178 : hx_g L1 hl1 q_178 58) (gq_180 : hx_g L1 hl1 q_180 59) (gq_182 : hx_g L1 hl1 q_182 60) (gq_184 : hx_g L1 hl1 q_184 61) (gq_186 : hx_g L1 hl1 q_186 62) (gq_188 : hx_g L1 hl1 q_188 63) (gq_190 : hx_g L1 hl1 q_190 108) (gq_192 : hx_g L1 hl1 q_192 114) (hl : lv_has ls 4 [(3, .int (0 : Int32)), (2, .ref q_60), (1, .ref q_2), (0, .ref b)]) : W p l e room_1 s m #[Value.ref b] below meth c H locs 112 26072 (lw_Z below #[Value.ref b] s) (F0 m 258 ls []) := by
  refine lv_aload_n hx hb dL_law_258 rfl (lv_at hl 2 rfl) ?_
  refine lv_aload_n hx hb dL_law_259 rfl (lv_at hl 3 rfl) ?_
  refine lv_iload_n hx hb dL_law_260 rfl (lv_at hl 0 rfl) ?_
  refine lv_iconst (v := 1) hx hb dL_law_261 (by decide) ?_
  refine lv_iadd hx hb dL_law_262 ?_
  refine lv_topi (fun x_233 ex_233 => ?_)
  obtain rfl : x_233 = (1 : Int32) := ex_233.trans (by decide)
  refine va_sld hx hb hX hbl hbA hW.2.2.2.1 (vp_in_iff.mpr (by rw [hL7]; decide)) dL_law_263 ?_
  rw [show (1 : Int32).toNatClampNeg = 1 from by decide]
  refine hx_goi (hx_runV (As := [.int (xs 1)]) (rest := []) ⟨hx, hb, hml, hown, hts⟩ hW gq_2 td_9 (T := TX9) (N := 20) rfl (c_X9_end l dC dI dA L1 hl1 H.size q_2 (xs 1) gq_2 f_4) (cwV 1 hts (hx_gV kw_446 kw_443 kw_444 kw_445 kw_94) rfl rfl rfl (by decide +kernel) ⟨Nat.le_of_ble_eq_true rfl, Nat.le_of_ble_eq_true rfl⟩) rfl hl.1 rfl (Nat.le_of_ble_eq_true rfl) dL_law_264 ⟨Nat.le_of_ble_eq_true rfl, Nat.le_of_ble_eq_true rfl⟩) hW (fun r_236 L_234 h_235 H locs p_237 hW => ?_)
  obtain ⟨hr_238, hs⟩ := p_237
  have hs : hx_S P_tb [(9, 1)] L1 hl1 L_234 h_235 := hs
  have f_5 := (hs.o gq_2 trivial rfl).1.trans f_5
  have f_9 := (hs.o gq_2 trivial rfl).1.trans f_9
  have f_11 := (hs.o gq_2 trivial rfl).1.trans f_11
  have f_14 := (hs.o gq_2 trivial rfl).1.trans f_14
  have f_16 := (hs.o gq_2 trivial rfl).1.trans f_16
  have f_28 := (hs.o gq_2 trivial rfl).2.trans f_28
  have f_30 := (hs.o gq_2 trivial rfl).2.trans f_30
  have f_32 := (hs.o gq_2 trivial rfl).2.trans f_32
  have f_33 := (hs.o gq_31 trivial rfl).1.trans f_33
  have f_35 := (hs.o gq_31 trivial rfl).2.trans f_35
  have f_38 := (hs.o gq_2 trivial rfl).2.trans f_38
  have f_40 := (hs.o gq_2 trivial rfl).2.trans f_40
  have f_42 := (hs.o gq_2 trivial rfl).2.trans f_42
  have f_43 := (hs.o gq_41 trivial rfl).1.trans f_43
  have f_45 := (hs.o gq_2 trivial rfl).2.trans f_45
  have f_46 := (hs.o gq_44 trivial rfl).1.trans f_46
  have f_48 := (hs.o gq_2 trivial rfl).2.trans f_48
  have f_49 := (hs.o gq_47 trivial rfl).1.trans f_49
  have f_51 := (hs.o gq_2 trivial rfl).2.trans f_51
  have f_52 := (hs.o gq_50 trivial rfl).1.trans f_52
  have f_54 := (hs.o gq_50 trivial rfl).2.trans f_54
  have f_56 := (hs.o gq_2 trivial rfl).2.trans f_56
  have f_57 := (hs.o gq_55 trivial rfl).1.trans f_57
  have f_58 := (hs.o gq_55 trivial rfl).1.trans f_58
  have f_61 := (hs.o gq_60 trivial rfl).1.trans f_61
  have f_62 := (hs.o gq_60 trivial rfl).1.trans f_62
  have f_68 := (hs.o gq_60 trivial rfl).1.trans f_68
  have f_69 := (hs.o gq_60 trivial rfl).1.trans f_69
  have f_70 := (hs.o gq_60 trivial rfl).1.trans f_70
  have f_71 := (hs.o gq_60 trivial rfl).1.trans f_71
  have f_72 := (hs.o gq_60 trivial rfl).1.trans f_72
  have f_74 := (hs.o gq_60 trivial rfl).1.trans f_74
  have f_81 := (hs.o gq_60 trivial rfl).1.trans f_81
  have f_90 := (hs.o gq_60 trivial rfl).1.trans f_90
  have f_97 := (hs.o gq_60 trivial rfl).1.trans f_97
  have f_118 := (hs.o gq_60 trivial rfl).1.trans f_118
  have f_120 := (hs.o gq_60 trivial rfl).1.trans f_120
  have f_128 := (hs.o gq_60 trivial rfl).1.trans f_128
  have f_129 := (hs.o gq_60 trivial rfl).1.trans f_129
  have f_130 := (hs.o gq_60 trivial rfl).1.trans f_130
  have f_131 := (hs.o gq_60 trivial rfl).1.trans f_131
  have f_132 := (hs.o gq_60 trivial rfl).1.trans f_132
  have f_133 := (hs.o gq_60 trivial rfl).1.trans f_133
  have f_136 := (hs.o gq_60 trivial rfl).1.trans f_136
  have f_144 := (hs.o gq_60 trivial rfl).1.trans f_144
  have f_145 := (hs.o gq_60 trivial rfl).1.trans f_145
  have f_147 := (hs.o gq_60 trivial rfl).1.trans f_147
  have f_148 := (hs.o gq_60 trivial rfl).1.trans f_148
  have f_151 := (hs.o gq_60 trivial rfl).1.trans f_151
  have f_153 := (hs.o gq_60 trivial rfl).1.trans f_153
  have f_156 := (hs.o gq_60 trivial rfl).1.trans f_156
  have f_157 := (hs.o gq_60 trivial rfl).1.trans f_157
  have f_164 := (hs.o gq_60 trivial rfl).2.trans f_164
  have f_166 := (hs.o gq_60 trivial rfl).2.trans f_166
  have f_169 := (hs.o gq_60 trivial rfl).2.trans f_169
  have f_171 := (hs.o gq_60 trivial rfl).2.trans f_171
  have f_173 := (hs.o gq_60 trivial rfl).2.trans f_173
  have f_175 := (hs.o gq_60 trivial rfl).2.trans f_175
  have f_177 := (hs.o gq_60 trivial rfl).2.trans f_177
  have f_179 := (hs.o gq_60 trivial rfl).2.trans f_179
  have f_181 := (hs.o gq_60 trivial rfl).2.trans f_181
  have f_183 := (hs.o gq_60 trivial rfl).2.trans f_183
  have f_185 := (hs.o gq_60 trivial rfl).2.trans f_185
  have f_187 := (hs.o gq_60 trivial rfl).2.trans f_187
  have f_189 := (hs.o gq_60 trivial rfl).2.trans f_189
  have f_191 := (hs.o gq_60 trivial rfl).2.trans f_191
  have f_193 := (hs.o gq_60 trivial rfl).2.trans f_193
  have fa_36 : ∀ j, j < 14 → _ = P_wo j := fun j hj => (hs.a gq_34 rfl j).1.trans (fa_36 j hj)
  have fa_167 : ∀ j, j < 13 → _ = P_w1 j := fun j hj => (hs.a gq_165 rfl j).1.trans (fa_167 j hj)
  have gq_2 := gq_2.S hs
  have gq_27 := gq_27.S hs
  have gq_29 := gq_29.S hs
  have gq_31 := gq_31.S hs
  have gq_34 := gq_34.S hs
  have gq_37 := gq_37.S hs
  have gq_39 := gq_39.S hs
  have gq_41 := gq_41.S hs
  have gq_44 := gq_44.S hs
  have gq_47 := gq_47.S hs
  have gq_50 := gq_50.S hs
  have gq_53 := gq_53.S hs
  have gq_55 := gq_55.S hs
  have gq_60 := gq_60.S hs
  have gq_163 := gq_163.S hs
  have gq_165 := gq_165.S hs
  have gq_168 := gq_168.S hs
  have gq_170 := gq_170.S hs
  have gq_172 := gq_172.S hs
  have gq_174 := gq_174.S hs
  have gq_176 := gq_176.S hs
  have gq_178 := gq_178.S hs
  have gq_180 := gq_180.S hs
  have gq_182 := gq_182.S hs
  have gq_184 := gq_184.S hs
  have gq_186 := gq_186.S hs
  have gq_188 := gq_188.S hs
  have gq_190 := gq_190.S hs
  have gq_192 := gq_192.S hs
  refine lv_aload_n hx hb dL_law_267 rfl (lv_at hl 1 rfl) ?_
  refine lv_aload_n hx hb dL_law_268 rfl (lv_at hl 3 rfl) ?_
  refine lv_iload_n hx hb dL_law_269 rfl (lv_at hl 0 rfl) ?_
  refine lv_iconst (v := 1) hx hb dL_law_270 (by decide) ?_
  refine lv_iadd hx hb dL_law_271 ?_
  refine lv_topi (fun x_239 ex_239 => ?_)
  obtain rfl : x_239 = (1 : Int32) := ex_239.trans (by decide)
  refine va_sld hx hb hX hbl hbA hW.2.2.2.1 (vp_in_iff.mpr (by rw [hL7]; decide)) dL_law_272 ?_
  rw [show (1 : Int32).toNatClampNeg = 1 from by decide]
  refine hx_goi (hx_runV (As := [.int (xs 1)]) (rest := [.int r_236]) ⟨hx, hb, hml, hown, hts⟩ hW gq_60 td_10 (T := TX10) (N := 98) rfl (c_X10_end l dC dI dA L_234 h_235 H.size q_60 (xs 1) gq_60 f_68) (cwV 1 hts (hx_gV kw_1457 kw_1454 kw_1455 kw_1456 kw_103) rfl rfl rfl (by decide +kernel) ⟨Nat.le_of_ble_eq_true rfl, Nat.le_of_ble_eq_true rfl⟩) rfl hl.1 rfl (Nat.le_of_ble_eq_true rfl) dL_law_273 ⟨Nat.le_of_ble_eq_true rfl, Nat.le_of_ble_eq_true rfl⟩) hW (fun r_242 L_240 h_241 H locs p_243 hW => ?_)
  obtain ⟨hr_244, hs⟩ := p_243
  have hs : hx_S P_tb [(10, 7)] L_234 h_235 L_240 h_241 := hs
  have f_5 := (hs.o gq_2 trivial rfl).1.trans f_5
  have f_9 := (hs.o gq_2 trivial rfl).1.trans f_9
  have f_11 := (hs.o gq_2 trivial rfl).1.trans f_11
  have f_14 := (hs.o gq_2 trivial rfl).1.trans f_14
  have f_16 := (hs.o gq_2 trivial rfl).1.trans f_16
  have f_28 := (hs.o gq_2 trivial rfl).2.trans f_28
  have f_30 := (hs.o gq_2 trivial rfl).2.trans f_30
  have f_32 := (hs.o gq_2 trivial rfl).2.trans f_32
  have f_33 := (hs.o gq_31 trivial rfl).1.trans f_33
  have f_35 := (hs.o gq_31 trivial rfl).2.trans f_35
  have f_38 := (hs.o gq_2 trivial rfl).2.trans f_38
  have f_40 := (hs.o gq_2 trivial rfl).2.trans f_40
  have f_42 := (hs.o gq_2 trivial rfl).2.trans f_42
  have f_43 := (hs.o gq_41 trivial rfl).1.trans f_43
  have f_45 := (hs.o gq_2 trivial rfl).2.trans f_45
  have f_46 := (hs.o gq_44 trivial rfl).1.trans f_46
  have f_48 := (hs.o gq_2 trivial rfl).2.trans f_48
  have f_49 := (hs.o gq_47 trivial rfl).1.trans f_49
  have f_51 := (hs.o gq_2 trivial rfl).2.trans f_51
  have f_52 := (hs.o gq_50 trivial rfl).1.trans f_52
  have f_54 := (hs.o gq_50 trivial rfl).2.trans f_54
  have f_56 := (hs.o gq_2 trivial rfl).2.trans f_56
  have f_57 := (hs.o gq_55 trivial rfl).1.trans f_57
  have f_58 := (hs.o gq_55 trivial rfl).1.trans f_58
  have f_61 := (hs.o gq_60 trivial rfl).1.trans f_61
  have f_62 := (hs.o gq_60 trivial rfl).1.trans f_62
  have f_69 := (hs.o gq_60 trivial rfl).1.trans f_69
  have f_70 := (hs.o gq_60 trivial rfl).1.trans f_70
  have f_71 := (hs.o gq_60 trivial rfl).1.trans f_71
  have f_72 := (hs.o gq_60 trivial rfl).1.trans f_72
  have f_74 := (hs.o gq_60 trivial rfl).1.trans f_74
  have f_81 := (hs.o gq_60 trivial rfl).1.trans f_81
  have f_90 := (hs.o gq_60 trivial rfl).1.trans f_90
  have f_97 := (hs.o gq_60 trivial rfl).1.trans f_97
  have f_118 := (hs.o gq_60 trivial rfl).1.trans f_118
  have f_120 := (hs.o gq_60 trivial rfl).1.trans f_120
  have f_128 := (hs.o gq_60 trivial rfl).1.trans f_128
  have f_129 := (hs.o gq_60 trivial rfl).1.trans f_129
  have f_130 := (hs.o gq_60 trivial rfl).1.trans f_130
  have f_131 := (hs.o gq_60 trivial rfl).1.trans f_131
  have f_132 := (hs.o gq_60 trivial rfl).1.trans f_132
  have f_133 := (hs.o gq_60 trivial rfl).1.trans f_133
  have f_136 := (hs.o gq_60 trivial rfl).1.trans f_136
  have f_144 := (hs.o gq_60 trivial rfl).1.trans f_144
  have f_145 := (hs.o gq_60 trivial rfl).1.trans f_145
  have f_147 := (hs.o gq_60 trivial rfl).1.trans f_147
  have f_148 := (hs.o gq_60 trivial rfl).1.trans f_148
  have f_151 := (hs.o gq_60 trivial rfl).1.trans f_151
  have f_153 := (hs.o gq_60 trivial rfl).1.trans f_153
  have f_156 := (hs.o gq_60 trivial rfl).1.trans f_156
  have f_157 := (hs.o gq_60 trivial rfl).1.trans f_157
  have f_164 := (hs.o gq_60 trivial rfl).2.trans f_164
  have f_166 := (hs.o gq_60 trivial rfl).2.trans f_166
  have f_169 := (hs.o gq_60 trivial rfl).2.trans f_169
  have f_171 := (hs.o gq_60 trivial rfl).2.trans f_171
  have f_173 := (hs.o gq_60 trivial rfl).2.trans f_173
  have f_175 := (hs.o gq_60 trivial rfl).2.trans f_175
  have f_177 := (hs.o gq_60 trivial rfl).2.trans f_177
  have f_179 := (hs.o gq_60 trivial rfl).2.trans f_179
  have f_181 := (hs.o gq_60 trivial rfl).2.trans f_181
  have f_183 := (hs.o gq_60 trivial rfl).2.trans f_183
  have f_185 := (hs.o gq_60 trivial rfl).2.trans f_185
  have f_187 := (hs.o gq_60 trivial rfl).2.trans f_187
  have f_189 := (hs.o gq_60 trivial rfl).2.trans f_189
  have f_191 := (hs.o gq_60 trivial rfl).2.trans f_191
  have f_193 := (hs.o gq_60 trivial rfl).2.trans f_193
  have fa_36 : ∀ j, j < 14 → _ = P_wo j := fun j hj => (hs.a gq_34 rfl j).1.trans (fa_36 j hj)
  have fa_167 : ∀ j, j < 13 → _ = P_w1 j := fun j hj => (hs.a gq_165 rfl j).1.trans (fa_167 j hj)
  have gq_2 := gq_2.S hs
  have gq_27 := gq_27.S hs
  have gq_29 := gq_29.S hs
  have gq_31 := gq_31.S hs
  have gq_34 := gq_34.S hs
  have gq_37 := gq_37.S hs
  have gq_39 := gq_39.S hs
  have gq_41 := gq_41.S hs
  have gq_44 := gq_44.S hs
  have gq_47 := gq_47.S hs
  have gq_50 := gq_50.S hs
  have gq_53 := gq_53.S hs
  have gq_55 := gq_55.S hs
  have gq_60 := gq_60.S hs
  have gq_163 := gq_163.S hs
  have gq_165 := gq_165.S hs
  have gq_168 := gq_168.S hs
  have gq_170 := gq_170.S hs
  have gq_172 := gq_172.S hs
  have gq_174 := gq_174.S hs
  have gq_176 := gq_176.S hs
  have gq_178 := gq_178.S hs
  have gq_180 := gq_180.S hs
  have gq_182 := gq_182.S hs
  have gq_184 := gq_184.S hs
  have gq_186 := gq_186.S hs
  have gq_188 := gq_188.S hs
  have gq_190 := gq_190.S hs
  have gq_192 := gq_192.S hs
  have heq : r_236 = r_242 := by
    first | exact hr_238.trans hr_244.symm | (rcases hr_238 with ⟨k1, k2⟩ | ⟨k1, k2⟩ <;> rcases hr_244 with ⟨k3, k4⟩ | ⟨k3, k4⟩ <;> first | exact k2.trans k4.symm | (exfalso; omega) | exact absurd k1 k3 | exact absurd k3 k1)
  refine hb_icmp_eq (zx := r_236.toInt) (zy := r_242.toInt) (tgt := 1379) hx hb rfl rfl dL_law_276 (by decide) (fun c_245 => ?_) (fun c_245 => absurd (congrArg Int32.toInt heq) c_245)
  exact law_tail hx hb hr hlocks hX hbl hbA hL7 _ _ hW.2.2.2.1 ls hl (Nat.le_of_ble_eq_true rfl) (Nat.le_of_ble_eq_true rfl)

set_option maxHeartbeats 4000000 in
set_option maxRecDepth 100000 in
theorem law_case_3 {p : Program} {e : Env} {s : State} {m : MethodId} {below : List Frame} {meth : Method} {c : Code} (l : Launch) {b LN : Nat} {xs : Nat → Int32} (hx : p.tables.exec = Jvm.exec) (hb : c.code = code) (hr : meth.sig.returnType = ret) (hlocks : meth.locks = false) (hml : c.maxLocals = 4) (hown : s.vm.findClass "SmallCourtLaw" = some m.cls) (hts : ∀ w ∈ hx_all, w.before #[Value.ref b] s = true) (hX : va_X b LN xs s s.heap) (hbl : b < s.heap.size) (hbA : ¬ s.heap.size ≤ b) (hL7 : LN = 7) (dC : Nat → ClassId) (dI : Nat → Nat → Nat) (dA : Nat → ClassId) (b0 : Nat) (q_2 q_27 q_29 q_31 q_34 q_37 q_39 q_41 q_44 q_47 q_50 q_53 q_55 q_60 q_163 q_165 q_168 q_170 q_172 q_174 q_176 q_178 q_180 q_182 q_184 q_186 q_188 q_190 q_192 : Nat) (L1 : List Nat) (hl1 : hx_h) (H : Heap) (locs : List Loc) (ls : Array Slot) (hW : hx_W P_tb (P_ty dA) (dC, dI) vwCl (fun q : Nat => s.heap.size ≤ q) s.heap L1 hl1 s H locs) (hZ : hx_Xt (fun q : Nat => s.heap.size ≤ q) b0 s) (f_4 : hl1.2.1 q_2 1 = (0 : Int32)) (f_5 : hl1.2.1 q_2 2 = (0 : Int32)) (f_9 : hl1.2.1 q_2 6 = (0 : Int32)) (f_11 : hl1.2.1 q_2 8 = (0 : Int32)) (f_14 : hl1.2.1 q_2 11 = (0 : Int32)) (f_16 : hl1.2.1 q_2 13 = (0 : Int32)) (f_28 : hl1.2.2 q_2 0 = some q_27) (f_30 : hl1.2.2 q_2 3 = some q_29) (f_32 : hl1.2.2 q_2 4 = some q_31) (f_33 : hl1.2.1 q_31 0 = (-1 : Int32)) (f_35 : hl1.2.2 q_31 2 = some q_34) (f_38 : hl1.2.2 q_2 5 = some q_37) (f_40 : hl1.2.2 q_2 7 = some q_39) (f_42 : hl1.2.2 q_2 9 = some q_41) (f_43 : hl1.2.1 q_41 0 = (0 : Int32)) (f_45 : hl1.2.2 q_2 14 = some q_44) (f_46 : hl1.2.1 q_44 0 = (0 : Int32)) (f_48 : hl1.2.2 q_2 17 = some q_47) (f_49 : hl1.2.1 q_47 1 = (0 : Int32)) (f_51 : hl1.2.2 q_2 18 = some q_50) (f_52 : hl1.2.1 q_50 0 = (-1 : Int32)) (f_54 : hl1.2.2 q_50 5 = some q_53) (f_56 : hl1.2.2 q_2 19 = some q_55) (f_57 : hl1.2.1 q_55 0 = (0 : Int32)) (f_58 : hl1.2.1 q_55 1 = (0 : Int32)) (f_61 : hl1.2.1 q_60 0 = (0 : Int32)) (f_62 : hl1.2.1 q_60 1 = (0 : Int32)) (f_68 : hl1.2.1 q_60 7 = (0 : Int32)) (f_69 : hl1.2.1 q_60 8 = (0 : Int32)) (f_70 : hl1.2.1 q_60 9 = (0 : Int32)) (f_71 : hl1.2.1 q_60 10 = (0 : Int32)) (f_72 : hl1.2.1 q_60 11 = (0 : Int32)) (f_74 : hl1.2.1 q_60 13 = (0 : Int32)) (f_81 : hl1.2.1 q_60 20 = (0 : Int32)) (f_90 : hl1.2.1 q_60 29 = (0 : Int32)) (f_97 : hl1.2.1 q_60 36 = (0 : Int32)) (f_118 : hl1.2.1 q_60 57 = (0 : Int32)) (f_120 : hl1.2.1 q_60 59 = (0 : Int32)) (f_128 : hl1.2.1 q_60 67 = (0 : Int32)) (f_129 : hl1.2.1 q_60 68 = (0 : Int32)) (f_130 : hl1.2.1 q_60 69 = (0 : Int32)) (f_131 : hl1.2.1 q_60 70 = (0 : Int32)) (f_132 : hl1.2.1 q_60 71 = (0 : Int32)) (f_133 : hl1.2.1 q_60 72 = (0 : Int32)) (f_136 : hl1.2.1 q_60 75 = (0 : Int32)) (f_144 : hl1.2.1 q_60 83 = (0 : Int32)) (f_145 : hl1.2.1 q_60 84 = (0 : Int32)) (f_147 : hl1.2.1 q_60 86 = (0 : Int32)) (f_148 : hl1.2.1 q_60 87 = (0 : Int32)) (f_151 : hl1.2.1 q_60 90 = (0 : Int32)) (f_153 : hl1.2.1 q_60 92 = (0 : Int32)) (f_156 : hl1.2.1 q_60 95 = (0 : Int32)) (f_157 : hl1.2.1 q_60 96 = (0 : Int32)) (f_164 : hl1.2.2 q_60 2 = some q_163) (f_166 : hl1.2.2 q_60 3 = some q_165) (f_169 : hl1.2.2 q_60 4 = some q_168) (f_171 : hl1.2.2 q_60 5 = some q_170) (f_173 : hl1.2.2 q_60 6 = some q_172) (f_175 : hl1.2.2 q_60 12 = some q_174) (f_177 : hl1.2.2 q_60 15 = some q_176) (f_179 : hl1.2.2 q_60 21 = some q_178) (f_181 : hl1.2.2 q_60 22 = some q_180) (f_183 : hl1.2.2 q_60 23 = some q_182) (f_185 : hl1.2.2 q_60 24 = some q_184) (f_187 : hl1.2.2 q_60 25 = some q_186) (f_189 : hl1.2.2 q_60 26 = some q_188) (f_191 : hl1.2.2 q_60 82 = some q_190) (f_193 : hl1.2.2 q_60 94 = some q_192) (fa_36 : ∀ j, j < 14 → hl1.2.1 q_34 j = P_wo j) (fa_167 : ∀ j, j < 13 → hl1.2.1 q_165 j = P_w1 j) (gq_2 : hx_g L1 hl1 q_2 9) (gq_27 : hx_g L1 hl1 q_27 42) (gq_29 : hx_g L1 hl1 q_29 6) (gq_31 : hx_g L1 hl1 q_31 0) (gq_34 : hx_g L1 hl1 q_34 11) (gq_37 : hx_g L1 hl1 q_37 43) (gq_39 : hx_g L1 hl1 q_39 44) (gq_41 : hx_g L1 hl1 q_41 1) (gq_44 : hx_g L1 hl1 q_44 3) (gq_47 : hx_g L1 hl1 q_47 5) (gq_50 : hx_g L1 hl1 q_50 7) (gq_53 : hx_g L1 hl1 q_53 36) (gq_55 : hx_g L1 hl1 q_55 8) (gq_60 : hx_g L1 hl1 q_60 10) (gq_163 : hx_g L1 hl1 q_163 49) (gq_165 : hx_g L1 hl1 q_165 50) (gq_168 : hx_g L1 hl1 q_168 51) (gq_170 : hx_g L1 hl1 q_170 52) (gq_172 : hx_g L1 hl1 q_172 53) (gq_174 : hx_g L1 hl1 q_174 54) (gq_176 : hx_g L1 hl1 q_176 55) (gq_178 : hx_g L1 hl1 q_178 58) (gq_180 : hx_g L1 hl1 q_180 59) (gq_182 : hx_g L1 hl1 q_182 60) (gq_184 : hx_g L1 hl1 q_184 61) (gq_186 : hx_g L1 hl1 q_186 62) (gq_188 : hx_g L1 hl1 q_188 63) (gq_190 : hx_g L1 hl1 q_190 108) (gq_192 : hx_g L1 hl1 q_192 114) (hl : lv_has ls 4 [(3, .int (0 : Int32)), (2, .ref q_60), (1, .ref q_2), (0, .ref b)]) : W p l e room_1 s m #[Value.ref b] below meth c H locs 112 26072 (lw_Z below #[Value.ref b] s) (F0 m 281 ls []) := by
  refine lv_aload_n hx hb dL_law_281 rfl (lv_at hl 2 rfl) ?_
  refine lv_aload_n hx hb dL_law_282 rfl (lv_at hl 3 rfl) ?_
  refine lv_iload_n hx hb dL_law_283 rfl (lv_at hl 0 rfl) ?_
  refine lv_iconst (v := 1) hx hb dL_law_284 (by decide) ?_
  refine lv_iadd hx hb dL_law_285 ?_
  refine lv_topi (fun x_246 ex_246 => ?_)
  obtain rfl : x_246 = (1 : Int32) := ex_246.trans (by decide)
  refine va_sld hx hb hX hbl hbA hW.2.2.2.1 (vp_in_iff.mpr (by rw [hL7]; decide)) dL_law_286 ?_
  rw [show (1 : Int32).toNatClampNeg = 1 from by decide]
  refine hx_goi (hx_runVX (As := [.int (xs 1)]) (rest := []) ⟨hx, hb, hml, hown, hts⟩ hW gq_2 td_9 (T := TX9) (N := 20) rfl (c_X9_act l dC dI dA L1 hl1 H.size b0 q_2 (xs 1) gq_2 f_9 f_4 q_29 gq_29 f_30 q_27 gq_27 f_28 q_37 gq_37 f_38) hZ (cwV 1 hts (hx_gV kw_450 kw_447 kw_448 kw_449 kw_94) rfl rfl rfl (by decide +kernel) ⟨Nat.le_of_ble_eq_true rfl, Nat.le_of_ble_eq_true rfl⟩) rfl hl.1 rfl (Nat.le_of_ble_eq_true rfl) dL_law_287 ⟨Nat.le_of_ble_eq_true rfl, Nat.le_of_ble_eq_true rfl⟩) hW (fun r_249 L_247 h_248 H locs p_250 hW => ?_)
  obtain ⟨hr_251, hs⟩ := p_250
  have hs : hx_S P_tb [(0, 0), (0, 1), (0, 2), (0, 3), (0, 4), (6, 0), (6, 1), (6, 2), (6, 3), (6, 4), (6, 5), (6, 6), (9, 1), (9, 6), (11, 0), (12, 0), (43, 0)] L1 hl1 L_247 h_248 := hs
  have f_5 := (hs.o gq_2 trivial rfl).1.trans f_5
  have f_11 := (hs.o gq_2 trivial rfl).1.trans f_11
  have f_14 := (hs.o gq_2 trivial rfl).1.trans f_14
  have f_16 := (hs.o gq_2 trivial rfl).1.trans f_16
  have f_28 := (hs.o gq_2 trivial rfl).2.trans f_28
  have f_30 := (hs.o gq_2 trivial rfl).2.trans f_30
  have f_32 := (hs.o gq_2 trivial rfl).2.trans f_32
  have f_38 := (hs.o gq_2 trivial rfl).2.trans f_38
  have f_40 := (hs.o gq_2 trivial rfl).2.trans f_40
  have f_42 := (hs.o gq_2 trivial rfl).2.trans f_42
  have f_43 := (hs.o gq_41 trivial rfl).1.trans f_43
  have f_45 := (hs.o gq_2 trivial rfl).2.trans f_45
  have f_46 := (hs.o gq_44 trivial rfl).1.trans f_46
  have f_48 := (hs.o gq_2 trivial rfl).2.trans f_48
  have f_49 := (hs.o gq_47 trivial rfl).1.trans f_49
  have f_51 := (hs.o gq_2 trivial rfl).2.trans f_51
  have f_52 := (hs.o gq_50 trivial rfl).1.trans f_52
  have f_54 := (hs.o gq_50 trivial rfl).2.trans f_54
  have f_56 := (hs.o gq_2 trivial rfl).2.trans f_56
  have f_57 := (hs.o gq_55 trivial rfl).1.trans f_57
  have f_58 := (hs.o gq_55 trivial rfl).1.trans f_58
  have f_61 := (hs.o gq_60 trivial rfl).1.trans f_61
  have f_62 := (hs.o gq_60 trivial rfl).1.trans f_62
  have f_68 := (hs.o gq_60 trivial rfl).1.trans f_68
  have f_69 := (hs.o gq_60 trivial rfl).1.trans f_69
  have f_70 := (hs.o gq_60 trivial rfl).1.trans f_70
  have f_71 := (hs.o gq_60 trivial rfl).1.trans f_71
  have f_72 := (hs.o gq_60 trivial rfl).1.trans f_72
  have f_74 := (hs.o gq_60 trivial rfl).1.trans f_74
  have f_81 := (hs.o gq_60 trivial rfl).1.trans f_81
  have f_90 := (hs.o gq_60 trivial rfl).1.trans f_90
  have f_97 := (hs.o gq_60 trivial rfl).1.trans f_97
  have f_118 := (hs.o gq_60 trivial rfl).1.trans f_118
  have f_120 := (hs.o gq_60 trivial rfl).1.trans f_120
  have f_128 := (hs.o gq_60 trivial rfl).1.trans f_128
  have f_129 := (hs.o gq_60 trivial rfl).1.trans f_129
  have f_130 := (hs.o gq_60 trivial rfl).1.trans f_130
  have f_131 := (hs.o gq_60 trivial rfl).1.trans f_131
  have f_132 := (hs.o gq_60 trivial rfl).1.trans f_132
  have f_133 := (hs.o gq_60 trivial rfl).1.trans f_133
  have f_136 := (hs.o gq_60 trivial rfl).1.trans f_136
  have f_144 := (hs.o gq_60 trivial rfl).1.trans f_144
  have f_145 := (hs.o gq_60 trivial rfl).1.trans f_145
  have f_147 := (hs.o gq_60 trivial rfl).1.trans f_147
  have f_148 := (hs.o gq_60 trivial rfl).1.trans f_148
  have f_151 := (hs.o gq_60 trivial rfl).1.trans f_151
  have f_153 := (hs.o gq_60 trivial rfl).1.trans f_153
  have f_156 := (hs.o gq_60 trivial rfl).1.trans f_156
  have f_157 := (hs.o gq_60 trivial rfl).1.trans f_157
  have f_164 := (hs.o gq_60 trivial rfl).2.trans f_164
  have f_166 := (hs.o gq_60 trivial rfl).2.trans f_166
  have f_169 := (hs.o gq_60 trivial rfl).2.trans f_169
  have f_171 := (hs.o gq_60 trivial rfl).2.trans f_171
  have f_173 := (hs.o gq_60 trivial rfl).2.trans f_173
  have f_175 := (hs.o gq_60 trivial rfl).2.trans f_175
  have f_177 := (hs.o gq_60 trivial rfl).2.trans f_177
  have f_179 := (hs.o gq_60 trivial rfl).2.trans f_179
  have f_181 := (hs.o gq_60 trivial rfl).2.trans f_181
  have f_183 := (hs.o gq_60 trivial rfl).2.trans f_183
  have f_185 := (hs.o gq_60 trivial rfl).2.trans f_185
  have f_187 := (hs.o gq_60 trivial rfl).2.trans f_187
  have f_189 := (hs.o gq_60 trivial rfl).2.trans f_189
  have f_191 := (hs.o gq_60 trivial rfl).2.trans f_191
  have f_193 := (hs.o gq_60 trivial rfl).2.trans f_193
  have fa_167 : ∀ j, j < 13 → _ = P_w1 j := fun j hj => (hs.a gq_165 rfl j).1.trans (fa_167 j hj)
  have gq_2 := gq_2.S hs
  have gq_27 := gq_27.S hs
  have gq_29 := gq_29.S hs
  have gq_31 := gq_31.S hs
  have gq_34 := gq_34.S hs
  have gq_37 := gq_37.S hs
  have gq_39 := gq_39.S hs
  have gq_41 := gq_41.S hs
  have gq_44 := gq_44.S hs
  have gq_47 := gq_47.S hs
  have gq_50 := gq_50.S hs
  have gq_53 := gq_53.S hs
  have gq_55 := gq_55.S hs
  have gq_60 := gq_60.S hs
  have gq_163 := gq_163.S hs
  have gq_165 := gq_165.S hs
  have gq_168 := gq_168.S hs
  have gq_170 := gq_170.S hs
  have gq_172 := gq_172.S hs
  have gq_174 := gq_174.S hs
  have gq_176 := gq_176.S hs
  have gq_178 := gq_178.S hs
  have gq_180 := gq_180.S hs
  have gq_182 := gq_182.S hs
  have gq_184 := gq_184.S hs
  have gq_186 := gq_186.S hs
  have gq_188 := gq_188.S hs
  have gq_190 := gq_190.S hs
  have gq_192 := gq_192.S hs
  refine lv_aload_n hx hb dL_law_290 rfl (lv_at hl 1 rfl) ?_
  refine lv_aload_n hx hb dL_law_291 rfl (lv_at hl 3 rfl) ?_
  refine lv_iload_n hx hb dL_law_292 rfl (lv_at hl 0 rfl) ?_
  refine lv_iconst (v := 1) hx hb dL_law_293 (by decide) ?_
  refine lv_iadd hx hb dL_law_294 ?_
  refine lv_topi (fun x_252 ex_252 => ?_)
  obtain rfl : x_252 = (1 : Int32) := ex_252.trans (by decide)
  refine va_sld hx hb hX hbl hbA hW.2.2.2.1 (vp_in_iff.mpr (by rw [hL7]; decide)) dL_law_295 ?_
  rw [show (1 : Int32).toNatClampNeg = 1 from by decide]
  refine hx_goi (hx_runV (As := [.int (xs 1)]) (rest := [.int r_249]) ⟨hx, hb, hml, hown, hts⟩ hW gq_60 td_10 (T := TX10) (N := 98) rfl (c_X10_act l dC dI dA L_247 h_248 H.size q_60 (xs 1) gq_60 f_62 f_68 q_174 gq_174 f_175 q_176 gq_176 f_177 q_168 gq_168 f_169 q_170 gq_170 f_171 q_163 gq_163 f_164 q_165 gq_165 f_166) (cwV 1 hts (hx_gV kw_1461 kw_1458 kw_1459 kw_1460 kw_103) rfl rfl rfl (by decide +kernel) ⟨Nat.le_of_ble_eq_true rfl, Nat.le_of_ble_eq_true rfl⟩) rfl hl.1 rfl (Nat.le_of_ble_eq_true rfl) dL_law_296 ⟨Nat.le_of_ble_eq_true rfl, Nat.le_of_ble_eq_true rfl⟩) hW (fun r_255 L_253 h_254 H locs p_256 hW => ?_)
  obtain ⟨hr_257, hs⟩ := p_256
  have hs : hx_S P_tb [(10, 1), (10, 7), (10, 8), (10, 9), (10, 13), (10, 14), (10, 16), (10, 18), (49, 0), (50, 0), (51, 0), (52, 0), (54, 0), (55, 0)] L_247 h_248 L_253 h_254 := hs
  have f_5 := (hs.o gq_2 trivial rfl).1.trans f_5
  have f_11 := (hs.o gq_2 trivial rfl).1.trans f_11
  have f_14 := (hs.o gq_2 trivial rfl).1.trans f_14
  have f_16 := (hs.o gq_2 trivial rfl).1.trans f_16
  have f_28 := (hs.o gq_2 trivial rfl).2.trans f_28
  have f_30 := (hs.o gq_2 trivial rfl).2.trans f_30
  have f_32 := (hs.o gq_2 trivial rfl).2.trans f_32
  have f_38 := (hs.o gq_2 trivial rfl).2.trans f_38
  have f_40 := (hs.o gq_2 trivial rfl).2.trans f_40
  have f_42 := (hs.o gq_2 trivial rfl).2.trans f_42
  have f_43 := (hs.o gq_41 trivial rfl).1.trans f_43
  have f_45 := (hs.o gq_2 trivial rfl).2.trans f_45
  have f_46 := (hs.o gq_44 trivial rfl).1.trans f_46
  have f_48 := (hs.o gq_2 trivial rfl).2.trans f_48
  have f_49 := (hs.o gq_47 trivial rfl).1.trans f_49
  have f_51 := (hs.o gq_2 trivial rfl).2.trans f_51
  have f_52 := (hs.o gq_50 trivial rfl).1.trans f_52
  have f_54 := (hs.o gq_50 trivial rfl).2.trans f_54
  have f_56 := (hs.o gq_2 trivial rfl).2.trans f_56
  have f_57 := (hs.o gq_55 trivial rfl).1.trans f_57
  have f_58 := (hs.o gq_55 trivial rfl).1.trans f_58
  have f_61 := (hs.o gq_60 trivial rfl).1.trans f_61
  have f_71 := (hs.o gq_60 trivial rfl).1.trans f_71
  have f_72 := (hs.o gq_60 trivial rfl).1.trans f_72
  have f_81 := (hs.o gq_60 trivial rfl).1.trans f_81
  have f_90 := (hs.o gq_60 trivial rfl).1.trans f_90
  have f_97 := (hs.o gq_60 trivial rfl).1.trans f_97
  have f_118 := (hs.o gq_60 trivial rfl).1.trans f_118
  have f_120 := (hs.o gq_60 trivial rfl).1.trans f_120
  have f_128 := (hs.o gq_60 trivial rfl).1.trans f_128
  have f_129 := (hs.o gq_60 trivial rfl).1.trans f_129
  have f_130 := (hs.o gq_60 trivial rfl).1.trans f_130
  have f_131 := (hs.o gq_60 trivial rfl).1.trans f_131
  have f_132 := (hs.o gq_60 trivial rfl).1.trans f_132
  have f_133 := (hs.o gq_60 trivial rfl).1.trans f_133
  have f_136 := (hs.o gq_60 trivial rfl).1.trans f_136
  have f_144 := (hs.o gq_60 trivial rfl).1.trans f_144
  have f_145 := (hs.o gq_60 trivial rfl).1.trans f_145
  have f_147 := (hs.o gq_60 trivial rfl).1.trans f_147
  have f_148 := (hs.o gq_60 trivial rfl).1.trans f_148
  have f_151 := (hs.o gq_60 trivial rfl).1.trans f_151
  have f_153 := (hs.o gq_60 trivial rfl).1.trans f_153
  have f_156 := (hs.o gq_60 trivial rfl).1.trans f_156
  have f_157 := (hs.o gq_60 trivial rfl).1.trans f_157
  have f_164 := (hs.o gq_60 trivial rfl).2.trans f_164
  have f_166 := (hs.o gq_60 trivial rfl).2.trans f_166
  have f_169 := (hs.o gq_60 trivial rfl).2.trans f_169
  have f_171 := (hs.o gq_60 trivial rfl).2.trans f_171
  have f_173 := (hs.o gq_60 trivial rfl).2.trans f_173
  have f_175 := (hs.o gq_60 trivial rfl).2.trans f_175
  have f_177 := (hs.o gq_60 trivial rfl).2.trans f_177
  have f_179 := (hs.o gq_60 trivial rfl).2.trans f_179
  have f_181 := (hs.o gq_60 trivial rfl).2.trans f_181
  have f_183 := (hs.o gq_60 trivial rfl).2.trans f_183
  have f_185 := (hs.o gq_60 trivial rfl).2.trans f_185
  have f_187 := (hs.o gq_60 trivial rfl).2.trans f_187
  have f_189 := (hs.o gq_60 trivial rfl).2.trans f_189
  have f_191 := (hs.o gq_60 trivial rfl).2.trans f_191
  have f_193 := (hs.o gq_60 trivial rfl).2.trans f_193
  have gq_2 := gq_2.S hs
  have gq_27 := gq_27.S hs
  have gq_29 := gq_29.S hs
  have gq_31 := gq_31.S hs
  have gq_34 := gq_34.S hs
  have gq_37 := gq_37.S hs
  have gq_39 := gq_39.S hs
  have gq_41 := gq_41.S hs
  have gq_44 := gq_44.S hs
  have gq_47 := gq_47.S hs
  have gq_50 := gq_50.S hs
  have gq_53 := gq_53.S hs
  have gq_55 := gq_55.S hs
  have gq_60 := gq_60.S hs
  have gq_163 := gq_163.S hs
  have gq_165 := gq_165.S hs
  have gq_168 := gq_168.S hs
  have gq_170 := gq_170.S hs
  have gq_172 := gq_172.S hs
  have gq_174 := gq_174.S hs
  have gq_176 := gq_176.S hs
  have gq_178 := gq_178.S hs
  have gq_180 := gq_180.S hs
  have gq_182 := gq_182.S hs
  have gq_184 := gq_184.S hs
  have gq_186 := gq_186.S hs
  have gq_188 := gq_188.S hs
  have gq_190 := gq_190.S hs
  have gq_192 := gq_192.S hs
  have heq : r_249 = r_255 := by
    first | exact hr_251.trans hr_257.symm | (rcases hr_251 with ⟨k1, k2⟩ | ⟨k1, k2⟩ <;> rcases hr_257 with ⟨k3, k4⟩ | ⟨k3, k4⟩ <;> first | exact k2.trans k4.symm | (exfalso; omega) | exact absurd k1 k3 | exact absurd k3 k1)
  refine hb_icmp_eq (zx := r_249.toInt) (zy := r_255.toInt) (tgt := 1379) hx hb rfl rfl dL_law_299 (by decide) (fun c_258 => ?_) (fun c_258 => absurd (congrArg Int32.toInt heq) c_258)
  exact law_tail hx hb hr hlocks hX hbl hbA hL7 _ _ hW.2.2.2.1 ls hl (Nat.le_of_ble_eq_true rfl) (Nat.le_of_ble_eq_true rfl)

set_option maxHeartbeats 4000000 in
set_option maxRecDepth 100000 in
theorem law_case_4 {p : Program} {e : Env} {s : State} {m : MethodId} {below : List Frame} {meth : Method} {c : Code} (l : Launch) {b LN : Nat} {xs : Nat → Int32} (hx : p.tables.exec = Jvm.exec) (hb : c.code = code) (hr : meth.sig.returnType = ret) (hlocks : meth.locks = false) (hml : c.maxLocals = 4) (hown : s.vm.findClass "SmallCourtLaw" = some m.cls) (hts : ∀ w ∈ hx_all, w.before #[Value.ref b] s = true) (hX : va_X b LN xs s s.heap) (hbl : b < s.heap.size) (hbA : ¬ s.heap.size ≤ b) (hL7 : LN = 7) (dC : Nat → ClassId) (dI : Nat → Nat → Nat) (dA : Nat → ClassId) (b0 : Nat) (q_2 q_27 q_29 q_31 q_34 q_37 q_39 q_41 q_44 q_47 q_50 q_53 q_55 q_60 q_163 q_165 q_168 q_170 q_172 q_174 q_176 q_178 q_180 q_182 q_184 q_186 q_188 q_190 q_192 : Nat) (L1 : List Nat) (hl1 : hx_h) (H : Heap) (locs : List Loc) (ls : Array Slot) (hW : hx_W P_tb (P_ty dA) (dC, dI) vwCl (fun q : Nat => s.heap.size ≤ q) s.heap L1 hl1 s H locs) (hZ : hx_Xt (fun q : Nat => s.heap.size ≤ q) b0 s) (f_4 : hl1.2.1 q_2 1 = (0 : Int32)) (f_5 : hl1.2.1 q_2 2 = (0 : Int32)) (f_9 : hl1.2.1 q_2 6 = (0 : Int32)) (f_11 : hl1.2.1 q_2 8 = (0 : Int32)) (f_14 : hl1.2.1 q_2 11 = (0 : Int32)) (f_16 : hl1.2.1 q_2 13 = (0 : Int32)) (f_28 : hl1.2.2 q_2 0 = some q_27) (f_30 : hl1.2.2 q_2 3 = some q_29) (f_32 : hl1.2.2 q_2 4 = some q_31) (f_33 : hl1.2.1 q_31 0 = (-1 : Int32)) (f_35 : hl1.2.2 q_31 2 = some q_34) (f_38 : hl1.2.2 q_2 5 = some q_37) (f_40 : hl1.2.2 q_2 7 = some q_39) (f_42 : hl1.2.2 q_2 9 = some q_41) (f_43 : hl1.2.1 q_41 0 = (0 : Int32)) (f_45 : hl1.2.2 q_2 14 = some q_44) (f_46 : hl1.2.1 q_44 0 = (0 : Int32)) (f_48 : hl1.2.2 q_2 17 = some q_47) (f_49 : hl1.2.1 q_47 1 = (0 : Int32)) (f_51 : hl1.2.2 q_2 18 = some q_50) (f_52 : hl1.2.1 q_50 0 = (-1 : Int32)) (f_54 : hl1.2.2 q_50 5 = some q_53) (f_56 : hl1.2.2 q_2 19 = some q_55) (f_57 : hl1.2.1 q_55 0 = (0 : Int32)) (f_58 : hl1.2.1 q_55 1 = (0 : Int32)) (f_61 : hl1.2.1 q_60 0 = (0 : Int32)) (f_62 : hl1.2.1 q_60 1 = (0 : Int32)) (f_68 : hl1.2.1 q_60 7 = (0 : Int32)) (f_69 : hl1.2.1 q_60 8 = (0 : Int32)) (f_70 : hl1.2.1 q_60 9 = (0 : Int32)) (f_71 : hl1.2.1 q_60 10 = (0 : Int32)) (f_72 : hl1.2.1 q_60 11 = (0 : Int32)) (f_74 : hl1.2.1 q_60 13 = (0 : Int32)) (f_81 : hl1.2.1 q_60 20 = (0 : Int32)) (f_90 : hl1.2.1 q_60 29 = (0 : Int32)) (f_97 : hl1.2.1 q_60 36 = (0 : Int32)) (f_118 : hl1.2.1 q_60 57 = (0 : Int32)) (f_120 : hl1.2.1 q_60 59 = (0 : Int32)) (f_128 : hl1.2.1 q_60 67 = (0 : Int32)) (f_129 : hl1.2.1 q_60 68 = (0 : Int32)) (f_130 : hl1.2.1 q_60 69 = (0 : Int32)) (f_131 : hl1.2.1 q_60 70 = (0 : Int32)) (f_132 : hl1.2.1 q_60 71 = (0 : Int32)) (f_133 : hl1.2.1 q_60 72 = (0 : Int32)) (f_136 : hl1.2.1 q_60 75 = (0 : Int32)) (f_144 : hl1.2.1 q_60 83 = (0 : Int32)) (f_145 : hl1.2.1 q_60 84 = (0 : Int32)) (f_147 : hl1.2.1 q_60 86 = (0 : Int32)) (f_148 : hl1.2.1 q_60 87 = (0 : Int32)) (f_151 : hl1.2.1 q_60 90 = (0 : Int32)) (f_153 : hl1.2.1 q_60 92 = (0 : Int32)) (f_156 : hl1.2.1 q_60 95 = (0 : Int32)) (f_157 : hl1.2.1 q_60 96 = (0 : Int32)) (f_164 : hl1.2.2 q_60 2 = some q_163) (f_166 : hl1.2.2 q_60 3 = some q_165) (f_169 : hl1.2.2 q_60 4 = some q_168) (f_171 : hl1.2.2 q_60 5 = some q_170) (f_173 : hl1.2.2 q_60 6 = some q_172) (f_175 : hl1.2.2 q_60 12 = some q_174) (f_177 : hl1.2.2 q_60 15 = some q_176) (f_179 : hl1.2.2 q_60 21 = some q_178) (f_181 : hl1.2.2 q_60 22 = some q_180) (f_183 : hl1.2.2 q_60 23 = some q_182) (f_185 : hl1.2.2 q_60 24 = some q_184) (f_187 : hl1.2.2 q_60 25 = some q_186) (f_189 : hl1.2.2 q_60 26 = some q_188) (f_191 : hl1.2.2 q_60 82 = some q_190) (f_193 : hl1.2.2 q_60 94 = some q_192) (fa_36 : ∀ j, j < 14 → hl1.2.1 q_34 j = P_wo j) (fa_167 : ∀ j, j < 13 → hl1.2.1 q_165 j = P_w1 j) (gq_2 : hx_g L1 hl1 q_2 9) (gq_27 : hx_g L1 hl1 q_27 42) (gq_29 : hx_g L1 hl1 q_29 6) (gq_31 : hx_g L1 hl1 q_31 0) (gq_34 : hx_g L1 hl1 q_34 11) (gq_37 : hx_g L1 hl1 q_37 43) (gq_39 : hx_g L1 hl1 q_39 44) (gq_41 : hx_g L1 hl1 q_41 1) (gq_44 : hx_g L1 hl1 q_44 3) (gq_47 : hx_g L1 hl1 q_47 5) (gq_50 : hx_g L1 hl1 q_50 7) (gq_53 : hx_g L1 hl1 q_53 36) (gq_55 : hx_g L1 hl1 q_55 8) (gq_60 : hx_g L1 hl1 q_60 10) (gq_163 : hx_g L1 hl1 q_163 49) (gq_165 : hx_g L1 hl1 q_165 50) (gq_168 : hx_g L1 hl1 q_168 51) (gq_170 : hx_g L1 hl1 q_170 52) (gq_172 : hx_g L1 hl1 q_172 53) (gq_174 : hx_g L1 hl1 q_174 54) (gq_176 : hx_g L1 hl1 q_176 55) (gq_178 : hx_g L1 hl1 q_178 58) (gq_180 : hx_g L1 hl1 q_180 59) (gq_182 : hx_g L1 hl1 q_182 60) (gq_184 : hx_g L1 hl1 q_184 61) (gq_186 : hx_g L1 hl1 q_186 62) (gq_188 : hx_g L1 hl1 q_188 63) (gq_190 : hx_g L1 hl1 q_190 108) (gq_192 : hx_g L1 hl1 q_192 114) (hl : lv_has ls 4 [(3, .int (0 : Int32)), (2, .ref q_60), (1, .ref q_2), (0, .ref b)]) : W p l e room_1 s m #[Value.ref b] below meth c H locs 112 26072 (lw_Z below #[Value.ref b] s) (F0 m 304 ls []) := by
  refine lv_aload_n hx hb dL_law_304 rfl (lv_at hl 2 rfl) ?_
  refine lv_aload_n hx hb dL_law_305 rfl (lv_at hl 3 rfl) ?_
  refine lv_iload_n hx hb dL_law_306 rfl (lv_at hl 0 rfl) ?_
  refine lv_iconst (v := 1) hx hb dL_law_307 (by decide) ?_
  refine lv_iadd hx hb dL_law_308 ?_
  refine lv_topi (fun x_259 ex_259 => ?_)
  obtain rfl : x_259 = (1 : Int32) := ex_259.trans (by decide)
  refine va_sld hx hb hX hbl hbA hW.2.2.2.1 (vp_in_iff.mpr (by rw [hL7]; decide)) dL_law_309 ?_
  rw [show (1 : Int32).toNatClampNeg = 1 from by decide]
  refine lv_aload_n hx hb dL_law_310 rfl (lv_at hl 3 rfl) ?_
  refine lv_iload_n hx hb dL_law_311 rfl (lv_at hl 0 rfl) ?_
  refine lv_iconst (v := 2) hx hb dL_law_312 (by decide) ?_
  refine lv_iadd hx hb dL_law_313 ?_
  refine lv_topi (fun x_260 ex_260 => ?_)
  obtain rfl : x_260 = (2 : Int32) := ex_260.trans (by decide)
  refine va_sld hx hb hX hbl hbA hW.2.2.2.1 (vp_in_iff.mpr (by rw [hL7]; decide)) dL_law_314 ?_
  rw [show (2 : Int32).toNatClampNeg = 2 from by decide]
  refine hx_goi (hx_runV (As := [.int (xs 1), .int (xs 2)]) (rest := []) ⟨hx, hb, hml, hown, hts⟩ hW gq_2 td_9 (T := TX9) (N := 20) rfl (c_X9_force l dC dI dA L1 hl1 H.size q_2 (xs 1) (xs 2) gq_2 f_9 q_31 gq_31 f_32 f_33 q_34 gq_34 f_35 fa_36) (cwV 2 hts (hx_gV kw_593 kw_590 kw_591 kw_592 kw_94) rfl rfl rfl (by decide +kernel) ⟨Nat.le_of_ble_eq_true rfl, Nat.le_of_ble_eq_true rfl⟩) rfl hl.1 rfl (Nat.le_of_ble_eq_true rfl) dL_law_315 ⟨Nat.le_of_ble_eq_true rfl, Nat.le_of_ble_eq_true rfl⟩) hW (fun r_263 L_261 h_262 H locs p_264 hW => ?_)
  obtain ⟨hr_265, hs⟩ := p_264
  have hs : hx_S P_tb [] L1 hl1 L_261 h_262 := hs
  have f_4 := (hs.o gq_2 trivial rfl).1.trans f_4
  have f_5 := (hs.o gq_2 trivial rfl).1.trans f_5
  have f_9 := (hs.o gq_2 trivial rfl).1.trans f_9
  have f_11 := (hs.o gq_2 trivial rfl).1.trans f_11
  have f_14 := (hs.o gq_2 trivial rfl).1.trans f_14
  have f_16 := (hs.o gq_2 trivial rfl).1.trans f_16
  have f_28 := (hs.o gq_2 trivial rfl).2.trans f_28
  have f_30 := (hs.o gq_2 trivial rfl).2.trans f_30
  have f_32 := (hs.o gq_2 trivial rfl).2.trans f_32
  have f_33 := (hs.o gq_31 trivial rfl).1.trans f_33
  have f_35 := (hs.o gq_31 trivial rfl).2.trans f_35
  have f_38 := (hs.o gq_2 trivial rfl).2.trans f_38
  have f_40 := (hs.o gq_2 trivial rfl).2.trans f_40
  have f_42 := (hs.o gq_2 trivial rfl).2.trans f_42
  have f_43 := (hs.o gq_41 trivial rfl).1.trans f_43
  have f_45 := (hs.o gq_2 trivial rfl).2.trans f_45
  have f_46 := (hs.o gq_44 trivial rfl).1.trans f_46
  have f_48 := (hs.o gq_2 trivial rfl).2.trans f_48
  have f_49 := (hs.o gq_47 trivial rfl).1.trans f_49
  have f_51 := (hs.o gq_2 trivial rfl).2.trans f_51
  have f_52 := (hs.o gq_50 trivial rfl).1.trans f_52
  have f_54 := (hs.o gq_50 trivial rfl).2.trans f_54
  have f_56 := (hs.o gq_2 trivial rfl).2.trans f_56
  have f_57 := (hs.o gq_55 trivial rfl).1.trans f_57
  have f_58 := (hs.o gq_55 trivial rfl).1.trans f_58
  have f_61 := (hs.o gq_60 trivial rfl).1.trans f_61
  have f_62 := (hs.o gq_60 trivial rfl).1.trans f_62
  have f_68 := (hs.o gq_60 trivial rfl).1.trans f_68
  have f_69 := (hs.o gq_60 trivial rfl).1.trans f_69
  have f_70 := (hs.o gq_60 trivial rfl).1.trans f_70
  have f_71 := (hs.o gq_60 trivial rfl).1.trans f_71
  have f_72 := (hs.o gq_60 trivial rfl).1.trans f_72
  have f_74 := (hs.o gq_60 trivial rfl).1.trans f_74
  have f_81 := (hs.o gq_60 trivial rfl).1.trans f_81
  have f_90 := (hs.o gq_60 trivial rfl).1.trans f_90
  have f_97 := (hs.o gq_60 trivial rfl).1.trans f_97
  have f_118 := (hs.o gq_60 trivial rfl).1.trans f_118
  have f_120 := (hs.o gq_60 trivial rfl).1.trans f_120
  have f_128 := (hs.o gq_60 trivial rfl).1.trans f_128
  have f_129 := (hs.o gq_60 trivial rfl).1.trans f_129
  have f_130 := (hs.o gq_60 trivial rfl).1.trans f_130
  have f_131 := (hs.o gq_60 trivial rfl).1.trans f_131
  have f_132 := (hs.o gq_60 trivial rfl).1.trans f_132
  have f_133 := (hs.o gq_60 trivial rfl).1.trans f_133
  have f_136 := (hs.o gq_60 trivial rfl).1.trans f_136
  have f_144 := (hs.o gq_60 trivial rfl).1.trans f_144
  have f_145 := (hs.o gq_60 trivial rfl).1.trans f_145
  have f_147 := (hs.o gq_60 trivial rfl).1.trans f_147
  have f_148 := (hs.o gq_60 trivial rfl).1.trans f_148
  have f_151 := (hs.o gq_60 trivial rfl).1.trans f_151
  have f_153 := (hs.o gq_60 trivial rfl).1.trans f_153
  have f_156 := (hs.o gq_60 trivial rfl).1.trans f_156
  have f_157 := (hs.o gq_60 trivial rfl).1.trans f_157
  have f_164 := (hs.o gq_60 trivial rfl).2.trans f_164
  have f_166 := (hs.o gq_60 trivial rfl).2.trans f_166
  have f_169 := (hs.o gq_60 trivial rfl).2.trans f_169
  have f_171 := (hs.o gq_60 trivial rfl).2.trans f_171
  have f_173 := (hs.o gq_60 trivial rfl).2.trans f_173
  have f_175 := (hs.o gq_60 trivial rfl).2.trans f_175
  have f_177 := (hs.o gq_60 trivial rfl).2.trans f_177
  have f_179 := (hs.o gq_60 trivial rfl).2.trans f_179
  have f_181 := (hs.o gq_60 trivial rfl).2.trans f_181
  have f_183 := (hs.o gq_60 trivial rfl).2.trans f_183
  have f_185 := (hs.o gq_60 trivial rfl).2.trans f_185
  have f_187 := (hs.o gq_60 trivial rfl).2.trans f_187
  have f_189 := (hs.o gq_60 trivial rfl).2.trans f_189
  have f_191 := (hs.o gq_60 trivial rfl).2.trans f_191
  have f_193 := (hs.o gq_60 trivial rfl).2.trans f_193
  have fa_36 : ∀ j, j < 14 → _ = P_wo j := fun j hj => (hs.a gq_34 rfl j).1.trans (fa_36 j hj)
  have fa_167 : ∀ j, j < 13 → _ = P_w1 j := fun j hj => (hs.a gq_165 rfl j).1.trans (fa_167 j hj)
  have gq_2 := gq_2.S hs
  have gq_27 := gq_27.S hs
  have gq_29 := gq_29.S hs
  have gq_31 := gq_31.S hs
  have gq_34 := gq_34.S hs
  have gq_37 := gq_37.S hs
  have gq_39 := gq_39.S hs
  have gq_41 := gq_41.S hs
  have gq_44 := gq_44.S hs
  have gq_47 := gq_47.S hs
  have gq_50 := gq_50.S hs
  have gq_53 := gq_53.S hs
  have gq_55 := gq_55.S hs
  have gq_60 := gq_60.S hs
  have gq_163 := gq_163.S hs
  have gq_165 := gq_165.S hs
  have gq_168 := gq_168.S hs
  have gq_170 := gq_170.S hs
  have gq_172 := gq_172.S hs
  have gq_174 := gq_174.S hs
  have gq_176 := gq_176.S hs
  have gq_178 := gq_178.S hs
  have gq_180 := gq_180.S hs
  have gq_182 := gq_182.S hs
  have gq_184 := gq_184.S hs
  have gq_186 := gq_186.S hs
  have gq_188 := gq_188.S hs
  have gq_190 := gq_190.S hs
  have gq_192 := gq_192.S hs
  refine lv_aload_n hx hb dL_law_318 rfl (lv_at hl 1 rfl) ?_
  refine lv_aload_n hx hb dL_law_319 rfl (lv_at hl 3 rfl) ?_
  refine lv_iload_n hx hb dL_law_320 rfl (lv_at hl 0 rfl) ?_
  refine lv_iconst (v := 1) hx hb dL_law_321 (by decide) ?_
  refine lv_iadd hx hb dL_law_322 ?_
  refine lv_topi (fun x_266 ex_266 => ?_)
  obtain rfl : x_266 = (1 : Int32) := ex_266.trans (by decide)
  refine va_sld hx hb hX hbl hbA hW.2.2.2.1 (vp_in_iff.mpr (by rw [hL7]; decide)) dL_law_323 ?_
  rw [show (1 : Int32).toNatClampNeg = 1 from by decide]
  refine lv_aload_n hx hb dL_law_324 rfl (lv_at hl 3 rfl) ?_
  refine lv_iload_n hx hb dL_law_325 rfl (lv_at hl 0 rfl) ?_
  refine lv_iconst (v := 2) hx hb dL_law_326 (by decide) ?_
  refine lv_iadd hx hb dL_law_327 ?_
  refine lv_topi (fun x_267 ex_267 => ?_)
  obtain rfl : x_267 = (2 : Int32) := ex_267.trans (by decide)
  refine va_sld hx hb hX hbl hbA hW.2.2.2.1 (vp_in_iff.mpr (by rw [hL7]; decide)) dL_law_328 ?_
  rw [show (2 : Int32).toNatClampNeg = 2 from by decide]
  refine hx_goi (hx_runV (As := [.int (xs 1), .int (xs 2)]) (rest := [.int r_263]) ⟨hx, hb, hml, hown, hts⟩ hW gq_60 td_10 (T := TX10) (N := 98) rfl (c_X10_force l dC dI dA L_261 h_262 H.size q_60 (xs 1) (xs 2) gq_60 f_62 q_165 gq_165 f_166 fa_167) (cwV 2 hts (hx_gV kw_1525 kw_1522 kw_1523 kw_1524 kw_103) rfl rfl rfl (by decide +kernel) ⟨Nat.le_of_ble_eq_true rfl, Nat.le_of_ble_eq_true rfl⟩) rfl hl.1 rfl (Nat.le_of_ble_eq_true rfl) dL_law_329 ⟨Nat.le_of_ble_eq_true rfl, Nat.le_of_ble_eq_true rfl⟩) hW (fun r_270 L_268 h_269 H locs p_271 hW => ?_)
  obtain ⟨hr_272, hs⟩ := p_271
  have hs : hx_S P_tb [] L_261 h_262 L_268 h_269 := hs
  have f_4 := (hs.o gq_2 trivial rfl).1.trans f_4
  have f_5 := (hs.o gq_2 trivial rfl).1.trans f_5
  have f_9 := (hs.o gq_2 trivial rfl).1.trans f_9
  have f_11 := (hs.o gq_2 trivial rfl).1.trans f_11
  have f_14 := (hs.o gq_2 trivial rfl).1.trans f_14
  have f_16 := (hs.o gq_2 trivial rfl).1.trans f_16
  have f_28 := (hs.o gq_2 trivial rfl).2.trans f_28
  have f_30 := (hs.o gq_2 trivial rfl).2.trans f_30
  have f_32 := (hs.o gq_2 trivial rfl).2.trans f_32
  have f_33 := (hs.o gq_31 trivial rfl).1.trans f_33
  have f_35 := (hs.o gq_31 trivial rfl).2.trans f_35
  have f_38 := (hs.o gq_2 trivial rfl).2.trans f_38
  have f_40 := (hs.o gq_2 trivial rfl).2.trans f_40
  have f_42 := (hs.o gq_2 trivial rfl).2.trans f_42
  have f_43 := (hs.o gq_41 trivial rfl).1.trans f_43
  have f_45 := (hs.o gq_2 trivial rfl).2.trans f_45
  have f_46 := (hs.o gq_44 trivial rfl).1.trans f_46
  have f_48 := (hs.o gq_2 trivial rfl).2.trans f_48
  have f_49 := (hs.o gq_47 trivial rfl).1.trans f_49
  have f_51 := (hs.o gq_2 trivial rfl).2.trans f_51
  have f_52 := (hs.o gq_50 trivial rfl).1.trans f_52
  have f_54 := (hs.o gq_50 trivial rfl).2.trans f_54
  have f_56 := (hs.o gq_2 trivial rfl).2.trans f_56
  have f_57 := (hs.o gq_55 trivial rfl).1.trans f_57
  have f_58 := (hs.o gq_55 trivial rfl).1.trans f_58
  have f_61 := (hs.o gq_60 trivial rfl).1.trans f_61
  have f_62 := (hs.o gq_60 trivial rfl).1.trans f_62
  have f_68 := (hs.o gq_60 trivial rfl).1.trans f_68
  have f_69 := (hs.o gq_60 trivial rfl).1.trans f_69
  have f_70 := (hs.o gq_60 trivial rfl).1.trans f_70
  have f_71 := (hs.o gq_60 trivial rfl).1.trans f_71
  have f_72 := (hs.o gq_60 trivial rfl).1.trans f_72
  have f_74 := (hs.o gq_60 trivial rfl).1.trans f_74
  have f_81 := (hs.o gq_60 trivial rfl).1.trans f_81
  have f_90 := (hs.o gq_60 trivial rfl).1.trans f_90
  have f_97 := (hs.o gq_60 trivial rfl).1.trans f_97
  have f_118 := (hs.o gq_60 trivial rfl).1.trans f_118
  have f_120 := (hs.o gq_60 trivial rfl).1.trans f_120
  have f_128 := (hs.o gq_60 trivial rfl).1.trans f_128
  have f_129 := (hs.o gq_60 trivial rfl).1.trans f_129
  have f_130 := (hs.o gq_60 trivial rfl).1.trans f_130
  have f_131 := (hs.o gq_60 trivial rfl).1.trans f_131
  have f_132 := (hs.o gq_60 trivial rfl).1.trans f_132
  have f_133 := (hs.o gq_60 trivial rfl).1.trans f_133
  have f_136 := (hs.o gq_60 trivial rfl).1.trans f_136
  have f_144 := (hs.o gq_60 trivial rfl).1.trans f_144
  have f_145 := (hs.o gq_60 trivial rfl).1.trans f_145
  have f_147 := (hs.o gq_60 trivial rfl).1.trans f_147
  have f_148 := (hs.o gq_60 trivial rfl).1.trans f_148
  have f_151 := (hs.o gq_60 trivial rfl).1.trans f_151
  have f_153 := (hs.o gq_60 trivial rfl).1.trans f_153
  have f_156 := (hs.o gq_60 trivial rfl).1.trans f_156
  have f_157 := (hs.o gq_60 trivial rfl).1.trans f_157
  have f_164 := (hs.o gq_60 trivial rfl).2.trans f_164
  have f_166 := (hs.o gq_60 trivial rfl).2.trans f_166
  have f_169 := (hs.o gq_60 trivial rfl).2.trans f_169
  have f_171 := (hs.o gq_60 trivial rfl).2.trans f_171
  have f_173 := (hs.o gq_60 trivial rfl).2.trans f_173
  have f_175 := (hs.o gq_60 trivial rfl).2.trans f_175
  have f_177 := (hs.o gq_60 trivial rfl).2.trans f_177
  have f_179 := (hs.o gq_60 trivial rfl).2.trans f_179
  have f_181 := (hs.o gq_60 trivial rfl).2.trans f_181
  have f_183 := (hs.o gq_60 trivial rfl).2.trans f_183
  have f_185 := (hs.o gq_60 trivial rfl).2.trans f_185
  have f_187 := (hs.o gq_60 trivial rfl).2.trans f_187
  have f_189 := (hs.o gq_60 trivial rfl).2.trans f_189
  have f_191 := (hs.o gq_60 trivial rfl).2.trans f_191
  have f_193 := (hs.o gq_60 trivial rfl).2.trans f_193
  have fa_36 : ∀ j, j < 14 → _ = P_wo j := fun j hj => (hs.a gq_34 rfl j).1.trans (fa_36 j hj)
  have fa_167 : ∀ j, j < 13 → _ = P_w1 j := fun j hj => (hs.a gq_165 rfl j).1.trans (fa_167 j hj)
  have gq_2 := gq_2.S hs
  have gq_27 := gq_27.S hs
  have gq_29 := gq_29.S hs
  have gq_31 := gq_31.S hs
  have gq_34 := gq_34.S hs
  have gq_37 := gq_37.S hs
  have gq_39 := gq_39.S hs
  have gq_41 := gq_41.S hs
  have gq_44 := gq_44.S hs
  have gq_47 := gq_47.S hs
  have gq_50 := gq_50.S hs
  have gq_53 := gq_53.S hs
  have gq_55 := gq_55.S hs
  have gq_60 := gq_60.S hs
  have gq_163 := gq_163.S hs
  have gq_165 := gq_165.S hs
  have gq_168 := gq_168.S hs
  have gq_170 := gq_170.S hs
  have gq_172 := gq_172.S hs
  have gq_174 := gq_174.S hs
  have gq_176 := gq_176.S hs
  have gq_178 := gq_178.S hs
  have gq_180 := gq_180.S hs
  have gq_182 := gq_182.S hs
  have gq_184 := gq_184.S hs
  have gq_186 := gq_186.S hs
  have gq_188 := gq_188.S hs
  have gq_190 := gq_190.S hs
  have gq_192 := gq_192.S hs
  have heq : r_263 = r_270 := by
    first | exact hr_265.trans hr_272.symm | (rcases hr_265 with ⟨k1, k2⟩ | ⟨k1, k2⟩ <;> rcases hr_272 with ⟨k3, k4⟩ | ⟨k3, k4⟩ <;> first | exact k2.trans k4.symm | (exfalso; omega) | exact absurd k1 k3 | exact absurd k3 k1)
  refine hb_icmp_eq (zx := r_263.toInt) (zy := r_270.toInt) (tgt := 1379) hx hb rfl rfl dL_law_332 (by decide) (fun c_273 => ?_) (fun c_273 => absurd (congrArg Int32.toInt heq) c_273)
  exact law_tail hx hb hr hlocks hX hbl hbA hL7 _ _ hW.2.2.2.1 ls hl (Nat.le_of_ble_eq_true rfl) (Nat.le_of_ble_eq_true rfl)

set_option maxHeartbeats 4000000 in
set_option maxRecDepth 100000 in
theorem law_case_5 {p : Program} {e : Env} {s : State} {m : MethodId} {below : List Frame} {meth : Method} {c : Code} (l : Launch) {b LN : Nat} {xs : Nat → Int32} (hx : p.tables.exec = Jvm.exec) (hb : c.code = code) (hr : meth.sig.returnType = ret) (hlocks : meth.locks = false) (hml : c.maxLocals = 4) (hown : s.vm.findClass "SmallCourtLaw" = some m.cls) (hts : ∀ w ∈ hx_all, w.before #[Value.ref b] s = true) (hX : va_X b LN xs s s.heap) (hbl : b < s.heap.size) (hbA : ¬ s.heap.size ≤ b) (hL7 : LN = 7) (dC : Nat → ClassId) (dI : Nat → Nat → Nat) (dA : Nat → ClassId) (b0 : Nat) (q_2 q_27 q_29 q_31 q_34 q_37 q_39 q_41 q_44 q_47 q_50 q_53 q_55 q_60 q_163 q_165 q_168 q_170 q_172 q_174 q_176 q_178 q_180 q_182 q_184 q_186 q_188 q_190 q_192 : Nat) (L1 : List Nat) (hl1 : hx_h) (H : Heap) (locs : List Loc) (ls : Array Slot) (hW : hx_W P_tb (P_ty dA) (dC, dI) vwCl (fun q : Nat => s.heap.size ≤ q) s.heap L1 hl1 s H locs) (hZ : hx_Xt (fun q : Nat => s.heap.size ≤ q) b0 s) (f_4 : hl1.2.1 q_2 1 = (0 : Int32)) (f_5 : hl1.2.1 q_2 2 = (0 : Int32)) (f_9 : hl1.2.1 q_2 6 = (0 : Int32)) (f_11 : hl1.2.1 q_2 8 = (0 : Int32)) (f_14 : hl1.2.1 q_2 11 = (0 : Int32)) (f_16 : hl1.2.1 q_2 13 = (0 : Int32)) (f_28 : hl1.2.2 q_2 0 = some q_27) (f_30 : hl1.2.2 q_2 3 = some q_29) (f_32 : hl1.2.2 q_2 4 = some q_31) (f_33 : hl1.2.1 q_31 0 = (-1 : Int32)) (f_35 : hl1.2.2 q_31 2 = some q_34) (f_38 : hl1.2.2 q_2 5 = some q_37) (f_40 : hl1.2.2 q_2 7 = some q_39) (f_42 : hl1.2.2 q_2 9 = some q_41) (f_43 : hl1.2.1 q_41 0 = (0 : Int32)) (f_45 : hl1.2.2 q_2 14 = some q_44) (f_46 : hl1.2.1 q_44 0 = (0 : Int32)) (f_48 : hl1.2.2 q_2 17 = some q_47) (f_49 : hl1.2.1 q_47 1 = (0 : Int32)) (f_51 : hl1.2.2 q_2 18 = some q_50) (f_52 : hl1.2.1 q_50 0 = (-1 : Int32)) (f_54 : hl1.2.2 q_50 5 = some q_53) (f_56 : hl1.2.2 q_2 19 = some q_55) (f_57 : hl1.2.1 q_55 0 = (0 : Int32)) (f_58 : hl1.2.1 q_55 1 = (0 : Int32)) (f_61 : hl1.2.1 q_60 0 = (0 : Int32)) (f_62 : hl1.2.1 q_60 1 = (0 : Int32)) (f_68 : hl1.2.1 q_60 7 = (0 : Int32)) (f_69 : hl1.2.1 q_60 8 = (0 : Int32)) (f_70 : hl1.2.1 q_60 9 = (0 : Int32)) (f_71 : hl1.2.1 q_60 10 = (0 : Int32)) (f_72 : hl1.2.1 q_60 11 = (0 : Int32)) (f_74 : hl1.2.1 q_60 13 = (0 : Int32)) (f_81 : hl1.2.1 q_60 20 = (0 : Int32)) (f_90 : hl1.2.1 q_60 29 = (0 : Int32)) (f_97 : hl1.2.1 q_60 36 = (0 : Int32)) (f_118 : hl1.2.1 q_60 57 = (0 : Int32)) (f_120 : hl1.2.1 q_60 59 = (0 : Int32)) (f_128 : hl1.2.1 q_60 67 = (0 : Int32)) (f_129 : hl1.2.1 q_60 68 = (0 : Int32)) (f_130 : hl1.2.1 q_60 69 = (0 : Int32)) (f_131 : hl1.2.1 q_60 70 = (0 : Int32)) (f_132 : hl1.2.1 q_60 71 = (0 : Int32)) (f_133 : hl1.2.1 q_60 72 = (0 : Int32)) (f_136 : hl1.2.1 q_60 75 = (0 : Int32)) (f_144 : hl1.2.1 q_60 83 = (0 : Int32)) (f_145 : hl1.2.1 q_60 84 = (0 : Int32)) (f_147 : hl1.2.1 q_60 86 = (0 : Int32)) (f_148 : hl1.2.1 q_60 87 = (0 : Int32)) (f_151 : hl1.2.1 q_60 90 = (0 : Int32)) (f_153 : hl1.2.1 q_60 92 = (0 : Int32)) (f_156 : hl1.2.1 q_60 95 = (0 : Int32)) (f_157 : hl1.2.1 q_60 96 = (0 : Int32)) (f_164 : hl1.2.2 q_60 2 = some q_163) (f_166 : hl1.2.2 q_60 3 = some q_165) (f_169 : hl1.2.2 q_60 4 = some q_168) (f_171 : hl1.2.2 q_60 5 = some q_170) (f_173 : hl1.2.2 q_60 6 = some q_172) (f_175 : hl1.2.2 q_60 12 = some q_174) (f_177 : hl1.2.2 q_60 15 = some q_176) (f_179 : hl1.2.2 q_60 21 = some q_178) (f_181 : hl1.2.2 q_60 22 = some q_180) (f_183 : hl1.2.2 q_60 23 = some q_182) (f_185 : hl1.2.2 q_60 24 = some q_184) (f_187 : hl1.2.2 q_60 25 = some q_186) (f_189 : hl1.2.2 q_60 26 = some q_188) (f_191 : hl1.2.2 q_60 82 = some q_190) (f_193 : hl1.2.2 q_60 94 = some q_192) (fa_36 : ∀ j, j < 14 → hl1.2.1 q_34 j = P_wo j) (fa_167 : ∀ j, j < 13 → hl1.2.1 q_165 j = P_w1 j) (gq_2 : hx_g L1 hl1 q_2 9) (gq_27 : hx_g L1 hl1 q_27 42) (gq_29 : hx_g L1 hl1 q_29 6) (gq_31 : hx_g L1 hl1 q_31 0) (gq_34 : hx_g L1 hl1 q_34 11) (gq_37 : hx_g L1 hl1 q_37 43) (gq_39 : hx_g L1 hl1 q_39 44) (gq_41 : hx_g L1 hl1 q_41 1) (gq_44 : hx_g L1 hl1 q_44 3) (gq_47 : hx_g L1 hl1 q_47 5) (gq_50 : hx_g L1 hl1 q_50 7) (gq_53 : hx_g L1 hl1 q_53 36) (gq_55 : hx_g L1 hl1 q_55 8) (gq_60 : hx_g L1 hl1 q_60 10) (gq_163 : hx_g L1 hl1 q_163 49) (gq_165 : hx_g L1 hl1 q_165 50) (gq_168 : hx_g L1 hl1 q_168 51) (gq_170 : hx_g L1 hl1 q_170 52) (gq_172 : hx_g L1 hl1 q_172 53) (gq_174 : hx_g L1 hl1 q_174 54) (gq_176 : hx_g L1 hl1 q_176 55) (gq_178 : hx_g L1 hl1 q_178 58) (gq_180 : hx_g L1 hl1 q_180 59) (gq_182 : hx_g L1 hl1 q_182 60) (gq_184 : hx_g L1 hl1 q_184 61) (gq_186 : hx_g L1 hl1 q_186 62) (gq_188 : hx_g L1 hl1 q_188 63) (gq_190 : hx_g L1 hl1 q_190 108) (gq_192 : hx_g L1 hl1 q_192 114) (hl : lv_has ls 4 [(3, .int (0 : Int32)), (2, .ref q_60), (1, .ref q_2), (0, .ref b)]) : W p l e room_1 s m #[Value.ref b] below meth c H locs 112 26072 (lw_Z below #[Value.ref b] s) (F0 m 337 ls []) := by
  refine lv_aload_n hx hb dL_law_337 rfl (lv_at hl 2 rfl) ?_
  refine lv_aload_n hx hb dL_law_338 rfl (lv_at hl 3 rfl) ?_
  refine lv_iload_n hx hb dL_law_339 rfl (lv_at hl 0 rfl) ?_
  refine lv_iconst (v := 1) hx hb dL_law_340 (by decide) ?_
  refine lv_iadd hx hb dL_law_341 ?_
  refine lv_topi (fun x_274 ex_274 => ?_)
  obtain rfl : x_274 = (1 : Int32) := ex_274.trans (by decide)
  refine va_sld hx hb hX hbl hbA hW.2.2.2.1 (vp_in_iff.mpr (by rw [hL7]; decide)) dL_law_342 ?_
  rw [show (1 : Int32).toNatClampNeg = 1 from by decide]
  refine lv_aload_n hx hb dL_law_343 rfl (lv_at hl 3 rfl) ?_
  refine lv_iload_n hx hb dL_law_344 rfl (lv_at hl 0 rfl) ?_
  refine lv_iconst (v := 2) hx hb dL_law_345 (by decide) ?_
  refine lv_iadd hx hb dL_law_346 ?_
  refine lv_topi (fun x_275 ex_275 => ?_)
  obtain rfl : x_275 = (2 : Int32) := ex_275.trans (by decide)
  refine va_sld hx hb hX hbl hbA hW.2.2.2.1 (vp_in_iff.mpr (by rw [hL7]; decide)) dL_law_347 ?_
  rw [show (2 : Int32).toNatClampNeg = 2 from by decide]
  refine lv_aload_n hx hb dL_law_348 rfl (lv_at hl 3 rfl) ?_
  refine lv_iload_n hx hb dL_law_349 rfl (lv_at hl 0 rfl) ?_
  refine lv_iconst (v := 3) hx hb dL_law_350 (by decide) ?_
  refine lv_iadd hx hb dL_law_351 ?_
  refine lv_topi (fun x_276 ex_276 => ?_)
  obtain rfl : x_276 = (3 : Int32) := ex_276.trans (by decide)
  refine va_sld hx hb hX hbl hbA hW.2.2.2.1 (vp_in_iff.mpr (by rw [hL7]; decide)) dL_law_352 ?_
  rw [show (3 : Int32).toNatClampNeg = 3 from by decide]
  refine lv_aload_n hx hb dL_law_353 rfl (lv_at hl 3 rfl) ?_
  refine lv_iload_n hx hb dL_law_354 rfl (lv_at hl 0 rfl) ?_
  refine lv_iconst (v := 4) hx hb dL_law_355 (by decide) ?_
  refine lv_iadd hx hb dL_law_356 ?_
  refine lv_topi (fun x_277 ex_277 => ?_)
  obtain rfl : x_277 = (4 : Int32) := ex_277.trans (by decide)
  refine va_sld hx hb hX hbl hbA hW.2.2.2.1 (vp_in_iff.mpr (by rw [hL7]; decide)) dL_law_357 ?_
  rw [show (4 : Int32).toNatClampNeg = 4 from by decide]
  refine lv_aload_n hx hb dL_law_358 rfl (lv_at hl 3 rfl) ?_
  refine lv_iload_n hx hb dL_law_359 rfl (lv_at hl 0 rfl) ?_
  refine lv_iconst (v := 5) hx hb dL_law_360 (by decide) ?_
  refine lv_iadd hx hb dL_law_361 ?_
  refine lv_topi (fun x_278 ex_278 => ?_)
  obtain rfl : x_278 = (5 : Int32) := ex_278.trans (by decide)
  refine va_sld hx hb hX hbl hbA hW.2.2.2.1 (vp_in_iff.mpr (by rw [hL7]; decide)) dL_law_362 ?_
  rw [show (5 : Int32).toNatClampNeg = 5 from by decide]
  refine lv_aload_n hx hb dL_law_363 rfl (lv_at hl 3 rfl) ?_
  refine lv_iload_n hx hb dL_law_364 rfl (lv_at hl 0 rfl) ?_
  refine lv_bipush (v := 6) hx hb dL_law_365 (by decide) ?_
  refine lv_iadd hx hb dL_law_367 ?_
  refine lv_topi (fun x_279 ex_279 => ?_)
  obtain rfl : x_279 = (6 : Int32) := ex_279.trans (by decide)
  refine va_sld hx hb hX hbl hbA hW.2.2.2.1 (vp_in_iff.mpr (by rw [hL7]; decide)) dL_law_368 ?_
  rw [show (6 : Int32).toNatClampNeg = 6 from by decide]
  refine hx_goi (hx_runV (As := [.int (xs 1), .int (xs 2), .int (xs 3), .int (xs 4), .int (xs 5), .int (xs 6)]) (rest := []) ⟨hx, hb, hml, hown, hts⟩ hW gq_2 td_9 (T := TX9) (N := 20) rfl (c_X9_person l dC dI dA L1 hl1 H.size q_2 (xs 1) (xs 2) (xs 3) (xs 4) (xs 5) (xs 6) gq_2 f_11 q_39 gq_39 f_40) (cwV 6 hts (hx_gV kw_601 kw_598 kw_599 kw_600 kw_94) rfl rfl rfl (by decide +kernel) ⟨Nat.le_of_ble_eq_true rfl, Nat.le_of_ble_eq_true rfl⟩) rfl hl.1 rfl (Nat.le_of_ble_eq_true rfl) dL_law_369 ⟨Nat.le_of_ble_eq_true rfl, Nat.le_of_ble_eq_true rfl⟩) hW (fun r_282 L_280 h_281 H locs p_283 hW => ?_)
  obtain ⟨hr_284, hs⟩ := p_283
  have hs : hx_S P_tb [(4, 0), (4, 1), (4, 2), (4, 3), (4, 4), (4, 5), (4, 6), (9, 8), (44, 0)] L1 hl1 L_280 h_281 := hs
  have f_4 := (hs.o gq_2 trivial rfl).1.trans f_4
  have f_5 := (hs.o gq_2 trivial rfl).1.trans f_5
  have f_9 := (hs.o gq_2 trivial rfl).1.trans f_9
  have f_14 := (hs.o gq_2 trivial rfl).1.trans f_14
  have f_16 := (hs.o gq_2 trivial rfl).1.trans f_16
  have f_28 := (hs.o gq_2 trivial rfl).2.trans f_28
  have f_30 := (hs.o gq_2 trivial rfl).2.trans f_30
  have f_32 := (hs.o gq_2 trivial rfl).2.trans f_32
  have f_33 := (hs.o gq_31 trivial rfl).1.trans f_33
  have f_35 := (hs.o gq_31 trivial rfl).2.trans f_35
  have f_38 := (hs.o gq_2 trivial rfl).2.trans f_38
  have f_40 := (hs.o gq_2 trivial rfl).2.trans f_40
  have f_42 := (hs.o gq_2 trivial rfl).2.trans f_42
  have f_43 := (hs.o gq_41 trivial rfl).1.trans f_43
  have f_45 := (hs.o gq_2 trivial rfl).2.trans f_45
  have f_46 := (hs.o gq_44 trivial rfl).1.trans f_46
  have f_48 := (hs.o gq_2 trivial rfl).2.trans f_48
  have f_49 := (hs.o gq_47 trivial rfl).1.trans f_49
  have f_51 := (hs.o gq_2 trivial rfl).2.trans f_51
  have f_52 := (hs.o gq_50 trivial rfl).1.trans f_52
  have f_54 := (hs.o gq_50 trivial rfl).2.trans f_54
  have f_56 := (hs.o gq_2 trivial rfl).2.trans f_56
  have f_57 := (hs.o gq_55 trivial rfl).1.trans f_57
  have f_58 := (hs.o gq_55 trivial rfl).1.trans f_58
  have f_61 := (hs.o gq_60 trivial rfl).1.trans f_61
  have f_62 := (hs.o gq_60 trivial rfl).1.trans f_62
  have f_68 := (hs.o gq_60 trivial rfl).1.trans f_68
  have f_69 := (hs.o gq_60 trivial rfl).1.trans f_69
  have f_70 := (hs.o gq_60 trivial rfl).1.trans f_70
  have f_71 := (hs.o gq_60 trivial rfl).1.trans f_71
  have f_72 := (hs.o gq_60 trivial rfl).1.trans f_72
  have f_74 := (hs.o gq_60 trivial rfl).1.trans f_74
  have f_81 := (hs.o gq_60 trivial rfl).1.trans f_81
  have f_90 := (hs.o gq_60 trivial rfl).1.trans f_90
  have f_97 := (hs.o gq_60 trivial rfl).1.trans f_97
  have f_118 := (hs.o gq_60 trivial rfl).1.trans f_118
  have f_120 := (hs.o gq_60 trivial rfl).1.trans f_120
  have f_128 := (hs.o gq_60 trivial rfl).1.trans f_128
  have f_129 := (hs.o gq_60 trivial rfl).1.trans f_129
  have f_130 := (hs.o gq_60 trivial rfl).1.trans f_130
  have f_131 := (hs.o gq_60 trivial rfl).1.trans f_131
  have f_132 := (hs.o gq_60 trivial rfl).1.trans f_132
  have f_133 := (hs.o gq_60 trivial rfl).1.trans f_133
  have f_136 := (hs.o gq_60 trivial rfl).1.trans f_136
  have f_144 := (hs.o gq_60 trivial rfl).1.trans f_144
  have f_145 := (hs.o gq_60 trivial rfl).1.trans f_145
  have f_147 := (hs.o gq_60 trivial rfl).1.trans f_147
  have f_148 := (hs.o gq_60 trivial rfl).1.trans f_148
  have f_151 := (hs.o gq_60 trivial rfl).1.trans f_151
  have f_153 := (hs.o gq_60 trivial rfl).1.trans f_153
  have f_156 := (hs.o gq_60 trivial rfl).1.trans f_156
  have f_157 := (hs.o gq_60 trivial rfl).1.trans f_157
  have f_164 := (hs.o gq_60 trivial rfl).2.trans f_164
  have f_166 := (hs.o gq_60 trivial rfl).2.trans f_166
  have f_169 := (hs.o gq_60 trivial rfl).2.trans f_169
  have f_171 := (hs.o gq_60 trivial rfl).2.trans f_171
  have f_173 := (hs.o gq_60 trivial rfl).2.trans f_173
  have f_175 := (hs.o gq_60 trivial rfl).2.trans f_175
  have f_177 := (hs.o gq_60 trivial rfl).2.trans f_177
  have f_179 := (hs.o gq_60 trivial rfl).2.trans f_179
  have f_181 := (hs.o gq_60 trivial rfl).2.trans f_181
  have f_183 := (hs.o gq_60 trivial rfl).2.trans f_183
  have f_185 := (hs.o gq_60 trivial rfl).2.trans f_185
  have f_187 := (hs.o gq_60 trivial rfl).2.trans f_187
  have f_189 := (hs.o gq_60 trivial rfl).2.trans f_189
  have f_191 := (hs.o gq_60 trivial rfl).2.trans f_191
  have f_193 := (hs.o gq_60 trivial rfl).2.trans f_193
  have fa_36 : ∀ j, j < 14 → _ = P_wo j := fun j hj => (hs.a gq_34 rfl j).1.trans (fa_36 j hj)
  have fa_167 : ∀ j, j < 13 → _ = P_w1 j := fun j hj => (hs.a gq_165 rfl j).1.trans (fa_167 j hj)
  have gq_2 := gq_2.S hs
  have gq_27 := gq_27.S hs
  have gq_29 := gq_29.S hs
  have gq_31 := gq_31.S hs
  have gq_34 := gq_34.S hs
  have gq_37 := gq_37.S hs
  have gq_39 := gq_39.S hs
  have gq_41 := gq_41.S hs
  have gq_44 := gq_44.S hs
  have gq_47 := gq_47.S hs
  have gq_50 := gq_50.S hs
  have gq_53 := gq_53.S hs
  have gq_55 := gq_55.S hs
  have gq_60 := gq_60.S hs
  have gq_163 := gq_163.S hs
  have gq_165 := gq_165.S hs
  have gq_168 := gq_168.S hs
  have gq_170 := gq_170.S hs
  have gq_172 := gq_172.S hs
  have gq_174 := gq_174.S hs
  have gq_176 := gq_176.S hs
  have gq_178 := gq_178.S hs
  have gq_180 := gq_180.S hs
  have gq_182 := gq_182.S hs
  have gq_184 := gq_184.S hs
  have gq_186 := gq_186.S hs
  have gq_188 := gq_188.S hs
  have gq_190 := gq_190.S hs
  have gq_192 := gq_192.S hs
  refine lv_aload_n hx hb dL_law_372 rfl (lv_at hl 1 rfl) ?_
  refine lv_aload_n hx hb dL_law_373 rfl (lv_at hl 3 rfl) ?_
  refine lv_iload_n hx hb dL_law_374 rfl (lv_at hl 0 rfl) ?_
  refine lv_iconst (v := 1) hx hb dL_law_375 (by decide) ?_
  refine lv_iadd hx hb dL_law_376 ?_
  refine lv_topi (fun x_285 ex_285 => ?_)
  obtain rfl : x_285 = (1 : Int32) := ex_285.trans (by decide)
  refine va_sld hx hb hX hbl hbA hW.2.2.2.1 (vp_in_iff.mpr (by rw [hL7]; decide)) dL_law_377 ?_
  rw [show (1 : Int32).toNatClampNeg = 1 from by decide]
  refine lv_aload_n hx hb dL_law_378 rfl (lv_at hl 3 rfl) ?_
  refine lv_iload_n hx hb dL_law_379 rfl (lv_at hl 0 rfl) ?_
  refine lv_iconst (v := 2) hx hb dL_law_380 (by decide) ?_
  refine lv_iadd hx hb dL_law_381 ?_
  refine lv_topi (fun x_286 ex_286 => ?_)
  obtain rfl : x_286 = (2 : Int32) := ex_286.trans (by decide)
  refine va_sld hx hb hX hbl hbA hW.2.2.2.1 (vp_in_iff.mpr (by rw [hL7]; decide)) dL_law_382 ?_
  rw [show (2 : Int32).toNatClampNeg = 2 from by decide]
  refine lv_aload_n hx hb dL_law_383 rfl (lv_at hl 3 rfl) ?_
  refine lv_iload_n hx hb dL_law_384 rfl (lv_at hl 0 rfl) ?_
  refine lv_iconst (v := 3) hx hb dL_law_385 (by decide) ?_
  refine lv_iadd hx hb dL_law_386 ?_
  refine lv_topi (fun x_287 ex_287 => ?_)
  obtain rfl : x_287 = (3 : Int32) := ex_287.trans (by decide)
  refine va_sld hx hb hX hbl hbA hW.2.2.2.1 (vp_in_iff.mpr (by rw [hL7]; decide)) dL_law_387 ?_
  rw [show (3 : Int32).toNatClampNeg = 3 from by decide]
  refine lv_aload_n hx hb dL_law_388 rfl (lv_at hl 3 rfl) ?_
  refine lv_iload_n hx hb dL_law_389 rfl (lv_at hl 0 rfl) ?_
  refine lv_iconst (v := 4) hx hb dL_law_390 (by decide) ?_
  refine lv_iadd hx hb dL_law_391 ?_
  refine lv_topi (fun x_288 ex_288 => ?_)
  obtain rfl : x_288 = (4 : Int32) := ex_288.trans (by decide)
  refine va_sld hx hb hX hbl hbA hW.2.2.2.1 (vp_in_iff.mpr (by rw [hL7]; decide)) dL_law_392 ?_
  rw [show (4 : Int32).toNatClampNeg = 4 from by decide]
  refine lv_aload_n hx hb dL_law_393 rfl (lv_at hl 3 rfl) ?_
  refine lv_iload_n hx hb dL_law_394 rfl (lv_at hl 0 rfl) ?_
  refine lv_iconst (v := 5) hx hb dL_law_395 (by decide) ?_
  refine lv_iadd hx hb dL_law_396 ?_
  refine lv_topi (fun x_289 ex_289 => ?_)
  obtain rfl : x_289 = (5 : Int32) := ex_289.trans (by decide)
  refine va_sld hx hb hX hbl hbA hW.2.2.2.1 (vp_in_iff.mpr (by rw [hL7]; decide)) dL_law_397 ?_
  rw [show (5 : Int32).toNatClampNeg = 5 from by decide]
  refine lv_aload_n hx hb dL_law_398 rfl (lv_at hl 3 rfl) ?_
  refine lv_iload_n hx hb dL_law_399 rfl (lv_at hl 0 rfl) ?_
  refine lv_bipush (v := 6) hx hb dL_law_400 (by decide) ?_
  refine lv_iadd hx hb dL_law_402 ?_
  refine lv_topi (fun x_290 ex_290 => ?_)
  obtain rfl : x_290 = (6 : Int32) := ex_290.trans (by decide)
  refine va_sld hx hb hX hbl hbA hW.2.2.2.1 (vp_in_iff.mpr (by rw [hL7]; decide)) dL_law_403 ?_
  rw [show (6 : Int32).toNatClampNeg = 6 from by decide]
  refine hx_goi (hx_runV (As := [.int (xs 1), .int (xs 2), .int (xs 3), .int (xs 4), .int (xs 5), .int (xs 6)]) (rest := [.int r_282]) ⟨hx, hb, hml, hown, hts⟩ hW gq_60 td_10 (T := TX10) (N := 98) rfl (c_X10_person l dC dI dA L_280 h_281 H.size q_60 (xs 1) (xs 2) (xs 3) (xs 4) (xs 5) (xs 6) gq_60 f_81 q_178 gq_178 f_179 q_188 gq_188 f_189 q_180 gq_180 f_181 q_182 gq_182 f_183 q_184 gq_184 f_185 q_186 gq_186 f_187) (cwV 6 hts (hx_gV kw_1537 kw_1534 kw_1535 kw_1536 kw_103) rfl rfl rfl (by decide +kernel) ⟨Nat.le_of_ble_eq_true rfl, Nat.le_of_ble_eq_true rfl⟩) rfl hl.1 rfl (Nat.le_of_ble_eq_true rfl) dL_law_404 ⟨Nat.le_of_ble_eq_true rfl, Nat.le_of_ble_eq_true rfl⟩) hW (fun r_293 L_291 h_292 H locs p_294 hW => ?_)
  obtain ⟨hr_295, hs⟩ := p_294
  have hs : hx_S P_tb [(10, 20), (58, 0), (59, 0), (60, 0), (61, 0), (62, 0), (63, 0)] L_280 h_281 L_291 h_292 := hs
  have f_4 := (hs.o gq_2 trivial rfl).1.trans f_4
  have f_5 := (hs.o gq_2 trivial rfl).1.trans f_5
  have f_9 := (hs.o gq_2 trivial rfl).1.trans f_9
  have f_14 := (hs.o gq_2 trivial rfl).1.trans f_14
  have f_16 := (hs.o gq_2 trivial rfl).1.trans f_16
  have f_28 := (hs.o gq_2 trivial rfl).2.trans f_28
  have f_30 := (hs.o gq_2 trivial rfl).2.trans f_30
  have f_32 := (hs.o gq_2 trivial rfl).2.trans f_32
  have f_33 := (hs.o gq_31 trivial rfl).1.trans f_33
  have f_35 := (hs.o gq_31 trivial rfl).2.trans f_35
  have f_38 := (hs.o gq_2 trivial rfl).2.trans f_38
  have f_40 := (hs.o gq_2 trivial rfl).2.trans f_40
  have f_42 := (hs.o gq_2 trivial rfl).2.trans f_42
  have f_43 := (hs.o gq_41 trivial rfl).1.trans f_43
  have f_45 := (hs.o gq_2 trivial rfl).2.trans f_45
  have f_46 := (hs.o gq_44 trivial rfl).1.trans f_46
  have f_48 := (hs.o gq_2 trivial rfl).2.trans f_48
  have f_49 := (hs.o gq_47 trivial rfl).1.trans f_49
  have f_51 := (hs.o gq_2 trivial rfl).2.trans f_51
  have f_52 := (hs.o gq_50 trivial rfl).1.trans f_52
  have f_54 := (hs.o gq_50 trivial rfl).2.trans f_54
  have f_56 := (hs.o gq_2 trivial rfl).2.trans f_56
  have f_57 := (hs.o gq_55 trivial rfl).1.trans f_57
  have f_58 := (hs.o gq_55 trivial rfl).1.trans f_58
  have f_61 := (hs.o gq_60 trivial rfl).1.trans f_61
  have f_62 := (hs.o gq_60 trivial rfl).1.trans f_62
  have f_68 := (hs.o gq_60 trivial rfl).1.trans f_68
  have f_69 := (hs.o gq_60 trivial rfl).1.trans f_69
  have f_70 := (hs.o gq_60 trivial rfl).1.trans f_70
  have f_71 := (hs.o gq_60 trivial rfl).1.trans f_71
  have f_72 := (hs.o gq_60 trivial rfl).1.trans f_72
  have f_74 := (hs.o gq_60 trivial rfl).1.trans f_74
  have f_90 := (hs.o gq_60 trivial rfl).1.trans f_90
  have f_97 := (hs.o gq_60 trivial rfl).1.trans f_97
  have f_118 := (hs.o gq_60 trivial rfl).1.trans f_118
  have f_120 := (hs.o gq_60 trivial rfl).1.trans f_120
  have f_128 := (hs.o gq_60 trivial rfl).1.trans f_128
  have f_129 := (hs.o gq_60 trivial rfl).1.trans f_129
  have f_130 := (hs.o gq_60 trivial rfl).1.trans f_130
  have f_131 := (hs.o gq_60 trivial rfl).1.trans f_131
  have f_132 := (hs.o gq_60 trivial rfl).1.trans f_132
  have f_133 := (hs.o gq_60 trivial rfl).1.trans f_133
  have f_136 := (hs.o gq_60 trivial rfl).1.trans f_136
  have f_144 := (hs.o gq_60 trivial rfl).1.trans f_144
  have f_145 := (hs.o gq_60 trivial rfl).1.trans f_145
  have f_147 := (hs.o gq_60 trivial rfl).1.trans f_147
  have f_148 := (hs.o gq_60 trivial rfl).1.trans f_148
  have f_151 := (hs.o gq_60 trivial rfl).1.trans f_151
  have f_153 := (hs.o gq_60 trivial rfl).1.trans f_153
  have f_156 := (hs.o gq_60 trivial rfl).1.trans f_156
  have f_157 := (hs.o gq_60 trivial rfl).1.trans f_157
  have f_164 := (hs.o gq_60 trivial rfl).2.trans f_164
  have f_166 := (hs.o gq_60 trivial rfl).2.trans f_166
  have f_169 := (hs.o gq_60 trivial rfl).2.trans f_169
  have f_171 := (hs.o gq_60 trivial rfl).2.trans f_171
  have f_173 := (hs.o gq_60 trivial rfl).2.trans f_173
  have f_175 := (hs.o gq_60 trivial rfl).2.trans f_175
  have f_177 := (hs.o gq_60 trivial rfl).2.trans f_177
  have f_179 := (hs.o gq_60 trivial rfl).2.trans f_179
  have f_181 := (hs.o gq_60 trivial rfl).2.trans f_181
  have f_183 := (hs.o gq_60 trivial rfl).2.trans f_183
  have f_185 := (hs.o gq_60 trivial rfl).2.trans f_185
  have f_187 := (hs.o gq_60 trivial rfl).2.trans f_187
  have f_189 := (hs.o gq_60 trivial rfl).2.trans f_189
  have f_191 := (hs.o gq_60 trivial rfl).2.trans f_191
  have f_193 := (hs.o gq_60 trivial rfl).2.trans f_193
  have fa_36 : ∀ j, j < 14 → _ = P_wo j := fun j hj => (hs.a gq_34 rfl j).1.trans (fa_36 j hj)
  have fa_167 : ∀ j, j < 13 → _ = P_w1 j := fun j hj => (hs.a gq_165 rfl j).1.trans (fa_167 j hj)
  have gq_2 := gq_2.S hs
  have gq_27 := gq_27.S hs
  have gq_29 := gq_29.S hs
  have gq_31 := gq_31.S hs
  have gq_34 := gq_34.S hs
  have gq_37 := gq_37.S hs
  have gq_39 := gq_39.S hs
  have gq_41 := gq_41.S hs
  have gq_44 := gq_44.S hs
  have gq_47 := gq_47.S hs
  have gq_50 := gq_50.S hs
  have gq_53 := gq_53.S hs
  have gq_55 := gq_55.S hs
  have gq_60 := gq_60.S hs
  have gq_163 := gq_163.S hs
  have gq_165 := gq_165.S hs
  have gq_168 := gq_168.S hs
  have gq_170 := gq_170.S hs
  have gq_172 := gq_172.S hs
  have gq_174 := gq_174.S hs
  have gq_176 := gq_176.S hs
  have gq_178 := gq_178.S hs
  have gq_180 := gq_180.S hs
  have gq_182 := gq_182.S hs
  have gq_184 := gq_184.S hs
  have gq_186 := gq_186.S hs
  have gq_188 := gq_188.S hs
  have gq_190 := gq_190.S hs
  have gq_192 := gq_192.S hs
  have heq : r_282 = r_293 := by
    first | exact hr_284.trans hr_295.symm | (rcases hr_284 with ⟨k1, k2⟩ | ⟨k1, k2⟩ <;> rcases hr_295 with ⟨k3, k4⟩ | ⟨k3, k4⟩ <;> first | exact k2.trans k4.symm | (exfalso; omega) | exact absurd k1 k3 | exact absurd k3 k1)
  refine hb_icmp_eq (zx := r_282.toInt) (zy := r_293.toInt) (tgt := 1379) hx hb rfl rfl dL_law_407 (by decide) (fun c_296 => ?_) (fun c_296 => absurd (congrArg Int32.toInt heq) c_296)
  exact law_tail hx hb hr hlocks hX hbl hbA hL7 _ _ hW.2.2.2.1 ls hl (Nat.le_of_ble_eq_true rfl) (Nat.le_of_ble_eq_true rfl)

set_option maxHeartbeats 4000000 in
set_option maxRecDepth 100000 in
theorem law_case_6 {p : Program} {e : Env} {s : State} {m : MethodId} {below : List Frame} {meth : Method} {c : Code} (l : Launch) {b LN : Nat} {xs : Nat → Int32} (hx : p.tables.exec = Jvm.exec) (hb : c.code = code) (hr : meth.sig.returnType = ret) (hlocks : meth.locks = false) (hml : c.maxLocals = 4) (hown : s.vm.findClass "SmallCourtLaw" = some m.cls) (hts : ∀ w ∈ hx_all, w.before #[Value.ref b] s = true) (hX : va_X b LN xs s s.heap) (hbl : b < s.heap.size) (hbA : ¬ s.heap.size ≤ b) (hL7 : LN = 7) (dC : Nat → ClassId) (dI : Nat → Nat → Nat) (dA : Nat → ClassId) (b0 : Nat) (q_2 q_27 q_29 q_31 q_34 q_37 q_39 q_41 q_44 q_47 q_50 q_53 q_55 q_60 q_163 q_165 q_168 q_170 q_172 q_174 q_176 q_178 q_180 q_182 q_184 q_186 q_188 q_190 q_192 : Nat) (L1 : List Nat) (hl1 : hx_h) (H : Heap) (locs : List Loc) (ls : Array Slot) (hW : hx_W P_tb (P_ty dA) (dC, dI) vwCl (fun q : Nat => s.heap.size ≤ q) s.heap L1 hl1 s H locs) (hZ : hx_Xt (fun q : Nat => s.heap.size ≤ q) b0 s) (f_4 : hl1.2.1 q_2 1 = (0 : Int32)) (f_5 : hl1.2.1 q_2 2 = (0 : Int32)) (f_9 : hl1.2.1 q_2 6 = (0 : Int32)) (f_11 : hl1.2.1 q_2 8 = (0 : Int32)) (f_14 : hl1.2.1 q_2 11 = (0 : Int32)) (f_16 : hl1.2.1 q_2 13 = (0 : Int32)) (f_28 : hl1.2.2 q_2 0 = some q_27) (f_30 : hl1.2.2 q_2 3 = some q_29) (f_32 : hl1.2.2 q_2 4 = some q_31) (f_33 : hl1.2.1 q_31 0 = (-1 : Int32)) (f_35 : hl1.2.2 q_31 2 = some q_34) (f_38 : hl1.2.2 q_2 5 = some q_37) (f_40 : hl1.2.2 q_2 7 = some q_39) (f_42 : hl1.2.2 q_2 9 = some q_41) (f_43 : hl1.2.1 q_41 0 = (0 : Int32)) (f_45 : hl1.2.2 q_2 14 = some q_44) (f_46 : hl1.2.1 q_44 0 = (0 : Int32)) (f_48 : hl1.2.2 q_2 17 = some q_47) (f_49 : hl1.2.1 q_47 1 = (0 : Int32)) (f_51 : hl1.2.2 q_2 18 = some q_50) (f_52 : hl1.2.1 q_50 0 = (-1 : Int32)) (f_54 : hl1.2.2 q_50 5 = some q_53) (f_56 : hl1.2.2 q_2 19 = some q_55) (f_57 : hl1.2.1 q_55 0 = (0 : Int32)) (f_58 : hl1.2.1 q_55 1 = (0 : Int32)) (f_61 : hl1.2.1 q_60 0 = (0 : Int32)) (f_62 : hl1.2.1 q_60 1 = (0 : Int32)) (f_68 : hl1.2.1 q_60 7 = (0 : Int32)) (f_69 : hl1.2.1 q_60 8 = (0 : Int32)) (f_70 : hl1.2.1 q_60 9 = (0 : Int32)) (f_71 : hl1.2.1 q_60 10 = (0 : Int32)) (f_72 : hl1.2.1 q_60 11 = (0 : Int32)) (f_74 : hl1.2.1 q_60 13 = (0 : Int32)) (f_81 : hl1.2.1 q_60 20 = (0 : Int32)) (f_90 : hl1.2.1 q_60 29 = (0 : Int32)) (f_97 : hl1.2.1 q_60 36 = (0 : Int32)) (f_118 : hl1.2.1 q_60 57 = (0 : Int32)) (f_120 : hl1.2.1 q_60 59 = (0 : Int32)) (f_128 : hl1.2.1 q_60 67 = (0 : Int32)) (f_129 : hl1.2.1 q_60 68 = (0 : Int32)) (f_130 : hl1.2.1 q_60 69 = (0 : Int32)) (f_131 : hl1.2.1 q_60 70 = (0 : Int32)) (f_132 : hl1.2.1 q_60 71 = (0 : Int32)) (f_133 : hl1.2.1 q_60 72 = (0 : Int32)) (f_136 : hl1.2.1 q_60 75 = (0 : Int32)) (f_144 : hl1.2.1 q_60 83 = (0 : Int32)) (f_145 : hl1.2.1 q_60 84 = (0 : Int32)) (f_147 : hl1.2.1 q_60 86 = (0 : Int32)) (f_148 : hl1.2.1 q_60 87 = (0 : Int32)) (f_151 : hl1.2.1 q_60 90 = (0 : Int32)) (f_153 : hl1.2.1 q_60 92 = (0 : Int32)) (f_156 : hl1.2.1 q_60 95 = (0 : Int32)) (f_157 : hl1.2.1 q_60 96 = (0 : Int32)) (f_164 : hl1.2.2 q_60 2 = some q_163) (f_166 : hl1.2.2 q_60 3 = some q_165) (f_169 : hl1.2.2 q_60 4 = some q_168) (f_171 : hl1.2.2 q_60 5 = some q_170) (f_173 : hl1.2.2 q_60 6 = some q_172) (f_175 : hl1.2.2 q_60 12 = some q_174) (f_177 : hl1.2.2 q_60 15 = some q_176) (f_179 : hl1.2.2 q_60 21 = some q_178) (f_181 : hl1.2.2 q_60 22 = some q_180) (f_183 : hl1.2.2 q_60 23 = some q_182) (f_185 : hl1.2.2 q_60 24 = some q_184) (f_187 : hl1.2.2 q_60 25 = some q_186) (f_189 : hl1.2.2 q_60 26 = some q_188) (f_191 : hl1.2.2 q_60 82 = some q_190) (f_193 : hl1.2.2 q_60 94 = some q_192) (fa_36 : ∀ j, j < 14 → hl1.2.1 q_34 j = P_wo j) (fa_167 : ∀ j, j < 13 → hl1.2.1 q_165 j = P_w1 j) (gq_2 : hx_g L1 hl1 q_2 9) (gq_27 : hx_g L1 hl1 q_27 42) (gq_29 : hx_g L1 hl1 q_29 6) (gq_31 : hx_g L1 hl1 q_31 0) (gq_34 : hx_g L1 hl1 q_34 11) (gq_37 : hx_g L1 hl1 q_37 43) (gq_39 : hx_g L1 hl1 q_39 44) (gq_41 : hx_g L1 hl1 q_41 1) (gq_44 : hx_g L1 hl1 q_44 3) (gq_47 : hx_g L1 hl1 q_47 5) (gq_50 : hx_g L1 hl1 q_50 7) (gq_53 : hx_g L1 hl1 q_53 36) (gq_55 : hx_g L1 hl1 q_55 8) (gq_60 : hx_g L1 hl1 q_60 10) (gq_163 : hx_g L1 hl1 q_163 49) (gq_165 : hx_g L1 hl1 q_165 50) (gq_168 : hx_g L1 hl1 q_168 51) (gq_170 : hx_g L1 hl1 q_170 52) (gq_172 : hx_g L1 hl1 q_172 53) (gq_174 : hx_g L1 hl1 q_174 54) (gq_176 : hx_g L1 hl1 q_176 55) (gq_178 : hx_g L1 hl1 q_178 58) (gq_180 : hx_g L1 hl1 q_180 59) (gq_182 : hx_g L1 hl1 q_182 60) (gq_184 : hx_g L1 hl1 q_184 61) (gq_186 : hx_g L1 hl1 q_186 62) (gq_188 : hx_g L1 hl1 q_188 63) (gq_190 : hx_g L1 hl1 q_190 108) (gq_192 : hx_g L1 hl1 q_192 114) (hl : lv_has ls 4 [(3, .int (0 : Int32)), (2, .ref q_60), (1, .ref q_2), (0, .ref b)]) : W p l e room_1 s m #[Value.ref b] below meth c H locs 112 26072 (lw_Z below #[Value.ref b] s) (F0 m 412 ls []) := by
  refine lv_aload_n hx hb dL_law_412 rfl (lv_at hl 2 rfl) ?_
  refine lv_aload_n hx hb dL_law_413 rfl (lv_at hl 3 rfl) ?_
  refine lv_iload_n hx hb dL_law_414 rfl (lv_at hl 0 rfl) ?_
  refine lv_iconst (v := 1) hx hb dL_law_415 (by decide) ?_
  refine lv_iadd hx hb dL_law_416 ?_
  refine lv_topi (fun x_297 ex_297 => ?_)
  obtain rfl : x_297 = (1 : Int32) := ex_297.trans (by decide)
  refine va_sld hx hb hX hbl hbA hW.2.2.2.1 (vp_in_iff.mpr (by rw [hL7]; decide)) dL_law_417 ?_
  rw [show (1 : Int32).toNatClampNeg = 1 from by decide]
  refine lv_aload_n hx hb dL_law_418 rfl (lv_at hl 3 rfl) ?_
  refine lv_iload_n hx hb dL_law_419 rfl (lv_at hl 0 rfl) ?_
  refine lv_iconst (v := 2) hx hb dL_law_420 (by decide) ?_
  refine lv_iadd hx hb dL_law_421 ?_
  refine lv_topi (fun x_298 ex_298 => ?_)
  obtain rfl : x_298 = (2 : Int32) := ex_298.trans (by decide)
  refine va_sld hx hb hX hbl hbA hW.2.2.2.1 (vp_in_iff.mpr (by rw [hL7]; decide)) dL_law_422 ?_
  rw [show (2 : Int32).toNatClampNeg = 2 from by decide]
  refine lv_aload_n hx hb dL_law_423 rfl (lv_at hl 3 rfl) ?_
  refine lv_iload_n hx hb dL_law_424 rfl (lv_at hl 0 rfl) ?_
  refine lv_iconst (v := 3) hx hb dL_law_425 (by decide) ?_
  refine lv_iadd hx hb dL_law_426 ?_
  refine lv_topi (fun x_299 ex_299 => ?_)
  obtain rfl : x_299 = (3 : Int32) := ex_299.trans (by decide)
  refine va_sld hx hb hX hbl hbA hW.2.2.2.1 (vp_in_iff.mpr (by rw [hL7]; decide)) dL_law_427 ?_
  rw [show (3 : Int32).toNatClampNeg = 3 from by decide]
  refine lv_aload_n hx hb dL_law_428 rfl (lv_at hl 3 rfl) ?_
  refine lv_iload_n hx hb dL_law_429 rfl (lv_at hl 0 rfl) ?_
  refine lv_iconst (v := 4) hx hb dL_law_430 (by decide) ?_
  refine lv_iadd hx hb dL_law_431 ?_
  refine lv_topi (fun x_300 ex_300 => ?_)
  obtain rfl : x_300 = (4 : Int32) := ex_300.trans (by decide)
  refine va_sld hx hb hX hbl hbA hW.2.2.2.1 (vp_in_iff.mpr (by rw [hL7]; decide)) dL_law_432 ?_
  rw [show (4 : Int32).toNatClampNeg = 4 from by decide]
  refine lv_aload_n hx hb dL_law_433 rfl (lv_at hl 3 rfl) ?_
  refine lv_iload_n hx hb dL_law_434 rfl (lv_at hl 0 rfl) ?_
  refine lv_iconst (v := 5) hx hb dL_law_435 (by decide) ?_
  refine lv_iadd hx hb dL_law_436 ?_
  refine lv_topi (fun x_301 ex_301 => ?_)
  obtain rfl : x_301 = (5 : Int32) := ex_301.trans (by decide)
  refine va_sld hx hb hX hbl hbA hW.2.2.2.1 (vp_in_iff.mpr (by rw [hL7]; decide)) dL_law_437 ?_
  rw [show (5 : Int32).toNatClampNeg = 5 from by decide]
  refine hx_goi (hx_runV (As := [.int (xs 1), .int (xs 2), .int (xs 3), .int (xs 4), .int (xs 5)]) (rest := []) ⟨hx, hb, hml, hown, hts⟩ hW gq_2 td_9 (T := TX9) (N := 20) rfl (c_X9_anew l dC dI dA L1 hl1 H.size q_2 (xs 1) (xs 2) (xs 3) (xs 4) (xs 5) gq_2 f_11) (cwV 5 hts (hx_gV kw_655 kw_652 kw_653 kw_654 kw_94) rfl rfl rfl (by decide +kernel) ⟨Nat.le_of_ble_eq_true rfl, Nat.le_of_ble_eq_true rfl⟩) rfl hl.1 rfl (Nat.le_of_ble_eq_true rfl) dL_law_438 ⟨Nat.le_of_ble_eq_true rfl, Nat.le_of_ble_eq_true rfl⟩) hW (fun r_304 L_302 h_303 H locs p_305 hW => ?_)
  obtain ⟨hr_306, hs⟩ := p_305
  have hs : hx_S P_tb [] L1 hl1 L_302 h_303 := hs
  have f_4 := (hs.o gq_2 trivial rfl).1.trans f_4
  have f_5 := (hs.o gq_2 trivial rfl).1.trans f_5
  have f_9 := (hs.o gq_2 trivial rfl).1.trans f_9
  have f_11 := (hs.o gq_2 trivial rfl).1.trans f_11
  have f_14 := (hs.o gq_2 trivial rfl).1.trans f_14
  have f_16 := (hs.o gq_2 trivial rfl).1.trans f_16
  have f_28 := (hs.o gq_2 trivial rfl).2.trans f_28
  have f_30 := (hs.o gq_2 trivial rfl).2.trans f_30
  have f_32 := (hs.o gq_2 trivial rfl).2.trans f_32
  have f_33 := (hs.o gq_31 trivial rfl).1.trans f_33
  have f_35 := (hs.o gq_31 trivial rfl).2.trans f_35
  have f_38 := (hs.o gq_2 trivial rfl).2.trans f_38
  have f_40 := (hs.o gq_2 trivial rfl).2.trans f_40
  have f_42 := (hs.o gq_2 trivial rfl).2.trans f_42
  have f_43 := (hs.o gq_41 trivial rfl).1.trans f_43
  have f_45 := (hs.o gq_2 trivial rfl).2.trans f_45
  have f_46 := (hs.o gq_44 trivial rfl).1.trans f_46
  have f_48 := (hs.o gq_2 trivial rfl).2.trans f_48
  have f_49 := (hs.o gq_47 trivial rfl).1.trans f_49
  have f_51 := (hs.o gq_2 trivial rfl).2.trans f_51
  have f_52 := (hs.o gq_50 trivial rfl).1.trans f_52
  have f_54 := (hs.o gq_50 trivial rfl).2.trans f_54
  have f_56 := (hs.o gq_2 trivial rfl).2.trans f_56
  have f_57 := (hs.o gq_55 trivial rfl).1.trans f_57
  have f_58 := (hs.o gq_55 trivial rfl).1.trans f_58
  have f_61 := (hs.o gq_60 trivial rfl).1.trans f_61
  have f_62 := (hs.o gq_60 trivial rfl).1.trans f_62
  have f_68 := (hs.o gq_60 trivial rfl).1.trans f_68
  have f_69 := (hs.o gq_60 trivial rfl).1.trans f_69
  have f_70 := (hs.o gq_60 trivial rfl).1.trans f_70
  have f_71 := (hs.o gq_60 trivial rfl).1.trans f_71
  have f_72 := (hs.o gq_60 trivial rfl).1.trans f_72
  have f_74 := (hs.o gq_60 trivial rfl).1.trans f_74
  have f_81 := (hs.o gq_60 trivial rfl).1.trans f_81
  have f_90 := (hs.o gq_60 trivial rfl).1.trans f_90
  have f_97 := (hs.o gq_60 trivial rfl).1.trans f_97
  have f_118 := (hs.o gq_60 trivial rfl).1.trans f_118
  have f_120 := (hs.o gq_60 trivial rfl).1.trans f_120
  have f_128 := (hs.o gq_60 trivial rfl).1.trans f_128
  have f_129 := (hs.o gq_60 trivial rfl).1.trans f_129
  have f_130 := (hs.o gq_60 trivial rfl).1.trans f_130
  have f_131 := (hs.o gq_60 trivial rfl).1.trans f_131
  have f_132 := (hs.o gq_60 trivial rfl).1.trans f_132
  have f_133 := (hs.o gq_60 trivial rfl).1.trans f_133
  have f_136 := (hs.o gq_60 trivial rfl).1.trans f_136
  have f_144 := (hs.o gq_60 trivial rfl).1.trans f_144
  have f_145 := (hs.o gq_60 trivial rfl).1.trans f_145
  have f_147 := (hs.o gq_60 trivial rfl).1.trans f_147
  have f_148 := (hs.o gq_60 trivial rfl).1.trans f_148
  have f_151 := (hs.o gq_60 trivial rfl).1.trans f_151
  have f_153 := (hs.o gq_60 trivial rfl).1.trans f_153
  have f_156 := (hs.o gq_60 trivial rfl).1.trans f_156
  have f_157 := (hs.o gq_60 trivial rfl).1.trans f_157
  have f_164 := (hs.o gq_60 trivial rfl).2.trans f_164
  have f_166 := (hs.o gq_60 trivial rfl).2.trans f_166
  have f_169 := (hs.o gq_60 trivial rfl).2.trans f_169
  have f_171 := (hs.o gq_60 trivial rfl).2.trans f_171
  have f_173 := (hs.o gq_60 trivial rfl).2.trans f_173
  have f_175 := (hs.o gq_60 trivial rfl).2.trans f_175
  have f_177 := (hs.o gq_60 trivial rfl).2.trans f_177
  have f_179 := (hs.o gq_60 trivial rfl).2.trans f_179
  have f_181 := (hs.o gq_60 trivial rfl).2.trans f_181
  have f_183 := (hs.o gq_60 trivial rfl).2.trans f_183
  have f_185 := (hs.o gq_60 trivial rfl).2.trans f_185
  have f_187 := (hs.o gq_60 trivial rfl).2.trans f_187
  have f_189 := (hs.o gq_60 trivial rfl).2.trans f_189
  have f_191 := (hs.o gq_60 trivial rfl).2.trans f_191
  have f_193 := (hs.o gq_60 trivial rfl).2.trans f_193
  have fa_36 : ∀ j, j < 14 → _ = P_wo j := fun j hj => (hs.a gq_34 rfl j).1.trans (fa_36 j hj)
  have fa_167 : ∀ j, j < 13 → _ = P_w1 j := fun j hj => (hs.a gq_165 rfl j).1.trans (fa_167 j hj)
  have gq_2 := gq_2.S hs
  have gq_27 := gq_27.S hs
  have gq_29 := gq_29.S hs
  have gq_31 := gq_31.S hs
  have gq_34 := gq_34.S hs
  have gq_37 := gq_37.S hs
  have gq_39 := gq_39.S hs
  have gq_41 := gq_41.S hs
  have gq_44 := gq_44.S hs
  have gq_47 := gq_47.S hs
  have gq_50 := gq_50.S hs
  have gq_53 := gq_53.S hs
  have gq_55 := gq_55.S hs
  have gq_60 := gq_60.S hs
  have gq_163 := gq_163.S hs
  have gq_165 := gq_165.S hs
  have gq_168 := gq_168.S hs
  have gq_170 := gq_170.S hs
  have gq_172 := gq_172.S hs
  have gq_174 := gq_174.S hs
  have gq_176 := gq_176.S hs
  have gq_178 := gq_178.S hs
  have gq_180 := gq_180.S hs
  have gq_182 := gq_182.S hs
  have gq_184 := gq_184.S hs
  have gq_186 := gq_186.S hs
  have gq_188 := gq_188.S hs
  have gq_190 := gq_190.S hs
  have gq_192 := gq_192.S hs
  refine lv_aload_n hx hb dL_law_441 rfl (lv_at hl 1 rfl) ?_
  refine lv_aload_n hx hb dL_law_442 rfl (lv_at hl 3 rfl) ?_
  refine lv_iload_n hx hb dL_law_443 rfl (lv_at hl 0 rfl) ?_
  refine lv_iconst (v := 1) hx hb dL_law_444 (by decide) ?_
  refine lv_iadd hx hb dL_law_445 ?_
  refine lv_topi (fun x_307 ex_307 => ?_)
  obtain rfl : x_307 = (1 : Int32) := ex_307.trans (by decide)
  refine va_sld hx hb hX hbl hbA hW.2.2.2.1 (vp_in_iff.mpr (by rw [hL7]; decide)) dL_law_446 ?_
  rw [show (1 : Int32).toNatClampNeg = 1 from by decide]
  refine lv_aload_n hx hb dL_law_447 rfl (lv_at hl 3 rfl) ?_
  refine lv_iload_n hx hb dL_law_448 rfl (lv_at hl 0 rfl) ?_
  refine lv_iconst (v := 2) hx hb dL_law_449 (by decide) ?_
  refine lv_iadd hx hb dL_law_450 ?_
  refine lv_topi (fun x_308 ex_308 => ?_)
  obtain rfl : x_308 = (2 : Int32) := ex_308.trans (by decide)
  refine va_sld hx hb hX hbl hbA hW.2.2.2.1 (vp_in_iff.mpr (by rw [hL7]; decide)) dL_law_451 ?_
  rw [show (2 : Int32).toNatClampNeg = 2 from by decide]
  refine lv_aload_n hx hb dL_law_452 rfl (lv_at hl 3 rfl) ?_
  refine lv_iload_n hx hb dL_law_453 rfl (lv_at hl 0 rfl) ?_
  refine lv_iconst (v := 3) hx hb dL_law_454 (by decide) ?_
  refine lv_iadd hx hb dL_law_455 ?_
  refine lv_topi (fun x_309 ex_309 => ?_)
  obtain rfl : x_309 = (3 : Int32) := ex_309.trans (by decide)
  refine va_sld hx hb hX hbl hbA hW.2.2.2.1 (vp_in_iff.mpr (by rw [hL7]; decide)) dL_law_456 ?_
  rw [show (3 : Int32).toNatClampNeg = 3 from by decide]
  refine lv_aload_n hx hb dL_law_457 rfl (lv_at hl 3 rfl) ?_
  refine lv_iload_n hx hb dL_law_458 rfl (lv_at hl 0 rfl) ?_
  refine lv_iconst (v := 4) hx hb dL_law_459 (by decide) ?_
  refine lv_iadd hx hb dL_law_460 ?_
  refine lv_topi (fun x_310 ex_310 => ?_)
  obtain rfl : x_310 = (4 : Int32) := ex_310.trans (by decide)
  refine va_sld hx hb hX hbl hbA hW.2.2.2.1 (vp_in_iff.mpr (by rw [hL7]; decide)) dL_law_461 ?_
  rw [show (4 : Int32).toNatClampNeg = 4 from by decide]
  refine lv_aload_n hx hb dL_law_462 rfl (lv_at hl 3 rfl) ?_
  refine lv_iload_n hx hb dL_law_463 rfl (lv_at hl 0 rfl) ?_
  refine lv_iconst (v := 5) hx hb dL_law_464 (by decide) ?_
  refine lv_iadd hx hb dL_law_465 ?_
  refine lv_topi (fun x_311 ex_311 => ?_)
  obtain rfl : x_311 = (5 : Int32) := ex_311.trans (by decide)
  refine va_sld hx hb hX hbl hbA hW.2.2.2.1 (vp_in_iff.mpr (by rw [hL7]; decide)) dL_law_466 ?_
  rw [show (5 : Int32).toNatClampNeg = 5 from by decide]
  refine hx_goi (hx_runV (As := [.int (xs 1), .int (xs 2), .int (xs 3), .int (xs 4), .int (xs 5)]) (rest := [.int r_304]) ⟨hx, hb, hml, hown, hts⟩ hW gq_60 td_10 (T := TX10) (N := 98) rfl (c_X10_anew l dC dI dA L_302 h_303 H.size q_60 (xs 1) (xs 2) (xs 3) (xs 4) (xs 5) gq_60 f_81) (cwV 5 hts (hx_gV kw_1548 kw_1545 kw_1546 kw_1547 kw_103) rfl rfl rfl (by decide +kernel) ⟨Nat.le_of_ble_eq_true rfl, Nat.le_of_ble_eq_true rfl⟩) rfl hl.1 rfl (Nat.le_of_ble_eq_true rfl) dL_law_467 ⟨Nat.le_of_ble_eq_true rfl, Nat.le_of_ble_eq_true rfl⟩) hW (fun r_314 L_312 h_313 H locs p_315 hW => ?_)
  obtain ⟨hr_316, hs⟩ := p_315
  have hs : hx_S P_tb [] L_302 h_303 L_312 h_313 := hs
  have f_4 := (hs.o gq_2 trivial rfl).1.trans f_4
  have f_5 := (hs.o gq_2 trivial rfl).1.trans f_5
  have f_9 := (hs.o gq_2 trivial rfl).1.trans f_9
  have f_11 := (hs.o gq_2 trivial rfl).1.trans f_11
  have f_14 := (hs.o gq_2 trivial rfl).1.trans f_14
  have f_16 := (hs.o gq_2 trivial rfl).1.trans f_16
  have f_28 := (hs.o gq_2 trivial rfl).2.trans f_28
  have f_30 := (hs.o gq_2 trivial rfl).2.trans f_30
  have f_32 := (hs.o gq_2 trivial rfl).2.trans f_32
  have f_33 := (hs.o gq_31 trivial rfl).1.trans f_33
  have f_35 := (hs.o gq_31 trivial rfl).2.trans f_35
  have f_38 := (hs.o gq_2 trivial rfl).2.trans f_38
  have f_40 := (hs.o gq_2 trivial rfl).2.trans f_40
  have f_42 := (hs.o gq_2 trivial rfl).2.trans f_42
  have f_43 := (hs.o gq_41 trivial rfl).1.trans f_43
  have f_45 := (hs.o gq_2 trivial rfl).2.trans f_45
  have f_46 := (hs.o gq_44 trivial rfl).1.trans f_46
  have f_48 := (hs.o gq_2 trivial rfl).2.trans f_48
  have f_49 := (hs.o gq_47 trivial rfl).1.trans f_49
  have f_51 := (hs.o gq_2 trivial rfl).2.trans f_51
  have f_52 := (hs.o gq_50 trivial rfl).1.trans f_52
  have f_54 := (hs.o gq_50 trivial rfl).2.trans f_54
  have f_56 := (hs.o gq_2 trivial rfl).2.trans f_56
  have f_57 := (hs.o gq_55 trivial rfl).1.trans f_57
  have f_58 := (hs.o gq_55 trivial rfl).1.trans f_58
  have f_61 := (hs.o gq_60 trivial rfl).1.trans f_61
  have f_62 := (hs.o gq_60 trivial rfl).1.trans f_62
  have f_68 := (hs.o gq_60 trivial rfl).1.trans f_68
  have f_69 := (hs.o gq_60 trivial rfl).1.trans f_69
  have f_70 := (hs.o gq_60 trivial rfl).1.trans f_70
  have f_71 := (hs.o gq_60 trivial rfl).1.trans f_71
  have f_72 := (hs.o gq_60 trivial rfl).1.trans f_72
  have f_74 := (hs.o gq_60 trivial rfl).1.trans f_74
  have f_81 := (hs.o gq_60 trivial rfl).1.trans f_81
  have f_90 := (hs.o gq_60 trivial rfl).1.trans f_90
  have f_97 := (hs.o gq_60 trivial rfl).1.trans f_97
  have f_118 := (hs.o gq_60 trivial rfl).1.trans f_118
  have f_120 := (hs.o gq_60 trivial rfl).1.trans f_120
  have f_128 := (hs.o gq_60 trivial rfl).1.trans f_128
  have f_129 := (hs.o gq_60 trivial rfl).1.trans f_129
  have f_130 := (hs.o gq_60 trivial rfl).1.trans f_130
  have f_131 := (hs.o gq_60 trivial rfl).1.trans f_131
  have f_132 := (hs.o gq_60 trivial rfl).1.trans f_132
  have f_133 := (hs.o gq_60 trivial rfl).1.trans f_133
  have f_136 := (hs.o gq_60 trivial rfl).1.trans f_136
  have f_144 := (hs.o gq_60 trivial rfl).1.trans f_144
  have f_145 := (hs.o gq_60 trivial rfl).1.trans f_145
  have f_147 := (hs.o gq_60 trivial rfl).1.trans f_147
  have f_148 := (hs.o gq_60 trivial rfl).1.trans f_148
  have f_151 := (hs.o gq_60 trivial rfl).1.trans f_151
  have f_153 := (hs.o gq_60 trivial rfl).1.trans f_153
  have f_156 := (hs.o gq_60 trivial rfl).1.trans f_156
  have f_157 := (hs.o gq_60 trivial rfl).1.trans f_157
  have f_164 := (hs.o gq_60 trivial rfl).2.trans f_164
  have f_166 := (hs.o gq_60 trivial rfl).2.trans f_166
  have f_169 := (hs.o gq_60 trivial rfl).2.trans f_169
  have f_171 := (hs.o gq_60 trivial rfl).2.trans f_171
  have f_173 := (hs.o gq_60 trivial rfl).2.trans f_173
  have f_175 := (hs.o gq_60 trivial rfl).2.trans f_175
  have f_177 := (hs.o gq_60 trivial rfl).2.trans f_177
  have f_179 := (hs.o gq_60 trivial rfl).2.trans f_179
  have f_181 := (hs.o gq_60 trivial rfl).2.trans f_181
  have f_183 := (hs.o gq_60 trivial rfl).2.trans f_183
  have f_185 := (hs.o gq_60 trivial rfl).2.trans f_185
  have f_187 := (hs.o gq_60 trivial rfl).2.trans f_187
  have f_189 := (hs.o gq_60 trivial rfl).2.trans f_189
  have f_191 := (hs.o gq_60 trivial rfl).2.trans f_191
  have f_193 := (hs.o gq_60 trivial rfl).2.trans f_193
  have fa_36 : ∀ j, j < 14 → _ = P_wo j := fun j hj => (hs.a gq_34 rfl j).1.trans (fa_36 j hj)
  have fa_167 : ∀ j, j < 13 → _ = P_w1 j := fun j hj => (hs.a gq_165 rfl j).1.trans (fa_167 j hj)
  have gq_2 := gq_2.S hs
  have gq_27 := gq_27.S hs
  have gq_29 := gq_29.S hs
  have gq_31 := gq_31.S hs
  have gq_34 := gq_34.S hs
  have gq_37 := gq_37.S hs
  have gq_39 := gq_39.S hs
  have gq_41 := gq_41.S hs
  have gq_44 := gq_44.S hs
  have gq_47 := gq_47.S hs
  have gq_50 := gq_50.S hs
  have gq_53 := gq_53.S hs
  have gq_55 := gq_55.S hs
  have gq_60 := gq_60.S hs
  have gq_163 := gq_163.S hs
  have gq_165 := gq_165.S hs
  have gq_168 := gq_168.S hs
  have gq_170 := gq_170.S hs
  have gq_172 := gq_172.S hs
  have gq_174 := gq_174.S hs
  have gq_176 := gq_176.S hs
  have gq_178 := gq_178.S hs
  have gq_180 := gq_180.S hs
  have gq_182 := gq_182.S hs
  have gq_184 := gq_184.S hs
  have gq_186 := gq_186.S hs
  have gq_188 := gq_188.S hs
  have gq_190 := gq_190.S hs
  have gq_192 := gq_192.S hs
  have heq : r_304 = r_314 := by
    first | exact hr_306.trans hr_316.symm | (rcases hr_306 with ⟨k1, k2⟩ | ⟨k1, k2⟩ <;> rcases hr_316 with ⟨k3, k4⟩ | ⟨k3, k4⟩ <;> first | exact k2.trans k4.symm | (exfalso; omega) | exact absurd k1 k3 | exact absurd k3 k1)
  refine hb_icmp_eq (zx := r_304.toInt) (zy := r_314.toInt) (tgt := 1379) hx hb rfl rfl dL_law_470 (by decide) (fun c_317 => ?_) (fun c_317 => absurd (congrArg Int32.toInt heq) c_317)
  exact law_tail hx hb hr hlocks hX hbl hbA hL7 _ _ hW.2.2.2.1 ls hl (Nat.le_of_ble_eq_true rfl) (Nat.le_of_ble_eq_true rfl)

set_option maxHeartbeats 4000000 in
set_option maxRecDepth 100000 in
theorem law_case_7 {p : Program} {e : Env} {s : State} {m : MethodId} {below : List Frame} {meth : Method} {c : Code} (l : Launch) {b LN : Nat} {xs : Nat → Int32} (hx : p.tables.exec = Jvm.exec) (hb : c.code = code) (hr : meth.sig.returnType = ret) (hlocks : meth.locks = false) (hml : c.maxLocals = 4) (hown : s.vm.findClass "SmallCourtLaw" = some m.cls) (hts : ∀ w ∈ hx_all, w.before #[Value.ref b] s = true) (hX : va_X b LN xs s s.heap) (hbl : b < s.heap.size) (hbA : ¬ s.heap.size ≤ b) (hL7 : LN = 7) (dC : Nat → ClassId) (dI : Nat → Nat → Nat) (dA : Nat → ClassId) (b0 : Nat) (q_2 q_27 q_29 q_31 q_34 q_37 q_39 q_41 q_44 q_47 q_50 q_53 q_55 q_60 q_163 q_165 q_168 q_170 q_172 q_174 q_176 q_178 q_180 q_182 q_184 q_186 q_188 q_190 q_192 : Nat) (L1 : List Nat) (hl1 : hx_h) (H : Heap) (locs : List Loc) (ls : Array Slot) (hW : hx_W P_tb (P_ty dA) (dC, dI) vwCl (fun q : Nat => s.heap.size ≤ q) s.heap L1 hl1 s H locs) (hZ : hx_Xt (fun q : Nat => s.heap.size ≤ q) b0 s) (f_4 : hl1.2.1 q_2 1 = (0 : Int32)) (f_5 : hl1.2.1 q_2 2 = (0 : Int32)) (f_9 : hl1.2.1 q_2 6 = (0 : Int32)) (f_11 : hl1.2.1 q_2 8 = (0 : Int32)) (f_14 : hl1.2.1 q_2 11 = (0 : Int32)) (f_16 : hl1.2.1 q_2 13 = (0 : Int32)) (f_28 : hl1.2.2 q_2 0 = some q_27) (f_30 : hl1.2.2 q_2 3 = some q_29) (f_32 : hl1.2.2 q_2 4 = some q_31) (f_33 : hl1.2.1 q_31 0 = (-1 : Int32)) (f_35 : hl1.2.2 q_31 2 = some q_34) (f_38 : hl1.2.2 q_2 5 = some q_37) (f_40 : hl1.2.2 q_2 7 = some q_39) (f_42 : hl1.2.2 q_2 9 = some q_41) (f_43 : hl1.2.1 q_41 0 = (0 : Int32)) (f_45 : hl1.2.2 q_2 14 = some q_44) (f_46 : hl1.2.1 q_44 0 = (0 : Int32)) (f_48 : hl1.2.2 q_2 17 = some q_47) (f_49 : hl1.2.1 q_47 1 = (0 : Int32)) (f_51 : hl1.2.2 q_2 18 = some q_50) (f_52 : hl1.2.1 q_50 0 = (-1 : Int32)) (f_54 : hl1.2.2 q_50 5 = some q_53) (f_56 : hl1.2.2 q_2 19 = some q_55) (f_57 : hl1.2.1 q_55 0 = (0 : Int32)) (f_58 : hl1.2.1 q_55 1 = (0 : Int32)) (f_61 : hl1.2.1 q_60 0 = (0 : Int32)) (f_62 : hl1.2.1 q_60 1 = (0 : Int32)) (f_68 : hl1.2.1 q_60 7 = (0 : Int32)) (f_69 : hl1.2.1 q_60 8 = (0 : Int32)) (f_70 : hl1.2.1 q_60 9 = (0 : Int32)) (f_71 : hl1.2.1 q_60 10 = (0 : Int32)) (f_72 : hl1.2.1 q_60 11 = (0 : Int32)) (f_74 : hl1.2.1 q_60 13 = (0 : Int32)) (f_81 : hl1.2.1 q_60 20 = (0 : Int32)) (f_90 : hl1.2.1 q_60 29 = (0 : Int32)) (f_97 : hl1.2.1 q_60 36 = (0 : Int32)) (f_118 : hl1.2.1 q_60 57 = (0 : Int32)) (f_120 : hl1.2.1 q_60 59 = (0 : Int32)) (f_128 : hl1.2.1 q_60 67 = (0 : Int32)) (f_129 : hl1.2.1 q_60 68 = (0 : Int32)) (f_130 : hl1.2.1 q_60 69 = (0 : Int32)) (f_131 : hl1.2.1 q_60 70 = (0 : Int32)) (f_132 : hl1.2.1 q_60 71 = (0 : Int32)) (f_133 : hl1.2.1 q_60 72 = (0 : Int32)) (f_136 : hl1.2.1 q_60 75 = (0 : Int32)) (f_144 : hl1.2.1 q_60 83 = (0 : Int32)) (f_145 : hl1.2.1 q_60 84 = (0 : Int32)) (f_147 : hl1.2.1 q_60 86 = (0 : Int32)) (f_148 : hl1.2.1 q_60 87 = (0 : Int32)) (f_151 : hl1.2.1 q_60 90 = (0 : Int32)) (f_153 : hl1.2.1 q_60 92 = (0 : Int32)) (f_156 : hl1.2.1 q_60 95 = (0 : Int32)) (f_157 : hl1.2.1 q_60 96 = (0 : Int32)) (f_164 : hl1.2.2 q_60 2 = some q_163) (f_166 : hl1.2.2 q_60 3 = some q_165) (f_169 : hl1.2.2 q_60 4 = some q_168) (f_171 : hl1.2.2 q_60 5 = some q_170) (f_173 : hl1.2.2 q_60 6 = some q_172) (f_175 : hl1.2.2 q_60 12 = some q_174) (f_177 : hl1.2.2 q_60 15 = some q_176) (f_179 : hl1.2.2 q_60 21 = some q_178) (f_181 : hl1.2.2 q_60 22 = some q_180) (f_183 : hl1.2.2 q_60 23 = some q_182) (f_185 : hl1.2.2 q_60 24 = some q_184) (f_187 : hl1.2.2 q_60 25 = some q_186) (f_189 : hl1.2.2 q_60 26 = some q_188) (f_191 : hl1.2.2 q_60 82 = some q_190) (f_193 : hl1.2.2 q_60 94 = some q_192) (fa_36 : ∀ j, j < 14 → hl1.2.1 q_34 j = P_wo j) (fa_167 : ∀ j, j < 13 → hl1.2.1 q_165 j = P_w1 j) (gq_2 : hx_g L1 hl1 q_2 9) (gq_27 : hx_g L1 hl1 q_27 42) (gq_29 : hx_g L1 hl1 q_29 6) (gq_31 : hx_g L1 hl1 q_31 0) (gq_34 : hx_g L1 hl1 q_34 11) (gq_37 : hx_g L1 hl1 q_37 43) (gq_39 : hx_g L1 hl1 q_39 44) (gq_41 : hx_g L1 hl1 q_41 1) (gq_44 : hx_g L1 hl1 q_44 3) (gq_47 : hx_g L1 hl1 q_47 5) (gq_50 : hx_g L1 hl1 q_50 7) (gq_53 : hx_g L1 hl1 q_53 36) (gq_55 : hx_g L1 hl1 q_55 8) (gq_60 : hx_g L1 hl1 q_60 10) (gq_163 : hx_g L1 hl1 q_163 49) (gq_165 : hx_g L1 hl1 q_165 50) (gq_168 : hx_g L1 hl1 q_168 51) (gq_170 : hx_g L1 hl1 q_170 52) (gq_172 : hx_g L1 hl1 q_172 53) (gq_174 : hx_g L1 hl1 q_174 54) (gq_176 : hx_g L1 hl1 q_176 55) (gq_178 : hx_g L1 hl1 q_178 58) (gq_180 : hx_g L1 hl1 q_180 59) (gq_182 : hx_g L1 hl1 q_182 60) (gq_184 : hx_g L1 hl1 q_184 61) (gq_186 : hx_g L1 hl1 q_186 62) (gq_188 : hx_g L1 hl1 q_188 63) (gq_190 : hx_g L1 hl1 q_190 108) (gq_192 : hx_g L1 hl1 q_192 114) (hl : lv_has ls 4 [(3, .int (0 : Int32)), (2, .ref q_60), (1, .ref q_2), (0, .ref b)]) : W p l e room_1 s m #[Value.ref b] below meth c H locs 112 26072 (lw_Z below #[Value.ref b] s) (F0 m 475 ls []) := by
  refine lv_aload_n hx hb dL_law_475 rfl (lv_at hl 2 rfl) ?_
  refine lv_aload_n hx hb dL_law_476 rfl (lv_at hl 3 rfl) ?_
  refine lv_iload_n hx hb dL_law_477 rfl (lv_at hl 0 rfl) ?_
  refine lv_iconst (v := 1) hx hb dL_law_478 (by decide) ?_
  refine lv_iadd hx hb dL_law_479 ?_
  refine lv_topi (fun x_318 ex_318 => ?_)
  obtain rfl : x_318 = (1 : Int32) := ex_318.trans (by decide)
  refine va_sld hx hb hX hbl hbA hW.2.2.2.1 (vp_in_iff.mpr (by rw [hL7]; decide)) dL_law_480 ?_
  rw [show (1 : Int32).toNatClampNeg = 1 from by decide]
  refine hx_goi (hx_runV (As := [.int (xs 1)]) (rest := []) ⟨hx, hb, hml, hown, hts⟩ hW gq_2 td_9 (T := TX9) (N := 20) rfl (c_X9_dies l dC dI dA L1 hl1 H.size q_2 (xs 1) gq_2 f_11) (cwV 1 hts (hx_gV kw_663 kw_660 kw_661 kw_662 kw_94) rfl rfl rfl (by decide +kernel) ⟨Nat.le_of_ble_eq_true rfl, Nat.le_of_ble_eq_true rfl⟩) rfl hl.1 rfl (Nat.le_of_ble_eq_true rfl) dL_law_481 ⟨Nat.le_of_ble_eq_true rfl, Nat.le_of_ble_eq_true rfl⟩) hW (fun r_321 L_319 h_320 H locs p_322 hW => ?_)
  obtain ⟨hr_323, hs⟩ := p_322
  have hs : hx_S P_tb [] L1 hl1 L_319 h_320 := hs
  have f_4 := (hs.o gq_2 trivial rfl).1.trans f_4
  have f_5 := (hs.o gq_2 trivial rfl).1.trans f_5
  have f_9 := (hs.o gq_2 trivial rfl).1.trans f_9
  have f_11 := (hs.o gq_2 trivial rfl).1.trans f_11
  have f_14 := (hs.o gq_2 trivial rfl).1.trans f_14
  have f_16 := (hs.o gq_2 trivial rfl).1.trans f_16
  have f_28 := (hs.o gq_2 trivial rfl).2.trans f_28
  have f_30 := (hs.o gq_2 trivial rfl).2.trans f_30
  have f_32 := (hs.o gq_2 trivial rfl).2.trans f_32
  have f_33 := (hs.o gq_31 trivial rfl).1.trans f_33
  have f_35 := (hs.o gq_31 trivial rfl).2.trans f_35
  have f_38 := (hs.o gq_2 trivial rfl).2.trans f_38
  have f_40 := (hs.o gq_2 trivial rfl).2.trans f_40
  have f_42 := (hs.o gq_2 trivial rfl).2.trans f_42
  have f_43 := (hs.o gq_41 trivial rfl).1.trans f_43
  have f_45 := (hs.o gq_2 trivial rfl).2.trans f_45
  have f_46 := (hs.o gq_44 trivial rfl).1.trans f_46
  have f_48 := (hs.o gq_2 trivial rfl).2.trans f_48
  have f_49 := (hs.o gq_47 trivial rfl).1.trans f_49
  have f_51 := (hs.o gq_2 trivial rfl).2.trans f_51
  have f_52 := (hs.o gq_50 trivial rfl).1.trans f_52
  have f_54 := (hs.o gq_50 trivial rfl).2.trans f_54
  have f_56 := (hs.o gq_2 trivial rfl).2.trans f_56
  have f_57 := (hs.o gq_55 trivial rfl).1.trans f_57
  have f_58 := (hs.o gq_55 trivial rfl).1.trans f_58
  have f_61 := (hs.o gq_60 trivial rfl).1.trans f_61
  have f_62 := (hs.o gq_60 trivial rfl).1.trans f_62
  have f_68 := (hs.o gq_60 trivial rfl).1.trans f_68
  have f_69 := (hs.o gq_60 trivial rfl).1.trans f_69
  have f_70 := (hs.o gq_60 trivial rfl).1.trans f_70
  have f_71 := (hs.o gq_60 trivial rfl).1.trans f_71
  have f_72 := (hs.o gq_60 trivial rfl).1.trans f_72
  have f_74 := (hs.o gq_60 trivial rfl).1.trans f_74
  have f_81 := (hs.o gq_60 trivial rfl).1.trans f_81
  have f_90 := (hs.o gq_60 trivial rfl).1.trans f_90
  have f_97 := (hs.o gq_60 trivial rfl).1.trans f_97
  have f_118 := (hs.o gq_60 trivial rfl).1.trans f_118
  have f_120 := (hs.o gq_60 trivial rfl).1.trans f_120
  have f_128 := (hs.o gq_60 trivial rfl).1.trans f_128
  have f_129 := (hs.o gq_60 trivial rfl).1.trans f_129
  have f_130 := (hs.o gq_60 trivial rfl).1.trans f_130
  have f_131 := (hs.o gq_60 trivial rfl).1.trans f_131
  have f_132 := (hs.o gq_60 trivial rfl).1.trans f_132
  have f_133 := (hs.o gq_60 trivial rfl).1.trans f_133
  have f_136 := (hs.o gq_60 trivial rfl).1.trans f_136
  have f_144 := (hs.o gq_60 trivial rfl).1.trans f_144
  have f_145 := (hs.o gq_60 trivial rfl).1.trans f_145
  have f_147 := (hs.o gq_60 trivial rfl).1.trans f_147
  have f_148 := (hs.o gq_60 trivial rfl).1.trans f_148
  have f_151 := (hs.o gq_60 trivial rfl).1.trans f_151
  have f_153 := (hs.o gq_60 trivial rfl).1.trans f_153
  have f_156 := (hs.o gq_60 trivial rfl).1.trans f_156
  have f_157 := (hs.o gq_60 trivial rfl).1.trans f_157
  have f_164 := (hs.o gq_60 trivial rfl).2.trans f_164
  have f_166 := (hs.o gq_60 trivial rfl).2.trans f_166
  have f_169 := (hs.o gq_60 trivial rfl).2.trans f_169
  have f_171 := (hs.o gq_60 trivial rfl).2.trans f_171
  have f_173 := (hs.o gq_60 trivial rfl).2.trans f_173
  have f_175 := (hs.o gq_60 trivial rfl).2.trans f_175
  have f_177 := (hs.o gq_60 trivial rfl).2.trans f_177
  have f_179 := (hs.o gq_60 trivial rfl).2.trans f_179
  have f_181 := (hs.o gq_60 trivial rfl).2.trans f_181
  have f_183 := (hs.o gq_60 trivial rfl).2.trans f_183
  have f_185 := (hs.o gq_60 trivial rfl).2.trans f_185
  have f_187 := (hs.o gq_60 trivial rfl).2.trans f_187
  have f_189 := (hs.o gq_60 trivial rfl).2.trans f_189
  have f_191 := (hs.o gq_60 trivial rfl).2.trans f_191
  have f_193 := (hs.o gq_60 trivial rfl).2.trans f_193
  have fa_36 : ∀ j, j < 14 → _ = P_wo j := fun j hj => (hs.a gq_34 rfl j).1.trans (fa_36 j hj)
  have fa_167 : ∀ j, j < 13 → _ = P_w1 j := fun j hj => (hs.a gq_165 rfl j).1.trans (fa_167 j hj)
  have gq_2 := gq_2.S hs
  have gq_27 := gq_27.S hs
  have gq_29 := gq_29.S hs
  have gq_31 := gq_31.S hs
  have gq_34 := gq_34.S hs
  have gq_37 := gq_37.S hs
  have gq_39 := gq_39.S hs
  have gq_41 := gq_41.S hs
  have gq_44 := gq_44.S hs
  have gq_47 := gq_47.S hs
  have gq_50 := gq_50.S hs
  have gq_53 := gq_53.S hs
  have gq_55 := gq_55.S hs
  have gq_60 := gq_60.S hs
  have gq_163 := gq_163.S hs
  have gq_165 := gq_165.S hs
  have gq_168 := gq_168.S hs
  have gq_170 := gq_170.S hs
  have gq_172 := gq_172.S hs
  have gq_174 := gq_174.S hs
  have gq_176 := gq_176.S hs
  have gq_178 := gq_178.S hs
  have gq_180 := gq_180.S hs
  have gq_182 := gq_182.S hs
  have gq_184 := gq_184.S hs
  have gq_186 := gq_186.S hs
  have gq_188 := gq_188.S hs
  have gq_190 := gq_190.S hs
  have gq_192 := gq_192.S hs
  refine lv_aload_n hx hb dL_law_484 rfl (lv_at hl 1 rfl) ?_
  refine lv_aload_n hx hb dL_law_485 rfl (lv_at hl 3 rfl) ?_
  refine lv_iload_n hx hb dL_law_486 rfl (lv_at hl 0 rfl) ?_
  refine lv_iconst (v := 1) hx hb dL_law_487 (by decide) ?_
  refine lv_iadd hx hb dL_law_488 ?_
  refine lv_topi (fun x_324 ex_324 => ?_)
  obtain rfl : x_324 = (1 : Int32) := ex_324.trans (by decide)
  refine va_sld hx hb hX hbl hbA hW.2.2.2.1 (vp_in_iff.mpr (by rw [hL7]; decide)) dL_law_489 ?_
  rw [show (1 : Int32).toNatClampNeg = 1 from by decide]
  refine hx_goi (hx_runV (As := [.int (xs 1)]) (rest := [.int r_321]) ⟨hx, hb, hml, hown, hts⟩ hW gq_60 td_10 (T := TX10) (N := 98) rfl (c_X10_dies l dC dI dA L_319 h_320 H.size q_60 (xs 1) gq_60 f_81) (cwV 1 hts (hx_gV kw_1556 kw_1553 kw_1554 kw_1555 kw_103) rfl rfl rfl (by decide +kernel) ⟨Nat.le_of_ble_eq_true rfl, Nat.le_of_ble_eq_true rfl⟩) rfl hl.1 rfl (Nat.le_of_ble_eq_true rfl) dL_law_490 ⟨Nat.le_of_ble_eq_true rfl, Nat.le_of_ble_eq_true rfl⟩) hW (fun r_327 L_325 h_326 H locs p_328 hW => ?_)
  obtain ⟨hr_329, hs⟩ := p_328
  have hs : hx_S P_tb [] L_319 h_320 L_325 h_326 := hs
  have f_4 := (hs.o gq_2 trivial rfl).1.trans f_4
  have f_5 := (hs.o gq_2 trivial rfl).1.trans f_5
  have f_9 := (hs.o gq_2 trivial rfl).1.trans f_9
  have f_11 := (hs.o gq_2 trivial rfl).1.trans f_11
  have f_14 := (hs.o gq_2 trivial rfl).1.trans f_14
  have f_16 := (hs.o gq_2 trivial rfl).1.trans f_16
  have f_28 := (hs.o gq_2 trivial rfl).2.trans f_28
  have f_30 := (hs.o gq_2 trivial rfl).2.trans f_30
  have f_32 := (hs.o gq_2 trivial rfl).2.trans f_32
  have f_33 := (hs.o gq_31 trivial rfl).1.trans f_33
  have f_35 := (hs.o gq_31 trivial rfl).2.trans f_35
  have f_38 := (hs.o gq_2 trivial rfl).2.trans f_38
  have f_40 := (hs.o gq_2 trivial rfl).2.trans f_40
  have f_42 := (hs.o gq_2 trivial rfl).2.trans f_42
  have f_43 := (hs.o gq_41 trivial rfl).1.trans f_43
  have f_45 := (hs.o gq_2 trivial rfl).2.trans f_45
  have f_46 := (hs.o gq_44 trivial rfl).1.trans f_46
  have f_48 := (hs.o gq_2 trivial rfl).2.trans f_48
  have f_49 := (hs.o gq_47 trivial rfl).1.trans f_49
  have f_51 := (hs.o gq_2 trivial rfl).2.trans f_51
  have f_52 := (hs.o gq_50 trivial rfl).1.trans f_52
  have f_54 := (hs.o gq_50 trivial rfl).2.trans f_54
  have f_56 := (hs.o gq_2 trivial rfl).2.trans f_56
  have f_57 := (hs.o gq_55 trivial rfl).1.trans f_57
  have f_58 := (hs.o gq_55 trivial rfl).1.trans f_58
  have f_61 := (hs.o gq_60 trivial rfl).1.trans f_61
  have f_62 := (hs.o gq_60 trivial rfl).1.trans f_62
  have f_68 := (hs.o gq_60 trivial rfl).1.trans f_68
  have f_69 := (hs.o gq_60 trivial rfl).1.trans f_69
  have f_70 := (hs.o gq_60 trivial rfl).1.trans f_70
  have f_71 := (hs.o gq_60 trivial rfl).1.trans f_71
  have f_72 := (hs.o gq_60 trivial rfl).1.trans f_72
  have f_74 := (hs.o gq_60 trivial rfl).1.trans f_74
  have f_81 := (hs.o gq_60 trivial rfl).1.trans f_81
  have f_90 := (hs.o gq_60 trivial rfl).1.trans f_90
  have f_97 := (hs.o gq_60 trivial rfl).1.trans f_97
  have f_118 := (hs.o gq_60 trivial rfl).1.trans f_118
  have f_120 := (hs.o gq_60 trivial rfl).1.trans f_120
  have f_128 := (hs.o gq_60 trivial rfl).1.trans f_128
  have f_129 := (hs.o gq_60 trivial rfl).1.trans f_129
  have f_130 := (hs.o gq_60 trivial rfl).1.trans f_130
  have f_131 := (hs.o gq_60 trivial rfl).1.trans f_131
  have f_132 := (hs.o gq_60 trivial rfl).1.trans f_132
  have f_133 := (hs.o gq_60 trivial rfl).1.trans f_133
  have f_136 := (hs.o gq_60 trivial rfl).1.trans f_136
  have f_144 := (hs.o gq_60 trivial rfl).1.trans f_144
  have f_145 := (hs.o gq_60 trivial rfl).1.trans f_145
  have f_147 := (hs.o gq_60 trivial rfl).1.trans f_147
  have f_148 := (hs.o gq_60 trivial rfl).1.trans f_148
  have f_151 := (hs.o gq_60 trivial rfl).1.trans f_151
  have f_153 := (hs.o gq_60 trivial rfl).1.trans f_153
  have f_156 := (hs.o gq_60 trivial rfl).1.trans f_156
  have f_157 := (hs.o gq_60 trivial rfl).1.trans f_157
  have f_164 := (hs.o gq_60 trivial rfl).2.trans f_164
  have f_166 := (hs.o gq_60 trivial rfl).2.trans f_166
  have f_169 := (hs.o gq_60 trivial rfl).2.trans f_169
  have f_171 := (hs.o gq_60 trivial rfl).2.trans f_171
  have f_173 := (hs.o gq_60 trivial rfl).2.trans f_173
  have f_175 := (hs.o gq_60 trivial rfl).2.trans f_175
  have f_177 := (hs.o gq_60 trivial rfl).2.trans f_177
  have f_179 := (hs.o gq_60 trivial rfl).2.trans f_179
  have f_181 := (hs.o gq_60 trivial rfl).2.trans f_181
  have f_183 := (hs.o gq_60 trivial rfl).2.trans f_183
  have f_185 := (hs.o gq_60 trivial rfl).2.trans f_185
  have f_187 := (hs.o gq_60 trivial rfl).2.trans f_187
  have f_189 := (hs.o gq_60 trivial rfl).2.trans f_189
  have f_191 := (hs.o gq_60 trivial rfl).2.trans f_191
  have f_193 := (hs.o gq_60 trivial rfl).2.trans f_193
  have fa_36 : ∀ j, j < 14 → _ = P_wo j := fun j hj => (hs.a gq_34 rfl j).1.trans (fa_36 j hj)
  have fa_167 : ∀ j, j < 13 → _ = P_w1 j := fun j hj => (hs.a gq_165 rfl j).1.trans (fa_167 j hj)
  have gq_2 := gq_2.S hs
  have gq_27 := gq_27.S hs
  have gq_29 := gq_29.S hs
  have gq_31 := gq_31.S hs
  have gq_34 := gq_34.S hs
  have gq_37 := gq_37.S hs
  have gq_39 := gq_39.S hs
  have gq_41 := gq_41.S hs
  have gq_44 := gq_44.S hs
  have gq_47 := gq_47.S hs
  have gq_50 := gq_50.S hs
  have gq_53 := gq_53.S hs
  have gq_55 := gq_55.S hs
  have gq_60 := gq_60.S hs
  have gq_163 := gq_163.S hs
  have gq_165 := gq_165.S hs
  have gq_168 := gq_168.S hs
  have gq_170 := gq_170.S hs
  have gq_172 := gq_172.S hs
  have gq_174 := gq_174.S hs
  have gq_176 := gq_176.S hs
  have gq_178 := gq_178.S hs
  have gq_180 := gq_180.S hs
  have gq_182 := gq_182.S hs
  have gq_184 := gq_184.S hs
  have gq_186 := gq_186.S hs
  have gq_188 := gq_188.S hs
  have gq_190 := gq_190.S hs
  have gq_192 := gq_192.S hs
  have heq : r_321 = r_327 := by
    first | exact hr_323.trans hr_329.symm | (rcases hr_323 with ⟨k1, k2⟩ | ⟨k1, k2⟩ <;> rcases hr_329 with ⟨k3, k4⟩ | ⟨k3, k4⟩ <;> first | exact k2.trans k4.symm | (exfalso; omega) | exact absurd k1 k3 | exact absurd k3 k1)
  refine hb_icmp_eq (zx := r_321.toInt) (zy := r_327.toInt) (tgt := 1379) hx hb rfl rfl dL_law_493 (by decide) (fun c_330 => ?_) (fun c_330 => absurd (congrArg Int32.toInt heq) c_330)
  exact law_tail hx hb hr hlocks hX hbl hbA hL7 _ _ hW.2.2.2.1 ls hl (Nat.le_of_ble_eq_true rfl) (Nat.le_of_ble_eq_true rfl)

set_option maxHeartbeats 4000000 in
set_option maxRecDepth 100000 in
theorem law_case_8 {p : Program} {e : Env} {s : State} {m : MethodId} {below : List Frame} {meth : Method} {c : Code} (l : Launch) {b LN : Nat} {xs : Nat → Int32} (hx : p.tables.exec = Jvm.exec) (hb : c.code = code) (hr : meth.sig.returnType = ret) (hlocks : meth.locks = false) (hml : c.maxLocals = 4) (hown : s.vm.findClass "SmallCourtLaw" = some m.cls) (hts : ∀ w ∈ hx_all, w.before #[Value.ref b] s = true) (hX : va_X b LN xs s s.heap) (hbl : b < s.heap.size) (hbA : ¬ s.heap.size ≤ b) (hL7 : LN = 7) (dC : Nat → ClassId) (dI : Nat → Nat → Nat) (dA : Nat → ClassId) (b0 : Nat) (q_2 q_27 q_29 q_31 q_34 q_37 q_39 q_41 q_44 q_47 q_50 q_53 q_55 q_60 q_163 q_165 q_168 q_170 q_172 q_174 q_176 q_178 q_180 q_182 q_184 q_186 q_188 q_190 q_192 : Nat) (L1 : List Nat) (hl1 : hx_h) (H : Heap) (locs : List Loc) (ls : Array Slot) (hW : hx_W P_tb (P_ty dA) (dC, dI) vwCl (fun q : Nat => s.heap.size ≤ q) s.heap L1 hl1 s H locs) (hZ : hx_Xt (fun q : Nat => s.heap.size ≤ q) b0 s) (f_4 : hl1.2.1 q_2 1 = (0 : Int32)) (f_5 : hl1.2.1 q_2 2 = (0 : Int32)) (f_9 : hl1.2.1 q_2 6 = (0 : Int32)) (f_11 : hl1.2.1 q_2 8 = (0 : Int32)) (f_14 : hl1.2.1 q_2 11 = (0 : Int32)) (f_16 : hl1.2.1 q_2 13 = (0 : Int32)) (f_28 : hl1.2.2 q_2 0 = some q_27) (f_30 : hl1.2.2 q_2 3 = some q_29) (f_32 : hl1.2.2 q_2 4 = some q_31) (f_33 : hl1.2.1 q_31 0 = (-1 : Int32)) (f_35 : hl1.2.2 q_31 2 = some q_34) (f_38 : hl1.2.2 q_2 5 = some q_37) (f_40 : hl1.2.2 q_2 7 = some q_39) (f_42 : hl1.2.2 q_2 9 = some q_41) (f_43 : hl1.2.1 q_41 0 = (0 : Int32)) (f_45 : hl1.2.2 q_2 14 = some q_44) (f_46 : hl1.2.1 q_44 0 = (0 : Int32)) (f_48 : hl1.2.2 q_2 17 = some q_47) (f_49 : hl1.2.1 q_47 1 = (0 : Int32)) (f_51 : hl1.2.2 q_2 18 = some q_50) (f_52 : hl1.2.1 q_50 0 = (-1 : Int32)) (f_54 : hl1.2.2 q_50 5 = some q_53) (f_56 : hl1.2.2 q_2 19 = some q_55) (f_57 : hl1.2.1 q_55 0 = (0 : Int32)) (f_58 : hl1.2.1 q_55 1 = (0 : Int32)) (f_61 : hl1.2.1 q_60 0 = (0 : Int32)) (f_62 : hl1.2.1 q_60 1 = (0 : Int32)) (f_68 : hl1.2.1 q_60 7 = (0 : Int32)) (f_69 : hl1.2.1 q_60 8 = (0 : Int32)) (f_70 : hl1.2.1 q_60 9 = (0 : Int32)) (f_71 : hl1.2.1 q_60 10 = (0 : Int32)) (f_72 : hl1.2.1 q_60 11 = (0 : Int32)) (f_74 : hl1.2.1 q_60 13 = (0 : Int32)) (f_81 : hl1.2.1 q_60 20 = (0 : Int32)) (f_90 : hl1.2.1 q_60 29 = (0 : Int32)) (f_97 : hl1.2.1 q_60 36 = (0 : Int32)) (f_118 : hl1.2.1 q_60 57 = (0 : Int32)) (f_120 : hl1.2.1 q_60 59 = (0 : Int32)) (f_128 : hl1.2.1 q_60 67 = (0 : Int32)) (f_129 : hl1.2.1 q_60 68 = (0 : Int32)) (f_130 : hl1.2.1 q_60 69 = (0 : Int32)) (f_131 : hl1.2.1 q_60 70 = (0 : Int32)) (f_132 : hl1.2.1 q_60 71 = (0 : Int32)) (f_133 : hl1.2.1 q_60 72 = (0 : Int32)) (f_136 : hl1.2.1 q_60 75 = (0 : Int32)) (f_144 : hl1.2.1 q_60 83 = (0 : Int32)) (f_145 : hl1.2.1 q_60 84 = (0 : Int32)) (f_147 : hl1.2.1 q_60 86 = (0 : Int32)) (f_148 : hl1.2.1 q_60 87 = (0 : Int32)) (f_151 : hl1.2.1 q_60 90 = (0 : Int32)) (f_153 : hl1.2.1 q_60 92 = (0 : Int32)) (f_156 : hl1.2.1 q_60 95 = (0 : Int32)) (f_157 : hl1.2.1 q_60 96 = (0 : Int32)) (f_164 : hl1.2.2 q_60 2 = some q_163) (f_166 : hl1.2.2 q_60 3 = some q_165) (f_169 : hl1.2.2 q_60 4 = some q_168) (f_171 : hl1.2.2 q_60 5 = some q_170) (f_173 : hl1.2.2 q_60 6 = some q_172) (f_175 : hl1.2.2 q_60 12 = some q_174) (f_177 : hl1.2.2 q_60 15 = some q_176) (f_179 : hl1.2.2 q_60 21 = some q_178) (f_181 : hl1.2.2 q_60 22 = some q_180) (f_183 : hl1.2.2 q_60 23 = some q_182) (f_185 : hl1.2.2 q_60 24 = some q_184) (f_187 : hl1.2.2 q_60 25 = some q_186) (f_189 : hl1.2.2 q_60 26 = some q_188) (f_191 : hl1.2.2 q_60 82 = some q_190) (f_193 : hl1.2.2 q_60 94 = some q_192) (fa_36 : ∀ j, j < 14 → hl1.2.1 q_34 j = P_wo j) (fa_167 : ∀ j, j < 13 → hl1.2.1 q_165 j = P_w1 j) (gq_2 : hx_g L1 hl1 q_2 9) (gq_27 : hx_g L1 hl1 q_27 42) (gq_29 : hx_g L1 hl1 q_29 6) (gq_31 : hx_g L1 hl1 q_31 0) (gq_34 : hx_g L1 hl1 q_34 11) (gq_37 : hx_g L1 hl1 q_37 43) (gq_39 : hx_g L1 hl1 q_39 44) (gq_41 : hx_g L1 hl1 q_41 1) (gq_44 : hx_g L1 hl1 q_44 3) (gq_47 : hx_g L1 hl1 q_47 5) (gq_50 : hx_g L1 hl1 q_50 7) (gq_53 : hx_g L1 hl1 q_53 36) (gq_55 : hx_g L1 hl1 q_55 8) (gq_60 : hx_g L1 hl1 q_60 10) (gq_163 : hx_g L1 hl1 q_163 49) (gq_165 : hx_g L1 hl1 q_165 50) (gq_168 : hx_g L1 hl1 q_168 51) (gq_170 : hx_g L1 hl1 q_170 52) (gq_172 : hx_g L1 hl1 q_172 53) (gq_174 : hx_g L1 hl1 q_174 54) (gq_176 : hx_g L1 hl1 q_176 55) (gq_178 : hx_g L1 hl1 q_178 58) (gq_180 : hx_g L1 hl1 q_180 59) (gq_182 : hx_g L1 hl1 q_182 60) (gq_184 : hx_g L1 hl1 q_184 61) (gq_186 : hx_g L1 hl1 q_186 62) (gq_188 : hx_g L1 hl1 q_188 63) (gq_190 : hx_g L1 hl1 q_190 108) (gq_192 : hx_g L1 hl1 q_192 114) (hl : lv_has ls 4 [(3, .int (0 : Int32)), (2, .ref q_60), (1, .ref q_2), (0, .ref b)]) : W p l e room_1 s m #[Value.ref b] below meth c H locs 112 26072 (lw_Z below #[Value.ref b] s) (F0 m 498 ls []) := by
  refine lv_aload_n hx hb dL_law_498 rfl (lv_at hl 2 rfl) ?_
  refine lv_aload_n hx hb dL_law_499 rfl (lv_at hl 3 rfl) ?_
  refine lv_iload_n hx hb dL_law_500 rfl (lv_at hl 0 rfl) ?_
  refine lv_iconst (v := 1) hx hb dL_law_501 (by decide) ?_
  refine lv_iadd hx hb dL_law_502 ?_
  refine lv_topi (fun x_331 ex_331 => ?_)
  obtain rfl : x_331 = (1 : Int32) := ex_331.trans (by decide)
  refine va_sld hx hb hX hbl hbA hW.2.2.2.1 (vp_in_iff.mpr (by rw [hL7]; decide)) dL_law_503 ?_
  rw [show (1 : Int32).toNatClampNeg = 1 from by decide]
  refine lv_aload_n hx hb dL_law_504 rfl (lv_at hl 3 rfl) ?_
  refine lv_iload_n hx hb dL_law_505 rfl (lv_at hl 0 rfl) ?_
  refine lv_iconst (v := 2) hx hb dL_law_506 (by decide) ?_
  refine lv_iadd hx hb dL_law_507 ?_
  refine lv_topi (fun x_332 ex_332 => ?_)
  obtain rfl : x_332 = (2 : Int32) := ex_332.trans (by decide)
  refine va_sld hx hb hX hbl hbA hW.2.2.2.1 (vp_in_iff.mpr (by rw [hL7]; decide)) dL_law_508 ?_
  rw [show (2 : Int32).toNatClampNeg = 2 from by decide]
  refine hb_if_eq (zx := (xs 2).toInt) (tgt := 516) hx hb rfl dL_law_509 (by decide) (fun c_333 => ?_) (fun c_333 => ?_)
  · skip
    refine lv_iconst (v := 0) hx hb dL_law_516 (by decide) ?_
    refine hx_goi (hx_runV (As := [.int (xs 1), .int (0 : Int32)]) (rest := []) ⟨hx, hb, hml, hown, hts⟩ hW gq_2 td_9 (T := TX9) (N := 20) rfl (c_X9_judge l dC dI dA L1 hl1 H.size q_2 (xs 1) (0 : Int32) gq_2 f_11) (cwV 2 hts (hx_gV kw_667 kw_664 kw_665 kw_666 kw_94) rfl rfl rfl (by decide +kernel) ⟨Nat.le_of_ble_eq_true rfl, Nat.le_of_ble_eq_true rfl⟩) rfl hl.1 rfl (Nat.le_of_ble_eq_true rfl) dL_law_517 ⟨Nat.le_of_ble_eq_true rfl, Nat.le_of_ble_eq_true rfl⟩) hW (fun r_336 L_334 h_335 H locs p_337 hW => ?_)
    obtain ⟨hr_338, hs⟩ := p_337
    have hs : hx_S P_tb [] L1 hl1 L_334 h_335 := hs
    have f_4 := (hs.o gq_2 trivial rfl).1.trans f_4
    have f_5 := (hs.o gq_2 trivial rfl).1.trans f_5
    have f_9 := (hs.o gq_2 trivial rfl).1.trans f_9
    have f_11 := (hs.o gq_2 trivial rfl).1.trans f_11
    have f_14 := (hs.o gq_2 trivial rfl).1.trans f_14
    have f_16 := (hs.o gq_2 trivial rfl).1.trans f_16
    have f_28 := (hs.o gq_2 trivial rfl).2.trans f_28
    have f_30 := (hs.o gq_2 trivial rfl).2.trans f_30
    have f_32 := (hs.o gq_2 trivial rfl).2.trans f_32
    have f_33 := (hs.o gq_31 trivial rfl).1.trans f_33
    have f_35 := (hs.o gq_31 trivial rfl).2.trans f_35
    have f_38 := (hs.o gq_2 trivial rfl).2.trans f_38
    have f_40 := (hs.o gq_2 trivial rfl).2.trans f_40
    have f_42 := (hs.o gq_2 trivial rfl).2.trans f_42
    have f_43 := (hs.o gq_41 trivial rfl).1.trans f_43
    have f_45 := (hs.o gq_2 trivial rfl).2.trans f_45
    have f_46 := (hs.o gq_44 trivial rfl).1.trans f_46
    have f_48 := (hs.o gq_2 trivial rfl).2.trans f_48
    have f_49 := (hs.o gq_47 trivial rfl).1.trans f_49
    have f_51 := (hs.o gq_2 trivial rfl).2.trans f_51
    have f_52 := (hs.o gq_50 trivial rfl).1.trans f_52
    have f_54 := (hs.o gq_50 trivial rfl).2.trans f_54
    have f_56 := (hs.o gq_2 trivial rfl).2.trans f_56
    have f_57 := (hs.o gq_55 trivial rfl).1.trans f_57
    have f_58 := (hs.o gq_55 trivial rfl).1.trans f_58
    have f_61 := (hs.o gq_60 trivial rfl).1.trans f_61
    have f_62 := (hs.o gq_60 trivial rfl).1.trans f_62
    have f_68 := (hs.o gq_60 trivial rfl).1.trans f_68
    have f_69 := (hs.o gq_60 trivial rfl).1.trans f_69
    have f_70 := (hs.o gq_60 trivial rfl).1.trans f_70
    have f_71 := (hs.o gq_60 trivial rfl).1.trans f_71
    have f_72 := (hs.o gq_60 trivial rfl).1.trans f_72
    have f_74 := (hs.o gq_60 trivial rfl).1.trans f_74
    have f_81 := (hs.o gq_60 trivial rfl).1.trans f_81
    have f_90 := (hs.o gq_60 trivial rfl).1.trans f_90
    have f_97 := (hs.o gq_60 trivial rfl).1.trans f_97
    have f_118 := (hs.o gq_60 trivial rfl).1.trans f_118
    have f_120 := (hs.o gq_60 trivial rfl).1.trans f_120
    have f_128 := (hs.o gq_60 trivial rfl).1.trans f_128
    have f_129 := (hs.o gq_60 trivial rfl).1.trans f_129
    have f_130 := (hs.o gq_60 trivial rfl).1.trans f_130
    have f_131 := (hs.o gq_60 trivial rfl).1.trans f_131
    have f_132 := (hs.o gq_60 trivial rfl).1.trans f_132
    have f_133 := (hs.o gq_60 trivial rfl).1.trans f_133
    have f_136 := (hs.o gq_60 trivial rfl).1.trans f_136
    have f_144 := (hs.o gq_60 trivial rfl).1.trans f_144
    have f_145 := (hs.o gq_60 trivial rfl).1.trans f_145
    have f_147 := (hs.o gq_60 trivial rfl).1.trans f_147
    have f_148 := (hs.o gq_60 trivial rfl).1.trans f_148
    have f_151 := (hs.o gq_60 trivial rfl).1.trans f_151
    have f_153 := (hs.o gq_60 trivial rfl).1.trans f_153
    have f_156 := (hs.o gq_60 trivial rfl).1.trans f_156
    have f_157 := (hs.o gq_60 trivial rfl).1.trans f_157
    have f_164 := (hs.o gq_60 trivial rfl).2.trans f_164
    have f_166 := (hs.o gq_60 trivial rfl).2.trans f_166
    have f_169 := (hs.o gq_60 trivial rfl).2.trans f_169
    have f_171 := (hs.o gq_60 trivial rfl).2.trans f_171
    have f_173 := (hs.o gq_60 trivial rfl).2.trans f_173
    have f_175 := (hs.o gq_60 trivial rfl).2.trans f_175
    have f_177 := (hs.o gq_60 trivial rfl).2.trans f_177
    have f_179 := (hs.o gq_60 trivial rfl).2.trans f_179
    have f_181 := (hs.o gq_60 trivial rfl).2.trans f_181
    have f_183 := (hs.o gq_60 trivial rfl).2.trans f_183
    have f_185 := (hs.o gq_60 trivial rfl).2.trans f_185
    have f_187 := (hs.o gq_60 trivial rfl).2.trans f_187
    have f_189 := (hs.o gq_60 trivial rfl).2.trans f_189
    have f_191 := (hs.o gq_60 trivial rfl).2.trans f_191
    have f_193 := (hs.o gq_60 trivial rfl).2.trans f_193
    have fa_36 : ∀ j, j < 14 → _ = P_wo j := fun j hj => (hs.a gq_34 rfl j).1.trans (fa_36 j hj)
    have fa_167 : ∀ j, j < 13 → _ = P_w1 j := fun j hj => (hs.a gq_165 rfl j).1.trans (fa_167 j hj)
    have gq_2 := gq_2.S hs
    have gq_27 := gq_27.S hs
    have gq_29 := gq_29.S hs
    have gq_31 := gq_31.S hs
    have gq_34 := gq_34.S hs
    have gq_37 := gq_37.S hs
    have gq_39 := gq_39.S hs
    have gq_41 := gq_41.S hs
    have gq_44 := gq_44.S hs
    have gq_47 := gq_47.S hs
    have gq_50 := gq_50.S hs
    have gq_53 := gq_53.S hs
    have gq_55 := gq_55.S hs
    have gq_60 := gq_60.S hs
    have gq_163 := gq_163.S hs
    have gq_165 := gq_165.S hs
    have gq_168 := gq_168.S hs
    have gq_170 := gq_170.S hs
    have gq_172 := gq_172.S hs
    have gq_174 := gq_174.S hs
    have gq_176 := gq_176.S hs
    have gq_178 := gq_178.S hs
    have gq_180 := gq_180.S hs
    have gq_182 := gq_182.S hs
    have gq_184 := gq_184.S hs
    have gq_186 := gq_186.S hs
    have gq_188 := gq_188.S hs
    have gq_190 := gq_190.S hs
    have gq_192 := gq_192.S hs
    refine lv_aload_n hx hb dL_law_520 rfl (lv_at hl 1 rfl) ?_
    refine lv_aload_n hx hb dL_law_521 rfl (lv_at hl 3 rfl) ?_
    refine lv_iload_n hx hb dL_law_522 rfl (lv_at hl 0 rfl) ?_
    refine lv_iconst (v := 1) hx hb dL_law_523 (by decide) ?_
    refine lv_iadd hx hb dL_law_524 ?_
    refine lv_topi (fun x_339 ex_339 => ?_)
    obtain rfl : x_339 = (1 : Int32) := ex_339.trans (by decide)
    refine va_sld hx hb hX hbl hbA hW.2.2.2.1 (vp_in_iff.mpr (by rw [hL7]; decide)) dL_law_525 ?_
    rw [show (1 : Int32).toNatClampNeg = 1 from by decide]
    refine lv_aload_n hx hb dL_law_526 rfl (lv_at hl 3 rfl) ?_
    refine lv_iload_n hx hb dL_law_527 rfl (lv_at hl 0 rfl) ?_
    refine lv_iconst (v := 2) hx hb dL_law_528 (by decide) ?_
    refine lv_iadd hx hb dL_law_529 ?_
    refine lv_topi (fun x_340 ex_340 => ?_)
    obtain rfl : x_340 = (2 : Int32) := ex_340.trans (by decide)
    refine va_sld hx hb hX hbl hbA hW.2.2.2.1 (vp_in_iff.mpr (by rw [hL7]; decide)) dL_law_530 ?_
    rw [show (2 : Int32).toNatClampNeg = 2 from by decide]
    refine hb_if_eq (zx := (xs 2).toInt) (tgt := 538) hx hb rfl dL_law_531 (by decide) (fun c_341 => ?_) (fun c_341 => by exfalso; omega)
    refine lv_iconst (v := 0) hx hb dL_law_538 (by decide) ?_
    refine hx_goi (hx_runV (As := [.int (xs 1), .int (0 : Int32)]) (rest := [.int r_336]) ⟨hx, hb, hml, hown, hts⟩ hW gq_60 td_10 (T := TX10) (N := 98) rfl (c_X10_judge l dC dI dA L_334 h_335 H.size q_60 (xs 1) (0 : Int32) gq_60 f_81) (cwV 2 hts (hx_gV kw_1560 kw_1557 kw_1558 kw_1559 kw_103) rfl rfl rfl (by decide +kernel) ⟨Nat.le_of_ble_eq_true rfl, Nat.le_of_ble_eq_true rfl⟩) rfl hl.1 rfl (Nat.le_of_ble_eq_true rfl) dL_law_539 ⟨Nat.le_of_ble_eq_true rfl, Nat.le_of_ble_eq_true rfl⟩) hW (fun r_344 L_342 h_343 H locs p_345 hW => ?_)
    obtain ⟨hr_346, hs⟩ := p_345
    have hs : hx_S P_tb [] L_334 h_335 L_342 h_343 := hs
    have f_4 := (hs.o gq_2 trivial rfl).1.trans f_4
    have f_5 := (hs.o gq_2 trivial rfl).1.trans f_5
    have f_9 := (hs.o gq_2 trivial rfl).1.trans f_9
    have f_11 := (hs.o gq_2 trivial rfl).1.trans f_11
    have f_14 := (hs.o gq_2 trivial rfl).1.trans f_14
    have f_16 := (hs.o gq_2 trivial rfl).1.trans f_16
    have f_28 := (hs.o gq_2 trivial rfl).2.trans f_28
    have f_30 := (hs.o gq_2 trivial rfl).2.trans f_30
    have f_32 := (hs.o gq_2 trivial rfl).2.trans f_32
    have f_33 := (hs.o gq_31 trivial rfl).1.trans f_33
    have f_35 := (hs.o gq_31 trivial rfl).2.trans f_35
    have f_38 := (hs.o gq_2 trivial rfl).2.trans f_38
    have f_40 := (hs.o gq_2 trivial rfl).2.trans f_40
    have f_42 := (hs.o gq_2 trivial rfl).2.trans f_42
    have f_43 := (hs.o gq_41 trivial rfl).1.trans f_43
    have f_45 := (hs.o gq_2 trivial rfl).2.trans f_45
    have f_46 := (hs.o gq_44 trivial rfl).1.trans f_46
    have f_48 := (hs.o gq_2 trivial rfl).2.trans f_48
    have f_49 := (hs.o gq_47 trivial rfl).1.trans f_49
    have f_51 := (hs.o gq_2 trivial rfl).2.trans f_51
    have f_52 := (hs.o gq_50 trivial rfl).1.trans f_52
    have f_54 := (hs.o gq_50 trivial rfl).2.trans f_54
    have f_56 := (hs.o gq_2 trivial rfl).2.trans f_56
    have f_57 := (hs.o gq_55 trivial rfl).1.trans f_57
    have f_58 := (hs.o gq_55 trivial rfl).1.trans f_58
    have f_61 := (hs.o gq_60 trivial rfl).1.trans f_61
    have f_62 := (hs.o gq_60 trivial rfl).1.trans f_62
    have f_68 := (hs.o gq_60 trivial rfl).1.trans f_68
    have f_69 := (hs.o gq_60 trivial rfl).1.trans f_69
    have f_70 := (hs.o gq_60 trivial rfl).1.trans f_70
    have f_71 := (hs.o gq_60 trivial rfl).1.trans f_71
    have f_72 := (hs.o gq_60 trivial rfl).1.trans f_72
    have f_74 := (hs.o gq_60 trivial rfl).1.trans f_74
    have f_81 := (hs.o gq_60 trivial rfl).1.trans f_81
    have f_90 := (hs.o gq_60 trivial rfl).1.trans f_90
    have f_97 := (hs.o gq_60 trivial rfl).1.trans f_97
    have f_118 := (hs.o gq_60 trivial rfl).1.trans f_118
    have f_120 := (hs.o gq_60 trivial rfl).1.trans f_120
    have f_128 := (hs.o gq_60 trivial rfl).1.trans f_128
    have f_129 := (hs.o gq_60 trivial rfl).1.trans f_129
    have f_130 := (hs.o gq_60 trivial rfl).1.trans f_130
    have f_131 := (hs.o gq_60 trivial rfl).1.trans f_131
    have f_132 := (hs.o gq_60 trivial rfl).1.trans f_132
    have f_133 := (hs.o gq_60 trivial rfl).1.trans f_133
    have f_136 := (hs.o gq_60 trivial rfl).1.trans f_136
    have f_144 := (hs.o gq_60 trivial rfl).1.trans f_144
    have f_145 := (hs.o gq_60 trivial rfl).1.trans f_145
    have f_147 := (hs.o gq_60 trivial rfl).1.trans f_147
    have f_148 := (hs.o gq_60 trivial rfl).1.trans f_148
    have f_151 := (hs.o gq_60 trivial rfl).1.trans f_151
    have f_153 := (hs.o gq_60 trivial rfl).1.trans f_153
    have f_156 := (hs.o gq_60 trivial rfl).1.trans f_156
    have f_157 := (hs.o gq_60 trivial rfl).1.trans f_157
    have f_164 := (hs.o gq_60 trivial rfl).2.trans f_164
    have f_166 := (hs.o gq_60 trivial rfl).2.trans f_166
    have f_169 := (hs.o gq_60 trivial rfl).2.trans f_169
    have f_171 := (hs.o gq_60 trivial rfl).2.trans f_171
    have f_173 := (hs.o gq_60 trivial rfl).2.trans f_173
    have f_175 := (hs.o gq_60 trivial rfl).2.trans f_175
    have f_177 := (hs.o gq_60 trivial rfl).2.trans f_177
    have f_179 := (hs.o gq_60 trivial rfl).2.trans f_179
    have f_181 := (hs.o gq_60 trivial rfl).2.trans f_181
    have f_183 := (hs.o gq_60 trivial rfl).2.trans f_183
    have f_185 := (hs.o gq_60 trivial rfl).2.trans f_185
    have f_187 := (hs.o gq_60 trivial rfl).2.trans f_187
    have f_189 := (hs.o gq_60 trivial rfl).2.trans f_189
    have f_191 := (hs.o gq_60 trivial rfl).2.trans f_191
    have f_193 := (hs.o gq_60 trivial rfl).2.trans f_193
    have fa_36 : ∀ j, j < 14 → _ = P_wo j := fun j hj => (hs.a gq_34 rfl j).1.trans (fa_36 j hj)
    have fa_167 : ∀ j, j < 13 → _ = P_w1 j := fun j hj => (hs.a gq_165 rfl j).1.trans (fa_167 j hj)
    have gq_2 := gq_2.S hs
    have gq_27 := gq_27.S hs
    have gq_29 := gq_29.S hs
    have gq_31 := gq_31.S hs
    have gq_34 := gq_34.S hs
    have gq_37 := gq_37.S hs
    have gq_39 := gq_39.S hs
    have gq_41 := gq_41.S hs
    have gq_44 := gq_44.S hs
    have gq_47 := gq_47.S hs
    have gq_50 := gq_50.S hs
    have gq_53 := gq_53.S hs
    have gq_55 := gq_55.S hs
    have gq_60 := gq_60.S hs
    have gq_163 := gq_163.S hs
    have gq_165 := gq_165.S hs
    have gq_168 := gq_168.S hs
    have gq_170 := gq_170.S hs
    have gq_172 := gq_172.S hs
    have gq_174 := gq_174.S hs
    have gq_176 := gq_176.S hs
    have gq_178 := gq_178.S hs
    have gq_180 := gq_180.S hs
    have gq_182 := gq_182.S hs
    have gq_184 := gq_184.S hs
    have gq_186 := gq_186.S hs
    have gq_188 := gq_188.S hs
    have gq_190 := gq_190.S hs
    have gq_192 := gq_192.S hs
    have heq : r_336 = r_344 := by
      first | exact hr_338.trans hr_346.symm | (rcases hr_338 with ⟨k1, k2⟩ | ⟨k1, k2⟩ <;> rcases hr_346 with ⟨k3, k4⟩ | ⟨k3, k4⟩ <;> first | exact k2.trans k4.symm | (exfalso; omega) | exact absurd k1 k3 | exact absurd k3 k1)
    refine hb_icmp_eq (zx := r_336.toInt) (zy := r_344.toInt) (tgt := 1379) hx hb rfl rfl dL_law_542 (by decide) (fun c_347 => ?_) (fun c_347 => absurd (congrArg Int32.toInt heq) c_347)
    exact law_tail hx hb hr hlocks hX hbl hbA hL7 _ _ hW.2.2.2.1 ls hl (Nat.le_of_ble_eq_true rfl) (Nat.le_of_ble_eq_true rfl)
  · skip
    refine lv_iconst (v := 1) hx hb dL_law_512 (by decide) ?_
    refine lv_goto (tgt := 517) hx hb dL_law_513 (by decide) ?_
    refine hx_goi (hx_runV (As := [.int (xs 1), .int (1 : Int32)]) (rest := []) ⟨hx, hb, hml, hown, hts⟩ hW gq_2 td_9 (T := TX9) (N := 20) rfl (c_X9_judge l dC dI dA L1 hl1 H.size q_2 (xs 1) (1 : Int32) gq_2 f_11) (cwV 2 hts (hx_gV kw_667 kw_664 kw_665 kw_666 kw_94) rfl rfl rfl (by decide +kernel) ⟨Nat.le_of_ble_eq_true rfl, Nat.le_of_ble_eq_true rfl⟩) rfl hl.1 rfl (Nat.le_of_ble_eq_true rfl) dL_law_517 ⟨Nat.le_of_ble_eq_true rfl, Nat.le_of_ble_eq_true rfl⟩) hW (fun r_350 L_348 h_349 H locs p_351 hW => ?_)
    obtain ⟨hr_352, hs⟩ := p_351
    have hs : hx_S P_tb [] L1 hl1 L_348 h_349 := hs
    have f_4 := (hs.o gq_2 trivial rfl).1.trans f_4
    have f_5 := (hs.o gq_2 trivial rfl).1.trans f_5
    have f_9 := (hs.o gq_2 trivial rfl).1.trans f_9
    have f_11 := (hs.o gq_2 trivial rfl).1.trans f_11
    have f_14 := (hs.o gq_2 trivial rfl).1.trans f_14
    have f_16 := (hs.o gq_2 trivial rfl).1.trans f_16
    have f_28 := (hs.o gq_2 trivial rfl).2.trans f_28
    have f_30 := (hs.o gq_2 trivial rfl).2.trans f_30
    have f_32 := (hs.o gq_2 trivial rfl).2.trans f_32
    have f_33 := (hs.o gq_31 trivial rfl).1.trans f_33
    have f_35 := (hs.o gq_31 trivial rfl).2.trans f_35
    have f_38 := (hs.o gq_2 trivial rfl).2.trans f_38
    have f_40 := (hs.o gq_2 trivial rfl).2.trans f_40
    have f_42 := (hs.o gq_2 trivial rfl).2.trans f_42
    have f_43 := (hs.o gq_41 trivial rfl).1.trans f_43
    have f_45 := (hs.o gq_2 trivial rfl).2.trans f_45
    have f_46 := (hs.o gq_44 trivial rfl).1.trans f_46
    have f_48 := (hs.o gq_2 trivial rfl).2.trans f_48
    have f_49 := (hs.o gq_47 trivial rfl).1.trans f_49
    have f_51 := (hs.o gq_2 trivial rfl).2.trans f_51
    have f_52 := (hs.o gq_50 trivial rfl).1.trans f_52
    have f_54 := (hs.o gq_50 trivial rfl).2.trans f_54
    have f_56 := (hs.o gq_2 trivial rfl).2.trans f_56
    have f_57 := (hs.o gq_55 trivial rfl).1.trans f_57
    have f_58 := (hs.o gq_55 trivial rfl).1.trans f_58
    have f_61 := (hs.o gq_60 trivial rfl).1.trans f_61
    have f_62 := (hs.o gq_60 trivial rfl).1.trans f_62
    have f_68 := (hs.o gq_60 trivial rfl).1.trans f_68
    have f_69 := (hs.o gq_60 trivial rfl).1.trans f_69
    have f_70 := (hs.o gq_60 trivial rfl).1.trans f_70
    have f_71 := (hs.o gq_60 trivial rfl).1.trans f_71
    have f_72 := (hs.o gq_60 trivial rfl).1.trans f_72
    have f_74 := (hs.o gq_60 trivial rfl).1.trans f_74
    have f_81 := (hs.o gq_60 trivial rfl).1.trans f_81
    have f_90 := (hs.o gq_60 trivial rfl).1.trans f_90
    have f_97 := (hs.o gq_60 trivial rfl).1.trans f_97
    have f_118 := (hs.o gq_60 trivial rfl).1.trans f_118
    have f_120 := (hs.o gq_60 trivial rfl).1.trans f_120
    have f_128 := (hs.o gq_60 trivial rfl).1.trans f_128
    have f_129 := (hs.o gq_60 trivial rfl).1.trans f_129
    have f_130 := (hs.o gq_60 trivial rfl).1.trans f_130
    have f_131 := (hs.o gq_60 trivial rfl).1.trans f_131
    have f_132 := (hs.o gq_60 trivial rfl).1.trans f_132
    have f_133 := (hs.o gq_60 trivial rfl).1.trans f_133
    have f_136 := (hs.o gq_60 trivial rfl).1.trans f_136
    have f_144 := (hs.o gq_60 trivial rfl).1.trans f_144
    have f_145 := (hs.o gq_60 trivial rfl).1.trans f_145
    have f_147 := (hs.o gq_60 trivial rfl).1.trans f_147
    have f_148 := (hs.o gq_60 trivial rfl).1.trans f_148
    have f_151 := (hs.o gq_60 trivial rfl).1.trans f_151
    have f_153 := (hs.o gq_60 trivial rfl).1.trans f_153
    have f_156 := (hs.o gq_60 trivial rfl).1.trans f_156
    have f_157 := (hs.o gq_60 trivial rfl).1.trans f_157
    have f_164 := (hs.o gq_60 trivial rfl).2.trans f_164
    have f_166 := (hs.o gq_60 trivial rfl).2.trans f_166
    have f_169 := (hs.o gq_60 trivial rfl).2.trans f_169
    have f_171 := (hs.o gq_60 trivial rfl).2.trans f_171
    have f_173 := (hs.o gq_60 trivial rfl).2.trans f_173
    have f_175 := (hs.o gq_60 trivial rfl).2.trans f_175
    have f_177 := (hs.o gq_60 trivial rfl).2.trans f_177
    have f_179 := (hs.o gq_60 trivial rfl).2.trans f_179
    have f_181 := (hs.o gq_60 trivial rfl).2.trans f_181
    have f_183 := (hs.o gq_60 trivial rfl).2.trans f_183
    have f_185 := (hs.o gq_60 trivial rfl).2.trans f_185
    have f_187 := (hs.o gq_60 trivial rfl).2.trans f_187
    have f_189 := (hs.o gq_60 trivial rfl).2.trans f_189
    have f_191 := (hs.o gq_60 trivial rfl).2.trans f_191
    have f_193 := (hs.o gq_60 trivial rfl).2.trans f_193
    have fa_36 : ∀ j, j < 14 → _ = P_wo j := fun j hj => (hs.a gq_34 rfl j).1.trans (fa_36 j hj)
    have fa_167 : ∀ j, j < 13 → _ = P_w1 j := fun j hj => (hs.a gq_165 rfl j).1.trans (fa_167 j hj)
    have gq_2 := gq_2.S hs
    have gq_27 := gq_27.S hs
    have gq_29 := gq_29.S hs
    have gq_31 := gq_31.S hs
    have gq_34 := gq_34.S hs
    have gq_37 := gq_37.S hs
    have gq_39 := gq_39.S hs
    have gq_41 := gq_41.S hs
    have gq_44 := gq_44.S hs
    have gq_47 := gq_47.S hs
    have gq_50 := gq_50.S hs
    have gq_53 := gq_53.S hs
    have gq_55 := gq_55.S hs
    have gq_60 := gq_60.S hs
    have gq_163 := gq_163.S hs
    have gq_165 := gq_165.S hs
    have gq_168 := gq_168.S hs
    have gq_170 := gq_170.S hs
    have gq_172 := gq_172.S hs
    have gq_174 := gq_174.S hs
    have gq_176 := gq_176.S hs
    have gq_178 := gq_178.S hs
    have gq_180 := gq_180.S hs
    have gq_182 := gq_182.S hs
    have gq_184 := gq_184.S hs
    have gq_186 := gq_186.S hs
    have gq_188 := gq_188.S hs
    have gq_190 := gq_190.S hs
    have gq_192 := gq_192.S hs
    refine lv_aload_n hx hb dL_law_520 rfl (lv_at hl 1 rfl) ?_
    refine lv_aload_n hx hb dL_law_521 rfl (lv_at hl 3 rfl) ?_
    refine lv_iload_n hx hb dL_law_522 rfl (lv_at hl 0 rfl) ?_
    refine lv_iconst (v := 1) hx hb dL_law_523 (by decide) ?_
    refine lv_iadd hx hb dL_law_524 ?_
    refine lv_topi (fun x_353 ex_353 => ?_)
    obtain rfl : x_353 = (1 : Int32) := ex_353.trans (by decide)
    refine va_sld hx hb hX hbl hbA hW.2.2.2.1 (vp_in_iff.mpr (by rw [hL7]; decide)) dL_law_525 ?_
    rw [show (1 : Int32).toNatClampNeg = 1 from by decide]
    refine lv_aload_n hx hb dL_law_526 rfl (lv_at hl 3 rfl) ?_
    refine lv_iload_n hx hb dL_law_527 rfl (lv_at hl 0 rfl) ?_
    refine lv_iconst (v := 2) hx hb dL_law_528 (by decide) ?_
    refine lv_iadd hx hb dL_law_529 ?_
    refine lv_topi (fun x_354 ex_354 => ?_)
    obtain rfl : x_354 = (2 : Int32) := ex_354.trans (by decide)
    refine va_sld hx hb hX hbl hbA hW.2.2.2.1 (vp_in_iff.mpr (by rw [hL7]; decide)) dL_law_530 ?_
    rw [show (2 : Int32).toNatClampNeg = 2 from by decide]
    refine hb_if_eq (zx := (xs 2).toInt) (tgt := 538) hx hb rfl dL_law_531 (by decide) (fun c_355 => ?_) (fun c_355 => ?_)
    · skip
      refine lv_iconst (v := 0) hx hb dL_law_538 (by decide) ?_
      refine hx_goi (hx_runV (As := [.int (xs 1), .int (0 : Int32)]) (rest := [.int r_350]) ⟨hx, hb, hml, hown, hts⟩ hW gq_60 td_10 (T := TX10) (N := 98) rfl (c_X10_judge l dC dI dA L_348 h_349 H.size q_60 (xs 1) (0 : Int32) gq_60 f_81) (cwV 2 hts (hx_gV kw_1560 kw_1557 kw_1558 kw_1559 kw_103) rfl rfl rfl (by decide +kernel) ⟨Nat.le_of_ble_eq_true rfl, Nat.le_of_ble_eq_true rfl⟩) rfl hl.1 rfl (Nat.le_of_ble_eq_true rfl) dL_law_539 ⟨Nat.le_of_ble_eq_true rfl, Nat.le_of_ble_eq_true rfl⟩) hW (fun r_358 L_356 h_357 H locs p_359 hW => ?_)
      obtain ⟨hr_360, hs⟩ := p_359
      have hs : hx_S P_tb [] L_348 h_349 L_356 h_357 := hs
      have f_4 := (hs.o gq_2 trivial rfl).1.trans f_4
      have f_5 := (hs.o gq_2 trivial rfl).1.trans f_5
      have f_9 := (hs.o gq_2 trivial rfl).1.trans f_9
      have f_11 := (hs.o gq_2 trivial rfl).1.trans f_11
      have f_14 := (hs.o gq_2 trivial rfl).1.trans f_14
      have f_16 := (hs.o gq_2 trivial rfl).1.trans f_16
      have f_28 := (hs.o gq_2 trivial rfl).2.trans f_28
      have f_30 := (hs.o gq_2 trivial rfl).2.trans f_30
      have f_32 := (hs.o gq_2 trivial rfl).2.trans f_32
      have f_33 := (hs.o gq_31 trivial rfl).1.trans f_33
      have f_35 := (hs.o gq_31 trivial rfl).2.trans f_35
      have f_38 := (hs.o gq_2 trivial rfl).2.trans f_38
      have f_40 := (hs.o gq_2 trivial rfl).2.trans f_40
      have f_42 := (hs.o gq_2 trivial rfl).2.trans f_42
      have f_43 := (hs.o gq_41 trivial rfl).1.trans f_43
      have f_45 := (hs.o gq_2 trivial rfl).2.trans f_45
      have f_46 := (hs.o gq_44 trivial rfl).1.trans f_46
      have f_48 := (hs.o gq_2 trivial rfl).2.trans f_48
      have f_49 := (hs.o gq_47 trivial rfl).1.trans f_49
      have f_51 := (hs.o gq_2 trivial rfl).2.trans f_51
      have f_52 := (hs.o gq_50 trivial rfl).1.trans f_52
      have f_54 := (hs.o gq_50 trivial rfl).2.trans f_54
      have f_56 := (hs.o gq_2 trivial rfl).2.trans f_56
      have f_57 := (hs.o gq_55 trivial rfl).1.trans f_57
      have f_58 := (hs.o gq_55 trivial rfl).1.trans f_58
      have f_61 := (hs.o gq_60 trivial rfl).1.trans f_61
      have f_62 := (hs.o gq_60 trivial rfl).1.trans f_62
      have f_68 := (hs.o gq_60 trivial rfl).1.trans f_68
      have f_69 := (hs.o gq_60 trivial rfl).1.trans f_69
      have f_70 := (hs.o gq_60 trivial rfl).1.trans f_70
      have f_71 := (hs.o gq_60 trivial rfl).1.trans f_71
      have f_72 := (hs.o gq_60 trivial rfl).1.trans f_72
      have f_74 := (hs.o gq_60 trivial rfl).1.trans f_74
      have f_81 := (hs.o gq_60 trivial rfl).1.trans f_81
      have f_90 := (hs.o gq_60 trivial rfl).1.trans f_90
      have f_97 := (hs.o gq_60 trivial rfl).1.trans f_97
      have f_118 := (hs.o gq_60 trivial rfl).1.trans f_118
      have f_120 := (hs.o gq_60 trivial rfl).1.trans f_120
      have f_128 := (hs.o gq_60 trivial rfl).1.trans f_128
      have f_129 := (hs.o gq_60 trivial rfl).1.trans f_129
      have f_130 := (hs.o gq_60 trivial rfl).1.trans f_130
      have f_131 := (hs.o gq_60 trivial rfl).1.trans f_131
      have f_132 := (hs.o gq_60 trivial rfl).1.trans f_132
      have f_133 := (hs.o gq_60 trivial rfl).1.trans f_133
      have f_136 := (hs.o gq_60 trivial rfl).1.trans f_136
      have f_144 := (hs.o gq_60 trivial rfl).1.trans f_144
      have f_145 := (hs.o gq_60 trivial rfl).1.trans f_145
      have f_147 := (hs.o gq_60 trivial rfl).1.trans f_147
      have f_148 := (hs.o gq_60 trivial rfl).1.trans f_148
      have f_151 := (hs.o gq_60 trivial rfl).1.trans f_151
      have f_153 := (hs.o gq_60 trivial rfl).1.trans f_153
      have f_156 := (hs.o gq_60 trivial rfl).1.trans f_156
      have f_157 := (hs.o gq_60 trivial rfl).1.trans f_157
      have f_164 := (hs.o gq_60 trivial rfl).2.trans f_164
      have f_166 := (hs.o gq_60 trivial rfl).2.trans f_166
      have f_169 := (hs.o gq_60 trivial rfl).2.trans f_169
      have f_171 := (hs.o gq_60 trivial rfl).2.trans f_171
      have f_173 := (hs.o gq_60 trivial rfl).2.trans f_173
      have f_175 := (hs.o gq_60 trivial rfl).2.trans f_175
      have f_177 := (hs.o gq_60 trivial rfl).2.trans f_177
      have f_179 := (hs.o gq_60 trivial rfl).2.trans f_179
      have f_181 := (hs.o gq_60 trivial rfl).2.trans f_181
      have f_183 := (hs.o gq_60 trivial rfl).2.trans f_183
      have f_185 := (hs.o gq_60 trivial rfl).2.trans f_185
      have f_187 := (hs.o gq_60 trivial rfl).2.trans f_187
      have f_189 := (hs.o gq_60 trivial rfl).2.trans f_189
      have f_191 := (hs.o gq_60 trivial rfl).2.trans f_191
      have f_193 := (hs.o gq_60 trivial rfl).2.trans f_193
      have fa_36 : ∀ j, j < 14 → _ = P_wo j := fun j hj => (hs.a gq_34 rfl j).1.trans (fa_36 j hj)
      have fa_167 : ∀ j, j < 13 → _ = P_w1 j := fun j hj => (hs.a gq_165 rfl j).1.trans (fa_167 j hj)
      have gq_2 := gq_2.S hs
      have gq_27 := gq_27.S hs
      have gq_29 := gq_29.S hs
      have gq_31 := gq_31.S hs
      have gq_34 := gq_34.S hs
      have gq_37 := gq_37.S hs
      have gq_39 := gq_39.S hs
      have gq_41 := gq_41.S hs
      have gq_44 := gq_44.S hs
      have gq_47 := gq_47.S hs
      have gq_50 := gq_50.S hs
      have gq_53 := gq_53.S hs
      have gq_55 := gq_55.S hs
      have gq_60 := gq_60.S hs
      have gq_163 := gq_163.S hs
      have gq_165 := gq_165.S hs
      have gq_168 := gq_168.S hs
      have gq_170 := gq_170.S hs
      have gq_172 := gq_172.S hs
      have gq_174 := gq_174.S hs
      have gq_176 := gq_176.S hs
      have gq_178 := gq_178.S hs
      have gq_180 := gq_180.S hs
      have gq_182 := gq_182.S hs
      have gq_184 := gq_184.S hs
      have gq_186 := gq_186.S hs
      have gq_188 := gq_188.S hs
      have gq_190 := gq_190.S hs
      have gq_192 := gq_192.S hs
      have heq : r_350 = r_358 := by
        first | exact hr_352.trans hr_360.symm | (rcases hr_352 with ⟨k1, k2⟩ | ⟨k1, k2⟩ <;> rcases hr_360 with ⟨k3, k4⟩ | ⟨k3, k4⟩ <;> first | exact k2.trans k4.symm | (exfalso; omega) | exact absurd k1 k3 | exact absurd k3 k1)
      refine hb_icmp_eq (zx := r_350.toInt) (zy := r_358.toInt) (tgt := 1379) hx hb rfl rfl dL_law_542 (by decide) (fun c_361 => ?_) (fun c_361 => absurd (congrArg Int32.toInt heq) c_361)
      exact law_tail hx hb hr hlocks hX hbl hbA hL7 _ _ hW.2.2.2.1 ls hl (Nat.le_of_ble_eq_true rfl) (Nat.le_of_ble_eq_true rfl)
    · skip
      refine lv_iconst (v := 1) hx hb dL_law_534 (by decide) ?_
      refine lv_goto (tgt := 539) hx hb dL_law_535 (by decide) ?_
      refine hx_goi (hx_runV (As := [.int (xs 1), .int (1 : Int32)]) (rest := [.int r_350]) ⟨hx, hb, hml, hown, hts⟩ hW gq_60 td_10 (T := TX10) (N := 98) rfl (c_X10_judge l dC dI dA L_348 h_349 H.size q_60 (xs 1) (1 : Int32) gq_60 f_81) (cwV 2 hts (hx_gV kw_1560 kw_1557 kw_1558 kw_1559 kw_103) rfl rfl rfl (by decide +kernel) ⟨Nat.le_of_ble_eq_true rfl, Nat.le_of_ble_eq_true rfl⟩) rfl hl.1 rfl (Nat.le_of_ble_eq_true rfl) dL_law_539 ⟨Nat.le_of_ble_eq_true rfl, Nat.le_of_ble_eq_true rfl⟩) hW (fun r_364 L_362 h_363 H locs p_365 hW => ?_)
      obtain ⟨hr_366, hs⟩ := p_365
      have hs : hx_S P_tb [] L_348 h_349 L_362 h_363 := hs
      have f_4 := (hs.o gq_2 trivial rfl).1.trans f_4
      have f_5 := (hs.o gq_2 trivial rfl).1.trans f_5
      have f_9 := (hs.o gq_2 trivial rfl).1.trans f_9
      have f_11 := (hs.o gq_2 trivial rfl).1.trans f_11
      have f_14 := (hs.o gq_2 trivial rfl).1.trans f_14
      have f_16 := (hs.o gq_2 trivial rfl).1.trans f_16
      have f_28 := (hs.o gq_2 trivial rfl).2.trans f_28
      have f_30 := (hs.o gq_2 trivial rfl).2.trans f_30
      have f_32 := (hs.o gq_2 trivial rfl).2.trans f_32
      have f_33 := (hs.o gq_31 trivial rfl).1.trans f_33
      have f_35 := (hs.o gq_31 trivial rfl).2.trans f_35
      have f_38 := (hs.o gq_2 trivial rfl).2.trans f_38
      have f_40 := (hs.o gq_2 trivial rfl).2.trans f_40
      have f_42 := (hs.o gq_2 trivial rfl).2.trans f_42
      have f_43 := (hs.o gq_41 trivial rfl).1.trans f_43
      have f_45 := (hs.o gq_2 trivial rfl).2.trans f_45
      have f_46 := (hs.o gq_44 trivial rfl).1.trans f_46
      have f_48 := (hs.o gq_2 trivial rfl).2.trans f_48
      have f_49 := (hs.o gq_47 trivial rfl).1.trans f_49
      have f_51 := (hs.o gq_2 trivial rfl).2.trans f_51
      have f_52 := (hs.o gq_50 trivial rfl).1.trans f_52
      have f_54 := (hs.o gq_50 trivial rfl).2.trans f_54
      have f_56 := (hs.o gq_2 trivial rfl).2.trans f_56
      have f_57 := (hs.o gq_55 trivial rfl).1.trans f_57
      have f_58 := (hs.o gq_55 trivial rfl).1.trans f_58
      have f_61 := (hs.o gq_60 trivial rfl).1.trans f_61
      have f_62 := (hs.o gq_60 trivial rfl).1.trans f_62
      have f_68 := (hs.o gq_60 trivial rfl).1.trans f_68
      have f_69 := (hs.o gq_60 trivial rfl).1.trans f_69
      have f_70 := (hs.o gq_60 trivial rfl).1.trans f_70
      have f_71 := (hs.o gq_60 trivial rfl).1.trans f_71
      have f_72 := (hs.o gq_60 trivial rfl).1.trans f_72
      have f_74 := (hs.o gq_60 trivial rfl).1.trans f_74
      have f_81 := (hs.o gq_60 trivial rfl).1.trans f_81
      have f_90 := (hs.o gq_60 trivial rfl).1.trans f_90
      have f_97 := (hs.o gq_60 trivial rfl).1.trans f_97
      have f_118 := (hs.o gq_60 trivial rfl).1.trans f_118
      have f_120 := (hs.o gq_60 trivial rfl).1.trans f_120
      have f_128 := (hs.o gq_60 trivial rfl).1.trans f_128
      have f_129 := (hs.o gq_60 trivial rfl).1.trans f_129
      have f_130 := (hs.o gq_60 trivial rfl).1.trans f_130
      have f_131 := (hs.o gq_60 trivial rfl).1.trans f_131
      have f_132 := (hs.o gq_60 trivial rfl).1.trans f_132
      have f_133 := (hs.o gq_60 trivial rfl).1.trans f_133
      have f_136 := (hs.o gq_60 trivial rfl).1.trans f_136
      have f_144 := (hs.o gq_60 trivial rfl).1.trans f_144
      have f_145 := (hs.o gq_60 trivial rfl).1.trans f_145
      have f_147 := (hs.o gq_60 trivial rfl).1.trans f_147
      have f_148 := (hs.o gq_60 trivial rfl).1.trans f_148
      have f_151 := (hs.o gq_60 trivial rfl).1.trans f_151
      have f_153 := (hs.o gq_60 trivial rfl).1.trans f_153
      have f_156 := (hs.o gq_60 trivial rfl).1.trans f_156
      have f_157 := (hs.o gq_60 trivial rfl).1.trans f_157
      have f_164 := (hs.o gq_60 trivial rfl).2.trans f_164
      have f_166 := (hs.o gq_60 trivial rfl).2.trans f_166
      have f_169 := (hs.o gq_60 trivial rfl).2.trans f_169
      have f_171 := (hs.o gq_60 trivial rfl).2.trans f_171
      have f_173 := (hs.o gq_60 trivial rfl).2.trans f_173
      have f_175 := (hs.o gq_60 trivial rfl).2.trans f_175
      have f_177 := (hs.o gq_60 trivial rfl).2.trans f_177
      have f_179 := (hs.o gq_60 trivial rfl).2.trans f_179
      have f_181 := (hs.o gq_60 trivial rfl).2.trans f_181
      have f_183 := (hs.o gq_60 trivial rfl).2.trans f_183
      have f_185 := (hs.o gq_60 trivial rfl).2.trans f_185
      have f_187 := (hs.o gq_60 trivial rfl).2.trans f_187
      have f_189 := (hs.o gq_60 trivial rfl).2.trans f_189
      have f_191 := (hs.o gq_60 trivial rfl).2.trans f_191
      have f_193 := (hs.o gq_60 trivial rfl).2.trans f_193
      have fa_36 : ∀ j, j < 14 → _ = P_wo j := fun j hj => (hs.a gq_34 rfl j).1.trans (fa_36 j hj)
      have fa_167 : ∀ j, j < 13 → _ = P_w1 j := fun j hj => (hs.a gq_165 rfl j).1.trans (fa_167 j hj)
      have gq_2 := gq_2.S hs
      have gq_27 := gq_27.S hs
      have gq_29 := gq_29.S hs
      have gq_31 := gq_31.S hs
      have gq_34 := gq_34.S hs
      have gq_37 := gq_37.S hs
      have gq_39 := gq_39.S hs
      have gq_41 := gq_41.S hs
      have gq_44 := gq_44.S hs
      have gq_47 := gq_47.S hs
      have gq_50 := gq_50.S hs
      have gq_53 := gq_53.S hs
      have gq_55 := gq_55.S hs
      have gq_60 := gq_60.S hs
      have gq_163 := gq_163.S hs
      have gq_165 := gq_165.S hs
      have gq_168 := gq_168.S hs
      have gq_170 := gq_170.S hs
      have gq_172 := gq_172.S hs
      have gq_174 := gq_174.S hs
      have gq_176 := gq_176.S hs
      have gq_178 := gq_178.S hs
      have gq_180 := gq_180.S hs
      have gq_182 := gq_182.S hs
      have gq_184 := gq_184.S hs
      have gq_186 := gq_186.S hs
      have gq_188 := gq_188.S hs
      have gq_190 := gq_190.S hs
      have gq_192 := gq_192.S hs
      have heq : r_350 = r_364 := by
        first | exact hr_352.trans hr_366.symm | (rcases hr_352 with ⟨k1, k2⟩ | ⟨k1, k2⟩ <;> rcases hr_366 with ⟨k3, k4⟩ | ⟨k3, k4⟩ <;> first | exact k2.trans k4.symm | (exfalso; omega) | exact absurd k1 k3 | exact absurd k3 k1)
      refine hb_icmp_eq (zx := r_350.toInt) (zy := r_364.toInt) (tgt := 1379) hx hb rfl rfl dL_law_542 (by decide) (fun c_367 => ?_) (fun c_367 => absurd (congrArg Int32.toInt heq) c_367)
      exact law_tail hx hb hr hlocks hX hbl hbA hL7 _ _ hW.2.2.2.1 ls hl (Nat.le_of_ble_eq_true rfl) (Nat.le_of_ble_eq_true rfl)

set_option maxHeartbeats 4000000 in
set_option maxRecDepth 100000 in
theorem law_case_9 {p : Program} {e : Env} {s : State} {m : MethodId} {below : List Frame} {meth : Method} {c : Code} (l : Launch) {b LN : Nat} {xs : Nat → Int32} (hx : p.tables.exec = Jvm.exec) (hb : c.code = code) (hr : meth.sig.returnType = ret) (hlocks : meth.locks = false) (hml : c.maxLocals = 4) (hown : s.vm.findClass "SmallCourtLaw" = some m.cls) (hts : ∀ w ∈ hx_all, w.before #[Value.ref b] s = true) (hX : va_X b LN xs s s.heap) (hbl : b < s.heap.size) (hbA : ¬ s.heap.size ≤ b) (hL7 : LN = 7) (dC : Nat → ClassId) (dI : Nat → Nat → Nat) (dA : Nat → ClassId) (b0 : Nat) (q_2 q_27 q_29 q_31 q_34 q_37 q_39 q_41 q_44 q_47 q_50 q_53 q_55 q_60 q_163 q_165 q_168 q_170 q_172 q_174 q_176 q_178 q_180 q_182 q_184 q_186 q_188 q_190 q_192 : Nat) (L1 : List Nat) (hl1 : hx_h) (H : Heap) (locs : List Loc) (ls : Array Slot) (hW : hx_W P_tb (P_ty dA) (dC, dI) vwCl (fun q : Nat => s.heap.size ≤ q) s.heap L1 hl1 s H locs) (hZ : hx_Xt (fun q : Nat => s.heap.size ≤ q) b0 s) (f_4 : hl1.2.1 q_2 1 = (0 : Int32)) (f_5 : hl1.2.1 q_2 2 = (0 : Int32)) (f_9 : hl1.2.1 q_2 6 = (0 : Int32)) (f_11 : hl1.2.1 q_2 8 = (0 : Int32)) (f_14 : hl1.2.1 q_2 11 = (0 : Int32)) (f_16 : hl1.2.1 q_2 13 = (0 : Int32)) (f_28 : hl1.2.2 q_2 0 = some q_27) (f_30 : hl1.2.2 q_2 3 = some q_29) (f_32 : hl1.2.2 q_2 4 = some q_31) (f_33 : hl1.2.1 q_31 0 = (-1 : Int32)) (f_35 : hl1.2.2 q_31 2 = some q_34) (f_38 : hl1.2.2 q_2 5 = some q_37) (f_40 : hl1.2.2 q_2 7 = some q_39) (f_42 : hl1.2.2 q_2 9 = some q_41) (f_43 : hl1.2.1 q_41 0 = (0 : Int32)) (f_45 : hl1.2.2 q_2 14 = some q_44) (f_46 : hl1.2.1 q_44 0 = (0 : Int32)) (f_48 : hl1.2.2 q_2 17 = some q_47) (f_49 : hl1.2.1 q_47 1 = (0 : Int32)) (f_51 : hl1.2.2 q_2 18 = some q_50) (f_52 : hl1.2.1 q_50 0 = (-1 : Int32)) (f_54 : hl1.2.2 q_50 5 = some q_53) (f_56 : hl1.2.2 q_2 19 = some q_55) (f_57 : hl1.2.1 q_55 0 = (0 : Int32)) (f_58 : hl1.2.1 q_55 1 = (0 : Int32)) (f_61 : hl1.2.1 q_60 0 = (0 : Int32)) (f_62 : hl1.2.1 q_60 1 = (0 : Int32)) (f_68 : hl1.2.1 q_60 7 = (0 : Int32)) (f_69 : hl1.2.1 q_60 8 = (0 : Int32)) (f_70 : hl1.2.1 q_60 9 = (0 : Int32)) (f_71 : hl1.2.1 q_60 10 = (0 : Int32)) (f_72 : hl1.2.1 q_60 11 = (0 : Int32)) (f_74 : hl1.2.1 q_60 13 = (0 : Int32)) (f_81 : hl1.2.1 q_60 20 = (0 : Int32)) (f_90 : hl1.2.1 q_60 29 = (0 : Int32)) (f_97 : hl1.2.1 q_60 36 = (0 : Int32)) (f_118 : hl1.2.1 q_60 57 = (0 : Int32)) (f_120 : hl1.2.1 q_60 59 = (0 : Int32)) (f_128 : hl1.2.1 q_60 67 = (0 : Int32)) (f_129 : hl1.2.1 q_60 68 = (0 : Int32)) (f_130 : hl1.2.1 q_60 69 = (0 : Int32)) (f_131 : hl1.2.1 q_60 70 = (0 : Int32)) (f_132 : hl1.2.1 q_60 71 = (0 : Int32)) (f_133 : hl1.2.1 q_60 72 = (0 : Int32)) (f_136 : hl1.2.1 q_60 75 = (0 : Int32)) (f_144 : hl1.2.1 q_60 83 = (0 : Int32)) (f_145 : hl1.2.1 q_60 84 = (0 : Int32)) (f_147 : hl1.2.1 q_60 86 = (0 : Int32)) (f_148 : hl1.2.1 q_60 87 = (0 : Int32)) (f_151 : hl1.2.1 q_60 90 = (0 : Int32)) (f_153 : hl1.2.1 q_60 92 = (0 : Int32)) (f_156 : hl1.2.1 q_60 95 = (0 : Int32)) (f_157 : hl1.2.1 q_60 96 = (0 : Int32)) (f_164 : hl1.2.2 q_60 2 = some q_163) (f_166 : hl1.2.2 q_60 3 = some q_165) (f_169 : hl1.2.2 q_60 4 = some q_168) (f_171 : hl1.2.2 q_60 5 = some q_170) (f_173 : hl1.2.2 q_60 6 = some q_172) (f_175 : hl1.2.2 q_60 12 = some q_174) (f_177 : hl1.2.2 q_60 15 = some q_176) (f_179 : hl1.2.2 q_60 21 = some q_178) (f_181 : hl1.2.2 q_60 22 = some q_180) (f_183 : hl1.2.2 q_60 23 = some q_182) (f_185 : hl1.2.2 q_60 24 = some q_184) (f_187 : hl1.2.2 q_60 25 = some q_186) (f_189 : hl1.2.2 q_60 26 = some q_188) (f_191 : hl1.2.2 q_60 82 = some q_190) (f_193 : hl1.2.2 q_60 94 = some q_192) (fa_36 : ∀ j, j < 14 → hl1.2.1 q_34 j = P_wo j) (fa_167 : ∀ j, j < 13 → hl1.2.1 q_165 j = P_w1 j) (gq_2 : hx_g L1 hl1 q_2 9) (gq_27 : hx_g L1 hl1 q_27 42) (gq_29 : hx_g L1 hl1 q_29 6) (gq_31 : hx_g L1 hl1 q_31 0) (gq_34 : hx_g L1 hl1 q_34 11) (gq_37 : hx_g L1 hl1 q_37 43) (gq_39 : hx_g L1 hl1 q_39 44) (gq_41 : hx_g L1 hl1 q_41 1) (gq_44 : hx_g L1 hl1 q_44 3) (gq_47 : hx_g L1 hl1 q_47 5) (gq_50 : hx_g L1 hl1 q_50 7) (gq_53 : hx_g L1 hl1 q_53 36) (gq_55 : hx_g L1 hl1 q_55 8) (gq_60 : hx_g L1 hl1 q_60 10) (gq_163 : hx_g L1 hl1 q_163 49) (gq_165 : hx_g L1 hl1 q_165 50) (gq_168 : hx_g L1 hl1 q_168 51) (gq_170 : hx_g L1 hl1 q_170 52) (gq_172 : hx_g L1 hl1 q_172 53) (gq_174 : hx_g L1 hl1 q_174 54) (gq_176 : hx_g L1 hl1 q_176 55) (gq_178 : hx_g L1 hl1 q_178 58) (gq_180 : hx_g L1 hl1 q_180 59) (gq_182 : hx_g L1 hl1 q_182 60) (gq_184 : hx_g L1 hl1 q_184 61) (gq_186 : hx_g L1 hl1 q_186 62) (gq_188 : hx_g L1 hl1 q_188 63) (gq_190 : hx_g L1 hl1 q_190 108) (gq_192 : hx_g L1 hl1 q_192 114) (hl : lv_has ls 4 [(3, .int (0 : Int32)), (2, .ref q_60), (1, .ref q_2), (0, .ref b)]) : W p l e room_1 s m #[Value.ref b] below meth c H locs 112 26072 (lw_Z below #[Value.ref b] s) (F0 m 547 ls []) := by
  refine lv_aload_n hx hb dL_law_547 rfl (lv_at hl 2 rfl) ?_
  refine lv_aload_n hx hb dL_law_548 rfl (lv_at hl 3 rfl) ?_
  refine lv_iload_n hx hb dL_law_549 rfl (lv_at hl 0 rfl) ?_
  refine lv_iconst (v := 1) hx hb dL_law_550 (by decide) ?_
  refine lv_iadd hx hb dL_law_551 ?_
  refine lv_topi (fun x_368 ex_368 => ?_)
  obtain rfl : x_368 = (1 : Int32) := ex_368.trans (by decide)
  refine va_sld hx hb hX hbl hbA hW.2.2.2.1 (vp_in_iff.mpr (by rw [hL7]; decide)) dL_law_552 ?_
  rw [show (1 : Int32).toNatClampNeg = 1 from by decide]
  refine lv_aload_n hx hb dL_law_553 rfl (lv_at hl 3 rfl) ?_
  refine lv_iload_n hx hb dL_law_554 rfl (lv_at hl 0 rfl) ?_
  refine lv_iconst (v := 2) hx hb dL_law_555 (by decide) ?_
  refine lv_iadd hx hb dL_law_556 ?_
  refine lv_topi (fun x_369 ex_369 => ?_)
  obtain rfl : x_369 = (2 : Int32) := ex_369.trans (by decide)
  refine va_sld hx hb hX hbl hbA hW.2.2.2.1 (vp_in_iff.mpr (by rw [hL7]; decide)) dL_law_557 ?_
  rw [show (2 : Int32).toNatClampNeg = 2 from by decide]
  refine lv_aload_n hx hb dL_law_558 rfl (lv_at hl 3 rfl) ?_
  refine lv_iload_n hx hb dL_law_559 rfl (lv_at hl 0 rfl) ?_
  refine lv_iconst (v := 3) hx hb dL_law_560 (by decide) ?_
  refine lv_iadd hx hb dL_law_561 ?_
  refine lv_topi (fun x_370 ex_370 => ?_)
  obtain rfl : x_370 = (3 : Int32) := ex_370.trans (by decide)
  refine va_sld hx hb hX hbl hbA hW.2.2.2.1 (vp_in_iff.mpr (by rw [hL7]; decide)) dL_law_562 ?_
  rw [show (3 : Int32).toNatClampNeg = 3 from by decide]
  refine lv_aload_n hx hb dL_law_563 rfl (lv_at hl 3 rfl) ?_
  refine lv_iload_n hx hb dL_law_564 rfl (lv_at hl 0 rfl) ?_
  refine lv_iconst (v := 4) hx hb dL_law_565 (by decide) ?_
  refine lv_iadd hx hb dL_law_566 ?_
  refine lv_topi (fun x_371 ex_371 => ?_)
  obtain rfl : x_371 = (4 : Int32) := ex_371.trans (by decide)
  refine va_sld hx hb hX hbl hbA hW.2.2.2.1 (vp_in_iff.mpr (by rw [hL7]; decide)) dL_law_567 ?_
  rw [show (4 : Int32).toNatClampNeg = 4 from by decide]
  refine lv_aload_n hx hb dL_law_568 rfl (lv_at hl 3 rfl) ?_
  refine lv_iload_n hx hb dL_law_569 rfl (lv_at hl 0 rfl) ?_
  refine lv_iconst (v := 5) hx hb dL_law_570 (by decide) ?_
  refine lv_iadd hx hb dL_law_571 ?_
  refine lv_topi (fun x_372 ex_372 => ?_)
  obtain rfl : x_372 = (5 : Int32) := ex_372.trans (by decide)
  refine va_sld hx hb hX hbl hbA hW.2.2.2.1 (vp_in_iff.mpr (by rw [hL7]; decide)) dL_law_572 ?_
  rw [show (5 : Int32).toNatClampNeg = 5 from by decide]
  refine hx_goi (hx_runV (As := [.int (xs 1), .int (xs 2), .int (xs 3), .int (xs 4), .int (xs 5)]) (rest := []) ⟨hx, hb, hml, hown, hts⟩ hW gq_2 td_9 (T := TX9) (N := 20) rfl (c_X9_line l dC dI dA L1 hl1 H.size q_2 (xs 1) (xs 2) (xs 3) (xs 4) (xs 5) gq_2 q_41 gq_41 f_42 f_43 f_11 f_5) (cwV 5 hts (hx_gV kw_671 kw_668 kw_669 kw_670 kw_94) rfl rfl rfl (by decide +kernel) ⟨Nat.le_of_ble_eq_true rfl, Nat.le_of_ble_eq_true rfl⟩) rfl hl.1 rfl (Nat.le_of_ble_eq_true rfl) dL_law_573 ⟨Nat.le_of_ble_eq_true rfl, Nat.le_of_ble_eq_true rfl⟩) hW (fun r_375 L_373 h_374 H locs p_376 hW => ?_)
  obtain ⟨hr_377, hs⟩ := p_376
  have hs : hx_S P_tb [] L1 hl1 L_373 h_374 := hs
  have f_4 := (hs.o gq_2 trivial rfl).1.trans f_4
  have f_5 := (hs.o gq_2 trivial rfl).1.trans f_5
  have f_9 := (hs.o gq_2 trivial rfl).1.trans f_9
  have f_11 := (hs.o gq_2 trivial rfl).1.trans f_11
  have f_14 := (hs.o gq_2 trivial rfl).1.trans f_14
  have f_16 := (hs.o gq_2 trivial rfl).1.trans f_16
  have f_28 := (hs.o gq_2 trivial rfl).2.trans f_28
  have f_30 := (hs.o gq_2 trivial rfl).2.trans f_30
  have f_32 := (hs.o gq_2 trivial rfl).2.trans f_32
  have f_33 := (hs.o gq_31 trivial rfl).1.trans f_33
  have f_35 := (hs.o gq_31 trivial rfl).2.trans f_35
  have f_38 := (hs.o gq_2 trivial rfl).2.trans f_38
  have f_40 := (hs.o gq_2 trivial rfl).2.trans f_40
  have f_42 := (hs.o gq_2 trivial rfl).2.trans f_42
  have f_43 := (hs.o gq_41 trivial rfl).1.trans f_43
  have f_45 := (hs.o gq_2 trivial rfl).2.trans f_45
  have f_46 := (hs.o gq_44 trivial rfl).1.trans f_46
  have f_48 := (hs.o gq_2 trivial rfl).2.trans f_48
  have f_49 := (hs.o gq_47 trivial rfl).1.trans f_49
  have f_51 := (hs.o gq_2 trivial rfl).2.trans f_51
  have f_52 := (hs.o gq_50 trivial rfl).1.trans f_52
  have f_54 := (hs.o gq_50 trivial rfl).2.trans f_54
  have f_56 := (hs.o gq_2 trivial rfl).2.trans f_56
  have f_57 := (hs.o gq_55 trivial rfl).1.trans f_57
  have f_58 := (hs.o gq_55 trivial rfl).1.trans f_58
  have f_61 := (hs.o gq_60 trivial rfl).1.trans f_61
  have f_62 := (hs.o gq_60 trivial rfl).1.trans f_62
  have f_68 := (hs.o gq_60 trivial rfl).1.trans f_68
  have f_69 := (hs.o gq_60 trivial rfl).1.trans f_69
  have f_70 := (hs.o gq_60 trivial rfl).1.trans f_70
  have f_71 := (hs.o gq_60 trivial rfl).1.trans f_71
  have f_72 := (hs.o gq_60 trivial rfl).1.trans f_72
  have f_74 := (hs.o gq_60 trivial rfl).1.trans f_74
  have f_81 := (hs.o gq_60 trivial rfl).1.trans f_81
  have f_90 := (hs.o gq_60 trivial rfl).1.trans f_90
  have f_97 := (hs.o gq_60 trivial rfl).1.trans f_97
  have f_118 := (hs.o gq_60 trivial rfl).1.trans f_118
  have f_120 := (hs.o gq_60 trivial rfl).1.trans f_120
  have f_128 := (hs.o gq_60 trivial rfl).1.trans f_128
  have f_129 := (hs.o gq_60 trivial rfl).1.trans f_129
  have f_130 := (hs.o gq_60 trivial rfl).1.trans f_130
  have f_131 := (hs.o gq_60 trivial rfl).1.trans f_131
  have f_132 := (hs.o gq_60 trivial rfl).1.trans f_132
  have f_133 := (hs.o gq_60 trivial rfl).1.trans f_133
  have f_136 := (hs.o gq_60 trivial rfl).1.trans f_136
  have f_144 := (hs.o gq_60 trivial rfl).1.trans f_144
  have f_145 := (hs.o gq_60 trivial rfl).1.trans f_145
  have f_147 := (hs.o gq_60 trivial rfl).1.trans f_147
  have f_148 := (hs.o gq_60 trivial rfl).1.trans f_148
  have f_151 := (hs.o gq_60 trivial rfl).1.trans f_151
  have f_153 := (hs.o gq_60 trivial rfl).1.trans f_153
  have f_156 := (hs.o gq_60 trivial rfl).1.trans f_156
  have f_157 := (hs.o gq_60 trivial rfl).1.trans f_157
  have f_164 := (hs.o gq_60 trivial rfl).2.trans f_164
  have f_166 := (hs.o gq_60 trivial rfl).2.trans f_166
  have f_169 := (hs.o gq_60 trivial rfl).2.trans f_169
  have f_171 := (hs.o gq_60 trivial rfl).2.trans f_171
  have f_173 := (hs.o gq_60 trivial rfl).2.trans f_173
  have f_175 := (hs.o gq_60 trivial rfl).2.trans f_175
  have f_177 := (hs.o gq_60 trivial rfl).2.trans f_177
  have f_179 := (hs.o gq_60 trivial rfl).2.trans f_179
  have f_181 := (hs.o gq_60 trivial rfl).2.trans f_181
  have f_183 := (hs.o gq_60 trivial rfl).2.trans f_183
  have f_185 := (hs.o gq_60 trivial rfl).2.trans f_185
  have f_187 := (hs.o gq_60 trivial rfl).2.trans f_187
  have f_189 := (hs.o gq_60 trivial rfl).2.trans f_189
  have f_191 := (hs.o gq_60 trivial rfl).2.trans f_191
  have f_193 := (hs.o gq_60 trivial rfl).2.trans f_193
  have fa_36 : ∀ j, j < 14 → _ = P_wo j := fun j hj => (hs.a gq_34 rfl j).1.trans (fa_36 j hj)
  have fa_167 : ∀ j, j < 13 → _ = P_w1 j := fun j hj => (hs.a gq_165 rfl j).1.trans (fa_167 j hj)
  have gq_2 := gq_2.S hs
  have gq_27 := gq_27.S hs
  have gq_29 := gq_29.S hs
  have gq_31 := gq_31.S hs
  have gq_34 := gq_34.S hs
  have gq_37 := gq_37.S hs
  have gq_39 := gq_39.S hs
  have gq_41 := gq_41.S hs
  have gq_44 := gq_44.S hs
  have gq_47 := gq_47.S hs
  have gq_50 := gq_50.S hs
  have gq_53 := gq_53.S hs
  have gq_55 := gq_55.S hs
  have gq_60 := gq_60.S hs
  have gq_163 := gq_163.S hs
  have gq_165 := gq_165.S hs
  have gq_168 := gq_168.S hs
  have gq_170 := gq_170.S hs
  have gq_172 := gq_172.S hs
  have gq_174 := gq_174.S hs
  have gq_176 := gq_176.S hs
  have gq_178 := gq_178.S hs
  have gq_180 := gq_180.S hs
  have gq_182 := gq_182.S hs
  have gq_184 := gq_184.S hs
  have gq_186 := gq_186.S hs
  have gq_188 := gq_188.S hs
  have gq_190 := gq_190.S hs
  have gq_192 := gq_192.S hs
  refine lv_aload_n hx hb dL_law_576 rfl (lv_at hl 1 rfl) ?_
  refine lv_aload_n hx hb dL_law_577 rfl (lv_at hl 3 rfl) ?_
  refine lv_iload_n hx hb dL_law_578 rfl (lv_at hl 0 rfl) ?_
  refine lv_iconst (v := 1) hx hb dL_law_579 (by decide) ?_
  refine lv_iadd hx hb dL_law_580 ?_
  refine lv_topi (fun x_378 ex_378 => ?_)
  obtain rfl : x_378 = (1 : Int32) := ex_378.trans (by decide)
  refine va_sld hx hb hX hbl hbA hW.2.2.2.1 (vp_in_iff.mpr (by rw [hL7]; decide)) dL_law_581 ?_
  rw [show (1 : Int32).toNatClampNeg = 1 from by decide]
  refine lv_aload_n hx hb dL_law_582 rfl (lv_at hl 3 rfl) ?_
  refine lv_iload_n hx hb dL_law_583 rfl (lv_at hl 0 rfl) ?_
  refine lv_iconst (v := 2) hx hb dL_law_584 (by decide) ?_
  refine lv_iadd hx hb dL_law_585 ?_
  refine lv_topi (fun x_379 ex_379 => ?_)
  obtain rfl : x_379 = (2 : Int32) := ex_379.trans (by decide)
  refine va_sld hx hb hX hbl hbA hW.2.2.2.1 (vp_in_iff.mpr (by rw [hL7]; decide)) dL_law_586 ?_
  rw [show (2 : Int32).toNatClampNeg = 2 from by decide]
  refine lv_aload_n hx hb dL_law_587 rfl (lv_at hl 3 rfl) ?_
  refine lv_iload_n hx hb dL_law_588 rfl (lv_at hl 0 rfl) ?_
  refine lv_iconst (v := 3) hx hb dL_law_589 (by decide) ?_
  refine lv_iadd hx hb dL_law_590 ?_
  refine lv_topi (fun x_380 ex_380 => ?_)
  obtain rfl : x_380 = (3 : Int32) := ex_380.trans (by decide)
  refine va_sld hx hb hX hbl hbA hW.2.2.2.1 (vp_in_iff.mpr (by rw [hL7]; decide)) dL_law_591 ?_
  rw [show (3 : Int32).toNatClampNeg = 3 from by decide]
  refine lv_aload_n hx hb dL_law_592 rfl (lv_at hl 3 rfl) ?_
  refine lv_iload_n hx hb dL_law_593 rfl (lv_at hl 0 rfl) ?_
  refine lv_iconst (v := 4) hx hb dL_law_594 (by decide) ?_
  refine lv_iadd hx hb dL_law_595 ?_
  refine lv_topi (fun x_381 ex_381 => ?_)
  obtain rfl : x_381 = (4 : Int32) := ex_381.trans (by decide)
  refine va_sld hx hb hX hbl hbA hW.2.2.2.1 (vp_in_iff.mpr (by rw [hL7]; decide)) dL_law_596 ?_
  rw [show (4 : Int32).toNatClampNeg = 4 from by decide]
  refine lv_aload_n hx hb dL_law_597 rfl (lv_at hl 3 rfl) ?_
  refine lv_iload_n hx hb dL_law_598 rfl (lv_at hl 0 rfl) ?_
  refine lv_iconst (v := 5) hx hb dL_law_599 (by decide) ?_
  refine lv_iadd hx hb dL_law_600 ?_
  refine lv_topi (fun x_382 ex_382 => ?_)
  obtain rfl : x_382 = (5 : Int32) := ex_382.trans (by decide)
  refine va_sld hx hb hX hbl hbA hW.2.2.2.1 (vp_in_iff.mpr (by rw [hL7]; decide)) dL_law_601 ?_
  rw [show (5 : Int32).toNatClampNeg = 5 from by decide]
  refine hx_goi (hx_runV (As := [.int (xs 1), .int (xs 2), .int (xs 3), .int (xs 4), .int (xs 5)]) (rest := [.int r_375]) ⟨hx, hb, hml, hown, hts⟩ hW gq_60 td_10 (T := TX10) (N := 98) rfl (c_X10_line l dC dI dA L_373 h_374 H.size q_60 (xs 1) (xs 2) (xs 3) (xs 4) (xs 5) gq_60 f_90 f_81 f_61) (cwV 5 hts (hx_gV kw_1564 kw_1561 kw_1562 kw_1563 kw_103) rfl rfl rfl (by decide +kernel) ⟨Nat.le_of_ble_eq_true rfl, Nat.le_of_ble_eq_true rfl⟩) rfl hl.1 rfl (Nat.le_of_ble_eq_true rfl) dL_law_602 ⟨Nat.le_of_ble_eq_true rfl, Nat.le_of_ble_eq_true rfl⟩) hW (fun r_385 L_383 h_384 H locs p_386 hW => ?_)
  obtain ⟨hr_387, hs⟩ := p_386
  have hs : hx_S P_tb [] L_373 h_374 L_383 h_384 := hs
  have f_4 := (hs.o gq_2 trivial rfl).1.trans f_4
  have f_5 := (hs.o gq_2 trivial rfl).1.trans f_5
  have f_9 := (hs.o gq_2 trivial rfl).1.trans f_9
  have f_11 := (hs.o gq_2 trivial rfl).1.trans f_11
  have f_14 := (hs.o gq_2 trivial rfl).1.trans f_14
  have f_16 := (hs.o gq_2 trivial rfl).1.trans f_16
  have f_28 := (hs.o gq_2 trivial rfl).2.trans f_28
  have f_30 := (hs.o gq_2 trivial rfl).2.trans f_30
  have f_32 := (hs.o gq_2 trivial rfl).2.trans f_32
  have f_33 := (hs.o gq_31 trivial rfl).1.trans f_33
  have f_35 := (hs.o gq_31 trivial rfl).2.trans f_35
  have f_38 := (hs.o gq_2 trivial rfl).2.trans f_38
  have f_40 := (hs.o gq_2 trivial rfl).2.trans f_40
  have f_42 := (hs.o gq_2 trivial rfl).2.trans f_42
  have f_43 := (hs.o gq_41 trivial rfl).1.trans f_43
  have f_45 := (hs.o gq_2 trivial rfl).2.trans f_45
  have f_46 := (hs.o gq_44 trivial rfl).1.trans f_46
  have f_48 := (hs.o gq_2 trivial rfl).2.trans f_48
  have f_49 := (hs.o gq_47 trivial rfl).1.trans f_49
  have f_51 := (hs.o gq_2 trivial rfl).2.trans f_51
  have f_52 := (hs.o gq_50 trivial rfl).1.trans f_52
  have f_54 := (hs.o gq_50 trivial rfl).2.trans f_54
  have f_56 := (hs.o gq_2 trivial rfl).2.trans f_56
  have f_57 := (hs.o gq_55 trivial rfl).1.trans f_57
  have f_58 := (hs.o gq_55 trivial rfl).1.trans f_58
  have f_61 := (hs.o gq_60 trivial rfl).1.trans f_61
  have f_62 := (hs.o gq_60 trivial rfl).1.trans f_62
  have f_68 := (hs.o gq_60 trivial rfl).1.trans f_68
  have f_69 := (hs.o gq_60 trivial rfl).1.trans f_69
  have f_70 := (hs.o gq_60 trivial rfl).1.trans f_70
  have f_71 := (hs.o gq_60 trivial rfl).1.trans f_71
  have f_72 := (hs.o gq_60 trivial rfl).1.trans f_72
  have f_74 := (hs.o gq_60 trivial rfl).1.trans f_74
  have f_81 := (hs.o gq_60 trivial rfl).1.trans f_81
  have f_90 := (hs.o gq_60 trivial rfl).1.trans f_90
  have f_97 := (hs.o gq_60 trivial rfl).1.trans f_97
  have f_118 := (hs.o gq_60 trivial rfl).1.trans f_118
  have f_120 := (hs.o gq_60 trivial rfl).1.trans f_120
  have f_128 := (hs.o gq_60 trivial rfl).1.trans f_128
  have f_129 := (hs.o gq_60 trivial rfl).1.trans f_129
  have f_130 := (hs.o gq_60 trivial rfl).1.trans f_130
  have f_131 := (hs.o gq_60 trivial rfl).1.trans f_131
  have f_132 := (hs.o gq_60 trivial rfl).1.trans f_132
  have f_133 := (hs.o gq_60 trivial rfl).1.trans f_133
  have f_136 := (hs.o gq_60 trivial rfl).1.trans f_136
  have f_144 := (hs.o gq_60 trivial rfl).1.trans f_144
  have f_145 := (hs.o gq_60 trivial rfl).1.trans f_145
  have f_147 := (hs.o gq_60 trivial rfl).1.trans f_147
  have f_148 := (hs.o gq_60 trivial rfl).1.trans f_148
  have f_151 := (hs.o gq_60 trivial rfl).1.trans f_151
  have f_153 := (hs.o gq_60 trivial rfl).1.trans f_153
  have f_156 := (hs.o gq_60 trivial rfl).1.trans f_156
  have f_157 := (hs.o gq_60 trivial rfl).1.trans f_157
  have f_164 := (hs.o gq_60 trivial rfl).2.trans f_164
  have f_166 := (hs.o gq_60 trivial rfl).2.trans f_166
  have f_169 := (hs.o gq_60 trivial rfl).2.trans f_169
  have f_171 := (hs.o gq_60 trivial rfl).2.trans f_171
  have f_173 := (hs.o gq_60 trivial rfl).2.trans f_173
  have f_175 := (hs.o gq_60 trivial rfl).2.trans f_175
  have f_177 := (hs.o gq_60 trivial rfl).2.trans f_177
  have f_179 := (hs.o gq_60 trivial rfl).2.trans f_179
  have f_181 := (hs.o gq_60 trivial rfl).2.trans f_181
  have f_183 := (hs.o gq_60 trivial rfl).2.trans f_183
  have f_185 := (hs.o gq_60 trivial rfl).2.trans f_185
  have f_187 := (hs.o gq_60 trivial rfl).2.trans f_187
  have f_189 := (hs.o gq_60 trivial rfl).2.trans f_189
  have f_191 := (hs.o gq_60 trivial rfl).2.trans f_191
  have f_193 := (hs.o gq_60 trivial rfl).2.trans f_193
  have fa_36 : ∀ j, j < 14 → _ = P_wo j := fun j hj => (hs.a gq_34 rfl j).1.trans (fa_36 j hj)
  have fa_167 : ∀ j, j < 13 → _ = P_w1 j := fun j hj => (hs.a gq_165 rfl j).1.trans (fa_167 j hj)
  have gq_2 := gq_2.S hs
  have gq_27 := gq_27.S hs
  have gq_29 := gq_29.S hs
  have gq_31 := gq_31.S hs
  have gq_34 := gq_34.S hs
  have gq_37 := gq_37.S hs
  have gq_39 := gq_39.S hs
  have gq_41 := gq_41.S hs
  have gq_44 := gq_44.S hs
  have gq_47 := gq_47.S hs
  have gq_50 := gq_50.S hs
  have gq_53 := gq_53.S hs
  have gq_55 := gq_55.S hs
  have gq_60 := gq_60.S hs
  have gq_163 := gq_163.S hs
  have gq_165 := gq_165.S hs
  have gq_168 := gq_168.S hs
  have gq_170 := gq_170.S hs
  have gq_172 := gq_172.S hs
  have gq_174 := gq_174.S hs
  have gq_176 := gq_176.S hs
  have gq_178 := gq_178.S hs
  have gq_180 := gq_180.S hs
  have gq_182 := gq_182.S hs
  have gq_184 := gq_184.S hs
  have gq_186 := gq_186.S hs
  have gq_188 := gq_188.S hs
  have gq_190 := gq_190.S hs
  have gq_192 := gq_192.S hs
  have heq : r_375 = r_385 := by
    first | exact hr_377.trans hr_387.symm | (rcases hr_377 with ⟨k1, k2⟩ | ⟨k1, k2⟩ <;> rcases hr_387 with ⟨k3, k4⟩ | ⟨k3, k4⟩ <;> first | exact k2.trans k4.symm | (exfalso; omega) | exact absurd k1 k3 | exact absurd k3 k1)
  refine hb_icmp_eq (zx := r_375.toInt) (zy := r_385.toInt) (tgt := 1379) hx hb rfl rfl dL_law_605 (by decide) (fun c_388 => ?_) (fun c_388 => absurd (congrArg Int32.toInt heq) c_388)
  exact law_tail hx hb hr hlocks hX hbl hbA hL7 _ _ hW.2.2.2.1 ls hl (Nat.le_of_ble_eq_true rfl) (Nat.le_of_ble_eq_true rfl)

set_option maxHeartbeats 4000000 in
set_option maxRecDepth 100000 in
theorem law_case_10 {p : Program} {e : Env} {s : State} {m : MethodId} {below : List Frame} {meth : Method} {c : Code} (l : Launch) {b LN : Nat} {xs : Nat → Int32} (hx : p.tables.exec = Jvm.exec) (hb : c.code = code) (hr : meth.sig.returnType = ret) (hlocks : meth.locks = false) (hml : c.maxLocals = 4) (hown : s.vm.findClass "SmallCourtLaw" = some m.cls) (hts : ∀ w ∈ hx_all, w.before #[Value.ref b] s = true) (hX : va_X b LN xs s s.heap) (hbl : b < s.heap.size) (hbA : ¬ s.heap.size ≤ b) (hL7 : LN = 7) (dC : Nat → ClassId) (dI : Nat → Nat → Nat) (dA : Nat → ClassId) (b0 : Nat) (q_2 q_27 q_29 q_31 q_34 q_37 q_39 q_41 q_44 q_47 q_50 q_53 q_55 q_60 q_163 q_165 q_168 q_170 q_172 q_174 q_176 q_178 q_180 q_182 q_184 q_186 q_188 q_190 q_192 : Nat) (L1 : List Nat) (hl1 : hx_h) (H : Heap) (locs : List Loc) (ls : Array Slot) (hW : hx_W P_tb (P_ty dA) (dC, dI) vwCl (fun q : Nat => s.heap.size ≤ q) s.heap L1 hl1 s H locs) (hZ : hx_Xt (fun q : Nat => s.heap.size ≤ q) b0 s) (f_4 : hl1.2.1 q_2 1 = (0 : Int32)) (f_5 : hl1.2.1 q_2 2 = (0 : Int32)) (f_9 : hl1.2.1 q_2 6 = (0 : Int32)) (f_11 : hl1.2.1 q_2 8 = (0 : Int32)) (f_14 : hl1.2.1 q_2 11 = (0 : Int32)) (f_16 : hl1.2.1 q_2 13 = (0 : Int32)) (f_28 : hl1.2.2 q_2 0 = some q_27) (f_30 : hl1.2.2 q_2 3 = some q_29) (f_32 : hl1.2.2 q_2 4 = some q_31) (f_33 : hl1.2.1 q_31 0 = (-1 : Int32)) (f_35 : hl1.2.2 q_31 2 = some q_34) (f_38 : hl1.2.2 q_2 5 = some q_37) (f_40 : hl1.2.2 q_2 7 = some q_39) (f_42 : hl1.2.2 q_2 9 = some q_41) (f_43 : hl1.2.1 q_41 0 = (0 : Int32)) (f_45 : hl1.2.2 q_2 14 = some q_44) (f_46 : hl1.2.1 q_44 0 = (0 : Int32)) (f_48 : hl1.2.2 q_2 17 = some q_47) (f_49 : hl1.2.1 q_47 1 = (0 : Int32)) (f_51 : hl1.2.2 q_2 18 = some q_50) (f_52 : hl1.2.1 q_50 0 = (-1 : Int32)) (f_54 : hl1.2.2 q_50 5 = some q_53) (f_56 : hl1.2.2 q_2 19 = some q_55) (f_57 : hl1.2.1 q_55 0 = (0 : Int32)) (f_58 : hl1.2.1 q_55 1 = (0 : Int32)) (f_61 : hl1.2.1 q_60 0 = (0 : Int32)) (f_62 : hl1.2.1 q_60 1 = (0 : Int32)) (f_68 : hl1.2.1 q_60 7 = (0 : Int32)) (f_69 : hl1.2.1 q_60 8 = (0 : Int32)) (f_70 : hl1.2.1 q_60 9 = (0 : Int32)) (f_71 : hl1.2.1 q_60 10 = (0 : Int32)) (f_72 : hl1.2.1 q_60 11 = (0 : Int32)) (f_74 : hl1.2.1 q_60 13 = (0 : Int32)) (f_81 : hl1.2.1 q_60 20 = (0 : Int32)) (f_90 : hl1.2.1 q_60 29 = (0 : Int32)) (f_97 : hl1.2.1 q_60 36 = (0 : Int32)) (f_118 : hl1.2.1 q_60 57 = (0 : Int32)) (f_120 : hl1.2.1 q_60 59 = (0 : Int32)) (f_128 : hl1.2.1 q_60 67 = (0 : Int32)) (f_129 : hl1.2.1 q_60 68 = (0 : Int32)) (f_130 : hl1.2.1 q_60 69 = (0 : Int32)) (f_131 : hl1.2.1 q_60 70 = (0 : Int32)) (f_132 : hl1.2.1 q_60 71 = (0 : Int32)) (f_133 : hl1.2.1 q_60 72 = (0 : Int32)) (f_136 : hl1.2.1 q_60 75 = (0 : Int32)) (f_144 : hl1.2.1 q_60 83 = (0 : Int32)) (f_145 : hl1.2.1 q_60 84 = (0 : Int32)) (f_147 : hl1.2.1 q_60 86 = (0 : Int32)) (f_148 : hl1.2.1 q_60 87 = (0 : Int32)) (f_151 : hl1.2.1 q_60 90 = (0 : Int32)) (f_153 : hl1.2.1 q_60 92 = (0 : Int32)) (f_156 : hl1.2.1 q_60 95 = (0 : Int32)) (f_157 : hl1.2.1 q_60 96 = (0 : Int32)) (f_164 : hl1.2.2 q_60 2 = some q_163) (f_166 : hl1.2.2 q_60 3 = some q_165) (f_169 : hl1.2.2 q_60 4 = some q_168) (f_171 : hl1.2.2 q_60 5 = some q_170) (f_173 : hl1.2.2 q_60 6 = some q_172) (f_175 : hl1.2.2 q_60 12 = some q_174) (f_177 : hl1.2.2 q_60 15 = some q_176) (f_179 : hl1.2.2 q_60 21 = some q_178) (f_181 : hl1.2.2 q_60 22 = some q_180) (f_183 : hl1.2.2 q_60 23 = some q_182) (f_185 : hl1.2.2 q_60 24 = some q_184) (f_187 : hl1.2.2 q_60 25 = some q_186) (f_189 : hl1.2.2 q_60 26 = some q_188) (f_191 : hl1.2.2 q_60 82 = some q_190) (f_193 : hl1.2.2 q_60 94 = some q_192) (fa_36 : ∀ j, j < 14 → hl1.2.1 q_34 j = P_wo j) (fa_167 : ∀ j, j < 13 → hl1.2.1 q_165 j = P_w1 j) (gq_2 : hx_g L1 hl1 q_2 9) (gq_27 : hx_g L1 hl1 q_27 42) (gq_29 : hx_g L1 hl1 q_29 6) (gq_31 : hx_g L1 hl1 q_31 0) (gq_34 : hx_g L1 hl1 q_34 11) (gq_37 : hx_g L1 hl1 q_37 43) (gq_39 : hx_g L1 hl1 q_39 44) (gq_41 : hx_g L1 hl1 q_41 1) (gq_44 : hx_g L1 hl1 q_44 3) (gq_47 : hx_g L1 hl1 q_47 5) (gq_50 : hx_g L1 hl1 q_50 7) (gq_53 : hx_g L1 hl1 q_53 36) (gq_55 : hx_g L1 hl1 q_55 8) (gq_60 : hx_g L1 hl1 q_60 10) (gq_163 : hx_g L1 hl1 q_163 49) (gq_165 : hx_g L1 hl1 q_165 50) (gq_168 : hx_g L1 hl1 q_168 51) (gq_170 : hx_g L1 hl1 q_170 52) (gq_172 : hx_g L1 hl1 q_172 53) (gq_174 : hx_g L1 hl1 q_174 54) (gq_176 : hx_g L1 hl1 q_176 55) (gq_178 : hx_g L1 hl1 q_178 58) (gq_180 : hx_g L1 hl1 q_180 59) (gq_182 : hx_g L1 hl1 q_182 60) (gq_184 : hx_g L1 hl1 q_184 61) (gq_186 : hx_g L1 hl1 q_186 62) (gq_188 : hx_g L1 hl1 q_188 63) (gq_190 : hx_g L1 hl1 q_190 108) (gq_192 : hx_g L1 hl1 q_192 114) (hl : lv_has ls 4 [(3, .int (0 : Int32)), (2, .ref q_60), (1, .ref q_2), (0, .ref b)]) : W p l e room_1 s m #[Value.ref b] below meth c H locs 112 26072 (lw_Z below #[Value.ref b] s) (F0 m 610 ls []) := by
  refine lv_aload_n hx hb dL_law_610 rfl (lv_at hl 2 rfl) ?_
  refine lv_aload_n hx hb dL_law_611 rfl (lv_at hl 3 rfl) ?_
  refine lv_iload_n hx hb dL_law_612 rfl (lv_at hl 0 rfl) ?_
  refine lv_iconst (v := 1) hx hb dL_law_613 (by decide) ?_
  refine lv_iadd hx hb dL_law_614 ?_
  refine lv_topi (fun x_389 ex_389 => ?_)
  obtain rfl : x_389 = (1 : Int32) := ex_389.trans (by decide)
  refine va_sld hx hb hX hbl hbA hW.2.2.2.1 (vp_in_iff.mpr (by rw [hL7]; decide)) dL_law_615 ?_
  rw [show (1 : Int32).toNatClampNeg = 1 from by decide]
  refine lv_aload_n hx hb dL_law_616 rfl (lv_at hl 3 rfl) ?_
  refine lv_iload_n hx hb dL_law_617 rfl (lv_at hl 0 rfl) ?_
  refine lv_iconst (v := 2) hx hb dL_law_618 (by decide) ?_
  refine lv_iadd hx hb dL_law_619 ?_
  refine lv_topi (fun x_390 ex_390 => ?_)
  obtain rfl : x_390 = (2 : Int32) := ex_390.trans (by decide)
  refine va_sld hx hb hX hbl hbA hW.2.2.2.1 (vp_in_iff.mpr (by rw [hL7]; decide)) dL_law_620 ?_
  rw [show (2 : Int32).toNatClampNeg = 2 from by decide]
  refine lv_aload_n hx hb dL_law_621 rfl (lv_at hl 3 rfl) ?_
  refine lv_iload_n hx hb dL_law_622 rfl (lv_at hl 0 rfl) ?_
  refine lv_iconst (v := 3) hx hb dL_law_623 (by decide) ?_
  refine lv_iadd hx hb dL_law_624 ?_
  refine lv_topi (fun x_391 ex_391 => ?_)
  obtain rfl : x_391 = (3 : Int32) := ex_391.trans (by decide)
  refine va_sld hx hb hX hbl hbA hW.2.2.2.1 (vp_in_iff.mpr (by rw [hL7]; decide)) dL_law_625 ?_
  rw [show (3 : Int32).toNatClampNeg = 3 from by decide]
  refine lv_aload_n hx hb dL_law_626 rfl (lv_at hl 3 rfl) ?_
  refine lv_iload_n hx hb dL_law_627 rfl (lv_at hl 0 rfl) ?_
  refine lv_iconst (v := 4) hx hb dL_law_628 (by decide) ?_
  refine lv_iadd hx hb dL_law_629 ?_
  refine lv_topi (fun x_392 ex_392 => ?_)
  obtain rfl : x_392 = (4 : Int32) := ex_392.trans (by decide)
  refine va_sld hx hb hX hbl hbA hW.2.2.2.1 (vp_in_iff.mpr (by rw [hL7]; decide)) dL_law_630 ?_
  rw [show (4 : Int32).toNatClampNeg = 4 from by decide]
  refine hx_goi (hx_runV (As := [.int (xs 1), .int (xs 2), .int (xs 3), .int (xs 4)]) (rest := []) ⟨hx, hb, hml, hown, hts⟩ hW gq_2 td_9 (T := TX9) (N := 20) rfl (c_X9_book l dC dI dA L1 hl1 H.size q_2 (xs 1) (xs 2) (xs 3) (xs 4) gq_2 f_11) (cwV 4 hts (hx_gV kw_683 kw_680 kw_681 kw_682 kw_94) rfl rfl rfl (by decide +kernel) ⟨Nat.le_of_ble_eq_true rfl, Nat.le_of_ble_eq_true rfl⟩) rfl hl.1 rfl (Nat.le_of_ble_eq_true rfl) dL_law_631 ⟨Nat.le_of_ble_eq_true rfl, Nat.le_of_ble_eq_true rfl⟩) hW (fun r_395 L_393 h_394 H locs p_396 hW => ?_)
  obtain ⟨hr_397, hs⟩ := p_396
  have hs : hx_S P_tb [] L1 hl1 L_393 h_394 := hs
  have f_4 := (hs.o gq_2 trivial rfl).1.trans f_4
  have f_5 := (hs.o gq_2 trivial rfl).1.trans f_5
  have f_9 := (hs.o gq_2 trivial rfl).1.trans f_9
  have f_11 := (hs.o gq_2 trivial rfl).1.trans f_11
  have f_14 := (hs.o gq_2 trivial rfl).1.trans f_14
  have f_16 := (hs.o gq_2 trivial rfl).1.trans f_16
  have f_28 := (hs.o gq_2 trivial rfl).2.trans f_28
  have f_30 := (hs.o gq_2 trivial rfl).2.trans f_30
  have f_32 := (hs.o gq_2 trivial rfl).2.trans f_32
  have f_33 := (hs.o gq_31 trivial rfl).1.trans f_33
  have f_35 := (hs.o gq_31 trivial rfl).2.trans f_35
  have f_38 := (hs.o gq_2 trivial rfl).2.trans f_38
  have f_40 := (hs.o gq_2 trivial rfl).2.trans f_40
  have f_42 := (hs.o gq_2 trivial rfl).2.trans f_42
  have f_43 := (hs.o gq_41 trivial rfl).1.trans f_43
  have f_45 := (hs.o gq_2 trivial rfl).2.trans f_45
  have f_46 := (hs.o gq_44 trivial rfl).1.trans f_46
  have f_48 := (hs.o gq_2 trivial rfl).2.trans f_48
  have f_49 := (hs.o gq_47 trivial rfl).1.trans f_49
  have f_51 := (hs.o gq_2 trivial rfl).2.trans f_51
  have f_52 := (hs.o gq_50 trivial rfl).1.trans f_52
  have f_54 := (hs.o gq_50 trivial rfl).2.trans f_54
  have f_56 := (hs.o gq_2 trivial rfl).2.trans f_56
  have f_57 := (hs.o gq_55 trivial rfl).1.trans f_57
  have f_58 := (hs.o gq_55 trivial rfl).1.trans f_58
  have f_61 := (hs.o gq_60 trivial rfl).1.trans f_61
  have f_62 := (hs.o gq_60 trivial rfl).1.trans f_62
  have f_68 := (hs.o gq_60 trivial rfl).1.trans f_68
  have f_69 := (hs.o gq_60 trivial rfl).1.trans f_69
  have f_70 := (hs.o gq_60 trivial rfl).1.trans f_70
  have f_71 := (hs.o gq_60 trivial rfl).1.trans f_71
  have f_72 := (hs.o gq_60 trivial rfl).1.trans f_72
  have f_74 := (hs.o gq_60 trivial rfl).1.trans f_74
  have f_81 := (hs.o gq_60 trivial rfl).1.trans f_81
  have f_90 := (hs.o gq_60 trivial rfl).1.trans f_90
  have f_97 := (hs.o gq_60 trivial rfl).1.trans f_97
  have f_118 := (hs.o gq_60 trivial rfl).1.trans f_118
  have f_120 := (hs.o gq_60 trivial rfl).1.trans f_120
  have f_128 := (hs.o gq_60 trivial rfl).1.trans f_128
  have f_129 := (hs.o gq_60 trivial rfl).1.trans f_129
  have f_130 := (hs.o gq_60 trivial rfl).1.trans f_130
  have f_131 := (hs.o gq_60 trivial rfl).1.trans f_131
  have f_132 := (hs.o gq_60 trivial rfl).1.trans f_132
  have f_133 := (hs.o gq_60 trivial rfl).1.trans f_133
  have f_136 := (hs.o gq_60 trivial rfl).1.trans f_136
  have f_144 := (hs.o gq_60 trivial rfl).1.trans f_144
  have f_145 := (hs.o gq_60 trivial rfl).1.trans f_145
  have f_147 := (hs.o gq_60 trivial rfl).1.trans f_147
  have f_148 := (hs.o gq_60 trivial rfl).1.trans f_148
  have f_151 := (hs.o gq_60 trivial rfl).1.trans f_151
  have f_153 := (hs.o gq_60 trivial rfl).1.trans f_153
  have f_156 := (hs.o gq_60 trivial rfl).1.trans f_156
  have f_157 := (hs.o gq_60 trivial rfl).1.trans f_157
  have f_164 := (hs.o gq_60 trivial rfl).2.trans f_164
  have f_166 := (hs.o gq_60 trivial rfl).2.trans f_166
  have f_169 := (hs.o gq_60 trivial rfl).2.trans f_169
  have f_171 := (hs.o gq_60 trivial rfl).2.trans f_171
  have f_173 := (hs.o gq_60 trivial rfl).2.trans f_173
  have f_175 := (hs.o gq_60 trivial rfl).2.trans f_175
  have f_177 := (hs.o gq_60 trivial rfl).2.trans f_177
  have f_179 := (hs.o gq_60 trivial rfl).2.trans f_179
  have f_181 := (hs.o gq_60 trivial rfl).2.trans f_181
  have f_183 := (hs.o gq_60 trivial rfl).2.trans f_183
  have f_185 := (hs.o gq_60 trivial rfl).2.trans f_185
  have f_187 := (hs.o gq_60 trivial rfl).2.trans f_187
  have f_189 := (hs.o gq_60 trivial rfl).2.trans f_189
  have f_191 := (hs.o gq_60 trivial rfl).2.trans f_191
  have f_193 := (hs.o gq_60 trivial rfl).2.trans f_193
  have fa_36 : ∀ j, j < 14 → _ = P_wo j := fun j hj => (hs.a gq_34 rfl j).1.trans (fa_36 j hj)
  have fa_167 : ∀ j, j < 13 → _ = P_w1 j := fun j hj => (hs.a gq_165 rfl j).1.trans (fa_167 j hj)
  have gq_2 := gq_2.S hs
  have gq_27 := gq_27.S hs
  have gq_29 := gq_29.S hs
  have gq_31 := gq_31.S hs
  have gq_34 := gq_34.S hs
  have gq_37 := gq_37.S hs
  have gq_39 := gq_39.S hs
  have gq_41 := gq_41.S hs
  have gq_44 := gq_44.S hs
  have gq_47 := gq_47.S hs
  have gq_50 := gq_50.S hs
  have gq_53 := gq_53.S hs
  have gq_55 := gq_55.S hs
  have gq_60 := gq_60.S hs
  have gq_163 := gq_163.S hs
  have gq_165 := gq_165.S hs
  have gq_168 := gq_168.S hs
  have gq_170 := gq_170.S hs
  have gq_172 := gq_172.S hs
  have gq_174 := gq_174.S hs
  have gq_176 := gq_176.S hs
  have gq_178 := gq_178.S hs
  have gq_180 := gq_180.S hs
  have gq_182 := gq_182.S hs
  have gq_184 := gq_184.S hs
  have gq_186 := gq_186.S hs
  have gq_188 := gq_188.S hs
  have gq_190 := gq_190.S hs
  have gq_192 := gq_192.S hs
  refine lv_aload_n hx hb dL_law_634 rfl (lv_at hl 1 rfl) ?_
  refine lv_aload_n hx hb dL_law_635 rfl (lv_at hl 3 rfl) ?_
  refine lv_iload_n hx hb dL_law_636 rfl (lv_at hl 0 rfl) ?_
  refine lv_iconst (v := 1) hx hb dL_law_637 (by decide) ?_
  refine lv_iadd hx hb dL_law_638 ?_
  refine lv_topi (fun x_398 ex_398 => ?_)
  obtain rfl : x_398 = (1 : Int32) := ex_398.trans (by decide)
  refine va_sld hx hb hX hbl hbA hW.2.2.2.1 (vp_in_iff.mpr (by rw [hL7]; decide)) dL_law_639 ?_
  rw [show (1 : Int32).toNatClampNeg = 1 from by decide]
  refine lv_aload_n hx hb dL_law_640 rfl (lv_at hl 3 rfl) ?_
  refine lv_iload_n hx hb dL_law_641 rfl (lv_at hl 0 rfl) ?_
  refine lv_iconst (v := 2) hx hb dL_law_642 (by decide) ?_
  refine lv_iadd hx hb dL_law_643 ?_
  refine lv_topi (fun x_399 ex_399 => ?_)
  obtain rfl : x_399 = (2 : Int32) := ex_399.trans (by decide)
  refine va_sld hx hb hX hbl hbA hW.2.2.2.1 (vp_in_iff.mpr (by rw [hL7]; decide)) dL_law_644 ?_
  rw [show (2 : Int32).toNatClampNeg = 2 from by decide]
  refine lv_aload_n hx hb dL_law_645 rfl (lv_at hl 3 rfl) ?_
  refine lv_iload_n hx hb dL_law_646 rfl (lv_at hl 0 rfl) ?_
  refine lv_iconst (v := 3) hx hb dL_law_647 (by decide) ?_
  refine lv_iadd hx hb dL_law_648 ?_
  refine lv_topi (fun x_400 ex_400 => ?_)
  obtain rfl : x_400 = (3 : Int32) := ex_400.trans (by decide)
  refine va_sld hx hb hX hbl hbA hW.2.2.2.1 (vp_in_iff.mpr (by rw [hL7]; decide)) dL_law_649 ?_
  rw [show (3 : Int32).toNatClampNeg = 3 from by decide]
  refine lv_aload_n hx hb dL_law_650 rfl (lv_at hl 3 rfl) ?_
  refine lv_iload_n hx hb dL_law_651 rfl (lv_at hl 0 rfl) ?_
  refine lv_iconst (v := 4) hx hb dL_law_652 (by decide) ?_
  refine lv_iadd hx hb dL_law_653 ?_
  refine lv_topi (fun x_401 ex_401 => ?_)
  obtain rfl : x_401 = (4 : Int32) := ex_401.trans (by decide)
  refine va_sld hx hb hX hbl hbA hW.2.2.2.1 (vp_in_iff.mpr (by rw [hL7]; decide)) dL_law_654 ?_
  rw [show (4 : Int32).toNatClampNeg = 4 from by decide]
  refine hx_goi (hx_runV (As := [.int (xs 1), .int (xs 2), .int (xs 3), .int (xs 4)]) (rest := [.int r_395]) ⟨hx, hb, hml, hown, hts⟩ hW gq_60 td_10 (T := TX10) (N := 98) rfl (c_X10_book l dC dI dA L_393 h_394 H.size q_60 (xs 1) (xs 2) (xs 3) (xs 4) gq_60 f_81) (cwV 4 hts (hx_gV kw_1568 kw_1565 kw_1566 kw_1567 kw_103) rfl rfl rfl (by decide +kernel) ⟨Nat.le_of_ble_eq_true rfl, Nat.le_of_ble_eq_true rfl⟩) rfl hl.1 rfl (Nat.le_of_ble_eq_true rfl) dL_law_655 ⟨Nat.le_of_ble_eq_true rfl, Nat.le_of_ble_eq_true rfl⟩) hW (fun r_404 L_402 h_403 H locs p_405 hW => ?_)
  obtain ⟨hr_406, hs⟩ := p_405
  have hs : hx_S P_tb [] L_393 h_394 L_402 h_403 := hs
  have f_4 := (hs.o gq_2 trivial rfl).1.trans f_4
  have f_5 := (hs.o gq_2 trivial rfl).1.trans f_5
  have f_9 := (hs.o gq_2 trivial rfl).1.trans f_9
  have f_11 := (hs.o gq_2 trivial rfl).1.trans f_11
  have f_14 := (hs.o gq_2 trivial rfl).1.trans f_14
  have f_16 := (hs.o gq_2 trivial rfl).1.trans f_16
  have f_28 := (hs.o gq_2 trivial rfl).2.trans f_28
  have f_30 := (hs.o gq_2 trivial rfl).2.trans f_30
  have f_32 := (hs.o gq_2 trivial rfl).2.trans f_32
  have f_33 := (hs.o gq_31 trivial rfl).1.trans f_33
  have f_35 := (hs.o gq_31 trivial rfl).2.trans f_35
  have f_38 := (hs.o gq_2 trivial rfl).2.trans f_38
  have f_40 := (hs.o gq_2 trivial rfl).2.trans f_40
  have f_42 := (hs.o gq_2 trivial rfl).2.trans f_42
  have f_43 := (hs.o gq_41 trivial rfl).1.trans f_43
  have f_45 := (hs.o gq_2 trivial rfl).2.trans f_45
  have f_46 := (hs.o gq_44 trivial rfl).1.trans f_46
  have f_48 := (hs.o gq_2 trivial rfl).2.trans f_48
  have f_49 := (hs.o gq_47 trivial rfl).1.trans f_49
  have f_51 := (hs.o gq_2 trivial rfl).2.trans f_51
  have f_52 := (hs.o gq_50 trivial rfl).1.trans f_52
  have f_54 := (hs.o gq_50 trivial rfl).2.trans f_54
  have f_56 := (hs.o gq_2 trivial rfl).2.trans f_56
  have f_57 := (hs.o gq_55 trivial rfl).1.trans f_57
  have f_58 := (hs.o gq_55 trivial rfl).1.trans f_58
  have f_61 := (hs.o gq_60 trivial rfl).1.trans f_61
  have f_62 := (hs.o gq_60 trivial rfl).1.trans f_62
  have f_68 := (hs.o gq_60 trivial rfl).1.trans f_68
  have f_69 := (hs.o gq_60 trivial rfl).1.trans f_69
  have f_70 := (hs.o gq_60 trivial rfl).1.trans f_70
  have f_71 := (hs.o gq_60 trivial rfl).1.trans f_71
  have f_72 := (hs.o gq_60 trivial rfl).1.trans f_72
  have f_74 := (hs.o gq_60 trivial rfl).1.trans f_74
  have f_81 := (hs.o gq_60 trivial rfl).1.trans f_81
  have f_90 := (hs.o gq_60 trivial rfl).1.trans f_90
  have f_97 := (hs.o gq_60 trivial rfl).1.trans f_97
  have f_118 := (hs.o gq_60 trivial rfl).1.trans f_118
  have f_120 := (hs.o gq_60 trivial rfl).1.trans f_120
  have f_128 := (hs.o gq_60 trivial rfl).1.trans f_128
  have f_129 := (hs.o gq_60 trivial rfl).1.trans f_129
  have f_130 := (hs.o gq_60 trivial rfl).1.trans f_130
  have f_131 := (hs.o gq_60 trivial rfl).1.trans f_131
  have f_132 := (hs.o gq_60 trivial rfl).1.trans f_132
  have f_133 := (hs.o gq_60 trivial rfl).1.trans f_133
  have f_136 := (hs.o gq_60 trivial rfl).1.trans f_136
  have f_144 := (hs.o gq_60 trivial rfl).1.trans f_144
  have f_145 := (hs.o gq_60 trivial rfl).1.trans f_145
  have f_147 := (hs.o gq_60 trivial rfl).1.trans f_147
  have f_148 := (hs.o gq_60 trivial rfl).1.trans f_148
  have f_151 := (hs.o gq_60 trivial rfl).1.trans f_151
  have f_153 := (hs.o gq_60 trivial rfl).1.trans f_153
  have f_156 := (hs.o gq_60 trivial rfl).1.trans f_156
  have f_157 := (hs.o gq_60 trivial rfl).1.trans f_157
  have f_164 := (hs.o gq_60 trivial rfl).2.trans f_164
  have f_166 := (hs.o gq_60 trivial rfl).2.trans f_166
  have f_169 := (hs.o gq_60 trivial rfl).2.trans f_169
  have f_171 := (hs.o gq_60 trivial rfl).2.trans f_171
  have f_173 := (hs.o gq_60 trivial rfl).2.trans f_173
  have f_175 := (hs.o gq_60 trivial rfl).2.trans f_175
  have f_177 := (hs.o gq_60 trivial rfl).2.trans f_177
  have f_179 := (hs.o gq_60 trivial rfl).2.trans f_179
  have f_181 := (hs.o gq_60 trivial rfl).2.trans f_181
  have f_183 := (hs.o gq_60 trivial rfl).2.trans f_183
  have f_185 := (hs.o gq_60 trivial rfl).2.trans f_185
  have f_187 := (hs.o gq_60 trivial rfl).2.trans f_187
  have f_189 := (hs.o gq_60 trivial rfl).2.trans f_189
  have f_191 := (hs.o gq_60 trivial rfl).2.trans f_191
  have f_193 := (hs.o gq_60 trivial rfl).2.trans f_193
  have fa_36 : ∀ j, j < 14 → _ = P_wo j := fun j hj => (hs.a gq_34 rfl j).1.trans (fa_36 j hj)
  have fa_167 : ∀ j, j < 13 → _ = P_w1 j := fun j hj => (hs.a gq_165 rfl j).1.trans (fa_167 j hj)
  have gq_2 := gq_2.S hs
  have gq_27 := gq_27.S hs
  have gq_29 := gq_29.S hs
  have gq_31 := gq_31.S hs
  have gq_34 := gq_34.S hs
  have gq_37 := gq_37.S hs
  have gq_39 := gq_39.S hs
  have gq_41 := gq_41.S hs
  have gq_44 := gq_44.S hs
  have gq_47 := gq_47.S hs
  have gq_50 := gq_50.S hs
  have gq_53 := gq_53.S hs
  have gq_55 := gq_55.S hs
  have gq_60 := gq_60.S hs
  have gq_163 := gq_163.S hs
  have gq_165 := gq_165.S hs
  have gq_168 := gq_168.S hs
  have gq_170 := gq_170.S hs
  have gq_172 := gq_172.S hs
  have gq_174 := gq_174.S hs
  have gq_176 := gq_176.S hs
  have gq_178 := gq_178.S hs
  have gq_180 := gq_180.S hs
  have gq_182 := gq_182.S hs
  have gq_184 := gq_184.S hs
  have gq_186 := gq_186.S hs
  have gq_188 := gq_188.S hs
  have gq_190 := gq_190.S hs
  have gq_192 := gq_192.S hs
  have heq : r_395 = r_404 := by
    first | exact hr_397.trans hr_406.symm | (rcases hr_397 with ⟨k1, k2⟩ | ⟨k1, k2⟩ <;> rcases hr_406 with ⟨k3, k4⟩ | ⟨k3, k4⟩ <;> first | exact k2.trans k4.symm | (exfalso; omega) | exact absurd k1 k3 | exact absurd k3 k1)
  refine hb_icmp_eq (zx := r_395.toInt) (zy := r_404.toInt) (tgt := 1379) hx hb rfl rfl dL_law_658 (by decide) (fun c_407 => ?_) (fun c_407 => absurd (congrArg Int32.toInt heq) c_407)
  exact law_tail hx hb hr hlocks hX hbl hbA hL7 _ _ hW.2.2.2.1 ls hl (Nat.le_of_ble_eq_true rfl) (Nat.le_of_ble_eq_true rfl)

set_option maxHeartbeats 4000000 in
set_option maxRecDepth 100000 in
theorem law_case_11 {p : Program} {e : Env} {s : State} {m : MethodId} {below : List Frame} {meth : Method} {c : Code} (l : Launch) {b LN : Nat} {xs : Nat → Int32} (hx : p.tables.exec = Jvm.exec) (hb : c.code = code) (hr : meth.sig.returnType = ret) (hlocks : meth.locks = false) (hml : c.maxLocals = 4) (hown : s.vm.findClass "SmallCourtLaw" = some m.cls) (hts : ∀ w ∈ hx_all, w.before #[Value.ref b] s = true) (hX : va_X b LN xs s s.heap) (hbl : b < s.heap.size) (hbA : ¬ s.heap.size ≤ b) (hL7 : LN = 7) (dC : Nat → ClassId) (dI : Nat → Nat → Nat) (dA : Nat → ClassId) (b0 : Nat) (q_2 q_27 q_29 q_31 q_34 q_37 q_39 q_41 q_44 q_47 q_50 q_53 q_55 q_60 q_163 q_165 q_168 q_170 q_172 q_174 q_176 q_178 q_180 q_182 q_184 q_186 q_188 q_190 q_192 : Nat) (L1 : List Nat) (hl1 : hx_h) (H : Heap) (locs : List Loc) (ls : Array Slot) (hW : hx_W P_tb (P_ty dA) (dC, dI) vwCl (fun q : Nat => s.heap.size ≤ q) s.heap L1 hl1 s H locs) (hZ : hx_Xt (fun q : Nat => s.heap.size ≤ q) b0 s) (f_4 : hl1.2.1 q_2 1 = (0 : Int32)) (f_5 : hl1.2.1 q_2 2 = (0 : Int32)) (f_9 : hl1.2.1 q_2 6 = (0 : Int32)) (f_11 : hl1.2.1 q_2 8 = (0 : Int32)) (f_14 : hl1.2.1 q_2 11 = (0 : Int32)) (f_16 : hl1.2.1 q_2 13 = (0 : Int32)) (f_28 : hl1.2.2 q_2 0 = some q_27) (f_30 : hl1.2.2 q_2 3 = some q_29) (f_32 : hl1.2.2 q_2 4 = some q_31) (f_33 : hl1.2.1 q_31 0 = (-1 : Int32)) (f_35 : hl1.2.2 q_31 2 = some q_34) (f_38 : hl1.2.2 q_2 5 = some q_37) (f_40 : hl1.2.2 q_2 7 = some q_39) (f_42 : hl1.2.2 q_2 9 = some q_41) (f_43 : hl1.2.1 q_41 0 = (0 : Int32)) (f_45 : hl1.2.2 q_2 14 = some q_44) (f_46 : hl1.2.1 q_44 0 = (0 : Int32)) (f_48 : hl1.2.2 q_2 17 = some q_47) (f_49 : hl1.2.1 q_47 1 = (0 : Int32)) (f_51 : hl1.2.2 q_2 18 = some q_50) (f_52 : hl1.2.1 q_50 0 = (-1 : Int32)) (f_54 : hl1.2.2 q_50 5 = some q_53) (f_56 : hl1.2.2 q_2 19 = some q_55) (f_57 : hl1.2.1 q_55 0 = (0 : Int32)) (f_58 : hl1.2.1 q_55 1 = (0 : Int32)) (f_61 : hl1.2.1 q_60 0 = (0 : Int32)) (f_62 : hl1.2.1 q_60 1 = (0 : Int32)) (f_68 : hl1.2.1 q_60 7 = (0 : Int32)) (f_69 : hl1.2.1 q_60 8 = (0 : Int32)) (f_70 : hl1.2.1 q_60 9 = (0 : Int32)) (f_71 : hl1.2.1 q_60 10 = (0 : Int32)) (f_72 : hl1.2.1 q_60 11 = (0 : Int32)) (f_74 : hl1.2.1 q_60 13 = (0 : Int32)) (f_81 : hl1.2.1 q_60 20 = (0 : Int32)) (f_90 : hl1.2.1 q_60 29 = (0 : Int32)) (f_97 : hl1.2.1 q_60 36 = (0 : Int32)) (f_118 : hl1.2.1 q_60 57 = (0 : Int32)) (f_120 : hl1.2.1 q_60 59 = (0 : Int32)) (f_128 : hl1.2.1 q_60 67 = (0 : Int32)) (f_129 : hl1.2.1 q_60 68 = (0 : Int32)) (f_130 : hl1.2.1 q_60 69 = (0 : Int32)) (f_131 : hl1.2.1 q_60 70 = (0 : Int32)) (f_132 : hl1.2.1 q_60 71 = (0 : Int32)) (f_133 : hl1.2.1 q_60 72 = (0 : Int32)) (f_136 : hl1.2.1 q_60 75 = (0 : Int32)) (f_144 : hl1.2.1 q_60 83 = (0 : Int32)) (f_145 : hl1.2.1 q_60 84 = (0 : Int32)) (f_147 : hl1.2.1 q_60 86 = (0 : Int32)) (f_148 : hl1.2.1 q_60 87 = (0 : Int32)) (f_151 : hl1.2.1 q_60 90 = (0 : Int32)) (f_153 : hl1.2.1 q_60 92 = (0 : Int32)) (f_156 : hl1.2.1 q_60 95 = (0 : Int32)) (f_157 : hl1.2.1 q_60 96 = (0 : Int32)) (f_164 : hl1.2.2 q_60 2 = some q_163) (f_166 : hl1.2.2 q_60 3 = some q_165) (f_169 : hl1.2.2 q_60 4 = some q_168) (f_171 : hl1.2.2 q_60 5 = some q_170) (f_173 : hl1.2.2 q_60 6 = some q_172) (f_175 : hl1.2.2 q_60 12 = some q_174) (f_177 : hl1.2.2 q_60 15 = some q_176) (f_179 : hl1.2.2 q_60 21 = some q_178) (f_181 : hl1.2.2 q_60 22 = some q_180) (f_183 : hl1.2.2 q_60 23 = some q_182) (f_185 : hl1.2.2 q_60 24 = some q_184) (f_187 : hl1.2.2 q_60 25 = some q_186) (f_189 : hl1.2.2 q_60 26 = some q_188) (f_191 : hl1.2.2 q_60 82 = some q_190) (f_193 : hl1.2.2 q_60 94 = some q_192) (fa_36 : ∀ j, j < 14 → hl1.2.1 q_34 j = P_wo j) (fa_167 : ∀ j, j < 13 → hl1.2.1 q_165 j = P_w1 j) (gq_2 : hx_g L1 hl1 q_2 9) (gq_27 : hx_g L1 hl1 q_27 42) (gq_29 : hx_g L1 hl1 q_29 6) (gq_31 : hx_g L1 hl1 q_31 0) (gq_34 : hx_g L1 hl1 q_34 11) (gq_37 : hx_g L1 hl1 q_37 43) (gq_39 : hx_g L1 hl1 q_39 44) (gq_41 : hx_g L1 hl1 q_41 1) (gq_44 : hx_g L1 hl1 q_44 3) (gq_47 : hx_g L1 hl1 q_47 5) (gq_50 : hx_g L1 hl1 q_50 7) (gq_53 : hx_g L1 hl1 q_53 36) (gq_55 : hx_g L1 hl1 q_55 8) (gq_60 : hx_g L1 hl1 q_60 10) (gq_163 : hx_g L1 hl1 q_163 49) (gq_165 : hx_g L1 hl1 q_165 50) (gq_168 : hx_g L1 hl1 q_168 51) (gq_170 : hx_g L1 hl1 q_170 52) (gq_172 : hx_g L1 hl1 q_172 53) (gq_174 : hx_g L1 hl1 q_174 54) (gq_176 : hx_g L1 hl1 q_176 55) (gq_178 : hx_g L1 hl1 q_178 58) (gq_180 : hx_g L1 hl1 q_180 59) (gq_182 : hx_g L1 hl1 q_182 60) (gq_184 : hx_g L1 hl1 q_184 61) (gq_186 : hx_g L1 hl1 q_186 62) (gq_188 : hx_g L1 hl1 q_188 63) (gq_190 : hx_g L1 hl1 q_190 108) (gq_192 : hx_g L1 hl1 q_192 114) (hl : lv_has ls 4 [(3, .int (0 : Int32)), (2, .ref q_60), (1, .ref q_2), (0, .ref b)]) : W p l e room_1 s m #[Value.ref b] below meth c H locs 112 26072 (lw_Z below #[Value.ref b] s) (F0 m 663 ls []) := by
  refine lv_aload_n hx hb dL_law_663 rfl (lv_at hl 2 rfl) ?_
  refine lv_aload_n hx hb dL_law_664 rfl (lv_at hl 3 rfl) ?_
  refine lv_iload_n hx hb dL_law_665 rfl (lv_at hl 0 rfl) ?_
  refine lv_iconst (v := 1) hx hb dL_law_666 (by decide) ?_
  refine lv_iadd hx hb dL_law_667 ?_
  refine lv_topi (fun x_408 ex_408 => ?_)
  obtain rfl : x_408 = (1 : Int32) := ex_408.trans (by decide)
  refine va_sld hx hb hX hbl hbA hW.2.2.2.1 (vp_in_iff.mpr (by rw [hL7]; decide)) dL_law_668 ?_
  rw [show (1 : Int32).toNatClampNeg = 1 from by decide]
  refine lv_aload_n hx hb dL_law_669 rfl (lv_at hl 3 rfl) ?_
  refine lv_iload_n hx hb dL_law_670 rfl (lv_at hl 0 rfl) ?_
  refine lv_iconst (v := 2) hx hb dL_law_671 (by decide) ?_
  refine lv_iadd hx hb dL_law_672 ?_
  refine lv_topi (fun x_409 ex_409 => ?_)
  obtain rfl : x_409 = (2 : Int32) := ex_409.trans (by decide)
  refine va_sld hx hb hX hbl hbA hW.2.2.2.1 (vp_in_iff.mpr (by rw [hL7]; decide)) dL_law_673 ?_
  rw [show (2 : Int32).toNatClampNeg = 2 from by decide]
  refine lv_aload_n hx hb dL_law_674 rfl (lv_at hl 3 rfl) ?_
  refine lv_iload_n hx hb dL_law_675 rfl (lv_at hl 0 rfl) ?_
  refine lv_iconst (v := 3) hx hb dL_law_676 (by decide) ?_
  refine lv_iadd hx hb dL_law_677 ?_
  refine lv_topi (fun x_410 ex_410 => ?_)
  obtain rfl : x_410 = (3 : Int32) := ex_410.trans (by decide)
  refine va_sld hx hb hX hbl hbA hW.2.2.2.1 (vp_in_iff.mpr (by rw [hL7]; decide)) dL_law_678 ?_
  rw [show (3 : Int32).toNatClampNeg = 3 from by decide]
  refine lv_aload_n hx hb dL_law_679 rfl (lv_at hl 3 rfl) ?_
  refine lv_iload_n hx hb dL_law_680 rfl (lv_at hl 0 rfl) ?_
  refine lv_iconst (v := 4) hx hb dL_law_681 (by decide) ?_
  refine lv_iadd hx hb dL_law_682 ?_
  refine lv_topi (fun x_411 ex_411 => ?_)
  obtain rfl : x_411 = (4 : Int32) := ex_411.trans (by decide)
  refine va_sld hx hb hX hbl hbA hW.2.2.2.1 (vp_in_iff.mpr (by rw [hL7]; decide)) dL_law_683 ?_
  rw [show (4 : Int32).toNatClampNeg = 4 from by decide]
  refine lv_aload_n hx hb dL_law_684 rfl (lv_at hl 3 rfl) ?_
  refine lv_iload_n hx hb dL_law_685 rfl (lv_at hl 0 rfl) ?_
  refine lv_iconst (v := 5) hx hb dL_law_686 (by decide) ?_
  refine lv_iadd hx hb dL_law_687 ?_
  refine lv_topi (fun x_412 ex_412 => ?_)
  obtain rfl : x_412 = (5 : Int32) := ex_412.trans (by decide)
  refine va_sld hx hb hX hbl hbA hW.2.2.2.1 (vp_in_iff.mpr (by rw [hL7]; decide)) dL_law_688 ?_
  rw [show (5 : Int32).toNatClampNeg = 5 from by decide]
  refine hb_if_eq (zx := (xs 5).toInt) (tgt := 696) hx hb rfl dL_law_689 (by decide) (fun c_413 => ?_) (fun c_413 => ?_)
  · skip
    refine lv_iconst (v := 0) hx hb dL_law_696 (by decide) ?_
    refine lv_aload_n hx hb dL_law_697 rfl (lv_at hl 3 rfl) ?_
    refine lv_iload_n hx hb dL_law_698 rfl (lv_at hl 0 rfl) ?_
    refine lv_bipush (v := 6) hx hb dL_law_699 (by decide) ?_
    refine lv_iadd hx hb dL_law_701 ?_
    refine lv_topi (fun x_414 ex_414 => ?_)
    obtain rfl : x_414 = (6 : Int32) := ex_414.trans (by decide)
    refine va_sld hx hb hX hbl hbA hW.2.2.2.1 (vp_in_iff.mpr (by rw [hL7]; decide)) dL_law_702 ?_
    rw [show (6 : Int32).toNatClampNeg = 6 from by decide]
    refine hx_goi (hx_runV (As := [.int (xs 1), .int (xs 2), .int (xs 3), .int (xs 4), .int (0 : Int32), .int (xs 6)]) (rest := []) ⟨hx, hb, hml, hown, hts⟩ hW gq_2 td_9 (T := TX9) (N := 20) rfl (c_X9_file l dC dI dA L1 hl1 H.size q_2 (xs 1) (xs 2) (xs 3) (xs 4) (0 : Int32) (xs 6) gq_2 f_11 f_14 f_5) (cwV 6 hts (hx_gV kw_715 kw_712 kw_713 kw_714 kw_94) rfl rfl rfl (by decide +kernel) ⟨Nat.le_of_ble_eq_true rfl, Nat.le_of_ble_eq_true rfl⟩) rfl hl.1 rfl (Nat.le_of_ble_eq_true rfl) dL_law_703 ⟨Nat.le_of_ble_eq_true rfl, Nat.le_of_ble_eq_true rfl⟩) hW (fun r_417 L_415 h_416 H locs p_418 hW => ?_)
    obtain ⟨hr_419, hs⟩ := p_418
    have hs : hx_S P_tb [] L1 hl1 L_415 h_416 := hs
    have f_4 := (hs.o gq_2 trivial rfl).1.trans f_4
    have f_5 := (hs.o gq_2 trivial rfl).1.trans f_5
    have f_9 := (hs.o gq_2 trivial rfl).1.trans f_9
    have f_11 := (hs.o gq_2 trivial rfl).1.trans f_11
    have f_14 := (hs.o gq_2 trivial rfl).1.trans f_14
    have f_16 := (hs.o gq_2 trivial rfl).1.trans f_16
    have f_28 := (hs.o gq_2 trivial rfl).2.trans f_28
    have f_30 := (hs.o gq_2 trivial rfl).2.trans f_30
    have f_32 := (hs.o gq_2 trivial rfl).2.trans f_32
    have f_33 := (hs.o gq_31 trivial rfl).1.trans f_33
    have f_35 := (hs.o gq_31 trivial rfl).2.trans f_35
    have f_38 := (hs.o gq_2 trivial rfl).2.trans f_38
    have f_40 := (hs.o gq_2 trivial rfl).2.trans f_40
    have f_42 := (hs.o gq_2 trivial rfl).2.trans f_42
    have f_43 := (hs.o gq_41 trivial rfl).1.trans f_43
    have f_45 := (hs.o gq_2 trivial rfl).2.trans f_45
    have f_46 := (hs.o gq_44 trivial rfl).1.trans f_46
    have f_48 := (hs.o gq_2 trivial rfl).2.trans f_48
    have f_49 := (hs.o gq_47 trivial rfl).1.trans f_49
    have f_51 := (hs.o gq_2 trivial rfl).2.trans f_51
    have f_52 := (hs.o gq_50 trivial rfl).1.trans f_52
    have f_54 := (hs.o gq_50 trivial rfl).2.trans f_54
    have f_56 := (hs.o gq_2 trivial rfl).2.trans f_56
    have f_57 := (hs.o gq_55 trivial rfl).1.trans f_57
    have f_58 := (hs.o gq_55 trivial rfl).1.trans f_58
    have f_61 := (hs.o gq_60 trivial rfl).1.trans f_61
    have f_62 := (hs.o gq_60 trivial rfl).1.trans f_62
    have f_68 := (hs.o gq_60 trivial rfl).1.trans f_68
    have f_69 := (hs.o gq_60 trivial rfl).1.trans f_69
    have f_70 := (hs.o gq_60 trivial rfl).1.trans f_70
    have f_71 := (hs.o gq_60 trivial rfl).1.trans f_71
    have f_72 := (hs.o gq_60 trivial rfl).1.trans f_72
    have f_74 := (hs.o gq_60 trivial rfl).1.trans f_74
    have f_81 := (hs.o gq_60 trivial rfl).1.trans f_81
    have f_90 := (hs.o gq_60 trivial rfl).1.trans f_90
    have f_97 := (hs.o gq_60 trivial rfl).1.trans f_97
    have f_118 := (hs.o gq_60 trivial rfl).1.trans f_118
    have f_120 := (hs.o gq_60 trivial rfl).1.trans f_120
    have f_128 := (hs.o gq_60 trivial rfl).1.trans f_128
    have f_129 := (hs.o gq_60 trivial rfl).1.trans f_129
    have f_130 := (hs.o gq_60 trivial rfl).1.trans f_130
    have f_131 := (hs.o gq_60 trivial rfl).1.trans f_131
    have f_132 := (hs.o gq_60 trivial rfl).1.trans f_132
    have f_133 := (hs.o gq_60 trivial rfl).1.trans f_133
    have f_136 := (hs.o gq_60 trivial rfl).1.trans f_136
    have f_144 := (hs.o gq_60 trivial rfl).1.trans f_144
    have f_145 := (hs.o gq_60 trivial rfl).1.trans f_145
    have f_147 := (hs.o gq_60 trivial rfl).1.trans f_147
    have f_148 := (hs.o gq_60 trivial rfl).1.trans f_148
    have f_151 := (hs.o gq_60 trivial rfl).1.trans f_151
    have f_153 := (hs.o gq_60 trivial rfl).1.trans f_153
    have f_156 := (hs.o gq_60 trivial rfl).1.trans f_156
    have f_157 := (hs.o gq_60 trivial rfl).1.trans f_157
    have f_164 := (hs.o gq_60 trivial rfl).2.trans f_164
    have f_166 := (hs.o gq_60 trivial rfl).2.trans f_166
    have f_169 := (hs.o gq_60 trivial rfl).2.trans f_169
    have f_171 := (hs.o gq_60 trivial rfl).2.trans f_171
    have f_173 := (hs.o gq_60 trivial rfl).2.trans f_173
    have f_175 := (hs.o gq_60 trivial rfl).2.trans f_175
    have f_177 := (hs.o gq_60 trivial rfl).2.trans f_177
    have f_179 := (hs.o gq_60 trivial rfl).2.trans f_179
    have f_181 := (hs.o gq_60 trivial rfl).2.trans f_181
    have f_183 := (hs.o gq_60 trivial rfl).2.trans f_183
    have f_185 := (hs.o gq_60 trivial rfl).2.trans f_185
    have f_187 := (hs.o gq_60 trivial rfl).2.trans f_187
    have f_189 := (hs.o gq_60 trivial rfl).2.trans f_189
    have f_191 := (hs.o gq_60 trivial rfl).2.trans f_191
    have f_193 := (hs.o gq_60 trivial rfl).2.trans f_193
    have fa_36 : ∀ j, j < 14 → _ = P_wo j := fun j hj => (hs.a gq_34 rfl j).1.trans (fa_36 j hj)
    have fa_167 : ∀ j, j < 13 → _ = P_w1 j := fun j hj => (hs.a gq_165 rfl j).1.trans (fa_167 j hj)
    have gq_2 := gq_2.S hs
    have gq_27 := gq_27.S hs
    have gq_29 := gq_29.S hs
    have gq_31 := gq_31.S hs
    have gq_34 := gq_34.S hs
    have gq_37 := gq_37.S hs
    have gq_39 := gq_39.S hs
    have gq_41 := gq_41.S hs
    have gq_44 := gq_44.S hs
    have gq_47 := gq_47.S hs
    have gq_50 := gq_50.S hs
    have gq_53 := gq_53.S hs
    have gq_55 := gq_55.S hs
    have gq_60 := gq_60.S hs
    have gq_163 := gq_163.S hs
    have gq_165 := gq_165.S hs
    have gq_168 := gq_168.S hs
    have gq_170 := gq_170.S hs
    have gq_172 := gq_172.S hs
    have gq_174 := gq_174.S hs
    have gq_176 := gq_176.S hs
    have gq_178 := gq_178.S hs
    have gq_180 := gq_180.S hs
    have gq_182 := gq_182.S hs
    have gq_184 := gq_184.S hs
    have gq_186 := gq_186.S hs
    have gq_188 := gq_188.S hs
    have gq_190 := gq_190.S hs
    have gq_192 := gq_192.S hs
    refine lv_aload_n hx hb dL_law_706 rfl (lv_at hl 1 rfl) ?_
    refine lv_aload_n hx hb dL_law_707 rfl (lv_at hl 3 rfl) ?_
    refine lv_iload_n hx hb dL_law_708 rfl (lv_at hl 0 rfl) ?_
    refine lv_iconst (v := 1) hx hb dL_law_709 (by decide) ?_
    refine lv_iadd hx hb dL_law_710 ?_
    refine lv_topi (fun x_420 ex_420 => ?_)
    obtain rfl : x_420 = (1 : Int32) := ex_420.trans (by decide)
    refine va_sld hx hb hX hbl hbA hW.2.2.2.1 (vp_in_iff.mpr (by rw [hL7]; decide)) dL_law_711 ?_
    rw [show (1 : Int32).toNatClampNeg = 1 from by decide]
    refine lv_aload_n hx hb dL_law_712 rfl (lv_at hl 3 rfl) ?_
    refine lv_iload_n hx hb dL_law_713 rfl (lv_at hl 0 rfl) ?_
    refine lv_iconst (v := 2) hx hb dL_law_714 (by decide) ?_
    refine lv_iadd hx hb dL_law_715 ?_
    refine lv_topi (fun x_421 ex_421 => ?_)
    obtain rfl : x_421 = (2 : Int32) := ex_421.trans (by decide)
    refine va_sld hx hb hX hbl hbA hW.2.2.2.1 (vp_in_iff.mpr (by rw [hL7]; decide)) dL_law_716 ?_
    rw [show (2 : Int32).toNatClampNeg = 2 from by decide]
    refine lv_aload_n hx hb dL_law_717 rfl (lv_at hl 3 rfl) ?_
    refine lv_iload_n hx hb dL_law_718 rfl (lv_at hl 0 rfl) ?_
    refine lv_iconst (v := 3) hx hb dL_law_719 (by decide) ?_
    refine lv_iadd hx hb dL_law_720 ?_
    refine lv_topi (fun x_422 ex_422 => ?_)
    obtain rfl : x_422 = (3 : Int32) := ex_422.trans (by decide)
    refine va_sld hx hb hX hbl hbA hW.2.2.2.1 (vp_in_iff.mpr (by rw [hL7]; decide)) dL_law_721 ?_
    rw [show (3 : Int32).toNatClampNeg = 3 from by decide]
    refine lv_aload_n hx hb dL_law_722 rfl (lv_at hl 3 rfl) ?_
    refine lv_iload_n hx hb dL_law_723 rfl (lv_at hl 0 rfl) ?_
    refine lv_iconst (v := 4) hx hb dL_law_724 (by decide) ?_
    refine lv_iadd hx hb dL_law_725 ?_
    refine lv_topi (fun x_423 ex_423 => ?_)
    obtain rfl : x_423 = (4 : Int32) := ex_423.trans (by decide)
    refine va_sld hx hb hX hbl hbA hW.2.2.2.1 (vp_in_iff.mpr (by rw [hL7]; decide)) dL_law_726 ?_
    rw [show (4 : Int32).toNatClampNeg = 4 from by decide]
    refine lv_aload_n hx hb dL_law_727 rfl (lv_at hl 3 rfl) ?_
    refine lv_iload_n hx hb dL_law_728 rfl (lv_at hl 0 rfl) ?_
    refine lv_iconst (v := 5) hx hb dL_law_729 (by decide) ?_
    refine lv_iadd hx hb dL_law_730 ?_
    refine lv_topi (fun x_424 ex_424 => ?_)
    obtain rfl : x_424 = (5 : Int32) := ex_424.trans (by decide)
    refine va_sld hx hb hX hbl hbA hW.2.2.2.1 (vp_in_iff.mpr (by rw [hL7]; decide)) dL_law_731 ?_
    rw [show (5 : Int32).toNatClampNeg = 5 from by decide]
    refine hb_if_eq (zx := (xs 5).toInt) (tgt := 739) hx hb rfl dL_law_732 (by decide) (fun c_425 => ?_) (fun c_425 => by exfalso; omega)
    refine lv_iconst (v := 0) hx hb dL_law_739 (by decide) ?_
    refine lv_aload_n hx hb dL_law_740 rfl (lv_at hl 3 rfl) ?_
    refine lv_iload_n hx hb dL_law_741 rfl (lv_at hl 0 rfl) ?_
    refine lv_bipush (v := 6) hx hb dL_law_742 (by decide) ?_
    refine lv_iadd hx hb dL_law_744 ?_
    refine lv_topi (fun x_426 ex_426 => ?_)
    obtain rfl : x_426 = (6 : Int32) := ex_426.trans (by decide)
    refine va_sld hx hb hX hbl hbA hW.2.2.2.1 (vp_in_iff.mpr (by rw [hL7]; decide)) dL_law_745 ?_
    rw [show (6 : Int32).toNatClampNeg = 6 from by decide]
    refine hx_goi (hx_runV (As := [.int (xs 1), .int (xs 2), .int (xs 3), .int (xs 4), .int (0 : Int32), .int (xs 6)]) (rest := [.int r_417]) ⟨hx, hb, hml, hown, hts⟩ hW gq_60 td_10 (T := TX10) (N := 98) rfl (c_X10_file l dC dI dA L_415 h_416 H.size q_60 (xs 1) (xs 2) (xs 3) (xs 4) (0 : Int32) (xs 6) gq_60 f_97 f_81 f_61) (cwV 6 hts (hx_gV kw_1589 kw_1586 kw_1587 kw_1588 kw_103) rfl rfl rfl (by decide +kernel) ⟨Nat.le_of_ble_eq_true rfl, Nat.le_of_ble_eq_true rfl⟩) rfl hl.1 rfl (Nat.le_of_ble_eq_true rfl) dL_law_746 ⟨Nat.le_of_ble_eq_true rfl, Nat.le_of_ble_eq_true rfl⟩) hW (fun r_429 L_427 h_428 H locs p_430 hW => ?_)
    obtain ⟨hr_431, hs⟩ := p_430
    have hs : hx_S P_tb [] L_415 h_416 L_427 h_428 := hs
    have f_4 := (hs.o gq_2 trivial rfl).1.trans f_4
    have f_5 := (hs.o gq_2 trivial rfl).1.trans f_5
    have f_9 := (hs.o gq_2 trivial rfl).1.trans f_9
    have f_11 := (hs.o gq_2 trivial rfl).1.trans f_11
    have f_14 := (hs.o gq_2 trivial rfl).1.trans f_14
    have f_16 := (hs.o gq_2 trivial rfl).1.trans f_16
    have f_28 := (hs.o gq_2 trivial rfl).2.trans f_28
    have f_30 := (hs.o gq_2 trivial rfl).2.trans f_30
    have f_32 := (hs.o gq_2 trivial rfl).2.trans f_32
    have f_33 := (hs.o gq_31 trivial rfl).1.trans f_33
    have f_35 := (hs.o gq_31 trivial rfl).2.trans f_35
    have f_38 := (hs.o gq_2 trivial rfl).2.trans f_38
    have f_40 := (hs.o gq_2 trivial rfl).2.trans f_40
    have f_42 := (hs.o gq_2 trivial rfl).2.trans f_42
    have f_43 := (hs.o gq_41 trivial rfl).1.trans f_43
    have f_45 := (hs.o gq_2 trivial rfl).2.trans f_45
    have f_46 := (hs.o gq_44 trivial rfl).1.trans f_46
    have f_48 := (hs.o gq_2 trivial rfl).2.trans f_48
    have f_49 := (hs.o gq_47 trivial rfl).1.trans f_49
    have f_51 := (hs.o gq_2 trivial rfl).2.trans f_51
    have f_52 := (hs.o gq_50 trivial rfl).1.trans f_52
    have f_54 := (hs.o gq_50 trivial rfl).2.trans f_54
    have f_56 := (hs.o gq_2 trivial rfl).2.trans f_56
    have f_57 := (hs.o gq_55 trivial rfl).1.trans f_57
    have f_58 := (hs.o gq_55 trivial rfl).1.trans f_58
    have f_61 := (hs.o gq_60 trivial rfl).1.trans f_61
    have f_62 := (hs.o gq_60 trivial rfl).1.trans f_62
    have f_68 := (hs.o gq_60 trivial rfl).1.trans f_68
    have f_69 := (hs.o gq_60 trivial rfl).1.trans f_69
    have f_70 := (hs.o gq_60 trivial rfl).1.trans f_70
    have f_71 := (hs.o gq_60 trivial rfl).1.trans f_71
    have f_72 := (hs.o gq_60 trivial rfl).1.trans f_72
    have f_74 := (hs.o gq_60 trivial rfl).1.trans f_74
    have f_81 := (hs.o gq_60 trivial rfl).1.trans f_81
    have f_90 := (hs.o gq_60 trivial rfl).1.trans f_90
    have f_97 := (hs.o gq_60 trivial rfl).1.trans f_97
    have f_118 := (hs.o gq_60 trivial rfl).1.trans f_118
    have f_120 := (hs.o gq_60 trivial rfl).1.trans f_120
    have f_128 := (hs.o gq_60 trivial rfl).1.trans f_128
    have f_129 := (hs.o gq_60 trivial rfl).1.trans f_129
    have f_130 := (hs.o gq_60 trivial rfl).1.trans f_130
    have f_131 := (hs.o gq_60 trivial rfl).1.trans f_131
    have f_132 := (hs.o gq_60 trivial rfl).1.trans f_132
    have f_133 := (hs.o gq_60 trivial rfl).1.trans f_133
    have f_136 := (hs.o gq_60 trivial rfl).1.trans f_136
    have f_144 := (hs.o gq_60 trivial rfl).1.trans f_144
    have f_145 := (hs.o gq_60 trivial rfl).1.trans f_145
    have f_147 := (hs.o gq_60 trivial rfl).1.trans f_147
    have f_148 := (hs.o gq_60 trivial rfl).1.trans f_148
    have f_151 := (hs.o gq_60 trivial rfl).1.trans f_151
    have f_153 := (hs.o gq_60 trivial rfl).1.trans f_153
    have f_156 := (hs.o gq_60 trivial rfl).1.trans f_156
    have f_157 := (hs.o gq_60 trivial rfl).1.trans f_157
    have f_164 := (hs.o gq_60 trivial rfl).2.trans f_164
    have f_166 := (hs.o gq_60 trivial rfl).2.trans f_166
    have f_169 := (hs.o gq_60 trivial rfl).2.trans f_169
    have f_171 := (hs.o gq_60 trivial rfl).2.trans f_171
    have f_173 := (hs.o gq_60 trivial rfl).2.trans f_173
    have f_175 := (hs.o gq_60 trivial rfl).2.trans f_175
    have f_177 := (hs.o gq_60 trivial rfl).2.trans f_177
    have f_179 := (hs.o gq_60 trivial rfl).2.trans f_179
    have f_181 := (hs.o gq_60 trivial rfl).2.trans f_181
    have f_183 := (hs.o gq_60 trivial rfl).2.trans f_183
    have f_185 := (hs.o gq_60 trivial rfl).2.trans f_185
    have f_187 := (hs.o gq_60 trivial rfl).2.trans f_187
    have f_189 := (hs.o gq_60 trivial rfl).2.trans f_189
    have f_191 := (hs.o gq_60 trivial rfl).2.trans f_191
    have f_193 := (hs.o gq_60 trivial rfl).2.trans f_193
    have fa_36 : ∀ j, j < 14 → _ = P_wo j := fun j hj => (hs.a gq_34 rfl j).1.trans (fa_36 j hj)
    have fa_167 : ∀ j, j < 13 → _ = P_w1 j := fun j hj => (hs.a gq_165 rfl j).1.trans (fa_167 j hj)
    have gq_2 := gq_2.S hs
    have gq_27 := gq_27.S hs
    have gq_29 := gq_29.S hs
    have gq_31 := gq_31.S hs
    have gq_34 := gq_34.S hs
    have gq_37 := gq_37.S hs
    have gq_39 := gq_39.S hs
    have gq_41 := gq_41.S hs
    have gq_44 := gq_44.S hs
    have gq_47 := gq_47.S hs
    have gq_50 := gq_50.S hs
    have gq_53 := gq_53.S hs
    have gq_55 := gq_55.S hs
    have gq_60 := gq_60.S hs
    have gq_163 := gq_163.S hs
    have gq_165 := gq_165.S hs
    have gq_168 := gq_168.S hs
    have gq_170 := gq_170.S hs
    have gq_172 := gq_172.S hs
    have gq_174 := gq_174.S hs
    have gq_176 := gq_176.S hs
    have gq_178 := gq_178.S hs
    have gq_180 := gq_180.S hs
    have gq_182 := gq_182.S hs
    have gq_184 := gq_184.S hs
    have gq_186 := gq_186.S hs
    have gq_188 := gq_188.S hs
    have gq_190 := gq_190.S hs
    have gq_192 := gq_192.S hs
    have heq : r_417 = r_429 := by
      first | exact hr_419.trans hr_431.symm | (rcases hr_419 with ⟨k1, k2⟩ | ⟨k1, k2⟩ <;> rcases hr_431 with ⟨k3, k4⟩ | ⟨k3, k4⟩ <;> first | exact k2.trans k4.symm | (exfalso; omega) | exact absurd k1 k3 | exact absurd k3 k1)
    refine hb_icmp_eq (zx := r_417.toInt) (zy := r_429.toInt) (tgt := 1379) hx hb rfl rfl dL_law_749 (by decide) (fun c_432 => ?_) (fun c_432 => absurd (congrArg Int32.toInt heq) c_432)
    exact law_tail hx hb hr hlocks hX hbl hbA hL7 _ _ hW.2.2.2.1 ls hl (Nat.le_of_ble_eq_true rfl) (Nat.le_of_ble_eq_true rfl)
  · skip
    refine lv_iconst (v := 1) hx hb dL_law_692 (by decide) ?_
    refine lv_goto (tgt := 697) hx hb dL_law_693 (by decide) ?_
    refine lv_aload_n hx hb dL_law_697 rfl (lv_at hl 3 rfl) ?_
    refine lv_iload_n hx hb dL_law_698 rfl (lv_at hl 0 rfl) ?_
    refine lv_bipush (v := 6) hx hb dL_law_699 (by decide) ?_
    refine lv_iadd hx hb dL_law_701 ?_
    refine lv_topi (fun x_433 ex_433 => ?_)
    obtain rfl : x_433 = (6 : Int32) := ex_433.trans (by decide)
    refine va_sld hx hb hX hbl hbA hW.2.2.2.1 (vp_in_iff.mpr (by rw [hL7]; decide)) dL_law_702 ?_
    rw [show (6 : Int32).toNatClampNeg = 6 from by decide]
    refine hx_goi (hx_runV (As := [.int (xs 1), .int (xs 2), .int (xs 3), .int (xs 4), .int (1 : Int32), .int (xs 6)]) (rest := []) ⟨hx, hb, hml, hown, hts⟩ hW gq_2 td_9 (T := TX9) (N := 20) rfl (c_X9_file l dC dI dA L1 hl1 H.size q_2 (xs 1) (xs 2) (xs 3) (xs 4) (1 : Int32) (xs 6) gq_2 f_11 f_14 f_5) (cwV 6 hts (hx_gV kw_715 kw_712 kw_713 kw_714 kw_94) rfl rfl rfl (by decide +kernel) ⟨Nat.le_of_ble_eq_true rfl, Nat.le_of_ble_eq_true rfl⟩) rfl hl.1 rfl (Nat.le_of_ble_eq_true rfl) dL_law_703 ⟨Nat.le_of_ble_eq_true rfl, Nat.le_of_ble_eq_true rfl⟩) hW (fun r_436 L_434 h_435 H locs p_437 hW => ?_)
    obtain ⟨hr_438, hs⟩ := p_437
    have hs : hx_S P_tb [] L1 hl1 L_434 h_435 := hs
    have f_4 := (hs.o gq_2 trivial rfl).1.trans f_4
    have f_5 := (hs.o gq_2 trivial rfl).1.trans f_5
    have f_9 := (hs.o gq_2 trivial rfl).1.trans f_9
    have f_11 := (hs.o gq_2 trivial rfl).1.trans f_11
    have f_14 := (hs.o gq_2 trivial rfl).1.trans f_14
    have f_16 := (hs.o gq_2 trivial rfl).1.trans f_16
    have f_28 := (hs.o gq_2 trivial rfl).2.trans f_28
    have f_30 := (hs.o gq_2 trivial rfl).2.trans f_30
    have f_32 := (hs.o gq_2 trivial rfl).2.trans f_32
    have f_33 := (hs.o gq_31 trivial rfl).1.trans f_33
    have f_35 := (hs.o gq_31 trivial rfl).2.trans f_35
    have f_38 := (hs.o gq_2 trivial rfl).2.trans f_38
    have f_40 := (hs.o gq_2 trivial rfl).2.trans f_40
    have f_42 := (hs.o gq_2 trivial rfl).2.trans f_42
    have f_43 := (hs.o gq_41 trivial rfl).1.trans f_43
    have f_45 := (hs.o gq_2 trivial rfl).2.trans f_45
    have f_46 := (hs.o gq_44 trivial rfl).1.trans f_46
    have f_48 := (hs.o gq_2 trivial rfl).2.trans f_48
    have f_49 := (hs.o gq_47 trivial rfl).1.trans f_49
    have f_51 := (hs.o gq_2 trivial rfl).2.trans f_51
    have f_52 := (hs.o gq_50 trivial rfl).1.trans f_52
    have f_54 := (hs.o gq_50 trivial rfl).2.trans f_54
    have f_56 := (hs.o gq_2 trivial rfl).2.trans f_56
    have f_57 := (hs.o gq_55 trivial rfl).1.trans f_57
    have f_58 := (hs.o gq_55 trivial rfl).1.trans f_58
    have f_61 := (hs.o gq_60 trivial rfl).1.trans f_61
    have f_62 := (hs.o gq_60 trivial rfl).1.trans f_62
    have f_68 := (hs.o gq_60 trivial rfl).1.trans f_68
    have f_69 := (hs.o gq_60 trivial rfl).1.trans f_69
    have f_70 := (hs.o gq_60 trivial rfl).1.trans f_70
    have f_71 := (hs.o gq_60 trivial rfl).1.trans f_71
    have f_72 := (hs.o gq_60 trivial rfl).1.trans f_72
    have f_74 := (hs.o gq_60 trivial rfl).1.trans f_74
    have f_81 := (hs.o gq_60 trivial rfl).1.trans f_81
    have f_90 := (hs.o gq_60 trivial rfl).1.trans f_90
    have f_97 := (hs.o gq_60 trivial rfl).1.trans f_97
    have f_118 := (hs.o gq_60 trivial rfl).1.trans f_118
    have f_120 := (hs.o gq_60 trivial rfl).1.trans f_120
    have f_128 := (hs.o gq_60 trivial rfl).1.trans f_128
    have f_129 := (hs.o gq_60 trivial rfl).1.trans f_129
    have f_130 := (hs.o gq_60 trivial rfl).1.trans f_130
    have f_131 := (hs.o gq_60 trivial rfl).1.trans f_131
    have f_132 := (hs.o gq_60 trivial rfl).1.trans f_132
    have f_133 := (hs.o gq_60 trivial rfl).1.trans f_133
    have f_136 := (hs.o gq_60 trivial rfl).1.trans f_136
    have f_144 := (hs.o gq_60 trivial rfl).1.trans f_144
    have f_145 := (hs.o gq_60 trivial rfl).1.trans f_145
    have f_147 := (hs.o gq_60 trivial rfl).1.trans f_147
    have f_148 := (hs.o gq_60 trivial rfl).1.trans f_148
    have f_151 := (hs.o gq_60 trivial rfl).1.trans f_151
    have f_153 := (hs.o gq_60 trivial rfl).1.trans f_153
    have f_156 := (hs.o gq_60 trivial rfl).1.trans f_156
    have f_157 := (hs.o gq_60 trivial rfl).1.trans f_157
    have f_164 := (hs.o gq_60 trivial rfl).2.trans f_164
    have f_166 := (hs.o gq_60 trivial rfl).2.trans f_166
    have f_169 := (hs.o gq_60 trivial rfl).2.trans f_169
    have f_171 := (hs.o gq_60 trivial rfl).2.trans f_171
    have f_173 := (hs.o gq_60 trivial rfl).2.trans f_173
    have f_175 := (hs.o gq_60 trivial rfl).2.trans f_175
    have f_177 := (hs.o gq_60 trivial rfl).2.trans f_177
    have f_179 := (hs.o gq_60 trivial rfl).2.trans f_179
    have f_181 := (hs.o gq_60 trivial rfl).2.trans f_181
    have f_183 := (hs.o gq_60 trivial rfl).2.trans f_183
    have f_185 := (hs.o gq_60 trivial rfl).2.trans f_185
    have f_187 := (hs.o gq_60 trivial rfl).2.trans f_187
    have f_189 := (hs.o gq_60 trivial rfl).2.trans f_189
    have f_191 := (hs.o gq_60 trivial rfl).2.trans f_191
    have f_193 := (hs.o gq_60 trivial rfl).2.trans f_193
    have fa_36 : ∀ j, j < 14 → _ = P_wo j := fun j hj => (hs.a gq_34 rfl j).1.trans (fa_36 j hj)
    have fa_167 : ∀ j, j < 13 → _ = P_w1 j := fun j hj => (hs.a gq_165 rfl j).1.trans (fa_167 j hj)
    have gq_2 := gq_2.S hs
    have gq_27 := gq_27.S hs
    have gq_29 := gq_29.S hs
    have gq_31 := gq_31.S hs
    have gq_34 := gq_34.S hs
    have gq_37 := gq_37.S hs
    have gq_39 := gq_39.S hs
    have gq_41 := gq_41.S hs
    have gq_44 := gq_44.S hs
    have gq_47 := gq_47.S hs
    have gq_50 := gq_50.S hs
    have gq_53 := gq_53.S hs
    have gq_55 := gq_55.S hs
    have gq_60 := gq_60.S hs
    have gq_163 := gq_163.S hs
    have gq_165 := gq_165.S hs
    have gq_168 := gq_168.S hs
    have gq_170 := gq_170.S hs
    have gq_172 := gq_172.S hs
    have gq_174 := gq_174.S hs
    have gq_176 := gq_176.S hs
    have gq_178 := gq_178.S hs
    have gq_180 := gq_180.S hs
    have gq_182 := gq_182.S hs
    have gq_184 := gq_184.S hs
    have gq_186 := gq_186.S hs
    have gq_188 := gq_188.S hs
    have gq_190 := gq_190.S hs
    have gq_192 := gq_192.S hs
    refine lv_aload_n hx hb dL_law_706 rfl (lv_at hl 1 rfl) ?_
    refine lv_aload_n hx hb dL_law_707 rfl (lv_at hl 3 rfl) ?_
    refine lv_iload_n hx hb dL_law_708 rfl (lv_at hl 0 rfl) ?_
    refine lv_iconst (v := 1) hx hb dL_law_709 (by decide) ?_
    refine lv_iadd hx hb dL_law_710 ?_
    refine lv_topi (fun x_439 ex_439 => ?_)
    obtain rfl : x_439 = (1 : Int32) := ex_439.trans (by decide)
    refine va_sld hx hb hX hbl hbA hW.2.2.2.1 (vp_in_iff.mpr (by rw [hL7]; decide)) dL_law_711 ?_
    rw [show (1 : Int32).toNatClampNeg = 1 from by decide]
    refine lv_aload_n hx hb dL_law_712 rfl (lv_at hl 3 rfl) ?_
    refine lv_iload_n hx hb dL_law_713 rfl (lv_at hl 0 rfl) ?_
    refine lv_iconst (v := 2) hx hb dL_law_714 (by decide) ?_
    refine lv_iadd hx hb dL_law_715 ?_
    refine lv_topi (fun x_440 ex_440 => ?_)
    obtain rfl : x_440 = (2 : Int32) := ex_440.trans (by decide)
    refine va_sld hx hb hX hbl hbA hW.2.2.2.1 (vp_in_iff.mpr (by rw [hL7]; decide)) dL_law_716 ?_
    rw [show (2 : Int32).toNatClampNeg = 2 from by decide]
    refine lv_aload_n hx hb dL_law_717 rfl (lv_at hl 3 rfl) ?_
    refine lv_iload_n hx hb dL_law_718 rfl (lv_at hl 0 rfl) ?_
    refine lv_iconst (v := 3) hx hb dL_law_719 (by decide) ?_
    refine lv_iadd hx hb dL_law_720 ?_
    refine lv_topi (fun x_441 ex_441 => ?_)
    obtain rfl : x_441 = (3 : Int32) := ex_441.trans (by decide)
    refine va_sld hx hb hX hbl hbA hW.2.2.2.1 (vp_in_iff.mpr (by rw [hL7]; decide)) dL_law_721 ?_
    rw [show (3 : Int32).toNatClampNeg = 3 from by decide]
    refine lv_aload_n hx hb dL_law_722 rfl (lv_at hl 3 rfl) ?_
    refine lv_iload_n hx hb dL_law_723 rfl (lv_at hl 0 rfl) ?_
    refine lv_iconst (v := 4) hx hb dL_law_724 (by decide) ?_
    refine lv_iadd hx hb dL_law_725 ?_
    refine lv_topi (fun x_442 ex_442 => ?_)
    obtain rfl : x_442 = (4 : Int32) := ex_442.trans (by decide)
    refine va_sld hx hb hX hbl hbA hW.2.2.2.1 (vp_in_iff.mpr (by rw [hL7]; decide)) dL_law_726 ?_
    rw [show (4 : Int32).toNatClampNeg = 4 from by decide]
    refine lv_aload_n hx hb dL_law_727 rfl (lv_at hl 3 rfl) ?_
    refine lv_iload_n hx hb dL_law_728 rfl (lv_at hl 0 rfl) ?_
    refine lv_iconst (v := 5) hx hb dL_law_729 (by decide) ?_
    refine lv_iadd hx hb dL_law_730 ?_
    refine lv_topi (fun x_443 ex_443 => ?_)
    obtain rfl : x_443 = (5 : Int32) := ex_443.trans (by decide)
    refine va_sld hx hb hX hbl hbA hW.2.2.2.1 (vp_in_iff.mpr (by rw [hL7]; decide)) dL_law_731 ?_
    rw [show (5 : Int32).toNatClampNeg = 5 from by decide]
    refine hb_if_eq (zx := (xs 5).toInt) (tgt := 739) hx hb rfl dL_law_732 (by decide) (fun c_444 => ?_) (fun c_444 => ?_)
    · skip
      refine lv_iconst (v := 0) hx hb dL_law_739 (by decide) ?_
      refine lv_aload_n hx hb dL_law_740 rfl (lv_at hl 3 rfl) ?_
      refine lv_iload_n hx hb dL_law_741 rfl (lv_at hl 0 rfl) ?_
      refine lv_bipush (v := 6) hx hb dL_law_742 (by decide) ?_
      refine lv_iadd hx hb dL_law_744 ?_
      refine lv_topi (fun x_445 ex_445 => ?_)
      obtain rfl : x_445 = (6 : Int32) := ex_445.trans (by decide)
      refine va_sld hx hb hX hbl hbA hW.2.2.2.1 (vp_in_iff.mpr (by rw [hL7]; decide)) dL_law_745 ?_
      rw [show (6 : Int32).toNatClampNeg = 6 from by decide]
      refine hx_goi (hx_runV (As := [.int (xs 1), .int (xs 2), .int (xs 3), .int (xs 4), .int (0 : Int32), .int (xs 6)]) (rest := [.int r_436]) ⟨hx, hb, hml, hown, hts⟩ hW gq_60 td_10 (T := TX10) (N := 98) rfl (c_X10_file l dC dI dA L_434 h_435 H.size q_60 (xs 1) (xs 2) (xs 3) (xs 4) (0 : Int32) (xs 6) gq_60 f_97 f_81 f_61) (cwV 6 hts (hx_gV kw_1589 kw_1586 kw_1587 kw_1588 kw_103) rfl rfl rfl (by decide +kernel) ⟨Nat.le_of_ble_eq_true rfl, Nat.le_of_ble_eq_true rfl⟩) rfl hl.1 rfl (Nat.le_of_ble_eq_true rfl) dL_law_746 ⟨Nat.le_of_ble_eq_true rfl, Nat.le_of_ble_eq_true rfl⟩) hW (fun r_448 L_446 h_447 H locs p_449 hW => ?_)
      obtain ⟨hr_450, hs⟩ := p_449
      have hs : hx_S P_tb [] L_434 h_435 L_446 h_447 := hs
      have f_4 := (hs.o gq_2 trivial rfl).1.trans f_4
      have f_5 := (hs.o gq_2 trivial rfl).1.trans f_5
      have f_9 := (hs.o gq_2 trivial rfl).1.trans f_9
      have f_11 := (hs.o gq_2 trivial rfl).1.trans f_11
      have f_14 := (hs.o gq_2 trivial rfl).1.trans f_14
      have f_16 := (hs.o gq_2 trivial rfl).1.trans f_16
      have f_28 := (hs.o gq_2 trivial rfl).2.trans f_28
      have f_30 := (hs.o gq_2 trivial rfl).2.trans f_30
      have f_32 := (hs.o gq_2 trivial rfl).2.trans f_32
      have f_33 := (hs.o gq_31 trivial rfl).1.trans f_33
      have f_35 := (hs.o gq_31 trivial rfl).2.trans f_35
      have f_38 := (hs.o gq_2 trivial rfl).2.trans f_38
      have f_40 := (hs.o gq_2 trivial rfl).2.trans f_40
      have f_42 := (hs.o gq_2 trivial rfl).2.trans f_42
      have f_43 := (hs.o gq_41 trivial rfl).1.trans f_43
      have f_45 := (hs.o gq_2 trivial rfl).2.trans f_45
      have f_46 := (hs.o gq_44 trivial rfl).1.trans f_46
      have f_48 := (hs.o gq_2 trivial rfl).2.trans f_48
      have f_49 := (hs.o gq_47 trivial rfl).1.trans f_49
      have f_51 := (hs.o gq_2 trivial rfl).2.trans f_51
      have f_52 := (hs.o gq_50 trivial rfl).1.trans f_52
      have f_54 := (hs.o gq_50 trivial rfl).2.trans f_54
      have f_56 := (hs.o gq_2 trivial rfl).2.trans f_56
      have f_57 := (hs.o gq_55 trivial rfl).1.trans f_57
      have f_58 := (hs.o gq_55 trivial rfl).1.trans f_58
      have f_61 := (hs.o gq_60 trivial rfl).1.trans f_61
      have f_62 := (hs.o gq_60 trivial rfl).1.trans f_62
      have f_68 := (hs.o gq_60 trivial rfl).1.trans f_68
      have f_69 := (hs.o gq_60 trivial rfl).1.trans f_69
      have f_70 := (hs.o gq_60 trivial rfl).1.trans f_70
      have f_71 := (hs.o gq_60 trivial rfl).1.trans f_71
      have f_72 := (hs.o gq_60 trivial rfl).1.trans f_72
      have f_74 := (hs.o gq_60 trivial rfl).1.trans f_74
      have f_81 := (hs.o gq_60 trivial rfl).1.trans f_81
      have f_90 := (hs.o gq_60 trivial rfl).1.trans f_90
      have f_97 := (hs.o gq_60 trivial rfl).1.trans f_97
      have f_118 := (hs.o gq_60 trivial rfl).1.trans f_118
      have f_120 := (hs.o gq_60 trivial rfl).1.trans f_120
      have f_128 := (hs.o gq_60 trivial rfl).1.trans f_128
      have f_129 := (hs.o gq_60 trivial rfl).1.trans f_129
      have f_130 := (hs.o gq_60 trivial rfl).1.trans f_130
      have f_131 := (hs.o gq_60 trivial rfl).1.trans f_131
      have f_132 := (hs.o gq_60 trivial rfl).1.trans f_132
      have f_133 := (hs.o gq_60 trivial rfl).1.trans f_133
      have f_136 := (hs.o gq_60 trivial rfl).1.trans f_136
      have f_144 := (hs.o gq_60 trivial rfl).1.trans f_144
      have f_145 := (hs.o gq_60 trivial rfl).1.trans f_145
      have f_147 := (hs.o gq_60 trivial rfl).1.trans f_147
      have f_148 := (hs.o gq_60 trivial rfl).1.trans f_148
      have f_151 := (hs.o gq_60 trivial rfl).1.trans f_151
      have f_153 := (hs.o gq_60 trivial rfl).1.trans f_153
      have f_156 := (hs.o gq_60 trivial rfl).1.trans f_156
      have f_157 := (hs.o gq_60 trivial rfl).1.trans f_157
      have f_164 := (hs.o gq_60 trivial rfl).2.trans f_164
      have f_166 := (hs.o gq_60 trivial rfl).2.trans f_166
      have f_169 := (hs.o gq_60 trivial rfl).2.trans f_169
      have f_171 := (hs.o gq_60 trivial rfl).2.trans f_171
      have f_173 := (hs.o gq_60 trivial rfl).2.trans f_173
      have f_175 := (hs.o gq_60 trivial rfl).2.trans f_175
      have f_177 := (hs.o gq_60 trivial rfl).2.trans f_177
      have f_179 := (hs.o gq_60 trivial rfl).2.trans f_179
      have f_181 := (hs.o gq_60 trivial rfl).2.trans f_181
      have f_183 := (hs.o gq_60 trivial rfl).2.trans f_183
      have f_185 := (hs.o gq_60 trivial rfl).2.trans f_185
      have f_187 := (hs.o gq_60 trivial rfl).2.trans f_187
      have f_189 := (hs.o gq_60 trivial rfl).2.trans f_189
      have f_191 := (hs.o gq_60 trivial rfl).2.trans f_191
      have f_193 := (hs.o gq_60 trivial rfl).2.trans f_193
      have fa_36 : ∀ j, j < 14 → _ = P_wo j := fun j hj => (hs.a gq_34 rfl j).1.trans (fa_36 j hj)
      have fa_167 : ∀ j, j < 13 → _ = P_w1 j := fun j hj => (hs.a gq_165 rfl j).1.trans (fa_167 j hj)
      have gq_2 := gq_2.S hs
      have gq_27 := gq_27.S hs
      have gq_29 := gq_29.S hs
      have gq_31 := gq_31.S hs
      have gq_34 := gq_34.S hs
      have gq_37 := gq_37.S hs
      have gq_39 := gq_39.S hs
      have gq_41 := gq_41.S hs
      have gq_44 := gq_44.S hs
      have gq_47 := gq_47.S hs
      have gq_50 := gq_50.S hs
      have gq_53 := gq_53.S hs
      have gq_55 := gq_55.S hs
      have gq_60 := gq_60.S hs
      have gq_163 := gq_163.S hs
      have gq_165 := gq_165.S hs
      have gq_168 := gq_168.S hs
      have gq_170 := gq_170.S hs
      have gq_172 := gq_172.S hs
      have gq_174 := gq_174.S hs
      have gq_176 := gq_176.S hs
      have gq_178 := gq_178.S hs
      have gq_180 := gq_180.S hs
      have gq_182 := gq_182.S hs
      have gq_184 := gq_184.S hs
      have gq_186 := gq_186.S hs
      have gq_188 := gq_188.S hs
      have gq_190 := gq_190.S hs
      have gq_192 := gq_192.S hs
      have heq : r_436 = r_448 := by
        first | exact hr_438.trans hr_450.symm | (rcases hr_438 with ⟨k1, k2⟩ | ⟨k1, k2⟩ <;> rcases hr_450 with ⟨k3, k4⟩ | ⟨k3, k4⟩ <;> first | exact k2.trans k4.symm | (exfalso; omega) | exact absurd k1 k3 | exact absurd k3 k1)
      refine hb_icmp_eq (zx := r_436.toInt) (zy := r_448.toInt) (tgt := 1379) hx hb rfl rfl dL_law_749 (by decide) (fun c_451 => ?_) (fun c_451 => absurd (congrArg Int32.toInt heq) c_451)
      exact law_tail hx hb hr hlocks hX hbl hbA hL7 _ _ hW.2.2.2.1 ls hl (Nat.le_of_ble_eq_true rfl) (Nat.le_of_ble_eq_true rfl)
    · skip
      refine lv_iconst (v := 1) hx hb dL_law_735 (by decide) ?_
      refine lv_goto (tgt := 740) hx hb dL_law_736 (by decide) ?_
      refine lv_aload_n hx hb dL_law_740 rfl (lv_at hl 3 rfl) ?_
      refine lv_iload_n hx hb dL_law_741 rfl (lv_at hl 0 rfl) ?_
      refine lv_bipush (v := 6) hx hb dL_law_742 (by decide) ?_
      refine lv_iadd hx hb dL_law_744 ?_
      refine lv_topi (fun x_452 ex_452 => ?_)
      obtain rfl : x_452 = (6 : Int32) := ex_452.trans (by decide)
      refine va_sld hx hb hX hbl hbA hW.2.2.2.1 (vp_in_iff.mpr (by rw [hL7]; decide)) dL_law_745 ?_
      rw [show (6 : Int32).toNatClampNeg = 6 from by decide]
      refine hx_goi (hx_runV (As := [.int (xs 1), .int (xs 2), .int (xs 3), .int (xs 4), .int (1 : Int32), .int (xs 6)]) (rest := [.int r_436]) ⟨hx, hb, hml, hown, hts⟩ hW gq_60 td_10 (T := TX10) (N := 98) rfl (c_X10_file l dC dI dA L_434 h_435 H.size q_60 (xs 1) (xs 2) (xs 3) (xs 4) (1 : Int32) (xs 6) gq_60 f_97 f_81 f_61) (cwV 6 hts (hx_gV kw_1589 kw_1586 kw_1587 kw_1588 kw_103) rfl rfl rfl (by decide +kernel) ⟨Nat.le_of_ble_eq_true rfl, Nat.le_of_ble_eq_true rfl⟩) rfl hl.1 rfl (Nat.le_of_ble_eq_true rfl) dL_law_746 ⟨Nat.le_of_ble_eq_true rfl, Nat.le_of_ble_eq_true rfl⟩) hW (fun r_455 L_453 h_454 H locs p_456 hW => ?_)
      obtain ⟨hr_457, hs⟩ := p_456
      have hs : hx_S P_tb [] L_434 h_435 L_453 h_454 := hs
      have f_4 := (hs.o gq_2 trivial rfl).1.trans f_4
      have f_5 := (hs.o gq_2 trivial rfl).1.trans f_5
      have f_9 := (hs.o gq_2 trivial rfl).1.trans f_9
      have f_11 := (hs.o gq_2 trivial rfl).1.trans f_11
      have f_14 := (hs.o gq_2 trivial rfl).1.trans f_14
      have f_16 := (hs.o gq_2 trivial rfl).1.trans f_16
      have f_28 := (hs.o gq_2 trivial rfl).2.trans f_28
      have f_30 := (hs.o gq_2 trivial rfl).2.trans f_30
      have f_32 := (hs.o gq_2 trivial rfl).2.trans f_32
      have f_33 := (hs.o gq_31 trivial rfl).1.trans f_33
      have f_35 := (hs.o gq_31 trivial rfl).2.trans f_35
      have f_38 := (hs.o gq_2 trivial rfl).2.trans f_38
      have f_40 := (hs.o gq_2 trivial rfl).2.trans f_40
      have f_42 := (hs.o gq_2 trivial rfl).2.trans f_42
      have f_43 := (hs.o gq_41 trivial rfl).1.trans f_43
      have f_45 := (hs.o gq_2 trivial rfl).2.trans f_45
      have f_46 := (hs.o gq_44 trivial rfl).1.trans f_46
      have f_48 := (hs.o gq_2 trivial rfl).2.trans f_48
      have f_49 := (hs.o gq_47 trivial rfl).1.trans f_49
      have f_51 := (hs.o gq_2 trivial rfl).2.trans f_51
      have f_52 := (hs.o gq_50 trivial rfl).1.trans f_52
      have f_54 := (hs.o gq_50 trivial rfl).2.trans f_54
      have f_56 := (hs.o gq_2 trivial rfl).2.trans f_56
      have f_57 := (hs.o gq_55 trivial rfl).1.trans f_57
      have f_58 := (hs.o gq_55 trivial rfl).1.trans f_58
      have f_61 := (hs.o gq_60 trivial rfl).1.trans f_61
      have f_62 := (hs.o gq_60 trivial rfl).1.trans f_62
      have f_68 := (hs.o gq_60 trivial rfl).1.trans f_68
      have f_69 := (hs.o gq_60 trivial rfl).1.trans f_69
      have f_70 := (hs.o gq_60 trivial rfl).1.trans f_70
      have f_71 := (hs.o gq_60 trivial rfl).1.trans f_71
      have f_72 := (hs.o gq_60 trivial rfl).1.trans f_72
      have f_74 := (hs.o gq_60 trivial rfl).1.trans f_74
      have f_81 := (hs.o gq_60 trivial rfl).1.trans f_81
      have f_90 := (hs.o gq_60 trivial rfl).1.trans f_90
      have f_97 := (hs.o gq_60 trivial rfl).1.trans f_97
      have f_118 := (hs.o gq_60 trivial rfl).1.trans f_118
      have f_120 := (hs.o gq_60 trivial rfl).1.trans f_120
      have f_128 := (hs.o gq_60 trivial rfl).1.trans f_128
      have f_129 := (hs.o gq_60 trivial rfl).1.trans f_129
      have f_130 := (hs.o gq_60 trivial rfl).1.trans f_130
      have f_131 := (hs.o gq_60 trivial rfl).1.trans f_131
      have f_132 := (hs.o gq_60 trivial rfl).1.trans f_132
      have f_133 := (hs.o gq_60 trivial rfl).1.trans f_133
      have f_136 := (hs.o gq_60 trivial rfl).1.trans f_136
      have f_144 := (hs.o gq_60 trivial rfl).1.trans f_144
      have f_145 := (hs.o gq_60 trivial rfl).1.trans f_145
      have f_147 := (hs.o gq_60 trivial rfl).1.trans f_147
      have f_148 := (hs.o gq_60 trivial rfl).1.trans f_148
      have f_151 := (hs.o gq_60 trivial rfl).1.trans f_151
      have f_153 := (hs.o gq_60 trivial rfl).1.trans f_153
      have f_156 := (hs.o gq_60 trivial rfl).1.trans f_156
      have f_157 := (hs.o gq_60 trivial rfl).1.trans f_157
      have f_164 := (hs.o gq_60 trivial rfl).2.trans f_164
      have f_166 := (hs.o gq_60 trivial rfl).2.trans f_166
      have f_169 := (hs.o gq_60 trivial rfl).2.trans f_169
      have f_171 := (hs.o gq_60 trivial rfl).2.trans f_171
      have f_173 := (hs.o gq_60 trivial rfl).2.trans f_173
      have f_175 := (hs.o gq_60 trivial rfl).2.trans f_175
      have f_177 := (hs.o gq_60 trivial rfl).2.trans f_177
      have f_179 := (hs.o gq_60 trivial rfl).2.trans f_179
      have f_181 := (hs.o gq_60 trivial rfl).2.trans f_181
      have f_183 := (hs.o gq_60 trivial rfl).2.trans f_183
      have f_185 := (hs.o gq_60 trivial rfl).2.trans f_185
      have f_187 := (hs.o gq_60 trivial rfl).2.trans f_187
      have f_189 := (hs.o gq_60 trivial rfl).2.trans f_189
      have f_191 := (hs.o gq_60 trivial rfl).2.trans f_191
      have f_193 := (hs.o gq_60 trivial rfl).2.trans f_193
      have fa_36 : ∀ j, j < 14 → _ = P_wo j := fun j hj => (hs.a gq_34 rfl j).1.trans (fa_36 j hj)
      have fa_167 : ∀ j, j < 13 → _ = P_w1 j := fun j hj => (hs.a gq_165 rfl j).1.trans (fa_167 j hj)
      have gq_2 := gq_2.S hs
      have gq_27 := gq_27.S hs
      have gq_29 := gq_29.S hs
      have gq_31 := gq_31.S hs
      have gq_34 := gq_34.S hs
      have gq_37 := gq_37.S hs
      have gq_39 := gq_39.S hs
      have gq_41 := gq_41.S hs
      have gq_44 := gq_44.S hs
      have gq_47 := gq_47.S hs
      have gq_50 := gq_50.S hs
      have gq_53 := gq_53.S hs
      have gq_55 := gq_55.S hs
      have gq_60 := gq_60.S hs
      have gq_163 := gq_163.S hs
      have gq_165 := gq_165.S hs
      have gq_168 := gq_168.S hs
      have gq_170 := gq_170.S hs
      have gq_172 := gq_172.S hs
      have gq_174 := gq_174.S hs
      have gq_176 := gq_176.S hs
      have gq_178 := gq_178.S hs
      have gq_180 := gq_180.S hs
      have gq_182 := gq_182.S hs
      have gq_184 := gq_184.S hs
      have gq_186 := gq_186.S hs
      have gq_188 := gq_188.S hs
      have gq_190 := gq_190.S hs
      have gq_192 := gq_192.S hs
      have heq : r_436 = r_455 := by
        first | exact hr_438.trans hr_457.symm | (rcases hr_438 with ⟨k1, k2⟩ | ⟨k1, k2⟩ <;> rcases hr_457 with ⟨k3, k4⟩ | ⟨k3, k4⟩ <;> first | exact k2.trans k4.symm | (exfalso; omega) | exact absurd k1 k3 | exact absurd k3 k1)
      refine hb_icmp_eq (zx := r_436.toInt) (zy := r_455.toInt) (tgt := 1379) hx hb rfl rfl dL_law_749 (by decide) (fun c_458 => ?_) (fun c_458 => absurd (congrArg Int32.toInt heq) c_458)
      exact law_tail hx hb hr hlocks hX hbl hbA hL7 _ _ hW.2.2.2.1 ls hl (Nat.le_of_ble_eq_true rfl) (Nat.le_of_ble_eq_true rfl)

set_option maxHeartbeats 4000000 in
set_option maxRecDepth 100000 in
theorem law_case_12 {p : Program} {e : Env} {s : State} {m : MethodId} {below : List Frame} {meth : Method} {c : Code} (l : Launch) {b LN : Nat} {xs : Nat → Int32} (hx : p.tables.exec = Jvm.exec) (hb : c.code = code) (hr : meth.sig.returnType = ret) (hlocks : meth.locks = false) (hml : c.maxLocals = 4) (hown : s.vm.findClass "SmallCourtLaw" = some m.cls) (hts : ∀ w ∈ hx_all, w.before #[Value.ref b] s = true) (hX : va_X b LN xs s s.heap) (hbl : b < s.heap.size) (hbA : ¬ s.heap.size ≤ b) (hL7 : LN = 7) (dC : Nat → ClassId) (dI : Nat → Nat → Nat) (dA : Nat → ClassId) (b0 : Nat) (q_2 q_27 q_29 q_31 q_34 q_37 q_39 q_41 q_44 q_47 q_50 q_53 q_55 q_60 q_163 q_165 q_168 q_170 q_172 q_174 q_176 q_178 q_180 q_182 q_184 q_186 q_188 q_190 q_192 : Nat) (L1 : List Nat) (hl1 : hx_h) (H : Heap) (locs : List Loc) (ls : Array Slot) (hW : hx_W P_tb (P_ty dA) (dC, dI) vwCl (fun q : Nat => s.heap.size ≤ q) s.heap L1 hl1 s H locs) (hZ : hx_Xt (fun q : Nat => s.heap.size ≤ q) b0 s) (f_4 : hl1.2.1 q_2 1 = (0 : Int32)) (f_5 : hl1.2.1 q_2 2 = (0 : Int32)) (f_9 : hl1.2.1 q_2 6 = (0 : Int32)) (f_11 : hl1.2.1 q_2 8 = (0 : Int32)) (f_14 : hl1.2.1 q_2 11 = (0 : Int32)) (f_16 : hl1.2.1 q_2 13 = (0 : Int32)) (f_28 : hl1.2.2 q_2 0 = some q_27) (f_30 : hl1.2.2 q_2 3 = some q_29) (f_32 : hl1.2.2 q_2 4 = some q_31) (f_33 : hl1.2.1 q_31 0 = (-1 : Int32)) (f_35 : hl1.2.2 q_31 2 = some q_34) (f_38 : hl1.2.2 q_2 5 = some q_37) (f_40 : hl1.2.2 q_2 7 = some q_39) (f_42 : hl1.2.2 q_2 9 = some q_41) (f_43 : hl1.2.1 q_41 0 = (0 : Int32)) (f_45 : hl1.2.2 q_2 14 = some q_44) (f_46 : hl1.2.1 q_44 0 = (0 : Int32)) (f_48 : hl1.2.2 q_2 17 = some q_47) (f_49 : hl1.2.1 q_47 1 = (0 : Int32)) (f_51 : hl1.2.2 q_2 18 = some q_50) (f_52 : hl1.2.1 q_50 0 = (-1 : Int32)) (f_54 : hl1.2.2 q_50 5 = some q_53) (f_56 : hl1.2.2 q_2 19 = some q_55) (f_57 : hl1.2.1 q_55 0 = (0 : Int32)) (f_58 : hl1.2.1 q_55 1 = (0 : Int32)) (f_61 : hl1.2.1 q_60 0 = (0 : Int32)) (f_62 : hl1.2.1 q_60 1 = (0 : Int32)) (f_68 : hl1.2.1 q_60 7 = (0 : Int32)) (f_69 : hl1.2.1 q_60 8 = (0 : Int32)) (f_70 : hl1.2.1 q_60 9 = (0 : Int32)) (f_71 : hl1.2.1 q_60 10 = (0 : Int32)) (f_72 : hl1.2.1 q_60 11 = (0 : Int32)) (f_74 : hl1.2.1 q_60 13 = (0 : Int32)) (f_81 : hl1.2.1 q_60 20 = (0 : Int32)) (f_90 : hl1.2.1 q_60 29 = (0 : Int32)) (f_97 : hl1.2.1 q_60 36 = (0 : Int32)) (f_118 : hl1.2.1 q_60 57 = (0 : Int32)) (f_120 : hl1.2.1 q_60 59 = (0 : Int32)) (f_128 : hl1.2.1 q_60 67 = (0 : Int32)) (f_129 : hl1.2.1 q_60 68 = (0 : Int32)) (f_130 : hl1.2.1 q_60 69 = (0 : Int32)) (f_131 : hl1.2.1 q_60 70 = (0 : Int32)) (f_132 : hl1.2.1 q_60 71 = (0 : Int32)) (f_133 : hl1.2.1 q_60 72 = (0 : Int32)) (f_136 : hl1.2.1 q_60 75 = (0 : Int32)) (f_144 : hl1.2.1 q_60 83 = (0 : Int32)) (f_145 : hl1.2.1 q_60 84 = (0 : Int32)) (f_147 : hl1.2.1 q_60 86 = (0 : Int32)) (f_148 : hl1.2.1 q_60 87 = (0 : Int32)) (f_151 : hl1.2.1 q_60 90 = (0 : Int32)) (f_153 : hl1.2.1 q_60 92 = (0 : Int32)) (f_156 : hl1.2.1 q_60 95 = (0 : Int32)) (f_157 : hl1.2.1 q_60 96 = (0 : Int32)) (f_164 : hl1.2.2 q_60 2 = some q_163) (f_166 : hl1.2.2 q_60 3 = some q_165) (f_169 : hl1.2.2 q_60 4 = some q_168) (f_171 : hl1.2.2 q_60 5 = some q_170) (f_173 : hl1.2.2 q_60 6 = some q_172) (f_175 : hl1.2.2 q_60 12 = some q_174) (f_177 : hl1.2.2 q_60 15 = some q_176) (f_179 : hl1.2.2 q_60 21 = some q_178) (f_181 : hl1.2.2 q_60 22 = some q_180) (f_183 : hl1.2.2 q_60 23 = some q_182) (f_185 : hl1.2.2 q_60 24 = some q_184) (f_187 : hl1.2.2 q_60 25 = some q_186) (f_189 : hl1.2.2 q_60 26 = some q_188) (f_191 : hl1.2.2 q_60 82 = some q_190) (f_193 : hl1.2.2 q_60 94 = some q_192) (fa_36 : ∀ j, j < 14 → hl1.2.1 q_34 j = P_wo j) (fa_167 : ∀ j, j < 13 → hl1.2.1 q_165 j = P_w1 j) (gq_2 : hx_g L1 hl1 q_2 9) (gq_27 : hx_g L1 hl1 q_27 42) (gq_29 : hx_g L1 hl1 q_29 6) (gq_31 : hx_g L1 hl1 q_31 0) (gq_34 : hx_g L1 hl1 q_34 11) (gq_37 : hx_g L1 hl1 q_37 43) (gq_39 : hx_g L1 hl1 q_39 44) (gq_41 : hx_g L1 hl1 q_41 1) (gq_44 : hx_g L1 hl1 q_44 3) (gq_47 : hx_g L1 hl1 q_47 5) (gq_50 : hx_g L1 hl1 q_50 7) (gq_53 : hx_g L1 hl1 q_53 36) (gq_55 : hx_g L1 hl1 q_55 8) (gq_60 : hx_g L1 hl1 q_60 10) (gq_163 : hx_g L1 hl1 q_163 49) (gq_165 : hx_g L1 hl1 q_165 50) (gq_168 : hx_g L1 hl1 q_168 51) (gq_170 : hx_g L1 hl1 q_170 52) (gq_172 : hx_g L1 hl1 q_172 53) (gq_174 : hx_g L1 hl1 q_174 54) (gq_176 : hx_g L1 hl1 q_176 55) (gq_178 : hx_g L1 hl1 q_178 58) (gq_180 : hx_g L1 hl1 q_180 59) (gq_182 : hx_g L1 hl1 q_182 60) (gq_184 : hx_g L1 hl1 q_184 61) (gq_186 : hx_g L1 hl1 q_186 62) (gq_188 : hx_g L1 hl1 q_188 63) (gq_190 : hx_g L1 hl1 q_190 108) (gq_192 : hx_g L1 hl1 q_192 114) (hl : lv_has ls 4 [(3, .int (0 : Int32)), (2, .ref q_60), (1, .ref q_2), (0, .ref b)]) : W p l e room_1 s m #[Value.ref b] below meth c H locs 112 26072 (lw_Z below #[Value.ref b] s) (F0 m 754 ls []) := by
  refine lv_aload_n hx hb dL_law_754 rfl (lv_at hl 2 rfl) ?_
  refine lv_aload_n hx hb dL_law_755 rfl (lv_at hl 3 rfl) ?_
  refine lv_iload_n hx hb dL_law_756 rfl (lv_at hl 0 rfl) ?_
  refine lv_iconst (v := 1) hx hb dL_law_757 (by decide) ?_
  refine lv_iadd hx hb dL_law_758 ?_
  refine lv_topi (fun x_459 ex_459 => ?_)
  obtain rfl : x_459 = (1 : Int32) := ex_459.trans (by decide)
  refine va_sld hx hb hX hbl hbA hW.2.2.2.1 (vp_in_iff.mpr (by rw [hL7]; decide)) dL_law_759 ?_
  rw [show (1 : Int32).toNatClampNeg = 1 from by decide]
  refine lv_aload_n hx hb dL_law_760 rfl (lv_at hl 3 rfl) ?_
  refine lv_iload_n hx hb dL_law_761 rfl (lv_at hl 0 rfl) ?_
  refine lv_iconst (v := 2) hx hb dL_law_762 (by decide) ?_
  refine lv_iadd hx hb dL_law_763 ?_
  refine lv_topi (fun x_460 ex_460 => ?_)
  obtain rfl : x_460 = (2 : Int32) := ex_460.trans (by decide)
  refine va_sld hx hb hX hbl hbA hW.2.2.2.1 (vp_in_iff.mpr (by rw [hL7]; decide)) dL_law_764 ?_
  rw [show (2 : Int32).toNatClampNeg = 2 from by decide]
  refine hb_if_eq (zx := (xs 2).toInt) (tgt := 772) hx hb rfl dL_law_765 (by decide) (fun c_461 => ?_) (fun c_461 => ?_)
  · skip
    refine lv_iconst (v := 0) hx hb dL_law_772 (by decide) ?_
    refine hx_goi (hx_runV (As := [.int (xs 1), .int (0 : Int32)]) (rest := []) ⟨hx, hb, hml, hown, hts⟩ hW gq_2 td_9 (T := TX9) (N := 20) rfl (c_X9_summons l dC dI dA L1 hl1 H.size q_2 (xs 1) (0 : Int32) gq_2 f_14) (cwV 2 hts (hx_gV kw_806 kw_803 kw_804 kw_805 kw_94) rfl rfl rfl (by decide +kernel) ⟨Nat.le_of_ble_eq_true rfl, Nat.le_of_ble_eq_true rfl⟩) rfl hl.1 rfl (Nat.le_of_ble_eq_true rfl) dL_law_773 ⟨Nat.le_of_ble_eq_true rfl, Nat.le_of_ble_eq_true rfl⟩) hW (fun r_464 L_462 h_463 H locs p_465 hW => ?_)
    obtain ⟨hr_466, hs⟩ := p_465
    have hs : hx_S P_tb [] L1 hl1 L_462 h_463 := hs
    have f_4 := (hs.o gq_2 trivial rfl).1.trans f_4
    have f_5 := (hs.o gq_2 trivial rfl).1.trans f_5
    have f_9 := (hs.o gq_2 trivial rfl).1.trans f_9
    have f_11 := (hs.o gq_2 trivial rfl).1.trans f_11
    have f_14 := (hs.o gq_2 trivial rfl).1.trans f_14
    have f_16 := (hs.o gq_2 trivial rfl).1.trans f_16
    have f_28 := (hs.o gq_2 trivial rfl).2.trans f_28
    have f_30 := (hs.o gq_2 trivial rfl).2.trans f_30
    have f_32 := (hs.o gq_2 trivial rfl).2.trans f_32
    have f_33 := (hs.o gq_31 trivial rfl).1.trans f_33
    have f_35 := (hs.o gq_31 trivial rfl).2.trans f_35
    have f_38 := (hs.o gq_2 trivial rfl).2.trans f_38
    have f_40 := (hs.o gq_2 trivial rfl).2.trans f_40
    have f_42 := (hs.o gq_2 trivial rfl).2.trans f_42
    have f_43 := (hs.o gq_41 trivial rfl).1.trans f_43
    have f_45 := (hs.o gq_2 trivial rfl).2.trans f_45
    have f_46 := (hs.o gq_44 trivial rfl).1.trans f_46
    have f_48 := (hs.o gq_2 trivial rfl).2.trans f_48
    have f_49 := (hs.o gq_47 trivial rfl).1.trans f_49
    have f_51 := (hs.o gq_2 trivial rfl).2.trans f_51
    have f_52 := (hs.o gq_50 trivial rfl).1.trans f_52
    have f_54 := (hs.o gq_50 trivial rfl).2.trans f_54
    have f_56 := (hs.o gq_2 trivial rfl).2.trans f_56
    have f_57 := (hs.o gq_55 trivial rfl).1.trans f_57
    have f_58 := (hs.o gq_55 trivial rfl).1.trans f_58
    have f_61 := (hs.o gq_60 trivial rfl).1.trans f_61
    have f_62 := (hs.o gq_60 trivial rfl).1.trans f_62
    have f_68 := (hs.o gq_60 trivial rfl).1.trans f_68
    have f_69 := (hs.o gq_60 trivial rfl).1.trans f_69
    have f_70 := (hs.o gq_60 trivial rfl).1.trans f_70
    have f_71 := (hs.o gq_60 trivial rfl).1.trans f_71
    have f_72 := (hs.o gq_60 trivial rfl).1.trans f_72
    have f_74 := (hs.o gq_60 trivial rfl).1.trans f_74
    have f_81 := (hs.o gq_60 trivial rfl).1.trans f_81
    have f_90 := (hs.o gq_60 trivial rfl).1.trans f_90
    have f_97 := (hs.o gq_60 trivial rfl).1.trans f_97
    have f_118 := (hs.o gq_60 trivial rfl).1.trans f_118
    have f_120 := (hs.o gq_60 trivial rfl).1.trans f_120
    have f_128 := (hs.o gq_60 trivial rfl).1.trans f_128
    have f_129 := (hs.o gq_60 trivial rfl).1.trans f_129
    have f_130 := (hs.o gq_60 trivial rfl).1.trans f_130
    have f_131 := (hs.o gq_60 trivial rfl).1.trans f_131
    have f_132 := (hs.o gq_60 trivial rfl).1.trans f_132
    have f_133 := (hs.o gq_60 trivial rfl).1.trans f_133
    have f_136 := (hs.o gq_60 trivial rfl).1.trans f_136
    have f_144 := (hs.o gq_60 trivial rfl).1.trans f_144
    have f_145 := (hs.o gq_60 trivial rfl).1.trans f_145
    have f_147 := (hs.o gq_60 trivial rfl).1.trans f_147
    have f_148 := (hs.o gq_60 trivial rfl).1.trans f_148
    have f_151 := (hs.o gq_60 trivial rfl).1.trans f_151
    have f_153 := (hs.o gq_60 trivial rfl).1.trans f_153
    have f_156 := (hs.o gq_60 trivial rfl).1.trans f_156
    have f_157 := (hs.o gq_60 trivial rfl).1.trans f_157
    have f_164 := (hs.o gq_60 trivial rfl).2.trans f_164
    have f_166 := (hs.o gq_60 trivial rfl).2.trans f_166
    have f_169 := (hs.o gq_60 trivial rfl).2.trans f_169
    have f_171 := (hs.o gq_60 trivial rfl).2.trans f_171
    have f_173 := (hs.o gq_60 trivial rfl).2.trans f_173
    have f_175 := (hs.o gq_60 trivial rfl).2.trans f_175
    have f_177 := (hs.o gq_60 trivial rfl).2.trans f_177
    have f_179 := (hs.o gq_60 trivial rfl).2.trans f_179
    have f_181 := (hs.o gq_60 trivial rfl).2.trans f_181
    have f_183 := (hs.o gq_60 trivial rfl).2.trans f_183
    have f_185 := (hs.o gq_60 trivial rfl).2.trans f_185
    have f_187 := (hs.o gq_60 trivial rfl).2.trans f_187
    have f_189 := (hs.o gq_60 trivial rfl).2.trans f_189
    have f_191 := (hs.o gq_60 trivial rfl).2.trans f_191
    have f_193 := (hs.o gq_60 trivial rfl).2.trans f_193
    have fa_36 : ∀ j, j < 14 → _ = P_wo j := fun j hj => (hs.a gq_34 rfl j).1.trans (fa_36 j hj)
    have fa_167 : ∀ j, j < 13 → _ = P_w1 j := fun j hj => (hs.a gq_165 rfl j).1.trans (fa_167 j hj)
    have gq_2 := gq_2.S hs
    have gq_27 := gq_27.S hs
    have gq_29 := gq_29.S hs
    have gq_31 := gq_31.S hs
    have gq_34 := gq_34.S hs
    have gq_37 := gq_37.S hs
    have gq_39 := gq_39.S hs
    have gq_41 := gq_41.S hs
    have gq_44 := gq_44.S hs
    have gq_47 := gq_47.S hs
    have gq_50 := gq_50.S hs
    have gq_53 := gq_53.S hs
    have gq_55 := gq_55.S hs
    have gq_60 := gq_60.S hs
    have gq_163 := gq_163.S hs
    have gq_165 := gq_165.S hs
    have gq_168 := gq_168.S hs
    have gq_170 := gq_170.S hs
    have gq_172 := gq_172.S hs
    have gq_174 := gq_174.S hs
    have gq_176 := gq_176.S hs
    have gq_178 := gq_178.S hs
    have gq_180 := gq_180.S hs
    have gq_182 := gq_182.S hs
    have gq_184 := gq_184.S hs
    have gq_186 := gq_186.S hs
    have gq_188 := gq_188.S hs
    have gq_190 := gq_190.S hs
    have gq_192 := gq_192.S hs
    refine lv_aload_n hx hb dL_law_776 rfl (lv_at hl 1 rfl) ?_
    refine lv_aload_n hx hb dL_law_777 rfl (lv_at hl 3 rfl) ?_
    refine lv_iload_n hx hb dL_law_778 rfl (lv_at hl 0 rfl) ?_
    refine lv_iconst (v := 1) hx hb dL_law_779 (by decide) ?_
    refine lv_iadd hx hb dL_law_780 ?_
    refine lv_topi (fun x_467 ex_467 => ?_)
    obtain rfl : x_467 = (1 : Int32) := ex_467.trans (by decide)
    refine va_sld hx hb hX hbl hbA hW.2.2.2.1 (vp_in_iff.mpr (by rw [hL7]; decide)) dL_law_781 ?_
    rw [show (1 : Int32).toNatClampNeg = 1 from by decide]
    refine lv_aload_n hx hb dL_law_782 rfl (lv_at hl 3 rfl) ?_
    refine lv_iload_n hx hb dL_law_783 rfl (lv_at hl 0 rfl) ?_
    refine lv_iconst (v := 2) hx hb dL_law_784 (by decide) ?_
    refine lv_iadd hx hb dL_law_785 ?_
    refine lv_topi (fun x_468 ex_468 => ?_)
    obtain rfl : x_468 = (2 : Int32) := ex_468.trans (by decide)
    refine va_sld hx hb hX hbl hbA hW.2.2.2.1 (vp_in_iff.mpr (by rw [hL7]; decide)) dL_law_786 ?_
    rw [show (2 : Int32).toNatClampNeg = 2 from by decide]
    refine hb_if_eq (zx := (xs 2).toInt) (tgt := 794) hx hb rfl dL_law_787 (by decide) (fun c_469 => ?_) (fun c_469 => by exfalso; omega)
    refine lv_iconst (v := 0) hx hb dL_law_794 (by decide) ?_
    refine hx_goi (hx_runV (As := [.int (xs 1), .int (0 : Int32)]) (rest := [.int r_464]) ⟨hx, hb, hml, hown, hts⟩ hW gq_60 td_10 (T := TX10) (N := 98) rfl (c_X10_summons l dC dI dA L_462 h_463 H.size q_60 (xs 1) (0 : Int32) gq_60 f_97) (cwV 2 hts (hx_gV kw_1593 kw_1590 kw_1591 kw_1592 kw_103) rfl rfl rfl (by decide +kernel) ⟨Nat.le_of_ble_eq_true rfl, Nat.le_of_ble_eq_true rfl⟩) rfl hl.1 rfl (Nat.le_of_ble_eq_true rfl) dL_law_795 ⟨Nat.le_of_ble_eq_true rfl, Nat.le_of_ble_eq_true rfl⟩) hW (fun r_472 L_470 h_471 H locs p_473 hW => ?_)
    obtain ⟨hr_474, hs⟩ := p_473
    have hs : hx_S P_tb [] L_462 h_463 L_470 h_471 := hs
    have f_4 := (hs.o gq_2 trivial rfl).1.trans f_4
    have f_5 := (hs.o gq_2 trivial rfl).1.trans f_5
    have f_9 := (hs.o gq_2 trivial rfl).1.trans f_9
    have f_11 := (hs.o gq_2 trivial rfl).1.trans f_11
    have f_14 := (hs.o gq_2 trivial rfl).1.trans f_14
    have f_16 := (hs.o gq_2 trivial rfl).1.trans f_16
    have f_28 := (hs.o gq_2 trivial rfl).2.trans f_28
    have f_30 := (hs.o gq_2 trivial rfl).2.trans f_30
    have f_32 := (hs.o gq_2 trivial rfl).2.trans f_32
    have f_33 := (hs.o gq_31 trivial rfl).1.trans f_33
    have f_35 := (hs.o gq_31 trivial rfl).2.trans f_35
    have f_38 := (hs.o gq_2 trivial rfl).2.trans f_38
    have f_40 := (hs.o gq_2 trivial rfl).2.trans f_40
    have f_42 := (hs.o gq_2 trivial rfl).2.trans f_42
    have f_43 := (hs.o gq_41 trivial rfl).1.trans f_43
    have f_45 := (hs.o gq_2 trivial rfl).2.trans f_45
    have f_46 := (hs.o gq_44 trivial rfl).1.trans f_46
    have f_48 := (hs.o gq_2 trivial rfl).2.trans f_48
    have f_49 := (hs.o gq_47 trivial rfl).1.trans f_49
    have f_51 := (hs.o gq_2 trivial rfl).2.trans f_51
    have f_52 := (hs.o gq_50 trivial rfl).1.trans f_52
    have f_54 := (hs.o gq_50 trivial rfl).2.trans f_54
    have f_56 := (hs.o gq_2 trivial rfl).2.trans f_56
    have f_57 := (hs.o gq_55 trivial rfl).1.trans f_57
    have f_58 := (hs.o gq_55 trivial rfl).1.trans f_58
    have f_61 := (hs.o gq_60 trivial rfl).1.trans f_61
    have f_62 := (hs.o gq_60 trivial rfl).1.trans f_62
    have f_68 := (hs.o gq_60 trivial rfl).1.trans f_68
    have f_69 := (hs.o gq_60 trivial rfl).1.trans f_69
    have f_70 := (hs.o gq_60 trivial rfl).1.trans f_70
    have f_71 := (hs.o gq_60 trivial rfl).1.trans f_71
    have f_72 := (hs.o gq_60 trivial rfl).1.trans f_72
    have f_74 := (hs.o gq_60 trivial rfl).1.trans f_74
    have f_81 := (hs.o gq_60 trivial rfl).1.trans f_81
    have f_90 := (hs.o gq_60 trivial rfl).1.trans f_90
    have f_97 := (hs.o gq_60 trivial rfl).1.trans f_97
    have f_118 := (hs.o gq_60 trivial rfl).1.trans f_118
    have f_120 := (hs.o gq_60 trivial rfl).1.trans f_120
    have f_128 := (hs.o gq_60 trivial rfl).1.trans f_128
    have f_129 := (hs.o gq_60 trivial rfl).1.trans f_129
    have f_130 := (hs.o gq_60 trivial rfl).1.trans f_130
    have f_131 := (hs.o gq_60 trivial rfl).1.trans f_131
    have f_132 := (hs.o gq_60 trivial rfl).1.trans f_132
    have f_133 := (hs.o gq_60 trivial rfl).1.trans f_133
    have f_136 := (hs.o gq_60 trivial rfl).1.trans f_136
    have f_144 := (hs.o gq_60 trivial rfl).1.trans f_144
    have f_145 := (hs.o gq_60 trivial rfl).1.trans f_145
    have f_147 := (hs.o gq_60 trivial rfl).1.trans f_147
    have f_148 := (hs.o gq_60 trivial rfl).1.trans f_148
    have f_151 := (hs.o gq_60 trivial rfl).1.trans f_151
    have f_153 := (hs.o gq_60 trivial rfl).1.trans f_153
    have f_156 := (hs.o gq_60 trivial rfl).1.trans f_156
    have f_157 := (hs.o gq_60 trivial rfl).1.trans f_157
    have f_164 := (hs.o gq_60 trivial rfl).2.trans f_164
    have f_166 := (hs.o gq_60 trivial rfl).2.trans f_166
    have f_169 := (hs.o gq_60 trivial rfl).2.trans f_169
    have f_171 := (hs.o gq_60 trivial rfl).2.trans f_171
    have f_173 := (hs.o gq_60 trivial rfl).2.trans f_173
    have f_175 := (hs.o gq_60 trivial rfl).2.trans f_175
    have f_177 := (hs.o gq_60 trivial rfl).2.trans f_177
    have f_179 := (hs.o gq_60 trivial rfl).2.trans f_179
    have f_181 := (hs.o gq_60 trivial rfl).2.trans f_181
    have f_183 := (hs.o gq_60 trivial rfl).2.trans f_183
    have f_185 := (hs.o gq_60 trivial rfl).2.trans f_185
    have f_187 := (hs.o gq_60 trivial rfl).2.trans f_187
    have f_189 := (hs.o gq_60 trivial rfl).2.trans f_189
    have f_191 := (hs.o gq_60 trivial rfl).2.trans f_191
    have f_193 := (hs.o gq_60 trivial rfl).2.trans f_193
    have fa_36 : ∀ j, j < 14 → _ = P_wo j := fun j hj => (hs.a gq_34 rfl j).1.trans (fa_36 j hj)
    have fa_167 : ∀ j, j < 13 → _ = P_w1 j := fun j hj => (hs.a gq_165 rfl j).1.trans (fa_167 j hj)
    have gq_2 := gq_2.S hs
    have gq_27 := gq_27.S hs
    have gq_29 := gq_29.S hs
    have gq_31 := gq_31.S hs
    have gq_34 := gq_34.S hs
    have gq_37 := gq_37.S hs
    have gq_39 := gq_39.S hs
    have gq_41 := gq_41.S hs
    have gq_44 := gq_44.S hs
    have gq_47 := gq_47.S hs
    have gq_50 := gq_50.S hs
    have gq_53 := gq_53.S hs
    have gq_55 := gq_55.S hs
    have gq_60 := gq_60.S hs
    have gq_163 := gq_163.S hs
    have gq_165 := gq_165.S hs
    have gq_168 := gq_168.S hs
    have gq_170 := gq_170.S hs
    have gq_172 := gq_172.S hs
    have gq_174 := gq_174.S hs
    have gq_176 := gq_176.S hs
    have gq_178 := gq_178.S hs
    have gq_180 := gq_180.S hs
    have gq_182 := gq_182.S hs
    have gq_184 := gq_184.S hs
    have gq_186 := gq_186.S hs
    have gq_188 := gq_188.S hs
    have gq_190 := gq_190.S hs
    have gq_192 := gq_192.S hs
    have heq : r_464 = r_472 := by
      first | exact hr_466.trans hr_474.symm | (rcases hr_466 with ⟨k1, k2⟩ | ⟨k1, k2⟩ <;> rcases hr_474 with ⟨k3, k4⟩ | ⟨k3, k4⟩ <;> first | exact k2.trans k4.symm | (exfalso; omega) | exact absurd k1 k3 | exact absurd k3 k1)
    refine hb_icmp_eq (zx := r_464.toInt) (zy := r_472.toInt) (tgt := 1379) hx hb rfl rfl dL_law_798 (by decide) (fun c_475 => ?_) (fun c_475 => absurd (congrArg Int32.toInt heq) c_475)
    exact law_tail hx hb hr hlocks hX hbl hbA hL7 _ _ hW.2.2.2.1 ls hl (Nat.le_of_ble_eq_true rfl) (Nat.le_of_ble_eq_true rfl)
  · skip
    refine lv_iconst (v := 1) hx hb dL_law_768 (by decide) ?_
    refine lv_goto (tgt := 773) hx hb dL_law_769 (by decide) ?_
    refine hx_goi (hx_runV (As := [.int (xs 1), .int (1 : Int32)]) (rest := []) ⟨hx, hb, hml, hown, hts⟩ hW gq_2 td_9 (T := TX9) (N := 20) rfl (c_X9_summons l dC dI dA L1 hl1 H.size q_2 (xs 1) (1 : Int32) gq_2 f_14) (cwV 2 hts (hx_gV kw_806 kw_803 kw_804 kw_805 kw_94) rfl rfl rfl (by decide +kernel) ⟨Nat.le_of_ble_eq_true rfl, Nat.le_of_ble_eq_true rfl⟩) rfl hl.1 rfl (Nat.le_of_ble_eq_true rfl) dL_law_773 ⟨Nat.le_of_ble_eq_true rfl, Nat.le_of_ble_eq_true rfl⟩) hW (fun r_478 L_476 h_477 H locs p_479 hW => ?_)
    obtain ⟨hr_480, hs⟩ := p_479
    have hs : hx_S P_tb [] L1 hl1 L_476 h_477 := hs
    have f_4 := (hs.o gq_2 trivial rfl).1.trans f_4
    have f_5 := (hs.o gq_2 trivial rfl).1.trans f_5
    have f_9 := (hs.o gq_2 trivial rfl).1.trans f_9
    have f_11 := (hs.o gq_2 trivial rfl).1.trans f_11
    have f_14 := (hs.o gq_2 trivial rfl).1.trans f_14
    have f_16 := (hs.o gq_2 trivial rfl).1.trans f_16
    have f_28 := (hs.o gq_2 trivial rfl).2.trans f_28
    have f_30 := (hs.o gq_2 trivial rfl).2.trans f_30
    have f_32 := (hs.o gq_2 trivial rfl).2.trans f_32
    have f_33 := (hs.o gq_31 trivial rfl).1.trans f_33
    have f_35 := (hs.o gq_31 trivial rfl).2.trans f_35
    have f_38 := (hs.o gq_2 trivial rfl).2.trans f_38
    have f_40 := (hs.o gq_2 trivial rfl).2.trans f_40
    have f_42 := (hs.o gq_2 trivial rfl).2.trans f_42
    have f_43 := (hs.o gq_41 trivial rfl).1.trans f_43
    have f_45 := (hs.o gq_2 trivial rfl).2.trans f_45
    have f_46 := (hs.o gq_44 trivial rfl).1.trans f_46
    have f_48 := (hs.o gq_2 trivial rfl).2.trans f_48
    have f_49 := (hs.o gq_47 trivial rfl).1.trans f_49
    have f_51 := (hs.o gq_2 trivial rfl).2.trans f_51
    have f_52 := (hs.o gq_50 trivial rfl).1.trans f_52
    have f_54 := (hs.o gq_50 trivial rfl).2.trans f_54
    have f_56 := (hs.o gq_2 trivial rfl).2.trans f_56
    have f_57 := (hs.o gq_55 trivial rfl).1.trans f_57
    have f_58 := (hs.o gq_55 trivial rfl).1.trans f_58
    have f_61 := (hs.o gq_60 trivial rfl).1.trans f_61
    have f_62 := (hs.o gq_60 trivial rfl).1.trans f_62
    have f_68 := (hs.o gq_60 trivial rfl).1.trans f_68
    have f_69 := (hs.o gq_60 trivial rfl).1.trans f_69
    have f_70 := (hs.o gq_60 trivial rfl).1.trans f_70
    have f_71 := (hs.o gq_60 trivial rfl).1.trans f_71
    have f_72 := (hs.o gq_60 trivial rfl).1.trans f_72
    have f_74 := (hs.o gq_60 trivial rfl).1.trans f_74
    have f_81 := (hs.o gq_60 trivial rfl).1.trans f_81
    have f_90 := (hs.o gq_60 trivial rfl).1.trans f_90
    have f_97 := (hs.o gq_60 trivial rfl).1.trans f_97
    have f_118 := (hs.o gq_60 trivial rfl).1.trans f_118
    have f_120 := (hs.o gq_60 trivial rfl).1.trans f_120
    have f_128 := (hs.o gq_60 trivial rfl).1.trans f_128
    have f_129 := (hs.o gq_60 trivial rfl).1.trans f_129
    have f_130 := (hs.o gq_60 trivial rfl).1.trans f_130
    have f_131 := (hs.o gq_60 trivial rfl).1.trans f_131
    have f_132 := (hs.o gq_60 trivial rfl).1.trans f_132
    have f_133 := (hs.o gq_60 trivial rfl).1.trans f_133
    have f_136 := (hs.o gq_60 trivial rfl).1.trans f_136
    have f_144 := (hs.o gq_60 trivial rfl).1.trans f_144
    have f_145 := (hs.o gq_60 trivial rfl).1.trans f_145
    have f_147 := (hs.o gq_60 trivial rfl).1.trans f_147
    have f_148 := (hs.o gq_60 trivial rfl).1.trans f_148
    have f_151 := (hs.o gq_60 trivial rfl).1.trans f_151
    have f_153 := (hs.o gq_60 trivial rfl).1.trans f_153
    have f_156 := (hs.o gq_60 trivial rfl).1.trans f_156
    have f_157 := (hs.o gq_60 trivial rfl).1.trans f_157
    have f_164 := (hs.o gq_60 trivial rfl).2.trans f_164
    have f_166 := (hs.o gq_60 trivial rfl).2.trans f_166
    have f_169 := (hs.o gq_60 trivial rfl).2.trans f_169
    have f_171 := (hs.o gq_60 trivial rfl).2.trans f_171
    have f_173 := (hs.o gq_60 trivial rfl).2.trans f_173
    have f_175 := (hs.o gq_60 trivial rfl).2.trans f_175
    have f_177 := (hs.o gq_60 trivial rfl).2.trans f_177
    have f_179 := (hs.o gq_60 trivial rfl).2.trans f_179
    have f_181 := (hs.o gq_60 trivial rfl).2.trans f_181
    have f_183 := (hs.o gq_60 trivial rfl).2.trans f_183
    have f_185 := (hs.o gq_60 trivial rfl).2.trans f_185
    have f_187 := (hs.o gq_60 trivial rfl).2.trans f_187
    have f_189 := (hs.o gq_60 trivial rfl).2.trans f_189
    have f_191 := (hs.o gq_60 trivial rfl).2.trans f_191
    have f_193 := (hs.o gq_60 trivial rfl).2.trans f_193
    have fa_36 : ∀ j, j < 14 → _ = P_wo j := fun j hj => (hs.a gq_34 rfl j).1.trans (fa_36 j hj)
    have fa_167 : ∀ j, j < 13 → _ = P_w1 j := fun j hj => (hs.a gq_165 rfl j).1.trans (fa_167 j hj)
    have gq_2 := gq_2.S hs
    have gq_27 := gq_27.S hs
    have gq_29 := gq_29.S hs
    have gq_31 := gq_31.S hs
    have gq_34 := gq_34.S hs
    have gq_37 := gq_37.S hs
    have gq_39 := gq_39.S hs
    have gq_41 := gq_41.S hs
    have gq_44 := gq_44.S hs
    have gq_47 := gq_47.S hs
    have gq_50 := gq_50.S hs
    have gq_53 := gq_53.S hs
    have gq_55 := gq_55.S hs
    have gq_60 := gq_60.S hs
    have gq_163 := gq_163.S hs
    have gq_165 := gq_165.S hs
    have gq_168 := gq_168.S hs
    have gq_170 := gq_170.S hs
    have gq_172 := gq_172.S hs
    have gq_174 := gq_174.S hs
    have gq_176 := gq_176.S hs
    have gq_178 := gq_178.S hs
    have gq_180 := gq_180.S hs
    have gq_182 := gq_182.S hs
    have gq_184 := gq_184.S hs
    have gq_186 := gq_186.S hs
    have gq_188 := gq_188.S hs
    have gq_190 := gq_190.S hs
    have gq_192 := gq_192.S hs
    refine lv_aload_n hx hb dL_law_776 rfl (lv_at hl 1 rfl) ?_
    refine lv_aload_n hx hb dL_law_777 rfl (lv_at hl 3 rfl) ?_
    refine lv_iload_n hx hb dL_law_778 rfl (lv_at hl 0 rfl) ?_
    refine lv_iconst (v := 1) hx hb dL_law_779 (by decide) ?_
    refine lv_iadd hx hb dL_law_780 ?_
    refine lv_topi (fun x_481 ex_481 => ?_)
    obtain rfl : x_481 = (1 : Int32) := ex_481.trans (by decide)
    refine va_sld hx hb hX hbl hbA hW.2.2.2.1 (vp_in_iff.mpr (by rw [hL7]; decide)) dL_law_781 ?_
    rw [show (1 : Int32).toNatClampNeg = 1 from by decide]
    refine lv_aload_n hx hb dL_law_782 rfl (lv_at hl 3 rfl) ?_
    refine lv_iload_n hx hb dL_law_783 rfl (lv_at hl 0 rfl) ?_
    refine lv_iconst (v := 2) hx hb dL_law_784 (by decide) ?_
    refine lv_iadd hx hb dL_law_785 ?_
    refine lv_topi (fun x_482 ex_482 => ?_)
    obtain rfl : x_482 = (2 : Int32) := ex_482.trans (by decide)
    refine va_sld hx hb hX hbl hbA hW.2.2.2.1 (vp_in_iff.mpr (by rw [hL7]; decide)) dL_law_786 ?_
    rw [show (2 : Int32).toNatClampNeg = 2 from by decide]
    refine hb_if_eq (zx := (xs 2).toInt) (tgt := 794) hx hb rfl dL_law_787 (by decide) (fun c_483 => ?_) (fun c_483 => ?_)
    · skip
      refine lv_iconst (v := 0) hx hb dL_law_794 (by decide) ?_
      refine hx_goi (hx_runV (As := [.int (xs 1), .int (0 : Int32)]) (rest := [.int r_478]) ⟨hx, hb, hml, hown, hts⟩ hW gq_60 td_10 (T := TX10) (N := 98) rfl (c_X10_summons l dC dI dA L_476 h_477 H.size q_60 (xs 1) (0 : Int32) gq_60 f_97) (cwV 2 hts (hx_gV kw_1593 kw_1590 kw_1591 kw_1592 kw_103) rfl rfl rfl (by decide +kernel) ⟨Nat.le_of_ble_eq_true rfl, Nat.le_of_ble_eq_true rfl⟩) rfl hl.1 rfl (Nat.le_of_ble_eq_true rfl) dL_law_795 ⟨Nat.le_of_ble_eq_true rfl, Nat.le_of_ble_eq_true rfl⟩) hW (fun r_486 L_484 h_485 H locs p_487 hW => ?_)
      obtain ⟨hr_488, hs⟩ := p_487
      have hs : hx_S P_tb [] L_476 h_477 L_484 h_485 := hs
      have f_4 := (hs.o gq_2 trivial rfl).1.trans f_4
      have f_5 := (hs.o gq_2 trivial rfl).1.trans f_5
      have f_9 := (hs.o gq_2 trivial rfl).1.trans f_9
      have f_11 := (hs.o gq_2 trivial rfl).1.trans f_11
      have f_14 := (hs.o gq_2 trivial rfl).1.trans f_14
      have f_16 := (hs.o gq_2 trivial rfl).1.trans f_16
      have f_28 := (hs.o gq_2 trivial rfl).2.trans f_28
      have f_30 := (hs.o gq_2 trivial rfl).2.trans f_30
      have f_32 := (hs.o gq_2 trivial rfl).2.trans f_32
      have f_33 := (hs.o gq_31 trivial rfl).1.trans f_33
      have f_35 := (hs.o gq_31 trivial rfl).2.trans f_35
      have f_38 := (hs.o gq_2 trivial rfl).2.trans f_38
      have f_40 := (hs.o gq_2 trivial rfl).2.trans f_40
      have f_42 := (hs.o gq_2 trivial rfl).2.trans f_42
      have f_43 := (hs.o gq_41 trivial rfl).1.trans f_43
      have f_45 := (hs.o gq_2 trivial rfl).2.trans f_45
      have f_46 := (hs.o gq_44 trivial rfl).1.trans f_46
      have f_48 := (hs.o gq_2 trivial rfl).2.trans f_48
      have f_49 := (hs.o gq_47 trivial rfl).1.trans f_49
      have f_51 := (hs.o gq_2 trivial rfl).2.trans f_51
      have f_52 := (hs.o gq_50 trivial rfl).1.trans f_52
      have f_54 := (hs.o gq_50 trivial rfl).2.trans f_54
      have f_56 := (hs.o gq_2 trivial rfl).2.trans f_56
      have f_57 := (hs.o gq_55 trivial rfl).1.trans f_57
      have f_58 := (hs.o gq_55 trivial rfl).1.trans f_58
      have f_61 := (hs.o gq_60 trivial rfl).1.trans f_61
      have f_62 := (hs.o gq_60 trivial rfl).1.trans f_62
      have f_68 := (hs.o gq_60 trivial rfl).1.trans f_68
      have f_69 := (hs.o gq_60 trivial rfl).1.trans f_69
      have f_70 := (hs.o gq_60 trivial rfl).1.trans f_70
      have f_71 := (hs.o gq_60 trivial rfl).1.trans f_71
      have f_72 := (hs.o gq_60 trivial rfl).1.trans f_72
      have f_74 := (hs.o gq_60 trivial rfl).1.trans f_74
      have f_81 := (hs.o gq_60 trivial rfl).1.trans f_81
      have f_90 := (hs.o gq_60 trivial rfl).1.trans f_90
      have f_97 := (hs.o gq_60 trivial rfl).1.trans f_97
      have f_118 := (hs.o gq_60 trivial rfl).1.trans f_118
      have f_120 := (hs.o gq_60 trivial rfl).1.trans f_120
      have f_128 := (hs.o gq_60 trivial rfl).1.trans f_128
      have f_129 := (hs.o gq_60 trivial rfl).1.trans f_129
      have f_130 := (hs.o gq_60 trivial rfl).1.trans f_130
      have f_131 := (hs.o gq_60 trivial rfl).1.trans f_131
      have f_132 := (hs.o gq_60 trivial rfl).1.trans f_132
      have f_133 := (hs.o gq_60 trivial rfl).1.trans f_133
      have f_136 := (hs.o gq_60 trivial rfl).1.trans f_136
      have f_144 := (hs.o gq_60 trivial rfl).1.trans f_144
      have f_145 := (hs.o gq_60 trivial rfl).1.trans f_145
      have f_147 := (hs.o gq_60 trivial rfl).1.trans f_147
      have f_148 := (hs.o gq_60 trivial rfl).1.trans f_148
      have f_151 := (hs.o gq_60 trivial rfl).1.trans f_151
      have f_153 := (hs.o gq_60 trivial rfl).1.trans f_153
      have f_156 := (hs.o gq_60 trivial rfl).1.trans f_156
      have f_157 := (hs.o gq_60 trivial rfl).1.trans f_157
      have f_164 := (hs.o gq_60 trivial rfl).2.trans f_164
      have f_166 := (hs.o gq_60 trivial rfl).2.trans f_166
      have f_169 := (hs.o gq_60 trivial rfl).2.trans f_169
      have f_171 := (hs.o gq_60 trivial rfl).2.trans f_171
      have f_173 := (hs.o gq_60 trivial rfl).2.trans f_173
      have f_175 := (hs.o gq_60 trivial rfl).2.trans f_175
      have f_177 := (hs.o gq_60 trivial rfl).2.trans f_177
      have f_179 := (hs.o gq_60 trivial rfl).2.trans f_179
      have f_181 := (hs.o gq_60 trivial rfl).2.trans f_181
      have f_183 := (hs.o gq_60 trivial rfl).2.trans f_183
      have f_185 := (hs.o gq_60 trivial rfl).2.trans f_185
      have f_187 := (hs.o gq_60 trivial rfl).2.trans f_187
      have f_189 := (hs.o gq_60 trivial rfl).2.trans f_189
      have f_191 := (hs.o gq_60 trivial rfl).2.trans f_191
      have f_193 := (hs.o gq_60 trivial rfl).2.trans f_193
      have fa_36 : ∀ j, j < 14 → _ = P_wo j := fun j hj => (hs.a gq_34 rfl j).1.trans (fa_36 j hj)
      have fa_167 : ∀ j, j < 13 → _ = P_w1 j := fun j hj => (hs.a gq_165 rfl j).1.trans (fa_167 j hj)
      have gq_2 := gq_2.S hs
      have gq_27 := gq_27.S hs
      have gq_29 := gq_29.S hs
      have gq_31 := gq_31.S hs
      have gq_34 := gq_34.S hs
      have gq_37 := gq_37.S hs
      have gq_39 := gq_39.S hs
      have gq_41 := gq_41.S hs
      have gq_44 := gq_44.S hs
      have gq_47 := gq_47.S hs
      have gq_50 := gq_50.S hs
      have gq_53 := gq_53.S hs
      have gq_55 := gq_55.S hs
      have gq_60 := gq_60.S hs
      have gq_163 := gq_163.S hs
      have gq_165 := gq_165.S hs
      have gq_168 := gq_168.S hs
      have gq_170 := gq_170.S hs
      have gq_172 := gq_172.S hs
      have gq_174 := gq_174.S hs
      have gq_176 := gq_176.S hs
      have gq_178 := gq_178.S hs
      have gq_180 := gq_180.S hs
      have gq_182 := gq_182.S hs
      have gq_184 := gq_184.S hs
      have gq_186 := gq_186.S hs
      have gq_188 := gq_188.S hs
      have gq_190 := gq_190.S hs
      have gq_192 := gq_192.S hs
      have heq : r_478 = r_486 := by
        first | exact hr_480.trans hr_488.symm | (rcases hr_480 with ⟨k1, k2⟩ | ⟨k1, k2⟩ <;> rcases hr_488 with ⟨k3, k4⟩ | ⟨k3, k4⟩ <;> first | exact k2.trans k4.symm | (exfalso; omega) | exact absurd k1 k3 | exact absurd k3 k1)
      refine hb_icmp_eq (zx := r_478.toInt) (zy := r_486.toInt) (tgt := 1379) hx hb rfl rfl dL_law_798 (by decide) (fun c_489 => ?_) (fun c_489 => absurd (congrArg Int32.toInt heq) c_489)
      exact law_tail hx hb hr hlocks hX hbl hbA hL7 _ _ hW.2.2.2.1 ls hl (Nat.le_of_ble_eq_true rfl) (Nat.le_of_ble_eq_true rfl)
    · skip
      refine lv_iconst (v := 1) hx hb dL_law_790 (by decide) ?_
      refine lv_goto (tgt := 795) hx hb dL_law_791 (by decide) ?_
      refine hx_goi (hx_runV (As := [.int (xs 1), .int (1 : Int32)]) (rest := [.int r_478]) ⟨hx, hb, hml, hown, hts⟩ hW gq_60 td_10 (T := TX10) (N := 98) rfl (c_X10_summons l dC dI dA L_476 h_477 H.size q_60 (xs 1) (1 : Int32) gq_60 f_97) (cwV 2 hts (hx_gV kw_1593 kw_1590 kw_1591 kw_1592 kw_103) rfl rfl rfl (by decide +kernel) ⟨Nat.le_of_ble_eq_true rfl, Nat.le_of_ble_eq_true rfl⟩) rfl hl.1 rfl (Nat.le_of_ble_eq_true rfl) dL_law_795 ⟨Nat.le_of_ble_eq_true rfl, Nat.le_of_ble_eq_true rfl⟩) hW (fun r_492 L_490 h_491 H locs p_493 hW => ?_)
      obtain ⟨hr_494, hs⟩ := p_493
      have hs : hx_S P_tb [] L_476 h_477 L_490 h_491 := hs
      have f_4 := (hs.o gq_2 trivial rfl).1.trans f_4
      have f_5 := (hs.o gq_2 trivial rfl).1.trans f_5
      have f_9 := (hs.o gq_2 trivial rfl).1.trans f_9
      have f_11 := (hs.o gq_2 trivial rfl).1.trans f_11
      have f_14 := (hs.o gq_2 trivial rfl).1.trans f_14
      have f_16 := (hs.o gq_2 trivial rfl).1.trans f_16
      have f_28 := (hs.o gq_2 trivial rfl).2.trans f_28
      have f_30 := (hs.o gq_2 trivial rfl).2.trans f_30
      have f_32 := (hs.o gq_2 trivial rfl).2.trans f_32
      have f_33 := (hs.o gq_31 trivial rfl).1.trans f_33
      have f_35 := (hs.o gq_31 trivial rfl).2.trans f_35
      have f_38 := (hs.o gq_2 trivial rfl).2.trans f_38
      have f_40 := (hs.o gq_2 trivial rfl).2.trans f_40
      have f_42 := (hs.o gq_2 trivial rfl).2.trans f_42
      have f_43 := (hs.o gq_41 trivial rfl).1.trans f_43
      have f_45 := (hs.o gq_2 trivial rfl).2.trans f_45
      have f_46 := (hs.o gq_44 trivial rfl).1.trans f_46
      have f_48 := (hs.o gq_2 trivial rfl).2.trans f_48
      have f_49 := (hs.o gq_47 trivial rfl).1.trans f_49
      have f_51 := (hs.o gq_2 trivial rfl).2.trans f_51
      have f_52 := (hs.o gq_50 trivial rfl).1.trans f_52
      have f_54 := (hs.o gq_50 trivial rfl).2.trans f_54
      have f_56 := (hs.o gq_2 trivial rfl).2.trans f_56
      have f_57 := (hs.o gq_55 trivial rfl).1.trans f_57
      have f_58 := (hs.o gq_55 trivial rfl).1.trans f_58
      have f_61 := (hs.o gq_60 trivial rfl).1.trans f_61
      have f_62 := (hs.o gq_60 trivial rfl).1.trans f_62
      have f_68 := (hs.o gq_60 trivial rfl).1.trans f_68
      have f_69 := (hs.o gq_60 trivial rfl).1.trans f_69
      have f_70 := (hs.o gq_60 trivial rfl).1.trans f_70
      have f_71 := (hs.o gq_60 trivial rfl).1.trans f_71
      have f_72 := (hs.o gq_60 trivial rfl).1.trans f_72
      have f_74 := (hs.o gq_60 trivial rfl).1.trans f_74
      have f_81 := (hs.o gq_60 trivial rfl).1.trans f_81
      have f_90 := (hs.o gq_60 trivial rfl).1.trans f_90
      have f_97 := (hs.o gq_60 trivial rfl).1.trans f_97
      have f_118 := (hs.o gq_60 trivial rfl).1.trans f_118
      have f_120 := (hs.o gq_60 trivial rfl).1.trans f_120
      have f_128 := (hs.o gq_60 trivial rfl).1.trans f_128
      have f_129 := (hs.o gq_60 trivial rfl).1.trans f_129
      have f_130 := (hs.o gq_60 trivial rfl).1.trans f_130
      have f_131 := (hs.o gq_60 trivial rfl).1.trans f_131
      have f_132 := (hs.o gq_60 trivial rfl).1.trans f_132
      have f_133 := (hs.o gq_60 trivial rfl).1.trans f_133
      have f_136 := (hs.o gq_60 trivial rfl).1.trans f_136
      have f_144 := (hs.o gq_60 trivial rfl).1.trans f_144
      have f_145 := (hs.o gq_60 trivial rfl).1.trans f_145
      have f_147 := (hs.o gq_60 trivial rfl).1.trans f_147
      have f_148 := (hs.o gq_60 trivial rfl).1.trans f_148
      have f_151 := (hs.o gq_60 trivial rfl).1.trans f_151
      have f_153 := (hs.o gq_60 trivial rfl).1.trans f_153
      have f_156 := (hs.o gq_60 trivial rfl).1.trans f_156
      have f_157 := (hs.o gq_60 trivial rfl).1.trans f_157
      have f_164 := (hs.o gq_60 trivial rfl).2.trans f_164
      have f_166 := (hs.o gq_60 trivial rfl).2.trans f_166
      have f_169 := (hs.o gq_60 trivial rfl).2.trans f_169
      have f_171 := (hs.o gq_60 trivial rfl).2.trans f_171
      have f_173 := (hs.o gq_60 trivial rfl).2.trans f_173
      have f_175 := (hs.o gq_60 trivial rfl).2.trans f_175
      have f_177 := (hs.o gq_60 trivial rfl).2.trans f_177
      have f_179 := (hs.o gq_60 trivial rfl).2.trans f_179
      have f_181 := (hs.o gq_60 trivial rfl).2.trans f_181
      have f_183 := (hs.o gq_60 trivial rfl).2.trans f_183
      have f_185 := (hs.o gq_60 trivial rfl).2.trans f_185
      have f_187 := (hs.o gq_60 trivial rfl).2.trans f_187
      have f_189 := (hs.o gq_60 trivial rfl).2.trans f_189
      have f_191 := (hs.o gq_60 trivial rfl).2.trans f_191
      have f_193 := (hs.o gq_60 trivial rfl).2.trans f_193
      have fa_36 : ∀ j, j < 14 → _ = P_wo j := fun j hj => (hs.a gq_34 rfl j).1.trans (fa_36 j hj)
      have fa_167 : ∀ j, j < 13 → _ = P_w1 j := fun j hj => (hs.a gq_165 rfl j).1.trans (fa_167 j hj)
      have gq_2 := gq_2.S hs
      have gq_27 := gq_27.S hs
      have gq_29 := gq_29.S hs
      have gq_31 := gq_31.S hs
      have gq_34 := gq_34.S hs
      have gq_37 := gq_37.S hs
      have gq_39 := gq_39.S hs
      have gq_41 := gq_41.S hs
      have gq_44 := gq_44.S hs
      have gq_47 := gq_47.S hs
      have gq_50 := gq_50.S hs
      have gq_53 := gq_53.S hs
      have gq_55 := gq_55.S hs
      have gq_60 := gq_60.S hs
      have gq_163 := gq_163.S hs
      have gq_165 := gq_165.S hs
      have gq_168 := gq_168.S hs
      have gq_170 := gq_170.S hs
      have gq_172 := gq_172.S hs
      have gq_174 := gq_174.S hs
      have gq_176 := gq_176.S hs
      have gq_178 := gq_178.S hs
      have gq_180 := gq_180.S hs
      have gq_182 := gq_182.S hs
      have gq_184 := gq_184.S hs
      have gq_186 := gq_186.S hs
      have gq_188 := gq_188.S hs
      have gq_190 := gq_190.S hs
      have gq_192 := gq_192.S hs
      have heq : r_478 = r_492 := by
        first | exact hr_480.trans hr_494.symm | (rcases hr_480 with ⟨k1, k2⟩ | ⟨k1, k2⟩ <;> rcases hr_494 with ⟨k3, k4⟩ | ⟨k3, k4⟩ <;> first | exact k2.trans k4.symm | (exfalso; omega) | exact absurd k1 k3 | exact absurd k3 k1)
      refine hb_icmp_eq (zx := r_478.toInt) (zy := r_492.toInt) (tgt := 1379) hx hb rfl rfl dL_law_798 (by decide) (fun c_495 => ?_) (fun c_495 => absurd (congrArg Int32.toInt heq) c_495)
      exact law_tail hx hb hr hlocks hX hbl hbA hL7 _ _ hW.2.2.2.1 ls hl (Nat.le_of_ble_eq_true rfl) (Nat.le_of_ble_eq_true rfl)

set_option maxHeartbeats 4000000 in
set_option maxRecDepth 100000 in
theorem law_case_13 {p : Program} {e : Env} {s : State} {m : MethodId} {below : List Frame} {meth : Method} {c : Code} (l : Launch) {b LN : Nat} {xs : Nat → Int32} (hx : p.tables.exec = Jvm.exec) (hb : c.code = code) (hr : meth.sig.returnType = ret) (hlocks : meth.locks = false) (hml : c.maxLocals = 4) (hown : s.vm.findClass "SmallCourtLaw" = some m.cls) (hts : ∀ w ∈ hx_all, w.before #[Value.ref b] s = true) (hX : va_X b LN xs s s.heap) (hbl : b < s.heap.size) (hbA : ¬ s.heap.size ≤ b) (hL7 : LN = 7) (dC : Nat → ClassId) (dI : Nat → Nat → Nat) (dA : Nat → ClassId) (b0 : Nat) (q_2 q_27 q_29 q_31 q_34 q_37 q_39 q_41 q_44 q_47 q_50 q_53 q_55 q_60 q_163 q_165 q_168 q_170 q_172 q_174 q_176 q_178 q_180 q_182 q_184 q_186 q_188 q_190 q_192 : Nat) (L1 : List Nat) (hl1 : hx_h) (H : Heap) (locs : List Loc) (ls : Array Slot) (hW : hx_W P_tb (P_ty dA) (dC, dI) vwCl (fun q : Nat => s.heap.size ≤ q) s.heap L1 hl1 s H locs) (hZ : hx_Xt (fun q : Nat => s.heap.size ≤ q) b0 s) (f_4 : hl1.2.1 q_2 1 = (0 : Int32)) (f_5 : hl1.2.1 q_2 2 = (0 : Int32)) (f_9 : hl1.2.1 q_2 6 = (0 : Int32)) (f_11 : hl1.2.1 q_2 8 = (0 : Int32)) (f_14 : hl1.2.1 q_2 11 = (0 : Int32)) (f_16 : hl1.2.1 q_2 13 = (0 : Int32)) (f_28 : hl1.2.2 q_2 0 = some q_27) (f_30 : hl1.2.2 q_2 3 = some q_29) (f_32 : hl1.2.2 q_2 4 = some q_31) (f_33 : hl1.2.1 q_31 0 = (-1 : Int32)) (f_35 : hl1.2.2 q_31 2 = some q_34) (f_38 : hl1.2.2 q_2 5 = some q_37) (f_40 : hl1.2.2 q_2 7 = some q_39) (f_42 : hl1.2.2 q_2 9 = some q_41) (f_43 : hl1.2.1 q_41 0 = (0 : Int32)) (f_45 : hl1.2.2 q_2 14 = some q_44) (f_46 : hl1.2.1 q_44 0 = (0 : Int32)) (f_48 : hl1.2.2 q_2 17 = some q_47) (f_49 : hl1.2.1 q_47 1 = (0 : Int32)) (f_51 : hl1.2.2 q_2 18 = some q_50) (f_52 : hl1.2.1 q_50 0 = (-1 : Int32)) (f_54 : hl1.2.2 q_50 5 = some q_53) (f_56 : hl1.2.2 q_2 19 = some q_55) (f_57 : hl1.2.1 q_55 0 = (0 : Int32)) (f_58 : hl1.2.1 q_55 1 = (0 : Int32)) (f_61 : hl1.2.1 q_60 0 = (0 : Int32)) (f_62 : hl1.2.1 q_60 1 = (0 : Int32)) (f_68 : hl1.2.1 q_60 7 = (0 : Int32)) (f_69 : hl1.2.1 q_60 8 = (0 : Int32)) (f_70 : hl1.2.1 q_60 9 = (0 : Int32)) (f_71 : hl1.2.1 q_60 10 = (0 : Int32)) (f_72 : hl1.2.1 q_60 11 = (0 : Int32)) (f_74 : hl1.2.1 q_60 13 = (0 : Int32)) (f_81 : hl1.2.1 q_60 20 = (0 : Int32)) (f_90 : hl1.2.1 q_60 29 = (0 : Int32)) (f_97 : hl1.2.1 q_60 36 = (0 : Int32)) (f_118 : hl1.2.1 q_60 57 = (0 : Int32)) (f_120 : hl1.2.1 q_60 59 = (0 : Int32)) (f_128 : hl1.2.1 q_60 67 = (0 : Int32)) (f_129 : hl1.2.1 q_60 68 = (0 : Int32)) (f_130 : hl1.2.1 q_60 69 = (0 : Int32)) (f_131 : hl1.2.1 q_60 70 = (0 : Int32)) (f_132 : hl1.2.1 q_60 71 = (0 : Int32)) (f_133 : hl1.2.1 q_60 72 = (0 : Int32)) (f_136 : hl1.2.1 q_60 75 = (0 : Int32)) (f_144 : hl1.2.1 q_60 83 = (0 : Int32)) (f_145 : hl1.2.1 q_60 84 = (0 : Int32)) (f_147 : hl1.2.1 q_60 86 = (0 : Int32)) (f_148 : hl1.2.1 q_60 87 = (0 : Int32)) (f_151 : hl1.2.1 q_60 90 = (0 : Int32)) (f_153 : hl1.2.1 q_60 92 = (0 : Int32)) (f_156 : hl1.2.1 q_60 95 = (0 : Int32)) (f_157 : hl1.2.1 q_60 96 = (0 : Int32)) (f_164 : hl1.2.2 q_60 2 = some q_163) (f_166 : hl1.2.2 q_60 3 = some q_165) (f_169 : hl1.2.2 q_60 4 = some q_168) (f_171 : hl1.2.2 q_60 5 = some q_170) (f_173 : hl1.2.2 q_60 6 = some q_172) (f_175 : hl1.2.2 q_60 12 = some q_174) (f_177 : hl1.2.2 q_60 15 = some q_176) (f_179 : hl1.2.2 q_60 21 = some q_178) (f_181 : hl1.2.2 q_60 22 = some q_180) (f_183 : hl1.2.2 q_60 23 = some q_182) (f_185 : hl1.2.2 q_60 24 = some q_184) (f_187 : hl1.2.2 q_60 25 = some q_186) (f_189 : hl1.2.2 q_60 26 = some q_188) (f_191 : hl1.2.2 q_60 82 = some q_190) (f_193 : hl1.2.2 q_60 94 = some q_192) (fa_36 : ∀ j, j < 14 → hl1.2.1 q_34 j = P_wo j) (fa_167 : ∀ j, j < 13 → hl1.2.1 q_165 j = P_w1 j) (gq_2 : hx_g L1 hl1 q_2 9) (gq_27 : hx_g L1 hl1 q_27 42) (gq_29 : hx_g L1 hl1 q_29 6) (gq_31 : hx_g L1 hl1 q_31 0) (gq_34 : hx_g L1 hl1 q_34 11) (gq_37 : hx_g L1 hl1 q_37 43) (gq_39 : hx_g L1 hl1 q_39 44) (gq_41 : hx_g L1 hl1 q_41 1) (gq_44 : hx_g L1 hl1 q_44 3) (gq_47 : hx_g L1 hl1 q_47 5) (gq_50 : hx_g L1 hl1 q_50 7) (gq_53 : hx_g L1 hl1 q_53 36) (gq_55 : hx_g L1 hl1 q_55 8) (gq_60 : hx_g L1 hl1 q_60 10) (gq_163 : hx_g L1 hl1 q_163 49) (gq_165 : hx_g L1 hl1 q_165 50) (gq_168 : hx_g L1 hl1 q_168 51) (gq_170 : hx_g L1 hl1 q_170 52) (gq_172 : hx_g L1 hl1 q_172 53) (gq_174 : hx_g L1 hl1 q_174 54) (gq_176 : hx_g L1 hl1 q_176 55) (gq_178 : hx_g L1 hl1 q_178 58) (gq_180 : hx_g L1 hl1 q_180 59) (gq_182 : hx_g L1 hl1 q_182 60) (gq_184 : hx_g L1 hl1 q_184 61) (gq_186 : hx_g L1 hl1 q_186 62) (gq_188 : hx_g L1 hl1 q_188 63) (gq_190 : hx_g L1 hl1 q_190 108) (gq_192 : hx_g L1 hl1 q_192 114) (hl : lv_has ls 4 [(3, .int (0 : Int32)), (2, .ref q_60), (1, .ref q_2), (0, .ref b)]) : W p l e room_1 s m #[Value.ref b] below meth c H locs 112 26072 (lw_Z below #[Value.ref b] s) (F0 m 803 ls []) := by
  refine lv_aload_n hx hb dL_law_803 rfl (lv_at hl 2 rfl) ?_
  refine lv_aload_n hx hb dL_law_804 rfl (lv_at hl 3 rfl) ?_
  refine lv_iload_n hx hb dL_law_805 rfl (lv_at hl 0 rfl) ?_
  refine lv_iconst (v := 1) hx hb dL_law_806 (by decide) ?_
  refine lv_iadd hx hb dL_law_807 ?_
  refine lv_topi (fun x_496 ex_496 => ?_)
  obtain rfl : x_496 = (1 : Int32) := ex_496.trans (by decide)
  refine va_sld hx hb hX hbl hbA hW.2.2.2.1 (vp_in_iff.mpr (by rw [hL7]; decide)) dL_law_808 ?_
  rw [show (1 : Int32).toNatClampNeg = 1 from by decide]
  refine lv_aload_n hx hb dL_law_809 rfl (lv_at hl 3 rfl) ?_
  refine lv_iload_n hx hb dL_law_810 rfl (lv_at hl 0 rfl) ?_
  refine lv_iconst (v := 2) hx hb dL_law_811 (by decide) ?_
  refine lv_iadd hx hb dL_law_812 ?_
  refine lv_topi (fun x_497 ex_497 => ?_)
  obtain rfl : x_497 = (2 : Int32) := ex_497.trans (by decide)
  refine va_sld hx hb hX hbl hbA hW.2.2.2.1 (vp_in_iff.mpr (by rw [hL7]; decide)) dL_law_813 ?_
  rw [show (2 : Int32).toNatClampNeg = 2 from by decide]
  refine hb_if_eq (zx := (xs 2).toInt) (tgt := 821) hx hb rfl dL_law_814 (by decide) (fun c_498 => ?_) (fun c_498 => ?_)
  · skip
    refine lv_iconst (v := 0) hx hb dL_law_821 (by decide) ?_
    refine lv_aload_n hx hb dL_law_822 rfl (lv_at hl 3 rfl) ?_
    refine lv_iload_n hx hb dL_law_823 rfl (lv_at hl 0 rfl) ?_
    refine lv_iconst (v := 3) hx hb dL_law_824 (by decide) ?_
    refine lv_iadd hx hb dL_law_825 ?_
    refine lv_topi (fun x_499 ex_499 => ?_)
    obtain rfl : x_499 = (3 : Int32) := ex_499.trans (by decide)
    refine va_sld hx hb hX hbl hbA hW.2.2.2.1 (vp_in_iff.mpr (by rw [hL7]; decide)) dL_law_826 ?_
    rw [show (3 : Int32).toNatClampNeg = 3 from by decide]
    refine hb_if_eq (zx := (xs 3).toInt) (tgt := 834) hx hb rfl dL_law_827 (by decide) (fun c_500 => ?_) (fun c_500 => ?_)
    · skip
      refine lv_iconst (v := 0) hx hb dL_law_834 (by decide) ?_
      refine lv_aload_n hx hb dL_law_835 rfl (lv_at hl 3 rfl) ?_
      refine lv_iload_n hx hb dL_law_836 rfl (lv_at hl 0 rfl) ?_
      refine lv_iconst (v := 4) hx hb dL_law_837 (by decide) ?_
      refine lv_iadd hx hb dL_law_838 ?_
      refine lv_topi (fun x_501 ex_501 => ?_)
      obtain rfl : x_501 = (4 : Int32) := ex_501.trans (by decide)
      refine va_sld hx hb hX hbl hbA hW.2.2.2.1 (vp_in_iff.mpr (by rw [hL7]; decide)) dL_law_839 ?_
      rw [show (4 : Int32).toNatClampNeg = 4 from by decide]
      refine hx_goi (hx_runV (As := [.int (xs 1), .int (0 : Int32), .int (0 : Int32), .int (xs 4)]) (rest := []) ⟨hx, hb, hml, hown, hts⟩ hW gq_2 td_9 (T := TX9) (N := 20) rfl (c_X9_hear l dC dI dA L1 hl1 H.size q_2 (xs 1) (0 : Int32) (0 : Int32) (xs 4) gq_2 f_14) (cwV 4 hts (hx_gV kw_814 kw_811 kw_812 kw_813 kw_94) rfl rfl rfl (by decide +kernel) ⟨Nat.le_of_ble_eq_true rfl, Nat.le_of_ble_eq_true rfl⟩) rfl hl.1 rfl (Nat.le_of_ble_eq_true rfl) dL_law_840 ⟨Nat.le_of_ble_eq_true rfl, Nat.le_of_ble_eq_true rfl⟩) hW (fun r_504 L_502 h_503 H locs p_505 hW => ?_)
      obtain ⟨hr_506, hs⟩ := p_505
      have hs : hx_S P_tb [] L1 hl1 L_502 h_503 := hs
      have f_4 := (hs.o gq_2 trivial rfl).1.trans f_4
      have f_5 := (hs.o gq_2 trivial rfl).1.trans f_5
      have f_9 := (hs.o gq_2 trivial rfl).1.trans f_9
      have f_11 := (hs.o gq_2 trivial rfl).1.trans f_11
      have f_14 := (hs.o gq_2 trivial rfl).1.trans f_14
      have f_16 := (hs.o gq_2 trivial rfl).1.trans f_16
      have f_28 := (hs.o gq_2 trivial rfl).2.trans f_28
      have f_30 := (hs.o gq_2 trivial rfl).2.trans f_30
      have f_32 := (hs.o gq_2 trivial rfl).2.trans f_32
      have f_33 := (hs.o gq_31 trivial rfl).1.trans f_33
      have f_35 := (hs.o gq_31 trivial rfl).2.trans f_35
      have f_38 := (hs.o gq_2 trivial rfl).2.trans f_38
      have f_40 := (hs.o gq_2 trivial rfl).2.trans f_40
      have f_42 := (hs.o gq_2 trivial rfl).2.trans f_42
      have f_43 := (hs.o gq_41 trivial rfl).1.trans f_43
      have f_45 := (hs.o gq_2 trivial rfl).2.trans f_45
      have f_46 := (hs.o gq_44 trivial rfl).1.trans f_46
      have f_48 := (hs.o gq_2 trivial rfl).2.trans f_48
      have f_49 := (hs.o gq_47 trivial rfl).1.trans f_49
      have f_51 := (hs.o gq_2 trivial rfl).2.trans f_51
      have f_52 := (hs.o gq_50 trivial rfl).1.trans f_52
      have f_54 := (hs.o gq_50 trivial rfl).2.trans f_54
      have f_56 := (hs.o gq_2 trivial rfl).2.trans f_56
      have f_57 := (hs.o gq_55 trivial rfl).1.trans f_57
      have f_58 := (hs.o gq_55 trivial rfl).1.trans f_58
      have f_61 := (hs.o gq_60 trivial rfl).1.trans f_61
      have f_62 := (hs.o gq_60 trivial rfl).1.trans f_62
      have f_68 := (hs.o gq_60 trivial rfl).1.trans f_68
      have f_69 := (hs.o gq_60 trivial rfl).1.trans f_69
      have f_70 := (hs.o gq_60 trivial rfl).1.trans f_70
      have f_71 := (hs.o gq_60 trivial rfl).1.trans f_71
      have f_72 := (hs.o gq_60 trivial rfl).1.trans f_72
      have f_74 := (hs.o gq_60 trivial rfl).1.trans f_74
      have f_81 := (hs.o gq_60 trivial rfl).1.trans f_81
      have f_90 := (hs.o gq_60 trivial rfl).1.trans f_90
      have f_97 := (hs.o gq_60 trivial rfl).1.trans f_97
      have f_118 := (hs.o gq_60 trivial rfl).1.trans f_118
      have f_120 := (hs.o gq_60 trivial rfl).1.trans f_120
      have f_128 := (hs.o gq_60 trivial rfl).1.trans f_128
      have f_129 := (hs.o gq_60 trivial rfl).1.trans f_129
      have f_130 := (hs.o gq_60 trivial rfl).1.trans f_130
      have f_131 := (hs.o gq_60 trivial rfl).1.trans f_131
      have f_132 := (hs.o gq_60 trivial rfl).1.trans f_132
      have f_133 := (hs.o gq_60 trivial rfl).1.trans f_133
      have f_136 := (hs.o gq_60 trivial rfl).1.trans f_136
      have f_144 := (hs.o gq_60 trivial rfl).1.trans f_144
      have f_145 := (hs.o gq_60 trivial rfl).1.trans f_145
      have f_147 := (hs.o gq_60 trivial rfl).1.trans f_147
      have f_148 := (hs.o gq_60 trivial rfl).1.trans f_148
      have f_151 := (hs.o gq_60 trivial rfl).1.trans f_151
      have f_153 := (hs.o gq_60 trivial rfl).1.trans f_153
      have f_156 := (hs.o gq_60 trivial rfl).1.trans f_156
      have f_157 := (hs.o gq_60 trivial rfl).1.trans f_157
      have f_164 := (hs.o gq_60 trivial rfl).2.trans f_164
      have f_166 := (hs.o gq_60 trivial rfl).2.trans f_166
      have f_169 := (hs.o gq_60 trivial rfl).2.trans f_169
      have f_171 := (hs.o gq_60 trivial rfl).2.trans f_171
      have f_173 := (hs.o gq_60 trivial rfl).2.trans f_173
      have f_175 := (hs.o gq_60 trivial rfl).2.trans f_175
      have f_177 := (hs.o gq_60 trivial rfl).2.trans f_177
      have f_179 := (hs.o gq_60 trivial rfl).2.trans f_179
      have f_181 := (hs.o gq_60 trivial rfl).2.trans f_181
      have f_183 := (hs.o gq_60 trivial rfl).2.trans f_183
      have f_185 := (hs.o gq_60 trivial rfl).2.trans f_185
      have f_187 := (hs.o gq_60 trivial rfl).2.trans f_187
      have f_189 := (hs.o gq_60 trivial rfl).2.trans f_189
      have f_191 := (hs.o gq_60 trivial rfl).2.trans f_191
      have f_193 := (hs.o gq_60 trivial rfl).2.trans f_193
      have fa_36 : ∀ j, j < 14 → _ = P_wo j := fun j hj => (hs.a gq_34 rfl j).1.trans (fa_36 j hj)
      have fa_167 : ∀ j, j < 13 → _ = P_w1 j := fun j hj => (hs.a gq_165 rfl j).1.trans (fa_167 j hj)
      have gq_2 := gq_2.S hs
      have gq_27 := gq_27.S hs
      have gq_29 := gq_29.S hs
      have gq_31 := gq_31.S hs
      have gq_34 := gq_34.S hs
      have gq_37 := gq_37.S hs
      have gq_39 := gq_39.S hs
      have gq_41 := gq_41.S hs
      have gq_44 := gq_44.S hs
      have gq_47 := gq_47.S hs
      have gq_50 := gq_50.S hs
      have gq_53 := gq_53.S hs
      have gq_55 := gq_55.S hs
      have gq_60 := gq_60.S hs
      have gq_163 := gq_163.S hs
      have gq_165 := gq_165.S hs
      have gq_168 := gq_168.S hs
      have gq_170 := gq_170.S hs
      have gq_172 := gq_172.S hs
      have gq_174 := gq_174.S hs
      have gq_176 := gq_176.S hs
      have gq_178 := gq_178.S hs
      have gq_180 := gq_180.S hs
      have gq_182 := gq_182.S hs
      have gq_184 := gq_184.S hs
      have gq_186 := gq_186.S hs
      have gq_188 := gq_188.S hs
      have gq_190 := gq_190.S hs
      have gq_192 := gq_192.S hs
      refine lv_aload_n hx hb dL_law_843 rfl (lv_at hl 1 rfl) ?_
      refine lv_aload_n hx hb dL_law_844 rfl (lv_at hl 3 rfl) ?_
      refine lv_iload_n hx hb dL_law_845 rfl (lv_at hl 0 rfl) ?_
      refine lv_iconst (v := 1) hx hb dL_law_846 (by decide) ?_
      refine lv_iadd hx hb dL_law_847 ?_
      refine lv_topi (fun x_507 ex_507 => ?_)
      obtain rfl : x_507 = (1 : Int32) := ex_507.trans (by decide)
      refine va_sld hx hb hX hbl hbA hW.2.2.2.1 (vp_in_iff.mpr (by rw [hL7]; decide)) dL_law_848 ?_
      rw [show (1 : Int32).toNatClampNeg = 1 from by decide]
      refine lv_aload_n hx hb dL_law_849 rfl (lv_at hl 3 rfl) ?_
      refine lv_iload_n hx hb dL_law_850 rfl (lv_at hl 0 rfl) ?_
      refine lv_iconst (v := 2) hx hb dL_law_851 (by decide) ?_
      refine lv_iadd hx hb dL_law_852 ?_
      refine lv_topi (fun x_508 ex_508 => ?_)
      obtain rfl : x_508 = (2 : Int32) := ex_508.trans (by decide)
      refine va_sld hx hb hX hbl hbA hW.2.2.2.1 (vp_in_iff.mpr (by rw [hL7]; decide)) dL_law_853 ?_
      rw [show (2 : Int32).toNatClampNeg = 2 from by decide]
      refine hb_if_eq (zx := (xs 2).toInt) (tgt := 861) hx hb rfl dL_law_854 (by decide) (fun c_509 => ?_) (fun c_509 => by exfalso; omega)
      refine lv_iconst (v := 0) hx hb dL_law_861 (by decide) ?_
      refine lv_aload_n hx hb dL_law_862 rfl (lv_at hl 3 rfl) ?_
      refine lv_iload_n hx hb dL_law_863 rfl (lv_at hl 0 rfl) ?_
      refine lv_iconst (v := 3) hx hb dL_law_864 (by decide) ?_
      refine lv_iadd hx hb dL_law_865 ?_
      refine lv_topi (fun x_510 ex_510 => ?_)
      obtain rfl : x_510 = (3 : Int32) := ex_510.trans (by decide)
      refine va_sld hx hb hX hbl hbA hW.2.2.2.1 (vp_in_iff.mpr (by rw [hL7]; decide)) dL_law_866 ?_
      rw [show (3 : Int32).toNatClampNeg = 3 from by decide]
      refine hb_if_eq (zx := (xs 3).toInt) (tgt := 874) hx hb rfl dL_law_867 (by decide) (fun c_511 => ?_) (fun c_511 => by exfalso; omega)
      refine lv_iconst (v := 0) hx hb dL_law_874 (by decide) ?_
      refine lv_aload_n hx hb dL_law_875 rfl (lv_at hl 3 rfl) ?_
      refine lv_iload_n hx hb dL_law_876 rfl (lv_at hl 0 rfl) ?_
      refine lv_iconst (v := 4) hx hb dL_law_877 (by decide) ?_
      refine lv_iadd hx hb dL_law_878 ?_
      refine lv_topi (fun x_512 ex_512 => ?_)
      obtain rfl : x_512 = (4 : Int32) := ex_512.trans (by decide)
      refine va_sld hx hb hX hbl hbA hW.2.2.2.1 (vp_in_iff.mpr (by rw [hL7]; decide)) dL_law_879 ?_
      rw [show (4 : Int32).toNatClampNeg = 4 from by decide]
      refine hx_goi (hx_runV (As := [.int (xs 1), .int (0 : Int32), .int (0 : Int32), .int (xs 4)]) (rest := [.int r_504]) ⟨hx, hb, hml, hown, hts⟩ hW gq_60 td_10 (T := TX10) (N := 98) rfl (c_X10_hear l dC dI dA L_502 h_503 H.size q_60 (xs 1) (0 : Int32) (0 : Int32) (xs 4) gq_60 f_97) (cwV 4 hts (hx_gV kw_1601 kw_1598 kw_1599 kw_1600 kw_103) rfl rfl rfl (by decide +kernel) ⟨Nat.le_of_ble_eq_true rfl, Nat.le_of_ble_eq_true rfl⟩) rfl hl.1 rfl (Nat.le_of_ble_eq_true rfl) dL_law_880 ⟨Nat.le_of_ble_eq_true rfl, Nat.le_of_ble_eq_true rfl⟩) hW (fun r_515 L_513 h_514 H locs p_516 hW => ?_)
      obtain ⟨hr_517, hs⟩ := p_516
      have hs : hx_S P_tb [] L_502 h_503 L_513 h_514 := hs
      have f_4 := (hs.o gq_2 trivial rfl).1.trans f_4
      have f_5 := (hs.o gq_2 trivial rfl).1.trans f_5
      have f_9 := (hs.o gq_2 trivial rfl).1.trans f_9
      have f_11 := (hs.o gq_2 trivial rfl).1.trans f_11
      have f_14 := (hs.o gq_2 trivial rfl).1.trans f_14
      have f_16 := (hs.o gq_2 trivial rfl).1.trans f_16
      have f_28 := (hs.o gq_2 trivial rfl).2.trans f_28
      have f_30 := (hs.o gq_2 trivial rfl).2.trans f_30
      have f_32 := (hs.o gq_2 trivial rfl).2.trans f_32
      have f_33 := (hs.o gq_31 trivial rfl).1.trans f_33
      have f_35 := (hs.o gq_31 trivial rfl).2.trans f_35
      have f_38 := (hs.o gq_2 trivial rfl).2.trans f_38
      have f_40 := (hs.o gq_2 trivial rfl).2.trans f_40
      have f_42 := (hs.o gq_2 trivial rfl).2.trans f_42
      have f_43 := (hs.o gq_41 trivial rfl).1.trans f_43
      have f_45 := (hs.o gq_2 trivial rfl).2.trans f_45
      have f_46 := (hs.o gq_44 trivial rfl).1.trans f_46
      have f_48 := (hs.o gq_2 trivial rfl).2.trans f_48
      have f_49 := (hs.o gq_47 trivial rfl).1.trans f_49
      have f_51 := (hs.o gq_2 trivial rfl).2.trans f_51
      have f_52 := (hs.o gq_50 trivial rfl).1.trans f_52
      have f_54 := (hs.o gq_50 trivial rfl).2.trans f_54
      have f_56 := (hs.o gq_2 trivial rfl).2.trans f_56
      have f_57 := (hs.o gq_55 trivial rfl).1.trans f_57
      have f_58 := (hs.o gq_55 trivial rfl).1.trans f_58
      have f_61 := (hs.o gq_60 trivial rfl).1.trans f_61
      have f_62 := (hs.o gq_60 trivial rfl).1.trans f_62
      have f_68 := (hs.o gq_60 trivial rfl).1.trans f_68
      have f_69 := (hs.o gq_60 trivial rfl).1.trans f_69
      have f_70 := (hs.o gq_60 trivial rfl).1.trans f_70
      have f_71 := (hs.o gq_60 trivial rfl).1.trans f_71
      have f_72 := (hs.o gq_60 trivial rfl).1.trans f_72
      have f_74 := (hs.o gq_60 trivial rfl).1.trans f_74
      have f_81 := (hs.o gq_60 trivial rfl).1.trans f_81
      have f_90 := (hs.o gq_60 trivial rfl).1.trans f_90
      have f_97 := (hs.o gq_60 trivial rfl).1.trans f_97
      have f_118 := (hs.o gq_60 trivial rfl).1.trans f_118
      have f_120 := (hs.o gq_60 trivial rfl).1.trans f_120
      have f_128 := (hs.o gq_60 trivial rfl).1.trans f_128
      have f_129 := (hs.o gq_60 trivial rfl).1.trans f_129
      have f_130 := (hs.o gq_60 trivial rfl).1.trans f_130
      have f_131 := (hs.o gq_60 trivial rfl).1.trans f_131
      have f_132 := (hs.o gq_60 trivial rfl).1.trans f_132
      have f_133 := (hs.o gq_60 trivial rfl).1.trans f_133
      have f_136 := (hs.o gq_60 trivial rfl).1.trans f_136
      have f_144 := (hs.o gq_60 trivial rfl).1.trans f_144
      have f_145 := (hs.o gq_60 trivial rfl).1.trans f_145
      have f_147 := (hs.o gq_60 trivial rfl).1.trans f_147
      have f_148 := (hs.o gq_60 trivial rfl).1.trans f_148
      have f_151 := (hs.o gq_60 trivial rfl).1.trans f_151
      have f_153 := (hs.o gq_60 trivial rfl).1.trans f_153
      have f_156 := (hs.o gq_60 trivial rfl).1.trans f_156
      have f_157 := (hs.o gq_60 trivial rfl).1.trans f_157
      have f_164 := (hs.o gq_60 trivial rfl).2.trans f_164
      have f_166 := (hs.o gq_60 trivial rfl).2.trans f_166
      have f_169 := (hs.o gq_60 trivial rfl).2.trans f_169
      have f_171 := (hs.o gq_60 trivial rfl).2.trans f_171
      have f_173 := (hs.o gq_60 trivial rfl).2.trans f_173
      have f_175 := (hs.o gq_60 trivial rfl).2.trans f_175
      have f_177 := (hs.o gq_60 trivial rfl).2.trans f_177
      have f_179 := (hs.o gq_60 trivial rfl).2.trans f_179
      have f_181 := (hs.o gq_60 trivial rfl).2.trans f_181
      have f_183 := (hs.o gq_60 trivial rfl).2.trans f_183
      have f_185 := (hs.o gq_60 trivial rfl).2.trans f_185
      have f_187 := (hs.o gq_60 trivial rfl).2.trans f_187
      have f_189 := (hs.o gq_60 trivial rfl).2.trans f_189
      have f_191 := (hs.o gq_60 trivial rfl).2.trans f_191
      have f_193 := (hs.o gq_60 trivial rfl).2.trans f_193
      have fa_36 : ∀ j, j < 14 → _ = P_wo j := fun j hj => (hs.a gq_34 rfl j).1.trans (fa_36 j hj)
      have fa_167 : ∀ j, j < 13 → _ = P_w1 j := fun j hj => (hs.a gq_165 rfl j).1.trans (fa_167 j hj)
      have gq_2 := gq_2.S hs
      have gq_27 := gq_27.S hs
      have gq_29 := gq_29.S hs
      have gq_31 := gq_31.S hs
      have gq_34 := gq_34.S hs
      have gq_37 := gq_37.S hs
      have gq_39 := gq_39.S hs
      have gq_41 := gq_41.S hs
      have gq_44 := gq_44.S hs
      have gq_47 := gq_47.S hs
      have gq_50 := gq_50.S hs
      have gq_53 := gq_53.S hs
      have gq_55 := gq_55.S hs
      have gq_60 := gq_60.S hs
      have gq_163 := gq_163.S hs
      have gq_165 := gq_165.S hs
      have gq_168 := gq_168.S hs
      have gq_170 := gq_170.S hs
      have gq_172 := gq_172.S hs
      have gq_174 := gq_174.S hs
      have gq_176 := gq_176.S hs
      have gq_178 := gq_178.S hs
      have gq_180 := gq_180.S hs
      have gq_182 := gq_182.S hs
      have gq_184 := gq_184.S hs
      have gq_186 := gq_186.S hs
      have gq_188 := gq_188.S hs
      have gq_190 := gq_190.S hs
      have gq_192 := gq_192.S hs
      have heq : r_504 = r_515 := by
        first | exact hr_506.trans hr_517.symm | (rcases hr_506 with ⟨k1, k2⟩ | ⟨k1, k2⟩ <;> rcases hr_517 with ⟨k3, k4⟩ | ⟨k3, k4⟩ <;> first | exact k2.trans k4.symm | (exfalso; omega) | exact absurd k1 k3 | exact absurd k3 k1)
      refine hb_icmp_eq (zx := r_504.toInt) (zy := r_515.toInt) (tgt := 1379) hx hb rfl rfl dL_law_883 (by decide) (fun c_518 => ?_) (fun c_518 => absurd (congrArg Int32.toInt heq) c_518)
      exact law_tail hx hb hr hlocks hX hbl hbA hL7 _ _ hW.2.2.2.1 ls hl (Nat.le_of_ble_eq_true rfl) (Nat.le_of_ble_eq_true rfl)
    · skip
      refine lv_iconst (v := 1) hx hb dL_law_830 (by decide) ?_
      refine lv_goto (tgt := 835) hx hb dL_law_831 (by decide) ?_
      refine lv_aload_n hx hb dL_law_835 rfl (lv_at hl 3 rfl) ?_
      refine lv_iload_n hx hb dL_law_836 rfl (lv_at hl 0 rfl) ?_
      refine lv_iconst (v := 4) hx hb dL_law_837 (by decide) ?_
      refine lv_iadd hx hb dL_law_838 ?_
      refine lv_topi (fun x_519 ex_519 => ?_)
      obtain rfl : x_519 = (4 : Int32) := ex_519.trans (by decide)
      refine va_sld hx hb hX hbl hbA hW.2.2.2.1 (vp_in_iff.mpr (by rw [hL7]; decide)) dL_law_839 ?_
      rw [show (4 : Int32).toNatClampNeg = 4 from by decide]
      refine hx_goi (hx_runV (As := [.int (xs 1), .int (0 : Int32), .int (1 : Int32), .int (xs 4)]) (rest := []) ⟨hx, hb, hml, hown, hts⟩ hW gq_2 td_9 (T := TX9) (N := 20) rfl (c_X9_hear l dC dI dA L1 hl1 H.size q_2 (xs 1) (0 : Int32) (1 : Int32) (xs 4) gq_2 f_14) (cwV 4 hts (hx_gV kw_814 kw_811 kw_812 kw_813 kw_94) rfl rfl rfl (by decide +kernel) ⟨Nat.le_of_ble_eq_true rfl, Nat.le_of_ble_eq_true rfl⟩) rfl hl.1 rfl (Nat.le_of_ble_eq_true rfl) dL_law_840 ⟨Nat.le_of_ble_eq_true rfl, Nat.le_of_ble_eq_true rfl⟩) hW (fun r_522 L_520 h_521 H locs p_523 hW => ?_)
      obtain ⟨hr_524, hs⟩ := p_523
      have hs : hx_S P_tb [] L1 hl1 L_520 h_521 := hs
      have f_4 := (hs.o gq_2 trivial rfl).1.trans f_4
      have f_5 := (hs.o gq_2 trivial rfl).1.trans f_5
      have f_9 := (hs.o gq_2 trivial rfl).1.trans f_9
      have f_11 := (hs.o gq_2 trivial rfl).1.trans f_11
      have f_14 := (hs.o gq_2 trivial rfl).1.trans f_14
      have f_16 := (hs.o gq_2 trivial rfl).1.trans f_16
      have f_28 := (hs.o gq_2 trivial rfl).2.trans f_28
      have f_30 := (hs.o gq_2 trivial rfl).2.trans f_30
      have f_32 := (hs.o gq_2 trivial rfl).2.trans f_32
      have f_33 := (hs.o gq_31 trivial rfl).1.trans f_33
      have f_35 := (hs.o gq_31 trivial rfl).2.trans f_35
      have f_38 := (hs.o gq_2 trivial rfl).2.trans f_38
      have f_40 := (hs.o gq_2 trivial rfl).2.trans f_40
      have f_42 := (hs.o gq_2 trivial rfl).2.trans f_42
      have f_43 := (hs.o gq_41 trivial rfl).1.trans f_43
      have f_45 := (hs.o gq_2 trivial rfl).2.trans f_45
      have f_46 := (hs.o gq_44 trivial rfl).1.trans f_46
      have f_48 := (hs.o gq_2 trivial rfl).2.trans f_48
      have f_49 := (hs.o gq_47 trivial rfl).1.trans f_49
      have f_51 := (hs.o gq_2 trivial rfl).2.trans f_51
      have f_52 := (hs.o gq_50 trivial rfl).1.trans f_52
      have f_54 := (hs.o gq_50 trivial rfl).2.trans f_54
      have f_56 := (hs.o gq_2 trivial rfl).2.trans f_56
      have f_57 := (hs.o gq_55 trivial rfl).1.trans f_57
      have f_58 := (hs.o gq_55 trivial rfl).1.trans f_58
      have f_61 := (hs.o gq_60 trivial rfl).1.trans f_61
      have f_62 := (hs.o gq_60 trivial rfl).1.trans f_62
      have f_68 := (hs.o gq_60 trivial rfl).1.trans f_68
      have f_69 := (hs.o gq_60 trivial rfl).1.trans f_69
      have f_70 := (hs.o gq_60 trivial rfl).1.trans f_70
      have f_71 := (hs.o gq_60 trivial rfl).1.trans f_71
      have f_72 := (hs.o gq_60 trivial rfl).1.trans f_72
      have f_74 := (hs.o gq_60 trivial rfl).1.trans f_74
      have f_81 := (hs.o gq_60 trivial rfl).1.trans f_81
      have f_90 := (hs.o gq_60 trivial rfl).1.trans f_90
      have f_97 := (hs.o gq_60 trivial rfl).1.trans f_97
      have f_118 := (hs.o gq_60 trivial rfl).1.trans f_118
      have f_120 := (hs.o gq_60 trivial rfl).1.trans f_120
      have f_128 := (hs.o gq_60 trivial rfl).1.trans f_128
      have f_129 := (hs.o gq_60 trivial rfl).1.trans f_129
      have f_130 := (hs.o gq_60 trivial rfl).1.trans f_130
      have f_131 := (hs.o gq_60 trivial rfl).1.trans f_131
      have f_132 := (hs.o gq_60 trivial rfl).1.trans f_132
      have f_133 := (hs.o gq_60 trivial rfl).1.trans f_133
      have f_136 := (hs.o gq_60 trivial rfl).1.trans f_136
      have f_144 := (hs.o gq_60 trivial rfl).1.trans f_144
      have f_145 := (hs.o gq_60 trivial rfl).1.trans f_145
      have f_147 := (hs.o gq_60 trivial rfl).1.trans f_147
      have f_148 := (hs.o gq_60 trivial rfl).1.trans f_148
      have f_151 := (hs.o gq_60 trivial rfl).1.trans f_151
      have f_153 := (hs.o gq_60 trivial rfl).1.trans f_153
      have f_156 := (hs.o gq_60 trivial rfl).1.trans f_156
      have f_157 := (hs.o gq_60 trivial rfl).1.trans f_157
      have f_164 := (hs.o gq_60 trivial rfl).2.trans f_164
      have f_166 := (hs.o gq_60 trivial rfl).2.trans f_166
      have f_169 := (hs.o gq_60 trivial rfl).2.trans f_169
      have f_171 := (hs.o gq_60 trivial rfl).2.trans f_171
      have f_173 := (hs.o gq_60 trivial rfl).2.trans f_173
      have f_175 := (hs.o gq_60 trivial rfl).2.trans f_175
      have f_177 := (hs.o gq_60 trivial rfl).2.trans f_177
      have f_179 := (hs.o gq_60 trivial rfl).2.trans f_179
      have f_181 := (hs.o gq_60 trivial rfl).2.trans f_181
      have f_183 := (hs.o gq_60 trivial rfl).2.trans f_183
      have f_185 := (hs.o gq_60 trivial rfl).2.trans f_185
      have f_187 := (hs.o gq_60 trivial rfl).2.trans f_187
      have f_189 := (hs.o gq_60 trivial rfl).2.trans f_189
      have f_191 := (hs.o gq_60 trivial rfl).2.trans f_191
      have f_193 := (hs.o gq_60 trivial rfl).2.trans f_193
      have fa_36 : ∀ j, j < 14 → _ = P_wo j := fun j hj => (hs.a gq_34 rfl j).1.trans (fa_36 j hj)
      have fa_167 : ∀ j, j < 13 → _ = P_w1 j := fun j hj => (hs.a gq_165 rfl j).1.trans (fa_167 j hj)
      have gq_2 := gq_2.S hs
      have gq_27 := gq_27.S hs
      have gq_29 := gq_29.S hs
      have gq_31 := gq_31.S hs
      have gq_34 := gq_34.S hs
      have gq_37 := gq_37.S hs
      have gq_39 := gq_39.S hs
      have gq_41 := gq_41.S hs
      have gq_44 := gq_44.S hs
      have gq_47 := gq_47.S hs
      have gq_50 := gq_50.S hs
      have gq_53 := gq_53.S hs
      have gq_55 := gq_55.S hs
      have gq_60 := gq_60.S hs
      have gq_163 := gq_163.S hs
      have gq_165 := gq_165.S hs
      have gq_168 := gq_168.S hs
      have gq_170 := gq_170.S hs
      have gq_172 := gq_172.S hs
      have gq_174 := gq_174.S hs
      have gq_176 := gq_176.S hs
      have gq_178 := gq_178.S hs
      have gq_180 := gq_180.S hs
      have gq_182 := gq_182.S hs
      have gq_184 := gq_184.S hs
      have gq_186 := gq_186.S hs
      have gq_188 := gq_188.S hs
      have gq_190 := gq_190.S hs
      have gq_192 := gq_192.S hs
      refine lv_aload_n hx hb dL_law_843 rfl (lv_at hl 1 rfl) ?_
      refine lv_aload_n hx hb dL_law_844 rfl (lv_at hl 3 rfl) ?_
      refine lv_iload_n hx hb dL_law_845 rfl (lv_at hl 0 rfl) ?_
      refine lv_iconst (v := 1) hx hb dL_law_846 (by decide) ?_
      refine lv_iadd hx hb dL_law_847 ?_
      refine lv_topi (fun x_525 ex_525 => ?_)
      obtain rfl : x_525 = (1 : Int32) := ex_525.trans (by decide)
      refine va_sld hx hb hX hbl hbA hW.2.2.2.1 (vp_in_iff.mpr (by rw [hL7]; decide)) dL_law_848 ?_
      rw [show (1 : Int32).toNatClampNeg = 1 from by decide]
      refine lv_aload_n hx hb dL_law_849 rfl (lv_at hl 3 rfl) ?_
      refine lv_iload_n hx hb dL_law_850 rfl (lv_at hl 0 rfl) ?_
      refine lv_iconst (v := 2) hx hb dL_law_851 (by decide) ?_
      refine lv_iadd hx hb dL_law_852 ?_
      refine lv_topi (fun x_526 ex_526 => ?_)
      obtain rfl : x_526 = (2 : Int32) := ex_526.trans (by decide)
      refine va_sld hx hb hX hbl hbA hW.2.2.2.1 (vp_in_iff.mpr (by rw [hL7]; decide)) dL_law_853 ?_
      rw [show (2 : Int32).toNatClampNeg = 2 from by decide]
      refine hb_if_eq (zx := (xs 2).toInt) (tgt := 861) hx hb rfl dL_law_854 (by decide) (fun c_527 => ?_) (fun c_527 => by exfalso; omega)
      refine lv_iconst (v := 0) hx hb dL_law_861 (by decide) ?_
      refine lv_aload_n hx hb dL_law_862 rfl (lv_at hl 3 rfl) ?_
      refine lv_iload_n hx hb dL_law_863 rfl (lv_at hl 0 rfl) ?_
      refine lv_iconst (v := 3) hx hb dL_law_864 (by decide) ?_
      refine lv_iadd hx hb dL_law_865 ?_
      refine lv_topi (fun x_528 ex_528 => ?_)
      obtain rfl : x_528 = (3 : Int32) := ex_528.trans (by decide)
      refine va_sld hx hb hX hbl hbA hW.2.2.2.1 (vp_in_iff.mpr (by rw [hL7]; decide)) dL_law_866 ?_
      rw [show (3 : Int32).toNatClampNeg = 3 from by decide]
      refine hb_if_eq (zx := (xs 3).toInt) (tgt := 874) hx hb rfl dL_law_867 (by decide) (fun c_529 => ?_) (fun c_529 => ?_)
      · skip
        refine lv_iconst (v := 0) hx hb dL_law_874 (by decide) ?_
        refine lv_aload_n hx hb dL_law_875 rfl (lv_at hl 3 rfl) ?_
        refine lv_iload_n hx hb dL_law_876 rfl (lv_at hl 0 rfl) ?_
        refine lv_iconst (v := 4) hx hb dL_law_877 (by decide) ?_
        refine lv_iadd hx hb dL_law_878 ?_
        refine lv_topi (fun x_530 ex_530 => ?_)
        obtain rfl : x_530 = (4 : Int32) := ex_530.trans (by decide)
        refine va_sld hx hb hX hbl hbA hW.2.2.2.1 (vp_in_iff.mpr (by rw [hL7]; decide)) dL_law_879 ?_
        rw [show (4 : Int32).toNatClampNeg = 4 from by decide]
        refine hx_goi (hx_runV (As := [.int (xs 1), .int (0 : Int32), .int (0 : Int32), .int (xs 4)]) (rest := [.int r_522]) ⟨hx, hb, hml, hown, hts⟩ hW gq_60 td_10 (T := TX10) (N := 98) rfl (c_X10_hear l dC dI dA L_520 h_521 H.size q_60 (xs 1) (0 : Int32) (0 : Int32) (xs 4) gq_60 f_97) (cwV 4 hts (hx_gV kw_1601 kw_1598 kw_1599 kw_1600 kw_103) rfl rfl rfl (by decide +kernel) ⟨Nat.le_of_ble_eq_true rfl, Nat.le_of_ble_eq_true rfl⟩) rfl hl.1 rfl (Nat.le_of_ble_eq_true rfl) dL_law_880 ⟨Nat.le_of_ble_eq_true rfl, Nat.le_of_ble_eq_true rfl⟩) hW (fun r_533 L_531 h_532 H locs p_534 hW => ?_)
        obtain ⟨hr_535, hs⟩ := p_534
        have hs : hx_S P_tb [] L_520 h_521 L_531 h_532 := hs
        have f_4 := (hs.o gq_2 trivial rfl).1.trans f_4
        have f_5 := (hs.o gq_2 trivial rfl).1.trans f_5
        have f_9 := (hs.o gq_2 trivial rfl).1.trans f_9
        have f_11 := (hs.o gq_2 trivial rfl).1.trans f_11
        have f_14 := (hs.o gq_2 trivial rfl).1.trans f_14
        have f_16 := (hs.o gq_2 trivial rfl).1.trans f_16
        have f_28 := (hs.o gq_2 trivial rfl).2.trans f_28
        have f_30 := (hs.o gq_2 trivial rfl).2.trans f_30
        have f_32 := (hs.o gq_2 trivial rfl).2.trans f_32
        have f_33 := (hs.o gq_31 trivial rfl).1.trans f_33
        have f_35 := (hs.o gq_31 trivial rfl).2.trans f_35
        have f_38 := (hs.o gq_2 trivial rfl).2.trans f_38
        have f_40 := (hs.o gq_2 trivial rfl).2.trans f_40
        have f_42 := (hs.o gq_2 trivial rfl).2.trans f_42
        have f_43 := (hs.o gq_41 trivial rfl).1.trans f_43
        have f_45 := (hs.o gq_2 trivial rfl).2.trans f_45
        have f_46 := (hs.o gq_44 trivial rfl).1.trans f_46
        have f_48 := (hs.o gq_2 trivial rfl).2.trans f_48
        have f_49 := (hs.o gq_47 trivial rfl).1.trans f_49
        have f_51 := (hs.o gq_2 trivial rfl).2.trans f_51
        have f_52 := (hs.o gq_50 trivial rfl).1.trans f_52
        have f_54 := (hs.o gq_50 trivial rfl).2.trans f_54
        have f_56 := (hs.o gq_2 trivial rfl).2.trans f_56
        have f_57 := (hs.o gq_55 trivial rfl).1.trans f_57
        have f_58 := (hs.o gq_55 trivial rfl).1.trans f_58
        have f_61 := (hs.o gq_60 trivial rfl).1.trans f_61
        have f_62 := (hs.o gq_60 trivial rfl).1.trans f_62
        have f_68 := (hs.o gq_60 trivial rfl).1.trans f_68
        have f_69 := (hs.o gq_60 trivial rfl).1.trans f_69
        have f_70 := (hs.o gq_60 trivial rfl).1.trans f_70
        have f_71 := (hs.o gq_60 trivial rfl).1.trans f_71
        have f_72 := (hs.o gq_60 trivial rfl).1.trans f_72
        have f_74 := (hs.o gq_60 trivial rfl).1.trans f_74
        have f_81 := (hs.o gq_60 trivial rfl).1.trans f_81
        have f_90 := (hs.o gq_60 trivial rfl).1.trans f_90
        have f_97 := (hs.o gq_60 trivial rfl).1.trans f_97
        have f_118 := (hs.o gq_60 trivial rfl).1.trans f_118
        have f_120 := (hs.o gq_60 trivial rfl).1.trans f_120
        have f_128 := (hs.o gq_60 trivial rfl).1.trans f_128
        have f_129 := (hs.o gq_60 trivial rfl).1.trans f_129
        have f_130 := (hs.o gq_60 trivial rfl).1.trans f_130
        have f_131 := (hs.o gq_60 trivial rfl).1.trans f_131
        have f_132 := (hs.o gq_60 trivial rfl).1.trans f_132
        have f_133 := (hs.o gq_60 trivial rfl).1.trans f_133
        have f_136 := (hs.o gq_60 trivial rfl).1.trans f_136
        have f_144 := (hs.o gq_60 trivial rfl).1.trans f_144
        have f_145 := (hs.o gq_60 trivial rfl).1.trans f_145
        have f_147 := (hs.o gq_60 trivial rfl).1.trans f_147
        have f_148 := (hs.o gq_60 trivial rfl).1.trans f_148
        have f_151 := (hs.o gq_60 trivial rfl).1.trans f_151
        have f_153 := (hs.o gq_60 trivial rfl).1.trans f_153
        have f_156 := (hs.o gq_60 trivial rfl).1.trans f_156
        have f_157 := (hs.o gq_60 trivial rfl).1.trans f_157
        have f_164 := (hs.o gq_60 trivial rfl).2.trans f_164
        have f_166 := (hs.o gq_60 trivial rfl).2.trans f_166
        have f_169 := (hs.o gq_60 trivial rfl).2.trans f_169
        have f_171 := (hs.o gq_60 trivial rfl).2.trans f_171
        have f_173 := (hs.o gq_60 trivial rfl).2.trans f_173
        have f_175 := (hs.o gq_60 trivial rfl).2.trans f_175
        have f_177 := (hs.o gq_60 trivial rfl).2.trans f_177
        have f_179 := (hs.o gq_60 trivial rfl).2.trans f_179
        have f_181 := (hs.o gq_60 trivial rfl).2.trans f_181
        have f_183 := (hs.o gq_60 trivial rfl).2.trans f_183
        have f_185 := (hs.o gq_60 trivial rfl).2.trans f_185
        have f_187 := (hs.o gq_60 trivial rfl).2.trans f_187
        have f_189 := (hs.o gq_60 trivial rfl).2.trans f_189
        have f_191 := (hs.o gq_60 trivial rfl).2.trans f_191
        have f_193 := (hs.o gq_60 trivial rfl).2.trans f_193
        have fa_36 : ∀ j, j < 14 → _ = P_wo j := fun j hj => (hs.a gq_34 rfl j).1.trans (fa_36 j hj)
        have fa_167 : ∀ j, j < 13 → _ = P_w1 j := fun j hj => (hs.a gq_165 rfl j).1.trans (fa_167 j hj)
        have gq_2 := gq_2.S hs
        have gq_27 := gq_27.S hs
        have gq_29 := gq_29.S hs
        have gq_31 := gq_31.S hs
        have gq_34 := gq_34.S hs
        have gq_37 := gq_37.S hs
        have gq_39 := gq_39.S hs
        have gq_41 := gq_41.S hs
        have gq_44 := gq_44.S hs
        have gq_47 := gq_47.S hs
        have gq_50 := gq_50.S hs
        have gq_53 := gq_53.S hs
        have gq_55 := gq_55.S hs
        have gq_60 := gq_60.S hs
        have gq_163 := gq_163.S hs
        have gq_165 := gq_165.S hs
        have gq_168 := gq_168.S hs
        have gq_170 := gq_170.S hs
        have gq_172 := gq_172.S hs
        have gq_174 := gq_174.S hs
        have gq_176 := gq_176.S hs
        have gq_178 := gq_178.S hs
        have gq_180 := gq_180.S hs
        have gq_182 := gq_182.S hs
        have gq_184 := gq_184.S hs
        have gq_186 := gq_186.S hs
        have gq_188 := gq_188.S hs
        have gq_190 := gq_190.S hs
        have gq_192 := gq_192.S hs
        have heq : r_522 = r_533 := by
          first | exact hr_524.trans hr_535.symm | (rcases hr_524 with ⟨k1, k2⟩ | ⟨k1, k2⟩ <;> rcases hr_535 with ⟨k3, k4⟩ | ⟨k3, k4⟩ <;> first | exact k2.trans k4.symm | (exfalso; omega) | exact absurd k1 k3 | exact absurd k3 k1)
        refine hb_icmp_eq (zx := r_522.toInt) (zy := r_533.toInt) (tgt := 1379) hx hb rfl rfl dL_law_883 (by decide) (fun c_536 => ?_) (fun c_536 => absurd (congrArg Int32.toInt heq) c_536)
        exact law_tail hx hb hr hlocks hX hbl hbA hL7 _ _ hW.2.2.2.1 ls hl (Nat.le_of_ble_eq_true rfl) (Nat.le_of_ble_eq_true rfl)
      · skip
        refine lv_iconst (v := 1) hx hb dL_law_870 (by decide) ?_
        refine lv_goto (tgt := 875) hx hb dL_law_871 (by decide) ?_
        refine lv_aload_n hx hb dL_law_875 rfl (lv_at hl 3 rfl) ?_
        refine lv_iload_n hx hb dL_law_876 rfl (lv_at hl 0 rfl) ?_
        refine lv_iconst (v := 4) hx hb dL_law_877 (by decide) ?_
        refine lv_iadd hx hb dL_law_878 ?_
        refine lv_topi (fun x_537 ex_537 => ?_)
        obtain rfl : x_537 = (4 : Int32) := ex_537.trans (by decide)
        refine va_sld hx hb hX hbl hbA hW.2.2.2.1 (vp_in_iff.mpr (by rw [hL7]; decide)) dL_law_879 ?_
        rw [show (4 : Int32).toNatClampNeg = 4 from by decide]
        refine hx_goi (hx_runV (As := [.int (xs 1), .int (0 : Int32), .int (1 : Int32), .int (xs 4)]) (rest := [.int r_522]) ⟨hx, hb, hml, hown, hts⟩ hW gq_60 td_10 (T := TX10) (N := 98) rfl (c_X10_hear l dC dI dA L_520 h_521 H.size q_60 (xs 1) (0 : Int32) (1 : Int32) (xs 4) gq_60 f_97) (cwV 4 hts (hx_gV kw_1601 kw_1598 kw_1599 kw_1600 kw_103) rfl rfl rfl (by decide +kernel) ⟨Nat.le_of_ble_eq_true rfl, Nat.le_of_ble_eq_true rfl⟩) rfl hl.1 rfl (Nat.le_of_ble_eq_true rfl) dL_law_880 ⟨Nat.le_of_ble_eq_true rfl, Nat.le_of_ble_eq_true rfl⟩) hW (fun r_540 L_538 h_539 H locs p_541 hW => ?_)
        obtain ⟨hr_542, hs⟩ := p_541
        have hs : hx_S P_tb [] L_520 h_521 L_538 h_539 := hs
        have f_4 := (hs.o gq_2 trivial rfl).1.trans f_4
        have f_5 := (hs.o gq_2 trivial rfl).1.trans f_5
        have f_9 := (hs.o gq_2 trivial rfl).1.trans f_9
        have f_11 := (hs.o gq_2 trivial rfl).1.trans f_11
        have f_14 := (hs.o gq_2 trivial rfl).1.trans f_14
        have f_16 := (hs.o gq_2 trivial rfl).1.trans f_16
        have f_28 := (hs.o gq_2 trivial rfl).2.trans f_28
        have f_30 := (hs.o gq_2 trivial rfl).2.trans f_30
        have f_32 := (hs.o gq_2 trivial rfl).2.trans f_32
        have f_33 := (hs.o gq_31 trivial rfl).1.trans f_33
        have f_35 := (hs.o gq_31 trivial rfl).2.trans f_35
        have f_38 := (hs.o gq_2 trivial rfl).2.trans f_38
        have f_40 := (hs.o gq_2 trivial rfl).2.trans f_40
        have f_42 := (hs.o gq_2 trivial rfl).2.trans f_42
        have f_43 := (hs.o gq_41 trivial rfl).1.trans f_43
        have f_45 := (hs.o gq_2 trivial rfl).2.trans f_45
        have f_46 := (hs.o gq_44 trivial rfl).1.trans f_46
        have f_48 := (hs.o gq_2 trivial rfl).2.trans f_48
        have f_49 := (hs.o gq_47 trivial rfl).1.trans f_49
        have f_51 := (hs.o gq_2 trivial rfl).2.trans f_51
        have f_52 := (hs.o gq_50 trivial rfl).1.trans f_52
        have f_54 := (hs.o gq_50 trivial rfl).2.trans f_54
        have f_56 := (hs.o gq_2 trivial rfl).2.trans f_56
        have f_57 := (hs.o gq_55 trivial rfl).1.trans f_57
        have f_58 := (hs.o gq_55 trivial rfl).1.trans f_58
        have f_61 := (hs.o gq_60 trivial rfl).1.trans f_61
        have f_62 := (hs.o gq_60 trivial rfl).1.trans f_62
        have f_68 := (hs.o gq_60 trivial rfl).1.trans f_68
        have f_69 := (hs.o gq_60 trivial rfl).1.trans f_69
        have f_70 := (hs.o gq_60 trivial rfl).1.trans f_70
        have f_71 := (hs.o gq_60 trivial rfl).1.trans f_71
        have f_72 := (hs.o gq_60 trivial rfl).1.trans f_72
        have f_74 := (hs.o gq_60 trivial rfl).1.trans f_74
        have f_81 := (hs.o gq_60 trivial rfl).1.trans f_81
        have f_90 := (hs.o gq_60 trivial rfl).1.trans f_90
        have f_97 := (hs.o gq_60 trivial rfl).1.trans f_97
        have f_118 := (hs.o gq_60 trivial rfl).1.trans f_118
        have f_120 := (hs.o gq_60 trivial rfl).1.trans f_120
        have f_128 := (hs.o gq_60 trivial rfl).1.trans f_128
        have f_129 := (hs.o gq_60 trivial rfl).1.trans f_129
        have f_130 := (hs.o gq_60 trivial rfl).1.trans f_130
        have f_131 := (hs.o gq_60 trivial rfl).1.trans f_131
        have f_132 := (hs.o gq_60 trivial rfl).1.trans f_132
        have f_133 := (hs.o gq_60 trivial rfl).1.trans f_133
        have f_136 := (hs.o gq_60 trivial rfl).1.trans f_136
        have f_144 := (hs.o gq_60 trivial rfl).1.trans f_144
        have f_145 := (hs.o gq_60 trivial rfl).1.trans f_145
        have f_147 := (hs.o gq_60 trivial rfl).1.trans f_147
        have f_148 := (hs.o gq_60 trivial rfl).1.trans f_148
        have f_151 := (hs.o gq_60 trivial rfl).1.trans f_151
        have f_153 := (hs.o gq_60 trivial rfl).1.trans f_153
        have f_156 := (hs.o gq_60 trivial rfl).1.trans f_156
        have f_157 := (hs.o gq_60 trivial rfl).1.trans f_157
        have f_164 := (hs.o gq_60 trivial rfl).2.trans f_164
        have f_166 := (hs.o gq_60 trivial rfl).2.trans f_166
        have f_169 := (hs.o gq_60 trivial rfl).2.trans f_169
        have f_171 := (hs.o gq_60 trivial rfl).2.trans f_171
        have f_173 := (hs.o gq_60 trivial rfl).2.trans f_173
        have f_175 := (hs.o gq_60 trivial rfl).2.trans f_175
        have f_177 := (hs.o gq_60 trivial rfl).2.trans f_177
        have f_179 := (hs.o gq_60 trivial rfl).2.trans f_179
        have f_181 := (hs.o gq_60 trivial rfl).2.trans f_181
        have f_183 := (hs.o gq_60 trivial rfl).2.trans f_183
        have f_185 := (hs.o gq_60 trivial rfl).2.trans f_185
        have f_187 := (hs.o gq_60 trivial rfl).2.trans f_187
        have f_189 := (hs.o gq_60 trivial rfl).2.trans f_189
        have f_191 := (hs.o gq_60 trivial rfl).2.trans f_191
        have f_193 := (hs.o gq_60 trivial rfl).2.trans f_193
        have fa_36 : ∀ j, j < 14 → _ = P_wo j := fun j hj => (hs.a gq_34 rfl j).1.trans (fa_36 j hj)
        have fa_167 : ∀ j, j < 13 → _ = P_w1 j := fun j hj => (hs.a gq_165 rfl j).1.trans (fa_167 j hj)
        have gq_2 := gq_2.S hs
        have gq_27 := gq_27.S hs
        have gq_29 := gq_29.S hs
        have gq_31 := gq_31.S hs
        have gq_34 := gq_34.S hs
        have gq_37 := gq_37.S hs
        have gq_39 := gq_39.S hs
        have gq_41 := gq_41.S hs
        have gq_44 := gq_44.S hs
        have gq_47 := gq_47.S hs
        have gq_50 := gq_50.S hs
        have gq_53 := gq_53.S hs
        have gq_55 := gq_55.S hs
        have gq_60 := gq_60.S hs
        have gq_163 := gq_163.S hs
        have gq_165 := gq_165.S hs
        have gq_168 := gq_168.S hs
        have gq_170 := gq_170.S hs
        have gq_172 := gq_172.S hs
        have gq_174 := gq_174.S hs
        have gq_176 := gq_176.S hs
        have gq_178 := gq_178.S hs
        have gq_180 := gq_180.S hs
        have gq_182 := gq_182.S hs
        have gq_184 := gq_184.S hs
        have gq_186 := gq_186.S hs
        have gq_188 := gq_188.S hs
        have gq_190 := gq_190.S hs
        have gq_192 := gq_192.S hs
        have heq : r_522 = r_540 := by
          first | exact hr_524.trans hr_542.symm | (rcases hr_524 with ⟨k1, k2⟩ | ⟨k1, k2⟩ <;> rcases hr_542 with ⟨k3, k4⟩ | ⟨k3, k4⟩ <;> first | exact k2.trans k4.symm | (exfalso; omega) | exact absurd k1 k3 | exact absurd k3 k1)
        refine hb_icmp_eq (zx := r_522.toInt) (zy := r_540.toInt) (tgt := 1379) hx hb rfl rfl dL_law_883 (by decide) (fun c_543 => ?_) (fun c_543 => absurd (congrArg Int32.toInt heq) c_543)
        exact law_tail hx hb hr hlocks hX hbl hbA hL7 _ _ hW.2.2.2.1 ls hl (Nat.le_of_ble_eq_true rfl) (Nat.le_of_ble_eq_true rfl)
  · skip
    refine lv_iconst (v := 1) hx hb dL_law_817 (by decide) ?_
    refine lv_goto (tgt := 822) hx hb dL_law_818 (by decide) ?_
    refine lv_aload_n hx hb dL_law_822 rfl (lv_at hl 3 rfl) ?_
    refine lv_iload_n hx hb dL_law_823 rfl (lv_at hl 0 rfl) ?_
    refine lv_iconst (v := 3) hx hb dL_law_824 (by decide) ?_
    refine lv_iadd hx hb dL_law_825 ?_
    refine lv_topi (fun x_544 ex_544 => ?_)
    obtain rfl : x_544 = (3 : Int32) := ex_544.trans (by decide)
    refine va_sld hx hb hX hbl hbA hW.2.2.2.1 (vp_in_iff.mpr (by rw [hL7]; decide)) dL_law_826 ?_
    rw [show (3 : Int32).toNatClampNeg = 3 from by decide]
    refine hb_if_eq (zx := (xs 3).toInt) (tgt := 834) hx hb rfl dL_law_827 (by decide) (fun c_545 => ?_) (fun c_545 => ?_)
    · skip
      refine lv_iconst (v := 0) hx hb dL_law_834 (by decide) ?_
      refine lv_aload_n hx hb dL_law_835 rfl (lv_at hl 3 rfl) ?_
      refine lv_iload_n hx hb dL_law_836 rfl (lv_at hl 0 rfl) ?_
      refine lv_iconst (v := 4) hx hb dL_law_837 (by decide) ?_
      refine lv_iadd hx hb dL_law_838 ?_
      refine lv_topi (fun x_546 ex_546 => ?_)
      obtain rfl : x_546 = (4 : Int32) := ex_546.trans (by decide)
      refine va_sld hx hb hX hbl hbA hW.2.2.2.1 (vp_in_iff.mpr (by rw [hL7]; decide)) dL_law_839 ?_
      rw [show (4 : Int32).toNatClampNeg = 4 from by decide]
      refine hx_goi (hx_runV (As := [.int (xs 1), .int (1 : Int32), .int (0 : Int32), .int (xs 4)]) (rest := []) ⟨hx, hb, hml, hown, hts⟩ hW gq_2 td_9 (T := TX9) (N := 20) rfl (c_X9_hear l dC dI dA L1 hl1 H.size q_2 (xs 1) (1 : Int32) (0 : Int32) (xs 4) gq_2 f_14) (cwV 4 hts (hx_gV kw_814 kw_811 kw_812 kw_813 kw_94) rfl rfl rfl (by decide +kernel) ⟨Nat.le_of_ble_eq_true rfl, Nat.le_of_ble_eq_true rfl⟩) rfl hl.1 rfl (Nat.le_of_ble_eq_true rfl) dL_law_840 ⟨Nat.le_of_ble_eq_true rfl, Nat.le_of_ble_eq_true rfl⟩) hW (fun r_549 L_547 h_548 H locs p_550 hW => ?_)
      obtain ⟨hr_551, hs⟩ := p_550
      have hs : hx_S P_tb [] L1 hl1 L_547 h_548 := hs
      have f_4 := (hs.o gq_2 trivial rfl).1.trans f_4
      have f_5 := (hs.o gq_2 trivial rfl).1.trans f_5
      have f_9 := (hs.o gq_2 trivial rfl).1.trans f_9
      have f_11 := (hs.o gq_2 trivial rfl).1.trans f_11
      have f_14 := (hs.o gq_2 trivial rfl).1.trans f_14
      have f_16 := (hs.o gq_2 trivial rfl).1.trans f_16
      have f_28 := (hs.o gq_2 trivial rfl).2.trans f_28
      have f_30 := (hs.o gq_2 trivial rfl).2.trans f_30
      have f_32 := (hs.o gq_2 trivial rfl).2.trans f_32
      have f_33 := (hs.o gq_31 trivial rfl).1.trans f_33
      have f_35 := (hs.o gq_31 trivial rfl).2.trans f_35
      have f_38 := (hs.o gq_2 trivial rfl).2.trans f_38
      have f_40 := (hs.o gq_2 trivial rfl).2.trans f_40
      have f_42 := (hs.o gq_2 trivial rfl).2.trans f_42
      have f_43 := (hs.o gq_41 trivial rfl).1.trans f_43
      have f_45 := (hs.o gq_2 trivial rfl).2.trans f_45
      have f_46 := (hs.o gq_44 trivial rfl).1.trans f_46
      have f_48 := (hs.o gq_2 trivial rfl).2.trans f_48
      have f_49 := (hs.o gq_47 trivial rfl).1.trans f_49
      have f_51 := (hs.o gq_2 trivial rfl).2.trans f_51
      have f_52 := (hs.o gq_50 trivial rfl).1.trans f_52
      have f_54 := (hs.o gq_50 trivial rfl).2.trans f_54
      have f_56 := (hs.o gq_2 trivial rfl).2.trans f_56
      have f_57 := (hs.o gq_55 trivial rfl).1.trans f_57
      have f_58 := (hs.o gq_55 trivial rfl).1.trans f_58
      have f_61 := (hs.o gq_60 trivial rfl).1.trans f_61
      have f_62 := (hs.o gq_60 trivial rfl).1.trans f_62
      have f_68 := (hs.o gq_60 trivial rfl).1.trans f_68
      have f_69 := (hs.o gq_60 trivial rfl).1.trans f_69
      have f_70 := (hs.o gq_60 trivial rfl).1.trans f_70
      have f_71 := (hs.o gq_60 trivial rfl).1.trans f_71
      have f_72 := (hs.o gq_60 trivial rfl).1.trans f_72
      have f_74 := (hs.o gq_60 trivial rfl).1.trans f_74
      have f_81 := (hs.o gq_60 trivial rfl).1.trans f_81
      have f_90 := (hs.o gq_60 trivial rfl).1.trans f_90
      have f_97 := (hs.o gq_60 trivial rfl).1.trans f_97
      have f_118 := (hs.o gq_60 trivial rfl).1.trans f_118
      have f_120 := (hs.o gq_60 trivial rfl).1.trans f_120
      have f_128 := (hs.o gq_60 trivial rfl).1.trans f_128
      have f_129 := (hs.o gq_60 trivial rfl).1.trans f_129
      have f_130 := (hs.o gq_60 trivial rfl).1.trans f_130
      have f_131 := (hs.o gq_60 trivial rfl).1.trans f_131
      have f_132 := (hs.o gq_60 trivial rfl).1.trans f_132
      have f_133 := (hs.o gq_60 trivial rfl).1.trans f_133
      have f_136 := (hs.o gq_60 trivial rfl).1.trans f_136
      have f_144 := (hs.o gq_60 trivial rfl).1.trans f_144
      have f_145 := (hs.o gq_60 trivial rfl).1.trans f_145
      have f_147 := (hs.o gq_60 trivial rfl).1.trans f_147
      have f_148 := (hs.o gq_60 trivial rfl).1.trans f_148
      have f_151 := (hs.o gq_60 trivial rfl).1.trans f_151
      have f_153 := (hs.o gq_60 trivial rfl).1.trans f_153
      have f_156 := (hs.o gq_60 trivial rfl).1.trans f_156
      have f_157 := (hs.o gq_60 trivial rfl).1.trans f_157
      have f_164 := (hs.o gq_60 trivial rfl).2.trans f_164
      have f_166 := (hs.o gq_60 trivial rfl).2.trans f_166
      have f_169 := (hs.o gq_60 trivial rfl).2.trans f_169
      have f_171 := (hs.o gq_60 trivial rfl).2.trans f_171
      have f_173 := (hs.o gq_60 trivial rfl).2.trans f_173
      have f_175 := (hs.o gq_60 trivial rfl).2.trans f_175
      have f_177 := (hs.o gq_60 trivial rfl).2.trans f_177
      have f_179 := (hs.o gq_60 trivial rfl).2.trans f_179
      have f_181 := (hs.o gq_60 trivial rfl).2.trans f_181
      have f_183 := (hs.o gq_60 trivial rfl).2.trans f_183
      have f_185 := (hs.o gq_60 trivial rfl).2.trans f_185
      have f_187 := (hs.o gq_60 trivial rfl).2.trans f_187
      have f_189 := (hs.o gq_60 trivial rfl).2.trans f_189
      have f_191 := (hs.o gq_60 trivial rfl).2.trans f_191
      have f_193 := (hs.o gq_60 trivial rfl).2.trans f_193
      have fa_36 : ∀ j, j < 14 → _ = P_wo j := fun j hj => (hs.a gq_34 rfl j).1.trans (fa_36 j hj)
      have fa_167 : ∀ j, j < 13 → _ = P_w1 j := fun j hj => (hs.a gq_165 rfl j).1.trans (fa_167 j hj)
      have gq_2 := gq_2.S hs
      have gq_27 := gq_27.S hs
      have gq_29 := gq_29.S hs
      have gq_31 := gq_31.S hs
      have gq_34 := gq_34.S hs
      have gq_37 := gq_37.S hs
      have gq_39 := gq_39.S hs
      have gq_41 := gq_41.S hs
      have gq_44 := gq_44.S hs
      have gq_47 := gq_47.S hs
      have gq_50 := gq_50.S hs
      have gq_53 := gq_53.S hs
      have gq_55 := gq_55.S hs
      have gq_60 := gq_60.S hs
      have gq_163 := gq_163.S hs
      have gq_165 := gq_165.S hs
      have gq_168 := gq_168.S hs
      have gq_170 := gq_170.S hs
      have gq_172 := gq_172.S hs
      have gq_174 := gq_174.S hs
      have gq_176 := gq_176.S hs
      have gq_178 := gq_178.S hs
      have gq_180 := gq_180.S hs
      have gq_182 := gq_182.S hs
      have gq_184 := gq_184.S hs
      have gq_186 := gq_186.S hs
      have gq_188 := gq_188.S hs
      have gq_190 := gq_190.S hs
      have gq_192 := gq_192.S hs
      refine lv_aload_n hx hb dL_law_843 rfl (lv_at hl 1 rfl) ?_
      refine lv_aload_n hx hb dL_law_844 rfl (lv_at hl 3 rfl) ?_
      refine lv_iload_n hx hb dL_law_845 rfl (lv_at hl 0 rfl) ?_
      refine lv_iconst (v := 1) hx hb dL_law_846 (by decide) ?_
      refine lv_iadd hx hb dL_law_847 ?_
      refine lv_topi (fun x_552 ex_552 => ?_)
      obtain rfl : x_552 = (1 : Int32) := ex_552.trans (by decide)
      refine va_sld hx hb hX hbl hbA hW.2.2.2.1 (vp_in_iff.mpr (by rw [hL7]; decide)) dL_law_848 ?_
      rw [show (1 : Int32).toNatClampNeg = 1 from by decide]
      refine lv_aload_n hx hb dL_law_849 rfl (lv_at hl 3 rfl) ?_
      refine lv_iload_n hx hb dL_law_850 rfl (lv_at hl 0 rfl) ?_
      refine lv_iconst (v := 2) hx hb dL_law_851 (by decide) ?_
      refine lv_iadd hx hb dL_law_852 ?_
      refine lv_topi (fun x_553 ex_553 => ?_)
      obtain rfl : x_553 = (2 : Int32) := ex_553.trans (by decide)
      refine va_sld hx hb hX hbl hbA hW.2.2.2.1 (vp_in_iff.mpr (by rw [hL7]; decide)) dL_law_853 ?_
      rw [show (2 : Int32).toNatClampNeg = 2 from by decide]
      refine hb_if_eq (zx := (xs 2).toInt) (tgt := 861) hx hb rfl dL_law_854 (by decide) (fun c_554 => ?_) (fun c_554 => ?_)
      · skip
        refine lv_iconst (v := 0) hx hb dL_law_861 (by decide) ?_
        refine lv_aload_n hx hb dL_law_862 rfl (lv_at hl 3 rfl) ?_
        refine lv_iload_n hx hb dL_law_863 rfl (lv_at hl 0 rfl) ?_
        refine lv_iconst (v := 3) hx hb dL_law_864 (by decide) ?_
        refine lv_iadd hx hb dL_law_865 ?_
        refine lv_topi (fun x_555 ex_555 => ?_)
        obtain rfl : x_555 = (3 : Int32) := ex_555.trans (by decide)
        refine va_sld hx hb hX hbl hbA hW.2.2.2.1 (vp_in_iff.mpr (by rw [hL7]; decide)) dL_law_866 ?_
        rw [show (3 : Int32).toNatClampNeg = 3 from by decide]
        refine hb_if_eq (zx := (xs 3).toInt) (tgt := 874) hx hb rfl dL_law_867 (by decide) (fun c_556 => ?_) (fun c_556 => by exfalso; omega)
        refine lv_iconst (v := 0) hx hb dL_law_874 (by decide) ?_
        refine lv_aload_n hx hb dL_law_875 rfl (lv_at hl 3 rfl) ?_
        refine lv_iload_n hx hb dL_law_876 rfl (lv_at hl 0 rfl) ?_
        refine lv_iconst (v := 4) hx hb dL_law_877 (by decide) ?_
        refine lv_iadd hx hb dL_law_878 ?_
        refine lv_topi (fun x_557 ex_557 => ?_)
        obtain rfl : x_557 = (4 : Int32) := ex_557.trans (by decide)
        refine va_sld hx hb hX hbl hbA hW.2.2.2.1 (vp_in_iff.mpr (by rw [hL7]; decide)) dL_law_879 ?_
        rw [show (4 : Int32).toNatClampNeg = 4 from by decide]
        refine hx_goi (hx_runV (As := [.int (xs 1), .int (0 : Int32), .int (0 : Int32), .int (xs 4)]) (rest := [.int r_549]) ⟨hx, hb, hml, hown, hts⟩ hW gq_60 td_10 (T := TX10) (N := 98) rfl (c_X10_hear l dC dI dA L_547 h_548 H.size q_60 (xs 1) (0 : Int32) (0 : Int32) (xs 4) gq_60 f_97) (cwV 4 hts (hx_gV kw_1601 kw_1598 kw_1599 kw_1600 kw_103) rfl rfl rfl (by decide +kernel) ⟨Nat.le_of_ble_eq_true rfl, Nat.le_of_ble_eq_true rfl⟩) rfl hl.1 rfl (Nat.le_of_ble_eq_true rfl) dL_law_880 ⟨Nat.le_of_ble_eq_true rfl, Nat.le_of_ble_eq_true rfl⟩) hW (fun r_560 L_558 h_559 H locs p_561 hW => ?_)
        obtain ⟨hr_562, hs⟩ := p_561
        have hs : hx_S P_tb [] L_547 h_548 L_558 h_559 := hs
        have f_4 := (hs.o gq_2 trivial rfl).1.trans f_4
        have f_5 := (hs.o gq_2 trivial rfl).1.trans f_5
        have f_9 := (hs.o gq_2 trivial rfl).1.trans f_9
        have f_11 := (hs.o gq_2 trivial rfl).1.trans f_11
        have f_14 := (hs.o gq_2 trivial rfl).1.trans f_14
        have f_16 := (hs.o gq_2 trivial rfl).1.trans f_16
        have f_28 := (hs.o gq_2 trivial rfl).2.trans f_28
        have f_30 := (hs.o gq_2 trivial rfl).2.trans f_30
        have f_32 := (hs.o gq_2 trivial rfl).2.trans f_32
        have f_33 := (hs.o gq_31 trivial rfl).1.trans f_33
        have f_35 := (hs.o gq_31 trivial rfl).2.trans f_35
        have f_38 := (hs.o gq_2 trivial rfl).2.trans f_38
        have f_40 := (hs.o gq_2 trivial rfl).2.trans f_40
        have f_42 := (hs.o gq_2 trivial rfl).2.trans f_42
        have f_43 := (hs.o gq_41 trivial rfl).1.trans f_43
        have f_45 := (hs.o gq_2 trivial rfl).2.trans f_45
        have f_46 := (hs.o gq_44 trivial rfl).1.trans f_46
        have f_48 := (hs.o gq_2 trivial rfl).2.trans f_48
        have f_49 := (hs.o gq_47 trivial rfl).1.trans f_49
        have f_51 := (hs.o gq_2 trivial rfl).2.trans f_51
        have f_52 := (hs.o gq_50 trivial rfl).1.trans f_52
        have f_54 := (hs.o gq_50 trivial rfl).2.trans f_54
        have f_56 := (hs.o gq_2 trivial rfl).2.trans f_56
        have f_57 := (hs.o gq_55 trivial rfl).1.trans f_57
        have f_58 := (hs.o gq_55 trivial rfl).1.trans f_58
        have f_61 := (hs.o gq_60 trivial rfl).1.trans f_61
        have f_62 := (hs.o gq_60 trivial rfl).1.trans f_62
        have f_68 := (hs.o gq_60 trivial rfl).1.trans f_68
        have f_69 := (hs.o gq_60 trivial rfl).1.trans f_69
        have f_70 := (hs.o gq_60 trivial rfl).1.trans f_70
        have f_71 := (hs.o gq_60 trivial rfl).1.trans f_71
        have f_72 := (hs.o gq_60 trivial rfl).1.trans f_72
        have f_74 := (hs.o gq_60 trivial rfl).1.trans f_74
        have f_81 := (hs.o gq_60 trivial rfl).1.trans f_81
        have f_90 := (hs.o gq_60 trivial rfl).1.trans f_90
        have f_97 := (hs.o gq_60 trivial rfl).1.trans f_97
        have f_118 := (hs.o gq_60 trivial rfl).1.trans f_118
        have f_120 := (hs.o gq_60 trivial rfl).1.trans f_120
        have f_128 := (hs.o gq_60 trivial rfl).1.trans f_128
        have f_129 := (hs.o gq_60 trivial rfl).1.trans f_129
        have f_130 := (hs.o gq_60 trivial rfl).1.trans f_130
        have f_131 := (hs.o gq_60 trivial rfl).1.trans f_131
        have f_132 := (hs.o gq_60 trivial rfl).1.trans f_132
        have f_133 := (hs.o gq_60 trivial rfl).1.trans f_133
        have f_136 := (hs.o gq_60 trivial rfl).1.trans f_136
        have f_144 := (hs.o gq_60 trivial rfl).1.trans f_144
        have f_145 := (hs.o gq_60 trivial rfl).1.trans f_145
        have f_147 := (hs.o gq_60 trivial rfl).1.trans f_147
        have f_148 := (hs.o gq_60 trivial rfl).1.trans f_148
        have f_151 := (hs.o gq_60 trivial rfl).1.trans f_151
        have f_153 := (hs.o gq_60 trivial rfl).1.trans f_153
        have f_156 := (hs.o gq_60 trivial rfl).1.trans f_156
        have f_157 := (hs.o gq_60 trivial rfl).1.trans f_157
        have f_164 := (hs.o gq_60 trivial rfl).2.trans f_164
        have f_166 := (hs.o gq_60 trivial rfl).2.trans f_166
        have f_169 := (hs.o gq_60 trivial rfl).2.trans f_169
        have f_171 := (hs.o gq_60 trivial rfl).2.trans f_171
        have f_173 := (hs.o gq_60 trivial rfl).2.trans f_173
        have f_175 := (hs.o gq_60 trivial rfl).2.trans f_175
        have f_177 := (hs.o gq_60 trivial rfl).2.trans f_177
        have f_179 := (hs.o gq_60 trivial rfl).2.trans f_179
        have f_181 := (hs.o gq_60 trivial rfl).2.trans f_181
        have f_183 := (hs.o gq_60 trivial rfl).2.trans f_183
        have f_185 := (hs.o gq_60 trivial rfl).2.trans f_185
        have f_187 := (hs.o gq_60 trivial rfl).2.trans f_187
        have f_189 := (hs.o gq_60 trivial rfl).2.trans f_189
        have f_191 := (hs.o gq_60 trivial rfl).2.trans f_191
        have f_193 := (hs.o gq_60 trivial rfl).2.trans f_193
        have fa_36 : ∀ j, j < 14 → _ = P_wo j := fun j hj => (hs.a gq_34 rfl j).1.trans (fa_36 j hj)
        have fa_167 : ∀ j, j < 13 → _ = P_w1 j := fun j hj => (hs.a gq_165 rfl j).1.trans (fa_167 j hj)
        have gq_2 := gq_2.S hs
        have gq_27 := gq_27.S hs
        have gq_29 := gq_29.S hs
        have gq_31 := gq_31.S hs
        have gq_34 := gq_34.S hs
        have gq_37 := gq_37.S hs
        have gq_39 := gq_39.S hs
        have gq_41 := gq_41.S hs
        have gq_44 := gq_44.S hs
        have gq_47 := gq_47.S hs
        have gq_50 := gq_50.S hs
        have gq_53 := gq_53.S hs
        have gq_55 := gq_55.S hs
        have gq_60 := gq_60.S hs
        have gq_163 := gq_163.S hs
        have gq_165 := gq_165.S hs
        have gq_168 := gq_168.S hs
        have gq_170 := gq_170.S hs
        have gq_172 := gq_172.S hs
        have gq_174 := gq_174.S hs
        have gq_176 := gq_176.S hs
        have gq_178 := gq_178.S hs
        have gq_180 := gq_180.S hs
        have gq_182 := gq_182.S hs
        have gq_184 := gq_184.S hs
        have gq_186 := gq_186.S hs
        have gq_188 := gq_188.S hs
        have gq_190 := gq_190.S hs
        have gq_192 := gq_192.S hs
        have heq : r_549 = r_560 := by
          first | exact hr_551.trans hr_562.symm | (rcases hr_551 with ⟨k1, k2⟩ | ⟨k1, k2⟩ <;> rcases hr_562 with ⟨k3, k4⟩ | ⟨k3, k4⟩ <;> first | exact k2.trans k4.symm | (exfalso; omega) | exact absurd k1 k3 | exact absurd k3 k1)
        refine hb_icmp_eq (zx := r_549.toInt) (zy := r_560.toInt) (tgt := 1379) hx hb rfl rfl dL_law_883 (by decide) (fun c_563 => ?_) (fun c_563 => absurd (congrArg Int32.toInt heq) c_563)
        exact law_tail hx hb hr hlocks hX hbl hbA hL7 _ _ hW.2.2.2.1 ls hl (Nat.le_of_ble_eq_true rfl) (Nat.le_of_ble_eq_true rfl)
      · skip
        refine lv_iconst (v := 1) hx hb dL_law_857 (by decide) ?_
        refine lv_goto (tgt := 862) hx hb dL_law_858 (by decide) ?_
        refine lv_aload_n hx hb dL_law_862 rfl (lv_at hl 3 rfl) ?_
        refine lv_iload_n hx hb dL_law_863 rfl (lv_at hl 0 rfl) ?_
        refine lv_iconst (v := 3) hx hb dL_law_864 (by decide) ?_
        refine lv_iadd hx hb dL_law_865 ?_
        refine lv_topi (fun x_564 ex_564 => ?_)
        obtain rfl : x_564 = (3 : Int32) := ex_564.trans (by decide)
        refine va_sld hx hb hX hbl hbA hW.2.2.2.1 (vp_in_iff.mpr (by rw [hL7]; decide)) dL_law_866 ?_
        rw [show (3 : Int32).toNatClampNeg = 3 from by decide]
        refine hb_if_eq (zx := (xs 3).toInt) (tgt := 874) hx hb rfl dL_law_867 (by decide) (fun c_565 => ?_) (fun c_565 => by exfalso; omega)
        refine lv_iconst (v := 0) hx hb dL_law_874 (by decide) ?_
        refine lv_aload_n hx hb dL_law_875 rfl (lv_at hl 3 rfl) ?_
        refine lv_iload_n hx hb dL_law_876 rfl (lv_at hl 0 rfl) ?_
        refine lv_iconst (v := 4) hx hb dL_law_877 (by decide) ?_
        refine lv_iadd hx hb dL_law_878 ?_
        refine lv_topi (fun x_566 ex_566 => ?_)
        obtain rfl : x_566 = (4 : Int32) := ex_566.trans (by decide)
        refine va_sld hx hb hX hbl hbA hW.2.2.2.1 (vp_in_iff.mpr (by rw [hL7]; decide)) dL_law_879 ?_
        rw [show (4 : Int32).toNatClampNeg = 4 from by decide]
        refine hx_goi (hx_runV (As := [.int (xs 1), .int (1 : Int32), .int (0 : Int32), .int (xs 4)]) (rest := [.int r_549]) ⟨hx, hb, hml, hown, hts⟩ hW gq_60 td_10 (T := TX10) (N := 98) rfl (c_X10_hear l dC dI dA L_547 h_548 H.size q_60 (xs 1) (1 : Int32) (0 : Int32) (xs 4) gq_60 f_97) (cwV 4 hts (hx_gV kw_1601 kw_1598 kw_1599 kw_1600 kw_103) rfl rfl rfl (by decide +kernel) ⟨Nat.le_of_ble_eq_true rfl, Nat.le_of_ble_eq_true rfl⟩) rfl hl.1 rfl (Nat.le_of_ble_eq_true rfl) dL_law_880 ⟨Nat.le_of_ble_eq_true rfl, Nat.le_of_ble_eq_true rfl⟩) hW (fun r_569 L_567 h_568 H locs p_570 hW => ?_)
        obtain ⟨hr_571, hs⟩ := p_570
        have hs : hx_S P_tb [] L_547 h_548 L_567 h_568 := hs
        have f_4 := (hs.o gq_2 trivial rfl).1.trans f_4
        have f_5 := (hs.o gq_2 trivial rfl).1.trans f_5
        have f_9 := (hs.o gq_2 trivial rfl).1.trans f_9
        have f_11 := (hs.o gq_2 trivial rfl).1.trans f_11
        have f_14 := (hs.o gq_2 trivial rfl).1.trans f_14
        have f_16 := (hs.o gq_2 trivial rfl).1.trans f_16
        have f_28 := (hs.o gq_2 trivial rfl).2.trans f_28
        have f_30 := (hs.o gq_2 trivial rfl).2.trans f_30
        have f_32 := (hs.o gq_2 trivial rfl).2.trans f_32
        have f_33 := (hs.o gq_31 trivial rfl).1.trans f_33
        have f_35 := (hs.o gq_31 trivial rfl).2.trans f_35
        have f_38 := (hs.o gq_2 trivial rfl).2.trans f_38
        have f_40 := (hs.o gq_2 trivial rfl).2.trans f_40
        have f_42 := (hs.o gq_2 trivial rfl).2.trans f_42
        have f_43 := (hs.o gq_41 trivial rfl).1.trans f_43
        have f_45 := (hs.o gq_2 trivial rfl).2.trans f_45
        have f_46 := (hs.o gq_44 trivial rfl).1.trans f_46
        have f_48 := (hs.o gq_2 trivial rfl).2.trans f_48
        have f_49 := (hs.o gq_47 trivial rfl).1.trans f_49
        have f_51 := (hs.o gq_2 trivial rfl).2.trans f_51
        have f_52 := (hs.o gq_50 trivial rfl).1.trans f_52
        have f_54 := (hs.o gq_50 trivial rfl).2.trans f_54
        have f_56 := (hs.o gq_2 trivial rfl).2.trans f_56
        have f_57 := (hs.o gq_55 trivial rfl).1.trans f_57
        have f_58 := (hs.o gq_55 trivial rfl).1.trans f_58
        have f_61 := (hs.o gq_60 trivial rfl).1.trans f_61
        have f_62 := (hs.o gq_60 trivial rfl).1.trans f_62
        have f_68 := (hs.o gq_60 trivial rfl).1.trans f_68
        have f_69 := (hs.o gq_60 trivial rfl).1.trans f_69
        have f_70 := (hs.o gq_60 trivial rfl).1.trans f_70
        have f_71 := (hs.o gq_60 trivial rfl).1.trans f_71
        have f_72 := (hs.o gq_60 trivial rfl).1.trans f_72
        have f_74 := (hs.o gq_60 trivial rfl).1.trans f_74
        have f_81 := (hs.o gq_60 trivial rfl).1.trans f_81
        have f_90 := (hs.o gq_60 trivial rfl).1.trans f_90
        have f_97 := (hs.o gq_60 trivial rfl).1.trans f_97
        have f_118 := (hs.o gq_60 trivial rfl).1.trans f_118
        have f_120 := (hs.o gq_60 trivial rfl).1.trans f_120
        have f_128 := (hs.o gq_60 trivial rfl).1.trans f_128
        have f_129 := (hs.o gq_60 trivial rfl).1.trans f_129
        have f_130 := (hs.o gq_60 trivial rfl).1.trans f_130
        have f_131 := (hs.o gq_60 trivial rfl).1.trans f_131
        have f_132 := (hs.o gq_60 trivial rfl).1.trans f_132
        have f_133 := (hs.o gq_60 trivial rfl).1.trans f_133
        have f_136 := (hs.o gq_60 trivial rfl).1.trans f_136
        have f_144 := (hs.o gq_60 trivial rfl).1.trans f_144
        have f_145 := (hs.o gq_60 trivial rfl).1.trans f_145
        have f_147 := (hs.o gq_60 trivial rfl).1.trans f_147
        have f_148 := (hs.o gq_60 trivial rfl).1.trans f_148
        have f_151 := (hs.o gq_60 trivial rfl).1.trans f_151
        have f_153 := (hs.o gq_60 trivial rfl).1.trans f_153
        have f_156 := (hs.o gq_60 trivial rfl).1.trans f_156
        have f_157 := (hs.o gq_60 trivial rfl).1.trans f_157
        have f_164 := (hs.o gq_60 trivial rfl).2.trans f_164
        have f_166 := (hs.o gq_60 trivial rfl).2.trans f_166
        have f_169 := (hs.o gq_60 trivial rfl).2.trans f_169
        have f_171 := (hs.o gq_60 trivial rfl).2.trans f_171
        have f_173 := (hs.o gq_60 trivial rfl).2.trans f_173
        have f_175 := (hs.o gq_60 trivial rfl).2.trans f_175
        have f_177 := (hs.o gq_60 trivial rfl).2.trans f_177
        have f_179 := (hs.o gq_60 trivial rfl).2.trans f_179
        have f_181 := (hs.o gq_60 trivial rfl).2.trans f_181
        have f_183 := (hs.o gq_60 trivial rfl).2.trans f_183
        have f_185 := (hs.o gq_60 trivial rfl).2.trans f_185
        have f_187 := (hs.o gq_60 trivial rfl).2.trans f_187
        have f_189 := (hs.o gq_60 trivial rfl).2.trans f_189
        have f_191 := (hs.o gq_60 trivial rfl).2.trans f_191
        have f_193 := (hs.o gq_60 trivial rfl).2.trans f_193
        have fa_36 : ∀ j, j < 14 → _ = P_wo j := fun j hj => (hs.a gq_34 rfl j).1.trans (fa_36 j hj)
        have fa_167 : ∀ j, j < 13 → _ = P_w1 j := fun j hj => (hs.a gq_165 rfl j).1.trans (fa_167 j hj)
        have gq_2 := gq_2.S hs
        have gq_27 := gq_27.S hs
        have gq_29 := gq_29.S hs
        have gq_31 := gq_31.S hs
        have gq_34 := gq_34.S hs
        have gq_37 := gq_37.S hs
        have gq_39 := gq_39.S hs
        have gq_41 := gq_41.S hs
        have gq_44 := gq_44.S hs
        have gq_47 := gq_47.S hs
        have gq_50 := gq_50.S hs
        have gq_53 := gq_53.S hs
        have gq_55 := gq_55.S hs
        have gq_60 := gq_60.S hs
        have gq_163 := gq_163.S hs
        have gq_165 := gq_165.S hs
        have gq_168 := gq_168.S hs
        have gq_170 := gq_170.S hs
        have gq_172 := gq_172.S hs
        have gq_174 := gq_174.S hs
        have gq_176 := gq_176.S hs
        have gq_178 := gq_178.S hs
        have gq_180 := gq_180.S hs
        have gq_182 := gq_182.S hs
        have gq_184 := gq_184.S hs
        have gq_186 := gq_186.S hs
        have gq_188 := gq_188.S hs
        have gq_190 := gq_190.S hs
        have gq_192 := gq_192.S hs
        have heq : r_549 = r_569 := by
          first | exact hr_551.trans hr_571.symm | (rcases hr_551 with ⟨k1, k2⟩ | ⟨k1, k2⟩ <;> rcases hr_571 with ⟨k3, k4⟩ | ⟨k3, k4⟩ <;> first | exact k2.trans k4.symm | (exfalso; omega) | exact absurd k1 k3 | exact absurd k3 k1)
        refine hb_icmp_eq (zx := r_549.toInt) (zy := r_569.toInt) (tgt := 1379) hx hb rfl rfl dL_law_883 (by decide) (fun c_572 => ?_) (fun c_572 => absurd (congrArg Int32.toInt heq) c_572)
        exact law_tail hx hb hr hlocks hX hbl hbA hL7 _ _ hW.2.2.2.1 ls hl (Nat.le_of_ble_eq_true rfl) (Nat.le_of_ble_eq_true rfl)
    · skip
      refine lv_iconst (v := 1) hx hb dL_law_830 (by decide) ?_
      refine lv_goto (tgt := 835) hx hb dL_law_831 (by decide) ?_
      refine lv_aload_n hx hb dL_law_835 rfl (lv_at hl 3 rfl) ?_
      refine lv_iload_n hx hb dL_law_836 rfl (lv_at hl 0 rfl) ?_
      refine lv_iconst (v := 4) hx hb dL_law_837 (by decide) ?_
      refine lv_iadd hx hb dL_law_838 ?_
      refine lv_topi (fun x_573 ex_573 => ?_)
      obtain rfl : x_573 = (4 : Int32) := ex_573.trans (by decide)
      refine va_sld hx hb hX hbl hbA hW.2.2.2.1 (vp_in_iff.mpr (by rw [hL7]; decide)) dL_law_839 ?_
      rw [show (4 : Int32).toNatClampNeg = 4 from by decide]
      refine hx_goi (hx_runV (As := [.int (xs 1), .int (1 : Int32), .int (1 : Int32), .int (xs 4)]) (rest := []) ⟨hx, hb, hml, hown, hts⟩ hW gq_2 td_9 (T := TX9) (N := 20) rfl (c_X9_hear l dC dI dA L1 hl1 H.size q_2 (xs 1) (1 : Int32) (1 : Int32) (xs 4) gq_2 f_14) (cwV 4 hts (hx_gV kw_814 kw_811 kw_812 kw_813 kw_94) rfl rfl rfl (by decide +kernel) ⟨Nat.le_of_ble_eq_true rfl, Nat.le_of_ble_eq_true rfl⟩) rfl hl.1 rfl (Nat.le_of_ble_eq_true rfl) dL_law_840 ⟨Nat.le_of_ble_eq_true rfl, Nat.le_of_ble_eq_true rfl⟩) hW (fun r_576 L_574 h_575 H locs p_577 hW => ?_)
      obtain ⟨hr_578, hs⟩ := p_577
      have hs : hx_S P_tb [] L1 hl1 L_574 h_575 := hs
      have f_4 := (hs.o gq_2 trivial rfl).1.trans f_4
      have f_5 := (hs.o gq_2 trivial rfl).1.trans f_5
      have f_9 := (hs.o gq_2 trivial rfl).1.trans f_9
      have f_11 := (hs.o gq_2 trivial rfl).1.trans f_11
      have f_14 := (hs.o gq_2 trivial rfl).1.trans f_14
      have f_16 := (hs.o gq_2 trivial rfl).1.trans f_16
      have f_28 := (hs.o gq_2 trivial rfl).2.trans f_28
      have f_30 := (hs.o gq_2 trivial rfl).2.trans f_30
      have f_32 := (hs.o gq_2 trivial rfl).2.trans f_32
      have f_33 := (hs.o gq_31 trivial rfl).1.trans f_33
      have f_35 := (hs.o gq_31 trivial rfl).2.trans f_35
      have f_38 := (hs.o gq_2 trivial rfl).2.trans f_38
      have f_40 := (hs.o gq_2 trivial rfl).2.trans f_40
      have f_42 := (hs.o gq_2 trivial rfl).2.trans f_42
      have f_43 := (hs.o gq_41 trivial rfl).1.trans f_43
      have f_45 := (hs.o gq_2 trivial rfl).2.trans f_45
      have f_46 := (hs.o gq_44 trivial rfl).1.trans f_46
      have f_48 := (hs.o gq_2 trivial rfl).2.trans f_48
      have f_49 := (hs.o gq_47 trivial rfl).1.trans f_49
      have f_51 := (hs.o gq_2 trivial rfl).2.trans f_51
      have f_52 := (hs.o gq_50 trivial rfl).1.trans f_52
      have f_54 := (hs.o gq_50 trivial rfl).2.trans f_54
      have f_56 := (hs.o gq_2 trivial rfl).2.trans f_56
      have f_57 := (hs.o gq_55 trivial rfl).1.trans f_57
      have f_58 := (hs.o gq_55 trivial rfl).1.trans f_58
      have f_61 := (hs.o gq_60 trivial rfl).1.trans f_61
      have f_62 := (hs.o gq_60 trivial rfl).1.trans f_62
      have f_68 := (hs.o gq_60 trivial rfl).1.trans f_68
      have f_69 := (hs.o gq_60 trivial rfl).1.trans f_69
      have f_70 := (hs.o gq_60 trivial rfl).1.trans f_70
      have f_71 := (hs.o gq_60 trivial rfl).1.trans f_71
      have f_72 := (hs.o gq_60 trivial rfl).1.trans f_72
      have f_74 := (hs.o gq_60 trivial rfl).1.trans f_74
      have f_81 := (hs.o gq_60 trivial rfl).1.trans f_81
      have f_90 := (hs.o gq_60 trivial rfl).1.trans f_90
      have f_97 := (hs.o gq_60 trivial rfl).1.trans f_97
      have f_118 := (hs.o gq_60 trivial rfl).1.trans f_118
      have f_120 := (hs.o gq_60 trivial rfl).1.trans f_120
      have f_128 := (hs.o gq_60 trivial rfl).1.trans f_128
      have f_129 := (hs.o gq_60 trivial rfl).1.trans f_129
      have f_130 := (hs.o gq_60 trivial rfl).1.trans f_130
      have f_131 := (hs.o gq_60 trivial rfl).1.trans f_131
      have f_132 := (hs.o gq_60 trivial rfl).1.trans f_132
      have f_133 := (hs.o gq_60 trivial rfl).1.trans f_133
      have f_136 := (hs.o gq_60 trivial rfl).1.trans f_136
      have f_144 := (hs.o gq_60 trivial rfl).1.trans f_144
      have f_145 := (hs.o gq_60 trivial rfl).1.trans f_145
      have f_147 := (hs.o gq_60 trivial rfl).1.trans f_147
      have f_148 := (hs.o gq_60 trivial rfl).1.trans f_148
      have f_151 := (hs.o gq_60 trivial rfl).1.trans f_151
      have f_153 := (hs.o gq_60 trivial rfl).1.trans f_153
      have f_156 := (hs.o gq_60 trivial rfl).1.trans f_156
      have f_157 := (hs.o gq_60 trivial rfl).1.trans f_157
      have f_164 := (hs.o gq_60 trivial rfl).2.trans f_164
      have f_166 := (hs.o gq_60 trivial rfl).2.trans f_166
      have f_169 := (hs.o gq_60 trivial rfl).2.trans f_169
      have f_171 := (hs.o gq_60 trivial rfl).2.trans f_171
      have f_173 := (hs.o gq_60 trivial rfl).2.trans f_173
      have f_175 := (hs.o gq_60 trivial rfl).2.trans f_175
      have f_177 := (hs.o gq_60 trivial rfl).2.trans f_177
      have f_179 := (hs.o gq_60 trivial rfl).2.trans f_179
      have f_181 := (hs.o gq_60 trivial rfl).2.trans f_181
      have f_183 := (hs.o gq_60 trivial rfl).2.trans f_183
      have f_185 := (hs.o gq_60 trivial rfl).2.trans f_185
      have f_187 := (hs.o gq_60 trivial rfl).2.trans f_187
      have f_189 := (hs.o gq_60 trivial rfl).2.trans f_189
      have f_191 := (hs.o gq_60 trivial rfl).2.trans f_191
      have f_193 := (hs.o gq_60 trivial rfl).2.trans f_193
      have fa_36 : ∀ j, j < 14 → _ = P_wo j := fun j hj => (hs.a gq_34 rfl j).1.trans (fa_36 j hj)
      have fa_167 : ∀ j, j < 13 → _ = P_w1 j := fun j hj => (hs.a gq_165 rfl j).1.trans (fa_167 j hj)
      have gq_2 := gq_2.S hs
      have gq_27 := gq_27.S hs
      have gq_29 := gq_29.S hs
      have gq_31 := gq_31.S hs
      have gq_34 := gq_34.S hs
      have gq_37 := gq_37.S hs
      have gq_39 := gq_39.S hs
      have gq_41 := gq_41.S hs
      have gq_44 := gq_44.S hs
      have gq_47 := gq_47.S hs
      have gq_50 := gq_50.S hs
      have gq_53 := gq_53.S hs
      have gq_55 := gq_55.S hs
      have gq_60 := gq_60.S hs
      have gq_163 := gq_163.S hs
      have gq_165 := gq_165.S hs
      have gq_168 := gq_168.S hs
      have gq_170 := gq_170.S hs
      have gq_172 := gq_172.S hs
      have gq_174 := gq_174.S hs
      have gq_176 := gq_176.S hs
      have gq_178 := gq_178.S hs
      have gq_180 := gq_180.S hs
      have gq_182 := gq_182.S hs
      have gq_184 := gq_184.S hs
      have gq_186 := gq_186.S hs
      have gq_188 := gq_188.S hs
      have gq_190 := gq_190.S hs
      have gq_192 := gq_192.S hs
      refine lv_aload_n hx hb dL_law_843 rfl (lv_at hl 1 rfl) ?_
      refine lv_aload_n hx hb dL_law_844 rfl (lv_at hl 3 rfl) ?_
      refine lv_iload_n hx hb dL_law_845 rfl (lv_at hl 0 rfl) ?_
      refine lv_iconst (v := 1) hx hb dL_law_846 (by decide) ?_
      refine lv_iadd hx hb dL_law_847 ?_
      refine lv_topi (fun x_579 ex_579 => ?_)
      obtain rfl : x_579 = (1 : Int32) := ex_579.trans (by decide)
      refine va_sld hx hb hX hbl hbA hW.2.2.2.1 (vp_in_iff.mpr (by rw [hL7]; decide)) dL_law_848 ?_
      rw [show (1 : Int32).toNatClampNeg = 1 from by decide]
      refine lv_aload_n hx hb dL_law_849 rfl (lv_at hl 3 rfl) ?_
      refine lv_iload_n hx hb dL_law_850 rfl (lv_at hl 0 rfl) ?_
      refine lv_iconst (v := 2) hx hb dL_law_851 (by decide) ?_
      refine lv_iadd hx hb dL_law_852 ?_
      refine lv_topi (fun x_580 ex_580 => ?_)
      obtain rfl : x_580 = (2 : Int32) := ex_580.trans (by decide)
      refine va_sld hx hb hX hbl hbA hW.2.2.2.1 (vp_in_iff.mpr (by rw [hL7]; decide)) dL_law_853 ?_
      rw [show (2 : Int32).toNatClampNeg = 2 from by decide]
      refine hb_if_eq (zx := (xs 2).toInt) (tgt := 861) hx hb rfl dL_law_854 (by decide) (fun c_581 => ?_) (fun c_581 => ?_)
      · skip
        refine lv_iconst (v := 0) hx hb dL_law_861 (by decide) ?_
        refine lv_aload_n hx hb dL_law_862 rfl (lv_at hl 3 rfl) ?_
        refine lv_iload_n hx hb dL_law_863 rfl (lv_at hl 0 rfl) ?_
        refine lv_iconst (v := 3) hx hb dL_law_864 (by decide) ?_
        refine lv_iadd hx hb dL_law_865 ?_
        refine lv_topi (fun x_582 ex_582 => ?_)
        obtain rfl : x_582 = (3 : Int32) := ex_582.trans (by decide)
        refine va_sld hx hb hX hbl hbA hW.2.2.2.1 (vp_in_iff.mpr (by rw [hL7]; decide)) dL_law_866 ?_
        rw [show (3 : Int32).toNatClampNeg = 3 from by decide]
        refine hb_if_eq (zx := (xs 3).toInt) (tgt := 874) hx hb rfl dL_law_867 (by decide) (fun c_583 => ?_) (fun c_583 => ?_)
        · skip
          refine lv_iconst (v := 0) hx hb dL_law_874 (by decide) ?_
          refine lv_aload_n hx hb dL_law_875 rfl (lv_at hl 3 rfl) ?_
          refine lv_iload_n hx hb dL_law_876 rfl (lv_at hl 0 rfl) ?_
          refine lv_iconst (v := 4) hx hb dL_law_877 (by decide) ?_
          refine lv_iadd hx hb dL_law_878 ?_
          refine lv_topi (fun x_584 ex_584 => ?_)
          obtain rfl : x_584 = (4 : Int32) := ex_584.trans (by decide)
          refine va_sld hx hb hX hbl hbA hW.2.2.2.1 (vp_in_iff.mpr (by rw [hL7]; decide)) dL_law_879 ?_
          rw [show (4 : Int32).toNatClampNeg = 4 from by decide]
          refine hx_goi (hx_runV (As := [.int (xs 1), .int (0 : Int32), .int (0 : Int32), .int (xs 4)]) (rest := [.int r_576]) ⟨hx, hb, hml, hown, hts⟩ hW gq_60 td_10 (T := TX10) (N := 98) rfl (c_X10_hear l dC dI dA L_574 h_575 H.size q_60 (xs 1) (0 : Int32) (0 : Int32) (xs 4) gq_60 f_97) (cwV 4 hts (hx_gV kw_1601 kw_1598 kw_1599 kw_1600 kw_103) rfl rfl rfl (by decide +kernel) ⟨Nat.le_of_ble_eq_true rfl, Nat.le_of_ble_eq_true rfl⟩) rfl hl.1 rfl (Nat.le_of_ble_eq_true rfl) dL_law_880 ⟨Nat.le_of_ble_eq_true rfl, Nat.le_of_ble_eq_true rfl⟩) hW (fun r_587 L_585 h_586 H locs p_588 hW => ?_)
          obtain ⟨hr_589, hs⟩ := p_588
          have hs : hx_S P_tb [] L_574 h_575 L_585 h_586 := hs
          have f_4 := (hs.o gq_2 trivial rfl).1.trans f_4
          have f_5 := (hs.o gq_2 trivial rfl).1.trans f_5
          have f_9 := (hs.o gq_2 trivial rfl).1.trans f_9
          have f_11 := (hs.o gq_2 trivial rfl).1.trans f_11
          have f_14 := (hs.o gq_2 trivial rfl).1.trans f_14
          have f_16 := (hs.o gq_2 trivial rfl).1.trans f_16
          have f_28 := (hs.o gq_2 trivial rfl).2.trans f_28
          have f_30 := (hs.o gq_2 trivial rfl).2.trans f_30
          have f_32 := (hs.o gq_2 trivial rfl).2.trans f_32
          have f_33 := (hs.o gq_31 trivial rfl).1.trans f_33
          have f_35 := (hs.o gq_31 trivial rfl).2.trans f_35
          have f_38 := (hs.o gq_2 trivial rfl).2.trans f_38
          have f_40 := (hs.o gq_2 trivial rfl).2.trans f_40
          have f_42 := (hs.o gq_2 trivial rfl).2.trans f_42
          have f_43 := (hs.o gq_41 trivial rfl).1.trans f_43
          have f_45 := (hs.o gq_2 trivial rfl).2.trans f_45
          have f_46 := (hs.o gq_44 trivial rfl).1.trans f_46
          have f_48 := (hs.o gq_2 trivial rfl).2.trans f_48
          have f_49 := (hs.o gq_47 trivial rfl).1.trans f_49
          have f_51 := (hs.o gq_2 trivial rfl).2.trans f_51
          have f_52 := (hs.o gq_50 trivial rfl).1.trans f_52
          have f_54 := (hs.o gq_50 trivial rfl).2.trans f_54
          have f_56 := (hs.o gq_2 trivial rfl).2.trans f_56
          have f_57 := (hs.o gq_55 trivial rfl).1.trans f_57
          have f_58 := (hs.o gq_55 trivial rfl).1.trans f_58
          have f_61 := (hs.o gq_60 trivial rfl).1.trans f_61
          have f_62 := (hs.o gq_60 trivial rfl).1.trans f_62
          have f_68 := (hs.o gq_60 trivial rfl).1.trans f_68
          have f_69 := (hs.o gq_60 trivial rfl).1.trans f_69
          have f_70 := (hs.o gq_60 trivial rfl).1.trans f_70
          have f_71 := (hs.o gq_60 trivial rfl).1.trans f_71
          have f_72 := (hs.o gq_60 trivial rfl).1.trans f_72
          have f_74 := (hs.o gq_60 trivial rfl).1.trans f_74
          have f_81 := (hs.o gq_60 trivial rfl).1.trans f_81
          have f_90 := (hs.o gq_60 trivial rfl).1.trans f_90
          have f_97 := (hs.o gq_60 trivial rfl).1.trans f_97
          have f_118 := (hs.o gq_60 trivial rfl).1.trans f_118
          have f_120 := (hs.o gq_60 trivial rfl).1.trans f_120
          have f_128 := (hs.o gq_60 trivial rfl).1.trans f_128
          have f_129 := (hs.o gq_60 trivial rfl).1.trans f_129
          have f_130 := (hs.o gq_60 trivial rfl).1.trans f_130
          have f_131 := (hs.o gq_60 trivial rfl).1.trans f_131
          have f_132 := (hs.o gq_60 trivial rfl).1.trans f_132
          have f_133 := (hs.o gq_60 trivial rfl).1.trans f_133
          have f_136 := (hs.o gq_60 trivial rfl).1.trans f_136
          have f_144 := (hs.o gq_60 trivial rfl).1.trans f_144
          have f_145 := (hs.o gq_60 trivial rfl).1.trans f_145
          have f_147 := (hs.o gq_60 trivial rfl).1.trans f_147
          have f_148 := (hs.o gq_60 trivial rfl).1.trans f_148
          have f_151 := (hs.o gq_60 trivial rfl).1.trans f_151
          have f_153 := (hs.o gq_60 trivial rfl).1.trans f_153
          have f_156 := (hs.o gq_60 trivial rfl).1.trans f_156
          have f_157 := (hs.o gq_60 trivial rfl).1.trans f_157
          have f_164 := (hs.o gq_60 trivial rfl).2.trans f_164
          have f_166 := (hs.o gq_60 trivial rfl).2.trans f_166
          have f_169 := (hs.o gq_60 trivial rfl).2.trans f_169
          have f_171 := (hs.o gq_60 trivial rfl).2.trans f_171
          have f_173 := (hs.o gq_60 trivial rfl).2.trans f_173
          have f_175 := (hs.o gq_60 trivial rfl).2.trans f_175
          have f_177 := (hs.o gq_60 trivial rfl).2.trans f_177
          have f_179 := (hs.o gq_60 trivial rfl).2.trans f_179
          have f_181 := (hs.o gq_60 trivial rfl).2.trans f_181
          have f_183 := (hs.o gq_60 trivial rfl).2.trans f_183
          have f_185 := (hs.o gq_60 trivial rfl).2.trans f_185
          have f_187 := (hs.o gq_60 trivial rfl).2.trans f_187
          have f_189 := (hs.o gq_60 trivial rfl).2.trans f_189
          have f_191 := (hs.o gq_60 trivial rfl).2.trans f_191
          have f_193 := (hs.o gq_60 trivial rfl).2.trans f_193
          have fa_36 : ∀ j, j < 14 → _ = P_wo j := fun j hj => (hs.a gq_34 rfl j).1.trans (fa_36 j hj)
          have fa_167 : ∀ j, j < 13 → _ = P_w1 j := fun j hj => (hs.a gq_165 rfl j).1.trans (fa_167 j hj)
          have gq_2 := gq_2.S hs
          have gq_27 := gq_27.S hs
          have gq_29 := gq_29.S hs
          have gq_31 := gq_31.S hs
          have gq_34 := gq_34.S hs
          have gq_37 := gq_37.S hs
          have gq_39 := gq_39.S hs
          have gq_41 := gq_41.S hs
          have gq_44 := gq_44.S hs
          have gq_47 := gq_47.S hs
          have gq_50 := gq_50.S hs
          have gq_53 := gq_53.S hs
          have gq_55 := gq_55.S hs
          have gq_60 := gq_60.S hs
          have gq_163 := gq_163.S hs
          have gq_165 := gq_165.S hs
          have gq_168 := gq_168.S hs
          have gq_170 := gq_170.S hs
          have gq_172 := gq_172.S hs
          have gq_174 := gq_174.S hs
          have gq_176 := gq_176.S hs
          have gq_178 := gq_178.S hs
          have gq_180 := gq_180.S hs
          have gq_182 := gq_182.S hs
          have gq_184 := gq_184.S hs
          have gq_186 := gq_186.S hs
          have gq_188 := gq_188.S hs
          have gq_190 := gq_190.S hs
          have gq_192 := gq_192.S hs
          have heq : r_576 = r_587 := by
            first | exact hr_578.trans hr_589.symm | (rcases hr_578 with ⟨k1, k2⟩ | ⟨k1, k2⟩ <;> rcases hr_589 with ⟨k3, k4⟩ | ⟨k3, k4⟩ <;> first | exact k2.trans k4.symm | (exfalso; omega) | exact absurd k1 k3 | exact absurd k3 k1)
          refine hb_icmp_eq (zx := r_576.toInt) (zy := r_587.toInt) (tgt := 1379) hx hb rfl rfl dL_law_883 (by decide) (fun c_590 => ?_) (fun c_590 => absurd (congrArg Int32.toInt heq) c_590)
          exact law_tail hx hb hr hlocks hX hbl hbA hL7 _ _ hW.2.2.2.1 ls hl (Nat.le_of_ble_eq_true rfl) (Nat.le_of_ble_eq_true rfl)
        · skip
          refine lv_iconst (v := 1) hx hb dL_law_870 (by decide) ?_
          refine lv_goto (tgt := 875) hx hb dL_law_871 (by decide) ?_
          refine lv_aload_n hx hb dL_law_875 rfl (lv_at hl 3 rfl) ?_
          refine lv_iload_n hx hb dL_law_876 rfl (lv_at hl 0 rfl) ?_
          refine lv_iconst (v := 4) hx hb dL_law_877 (by decide) ?_
          refine lv_iadd hx hb dL_law_878 ?_
          refine lv_topi (fun x_591 ex_591 => ?_)
          obtain rfl : x_591 = (4 : Int32) := ex_591.trans (by decide)
          refine va_sld hx hb hX hbl hbA hW.2.2.2.1 (vp_in_iff.mpr (by rw [hL7]; decide)) dL_law_879 ?_
          rw [show (4 : Int32).toNatClampNeg = 4 from by decide]
          refine hx_goi (hx_runV (As := [.int (xs 1), .int (0 : Int32), .int (1 : Int32), .int (xs 4)]) (rest := [.int r_576]) ⟨hx, hb, hml, hown, hts⟩ hW gq_60 td_10 (T := TX10) (N := 98) rfl (c_X10_hear l dC dI dA L_574 h_575 H.size q_60 (xs 1) (0 : Int32) (1 : Int32) (xs 4) gq_60 f_97) (cwV 4 hts (hx_gV kw_1601 kw_1598 kw_1599 kw_1600 kw_103) rfl rfl rfl (by decide +kernel) ⟨Nat.le_of_ble_eq_true rfl, Nat.le_of_ble_eq_true rfl⟩) rfl hl.1 rfl (Nat.le_of_ble_eq_true rfl) dL_law_880 ⟨Nat.le_of_ble_eq_true rfl, Nat.le_of_ble_eq_true rfl⟩) hW (fun r_594 L_592 h_593 H locs p_595 hW => ?_)
          obtain ⟨hr_596, hs⟩ := p_595
          have hs : hx_S P_tb [] L_574 h_575 L_592 h_593 := hs
          have f_4 := (hs.o gq_2 trivial rfl).1.trans f_4
          have f_5 := (hs.o gq_2 trivial rfl).1.trans f_5
          have f_9 := (hs.o gq_2 trivial rfl).1.trans f_9
          have f_11 := (hs.o gq_2 trivial rfl).1.trans f_11
          have f_14 := (hs.o gq_2 trivial rfl).1.trans f_14
          have f_16 := (hs.o gq_2 trivial rfl).1.trans f_16
          have f_28 := (hs.o gq_2 trivial rfl).2.trans f_28
          have f_30 := (hs.o gq_2 trivial rfl).2.trans f_30
          have f_32 := (hs.o gq_2 trivial rfl).2.trans f_32
          have f_33 := (hs.o gq_31 trivial rfl).1.trans f_33
          have f_35 := (hs.o gq_31 trivial rfl).2.trans f_35
          have f_38 := (hs.o gq_2 trivial rfl).2.trans f_38
          have f_40 := (hs.o gq_2 trivial rfl).2.trans f_40
          have f_42 := (hs.o gq_2 trivial rfl).2.trans f_42
          have f_43 := (hs.o gq_41 trivial rfl).1.trans f_43
          have f_45 := (hs.o gq_2 trivial rfl).2.trans f_45
          have f_46 := (hs.o gq_44 trivial rfl).1.trans f_46
          have f_48 := (hs.o gq_2 trivial rfl).2.trans f_48
          have f_49 := (hs.o gq_47 trivial rfl).1.trans f_49
          have f_51 := (hs.o gq_2 trivial rfl).2.trans f_51
          have f_52 := (hs.o gq_50 trivial rfl).1.trans f_52
          have f_54 := (hs.o gq_50 trivial rfl).2.trans f_54
          have f_56 := (hs.o gq_2 trivial rfl).2.trans f_56
          have f_57 := (hs.o gq_55 trivial rfl).1.trans f_57
          have f_58 := (hs.o gq_55 trivial rfl).1.trans f_58
          have f_61 := (hs.o gq_60 trivial rfl).1.trans f_61
          have f_62 := (hs.o gq_60 trivial rfl).1.trans f_62
          have f_68 := (hs.o gq_60 trivial rfl).1.trans f_68
          have f_69 := (hs.o gq_60 trivial rfl).1.trans f_69
          have f_70 := (hs.o gq_60 trivial rfl).1.trans f_70
          have f_71 := (hs.o gq_60 trivial rfl).1.trans f_71
          have f_72 := (hs.o gq_60 trivial rfl).1.trans f_72
          have f_74 := (hs.o gq_60 trivial rfl).1.trans f_74
          have f_81 := (hs.o gq_60 trivial rfl).1.trans f_81
          have f_90 := (hs.o gq_60 trivial rfl).1.trans f_90
          have f_97 := (hs.o gq_60 trivial rfl).1.trans f_97
          have f_118 := (hs.o gq_60 trivial rfl).1.trans f_118
          have f_120 := (hs.o gq_60 trivial rfl).1.trans f_120
          have f_128 := (hs.o gq_60 trivial rfl).1.trans f_128
          have f_129 := (hs.o gq_60 trivial rfl).1.trans f_129
          have f_130 := (hs.o gq_60 trivial rfl).1.trans f_130
          have f_131 := (hs.o gq_60 trivial rfl).1.trans f_131
          have f_132 := (hs.o gq_60 trivial rfl).1.trans f_132
          have f_133 := (hs.o gq_60 trivial rfl).1.trans f_133
          have f_136 := (hs.o gq_60 trivial rfl).1.trans f_136
          have f_144 := (hs.o gq_60 trivial rfl).1.trans f_144
          have f_145 := (hs.o gq_60 trivial rfl).1.trans f_145
          have f_147 := (hs.o gq_60 trivial rfl).1.trans f_147
          have f_148 := (hs.o gq_60 trivial rfl).1.trans f_148
          have f_151 := (hs.o gq_60 trivial rfl).1.trans f_151
          have f_153 := (hs.o gq_60 trivial rfl).1.trans f_153
          have f_156 := (hs.o gq_60 trivial rfl).1.trans f_156
          have f_157 := (hs.o gq_60 trivial rfl).1.trans f_157
          have f_164 := (hs.o gq_60 trivial rfl).2.trans f_164
          have f_166 := (hs.o gq_60 trivial rfl).2.trans f_166
          have f_169 := (hs.o gq_60 trivial rfl).2.trans f_169
          have f_171 := (hs.o gq_60 trivial rfl).2.trans f_171
          have f_173 := (hs.o gq_60 trivial rfl).2.trans f_173
          have f_175 := (hs.o gq_60 trivial rfl).2.trans f_175
          have f_177 := (hs.o gq_60 trivial rfl).2.trans f_177
          have f_179 := (hs.o gq_60 trivial rfl).2.trans f_179
          have f_181 := (hs.o gq_60 trivial rfl).2.trans f_181
          have f_183 := (hs.o gq_60 trivial rfl).2.trans f_183
          have f_185 := (hs.o gq_60 trivial rfl).2.trans f_185
          have f_187 := (hs.o gq_60 trivial rfl).2.trans f_187
          have f_189 := (hs.o gq_60 trivial rfl).2.trans f_189
          have f_191 := (hs.o gq_60 trivial rfl).2.trans f_191
          have f_193 := (hs.o gq_60 trivial rfl).2.trans f_193
          have fa_36 : ∀ j, j < 14 → _ = P_wo j := fun j hj => (hs.a gq_34 rfl j).1.trans (fa_36 j hj)
          have fa_167 : ∀ j, j < 13 → _ = P_w1 j := fun j hj => (hs.a gq_165 rfl j).1.trans (fa_167 j hj)
          have gq_2 := gq_2.S hs
          have gq_27 := gq_27.S hs
          have gq_29 := gq_29.S hs
          have gq_31 := gq_31.S hs
          have gq_34 := gq_34.S hs
          have gq_37 := gq_37.S hs
          have gq_39 := gq_39.S hs
          have gq_41 := gq_41.S hs
          have gq_44 := gq_44.S hs
          have gq_47 := gq_47.S hs
          have gq_50 := gq_50.S hs
          have gq_53 := gq_53.S hs
          have gq_55 := gq_55.S hs
          have gq_60 := gq_60.S hs
          have gq_163 := gq_163.S hs
          have gq_165 := gq_165.S hs
          have gq_168 := gq_168.S hs
          have gq_170 := gq_170.S hs
          have gq_172 := gq_172.S hs
          have gq_174 := gq_174.S hs
          have gq_176 := gq_176.S hs
          have gq_178 := gq_178.S hs
          have gq_180 := gq_180.S hs
          have gq_182 := gq_182.S hs
          have gq_184 := gq_184.S hs
          have gq_186 := gq_186.S hs
          have gq_188 := gq_188.S hs
          have gq_190 := gq_190.S hs
          have gq_192 := gq_192.S hs
          have heq : r_576 = r_594 := by
            first | exact hr_578.trans hr_596.symm | (rcases hr_578 with ⟨k1, k2⟩ | ⟨k1, k2⟩ <;> rcases hr_596 with ⟨k3, k4⟩ | ⟨k3, k4⟩ <;> first | exact k2.trans k4.symm | (exfalso; omega) | exact absurd k1 k3 | exact absurd k3 k1)
          refine hb_icmp_eq (zx := r_576.toInt) (zy := r_594.toInt) (tgt := 1379) hx hb rfl rfl dL_law_883 (by decide) (fun c_597 => ?_) (fun c_597 => absurd (congrArg Int32.toInt heq) c_597)
          exact law_tail hx hb hr hlocks hX hbl hbA hL7 _ _ hW.2.2.2.1 ls hl (Nat.le_of_ble_eq_true rfl) (Nat.le_of_ble_eq_true rfl)
      · skip
        refine lv_iconst (v := 1) hx hb dL_law_857 (by decide) ?_
        refine lv_goto (tgt := 862) hx hb dL_law_858 (by decide) ?_
        refine lv_aload_n hx hb dL_law_862 rfl (lv_at hl 3 rfl) ?_
        refine lv_iload_n hx hb dL_law_863 rfl (lv_at hl 0 rfl) ?_
        refine lv_iconst (v := 3) hx hb dL_law_864 (by decide) ?_
        refine lv_iadd hx hb dL_law_865 ?_
        refine lv_topi (fun x_598 ex_598 => ?_)
        obtain rfl : x_598 = (3 : Int32) := ex_598.trans (by decide)
        refine va_sld hx hb hX hbl hbA hW.2.2.2.1 (vp_in_iff.mpr (by rw [hL7]; decide)) dL_law_866 ?_
        rw [show (3 : Int32).toNatClampNeg = 3 from by decide]
        refine hb_if_eq (zx := (xs 3).toInt) (tgt := 874) hx hb rfl dL_law_867 (by decide) (fun c_599 => ?_) (fun c_599 => ?_)
        · skip
          refine lv_iconst (v := 0) hx hb dL_law_874 (by decide) ?_
          refine lv_aload_n hx hb dL_law_875 rfl (lv_at hl 3 rfl) ?_
          refine lv_iload_n hx hb dL_law_876 rfl (lv_at hl 0 rfl) ?_
          refine lv_iconst (v := 4) hx hb dL_law_877 (by decide) ?_
          refine lv_iadd hx hb dL_law_878 ?_
          refine lv_topi (fun x_600 ex_600 => ?_)
          obtain rfl : x_600 = (4 : Int32) := ex_600.trans (by decide)
          refine va_sld hx hb hX hbl hbA hW.2.2.2.1 (vp_in_iff.mpr (by rw [hL7]; decide)) dL_law_879 ?_
          rw [show (4 : Int32).toNatClampNeg = 4 from by decide]
          refine hx_goi (hx_runV (As := [.int (xs 1), .int (1 : Int32), .int (0 : Int32), .int (xs 4)]) (rest := [.int r_576]) ⟨hx, hb, hml, hown, hts⟩ hW gq_60 td_10 (T := TX10) (N := 98) rfl (c_X10_hear l dC dI dA L_574 h_575 H.size q_60 (xs 1) (1 : Int32) (0 : Int32) (xs 4) gq_60 f_97) (cwV 4 hts (hx_gV kw_1601 kw_1598 kw_1599 kw_1600 kw_103) rfl rfl rfl (by decide +kernel) ⟨Nat.le_of_ble_eq_true rfl, Nat.le_of_ble_eq_true rfl⟩) rfl hl.1 rfl (Nat.le_of_ble_eq_true rfl) dL_law_880 ⟨Nat.le_of_ble_eq_true rfl, Nat.le_of_ble_eq_true rfl⟩) hW (fun r_603 L_601 h_602 H locs p_604 hW => ?_)
          obtain ⟨hr_605, hs⟩ := p_604
          have hs : hx_S P_tb [] L_574 h_575 L_601 h_602 := hs
          have f_4 := (hs.o gq_2 trivial rfl).1.trans f_4
          have f_5 := (hs.o gq_2 trivial rfl).1.trans f_5
          have f_9 := (hs.o gq_2 trivial rfl).1.trans f_9
          have f_11 := (hs.o gq_2 trivial rfl).1.trans f_11
          have f_14 := (hs.o gq_2 trivial rfl).1.trans f_14
          have f_16 := (hs.o gq_2 trivial rfl).1.trans f_16
          have f_28 := (hs.o gq_2 trivial rfl).2.trans f_28
          have f_30 := (hs.o gq_2 trivial rfl).2.trans f_30
          have f_32 := (hs.o gq_2 trivial rfl).2.trans f_32
          have f_33 := (hs.o gq_31 trivial rfl).1.trans f_33
          have f_35 := (hs.o gq_31 trivial rfl).2.trans f_35
          have f_38 := (hs.o gq_2 trivial rfl).2.trans f_38
          have f_40 := (hs.o gq_2 trivial rfl).2.trans f_40
          have f_42 := (hs.o gq_2 trivial rfl).2.trans f_42
          have f_43 := (hs.o gq_41 trivial rfl).1.trans f_43
          have f_45 := (hs.o gq_2 trivial rfl).2.trans f_45
          have f_46 := (hs.o gq_44 trivial rfl).1.trans f_46
          have f_48 := (hs.o gq_2 trivial rfl).2.trans f_48
          have f_49 := (hs.o gq_47 trivial rfl).1.trans f_49
          have f_51 := (hs.o gq_2 trivial rfl).2.trans f_51
          have f_52 := (hs.o gq_50 trivial rfl).1.trans f_52
          have f_54 := (hs.o gq_50 trivial rfl).2.trans f_54
          have f_56 := (hs.o gq_2 trivial rfl).2.trans f_56
          have f_57 := (hs.o gq_55 trivial rfl).1.trans f_57
          have f_58 := (hs.o gq_55 trivial rfl).1.trans f_58
          have f_61 := (hs.o gq_60 trivial rfl).1.trans f_61
          have f_62 := (hs.o gq_60 trivial rfl).1.trans f_62
          have f_68 := (hs.o gq_60 trivial rfl).1.trans f_68
          have f_69 := (hs.o gq_60 trivial rfl).1.trans f_69
          have f_70 := (hs.o gq_60 trivial rfl).1.trans f_70
          have f_71 := (hs.o gq_60 trivial rfl).1.trans f_71
          have f_72 := (hs.o gq_60 trivial rfl).1.trans f_72
          have f_74 := (hs.o gq_60 trivial rfl).1.trans f_74
          have f_81 := (hs.o gq_60 trivial rfl).1.trans f_81
          have f_90 := (hs.o gq_60 trivial rfl).1.trans f_90
          have f_97 := (hs.o gq_60 trivial rfl).1.trans f_97
          have f_118 := (hs.o gq_60 trivial rfl).1.trans f_118
          have f_120 := (hs.o gq_60 trivial rfl).1.trans f_120
          have f_128 := (hs.o gq_60 trivial rfl).1.trans f_128
          have f_129 := (hs.o gq_60 trivial rfl).1.trans f_129
          have f_130 := (hs.o gq_60 trivial rfl).1.trans f_130
          have f_131 := (hs.o gq_60 trivial rfl).1.trans f_131
          have f_132 := (hs.o gq_60 trivial rfl).1.trans f_132
          have f_133 := (hs.o gq_60 trivial rfl).1.trans f_133
          have f_136 := (hs.o gq_60 trivial rfl).1.trans f_136
          have f_144 := (hs.o gq_60 trivial rfl).1.trans f_144
          have f_145 := (hs.o gq_60 trivial rfl).1.trans f_145
          have f_147 := (hs.o gq_60 trivial rfl).1.trans f_147
          have f_148 := (hs.o gq_60 trivial rfl).1.trans f_148
          have f_151 := (hs.o gq_60 trivial rfl).1.trans f_151
          have f_153 := (hs.o gq_60 trivial rfl).1.trans f_153
          have f_156 := (hs.o gq_60 trivial rfl).1.trans f_156
          have f_157 := (hs.o gq_60 trivial rfl).1.trans f_157
          have f_164 := (hs.o gq_60 trivial rfl).2.trans f_164
          have f_166 := (hs.o gq_60 trivial rfl).2.trans f_166
          have f_169 := (hs.o gq_60 trivial rfl).2.trans f_169
          have f_171 := (hs.o gq_60 trivial rfl).2.trans f_171
          have f_173 := (hs.o gq_60 trivial rfl).2.trans f_173
          have f_175 := (hs.o gq_60 trivial rfl).2.trans f_175
          have f_177 := (hs.o gq_60 trivial rfl).2.trans f_177
          have f_179 := (hs.o gq_60 trivial rfl).2.trans f_179
          have f_181 := (hs.o gq_60 trivial rfl).2.trans f_181
          have f_183 := (hs.o gq_60 trivial rfl).2.trans f_183
          have f_185 := (hs.o gq_60 trivial rfl).2.trans f_185
          have f_187 := (hs.o gq_60 trivial rfl).2.trans f_187
          have f_189 := (hs.o gq_60 trivial rfl).2.trans f_189
          have f_191 := (hs.o gq_60 trivial rfl).2.trans f_191
          have f_193 := (hs.o gq_60 trivial rfl).2.trans f_193
          have fa_36 : ∀ j, j < 14 → _ = P_wo j := fun j hj => (hs.a gq_34 rfl j).1.trans (fa_36 j hj)
          have fa_167 : ∀ j, j < 13 → _ = P_w1 j := fun j hj => (hs.a gq_165 rfl j).1.trans (fa_167 j hj)
          have gq_2 := gq_2.S hs
          have gq_27 := gq_27.S hs
          have gq_29 := gq_29.S hs
          have gq_31 := gq_31.S hs
          have gq_34 := gq_34.S hs
          have gq_37 := gq_37.S hs
          have gq_39 := gq_39.S hs
          have gq_41 := gq_41.S hs
          have gq_44 := gq_44.S hs
          have gq_47 := gq_47.S hs
          have gq_50 := gq_50.S hs
          have gq_53 := gq_53.S hs
          have gq_55 := gq_55.S hs
          have gq_60 := gq_60.S hs
          have gq_163 := gq_163.S hs
          have gq_165 := gq_165.S hs
          have gq_168 := gq_168.S hs
          have gq_170 := gq_170.S hs
          have gq_172 := gq_172.S hs
          have gq_174 := gq_174.S hs
          have gq_176 := gq_176.S hs
          have gq_178 := gq_178.S hs
          have gq_180 := gq_180.S hs
          have gq_182 := gq_182.S hs
          have gq_184 := gq_184.S hs
          have gq_186 := gq_186.S hs
          have gq_188 := gq_188.S hs
          have gq_190 := gq_190.S hs
          have gq_192 := gq_192.S hs
          have heq : r_576 = r_603 := by
            first | exact hr_578.trans hr_605.symm | (rcases hr_578 with ⟨k1, k2⟩ | ⟨k1, k2⟩ <;> rcases hr_605 with ⟨k3, k4⟩ | ⟨k3, k4⟩ <;> first | exact k2.trans k4.symm | (exfalso; omega) | exact absurd k1 k3 | exact absurd k3 k1)
          refine hb_icmp_eq (zx := r_576.toInt) (zy := r_603.toInt) (tgt := 1379) hx hb rfl rfl dL_law_883 (by decide) (fun c_606 => ?_) (fun c_606 => absurd (congrArg Int32.toInt heq) c_606)
          exact law_tail hx hb hr hlocks hX hbl hbA hL7 _ _ hW.2.2.2.1 ls hl (Nat.le_of_ble_eq_true rfl) (Nat.le_of_ble_eq_true rfl)
        · skip
          refine lv_iconst (v := 1) hx hb dL_law_870 (by decide) ?_
          refine lv_goto (tgt := 875) hx hb dL_law_871 (by decide) ?_
          refine lv_aload_n hx hb dL_law_875 rfl (lv_at hl 3 rfl) ?_
          refine lv_iload_n hx hb dL_law_876 rfl (lv_at hl 0 rfl) ?_
          refine lv_iconst (v := 4) hx hb dL_law_877 (by decide) ?_
          refine lv_iadd hx hb dL_law_878 ?_
          refine lv_topi (fun x_607 ex_607 => ?_)
          obtain rfl : x_607 = (4 : Int32) := ex_607.trans (by decide)
          refine va_sld hx hb hX hbl hbA hW.2.2.2.1 (vp_in_iff.mpr (by rw [hL7]; decide)) dL_law_879 ?_
          rw [show (4 : Int32).toNatClampNeg = 4 from by decide]
          refine hx_goi (hx_runV (As := [.int (xs 1), .int (1 : Int32), .int (1 : Int32), .int (xs 4)]) (rest := [.int r_576]) ⟨hx, hb, hml, hown, hts⟩ hW gq_60 td_10 (T := TX10) (N := 98) rfl (c_X10_hear l dC dI dA L_574 h_575 H.size q_60 (xs 1) (1 : Int32) (1 : Int32) (xs 4) gq_60 f_97) (cwV 4 hts (hx_gV kw_1601 kw_1598 kw_1599 kw_1600 kw_103) rfl rfl rfl (by decide +kernel) ⟨Nat.le_of_ble_eq_true rfl, Nat.le_of_ble_eq_true rfl⟩) rfl hl.1 rfl (Nat.le_of_ble_eq_true rfl) dL_law_880 ⟨Nat.le_of_ble_eq_true rfl, Nat.le_of_ble_eq_true rfl⟩) hW (fun r_610 L_608 h_609 H locs p_611 hW => ?_)
          obtain ⟨hr_612, hs⟩ := p_611
          have hs : hx_S P_tb [] L_574 h_575 L_608 h_609 := hs
          have f_4 := (hs.o gq_2 trivial rfl).1.trans f_4
          have f_5 := (hs.o gq_2 trivial rfl).1.trans f_5
          have f_9 := (hs.o gq_2 trivial rfl).1.trans f_9
          have f_11 := (hs.o gq_2 trivial rfl).1.trans f_11
          have f_14 := (hs.o gq_2 trivial rfl).1.trans f_14
          have f_16 := (hs.o gq_2 trivial rfl).1.trans f_16
          have f_28 := (hs.o gq_2 trivial rfl).2.trans f_28
          have f_30 := (hs.o gq_2 trivial rfl).2.trans f_30
          have f_32 := (hs.o gq_2 trivial rfl).2.trans f_32
          have f_33 := (hs.o gq_31 trivial rfl).1.trans f_33
          have f_35 := (hs.o gq_31 trivial rfl).2.trans f_35
          have f_38 := (hs.o gq_2 trivial rfl).2.trans f_38
          have f_40 := (hs.o gq_2 trivial rfl).2.trans f_40
          have f_42 := (hs.o gq_2 trivial rfl).2.trans f_42
          have f_43 := (hs.o gq_41 trivial rfl).1.trans f_43
          have f_45 := (hs.o gq_2 trivial rfl).2.trans f_45
          have f_46 := (hs.o gq_44 trivial rfl).1.trans f_46
          have f_48 := (hs.o gq_2 trivial rfl).2.trans f_48
          have f_49 := (hs.o gq_47 trivial rfl).1.trans f_49
          have f_51 := (hs.o gq_2 trivial rfl).2.trans f_51
          have f_52 := (hs.o gq_50 trivial rfl).1.trans f_52
          have f_54 := (hs.o gq_50 trivial rfl).2.trans f_54
          have f_56 := (hs.o gq_2 trivial rfl).2.trans f_56
          have f_57 := (hs.o gq_55 trivial rfl).1.trans f_57
          have f_58 := (hs.o gq_55 trivial rfl).1.trans f_58
          have f_61 := (hs.o gq_60 trivial rfl).1.trans f_61
          have f_62 := (hs.o gq_60 trivial rfl).1.trans f_62
          have f_68 := (hs.o gq_60 trivial rfl).1.trans f_68
          have f_69 := (hs.o gq_60 trivial rfl).1.trans f_69
          have f_70 := (hs.o gq_60 trivial rfl).1.trans f_70
          have f_71 := (hs.o gq_60 trivial rfl).1.trans f_71
          have f_72 := (hs.o gq_60 trivial rfl).1.trans f_72
          have f_74 := (hs.o gq_60 trivial rfl).1.trans f_74
          have f_81 := (hs.o gq_60 trivial rfl).1.trans f_81
          have f_90 := (hs.o gq_60 trivial rfl).1.trans f_90
          have f_97 := (hs.o gq_60 trivial rfl).1.trans f_97
          have f_118 := (hs.o gq_60 trivial rfl).1.trans f_118
          have f_120 := (hs.o gq_60 trivial rfl).1.trans f_120
          have f_128 := (hs.o gq_60 trivial rfl).1.trans f_128
          have f_129 := (hs.o gq_60 trivial rfl).1.trans f_129
          have f_130 := (hs.o gq_60 trivial rfl).1.trans f_130
          have f_131 := (hs.o gq_60 trivial rfl).1.trans f_131
          have f_132 := (hs.o gq_60 trivial rfl).1.trans f_132
          have f_133 := (hs.o gq_60 trivial rfl).1.trans f_133
          have f_136 := (hs.o gq_60 trivial rfl).1.trans f_136
          have f_144 := (hs.o gq_60 trivial rfl).1.trans f_144
          have f_145 := (hs.o gq_60 trivial rfl).1.trans f_145
          have f_147 := (hs.o gq_60 trivial rfl).1.trans f_147
          have f_148 := (hs.o gq_60 trivial rfl).1.trans f_148
          have f_151 := (hs.o gq_60 trivial rfl).1.trans f_151
          have f_153 := (hs.o gq_60 trivial rfl).1.trans f_153
          have f_156 := (hs.o gq_60 trivial rfl).1.trans f_156
          have f_157 := (hs.o gq_60 trivial rfl).1.trans f_157
          have f_164 := (hs.o gq_60 trivial rfl).2.trans f_164
          have f_166 := (hs.o gq_60 trivial rfl).2.trans f_166
          have f_169 := (hs.o gq_60 trivial rfl).2.trans f_169
          have f_171 := (hs.o gq_60 trivial rfl).2.trans f_171
          have f_173 := (hs.o gq_60 trivial rfl).2.trans f_173
          have f_175 := (hs.o gq_60 trivial rfl).2.trans f_175
          have f_177 := (hs.o gq_60 trivial rfl).2.trans f_177
          have f_179 := (hs.o gq_60 trivial rfl).2.trans f_179
          have f_181 := (hs.o gq_60 trivial rfl).2.trans f_181
          have f_183 := (hs.o gq_60 trivial rfl).2.trans f_183
          have f_185 := (hs.o gq_60 trivial rfl).2.trans f_185
          have f_187 := (hs.o gq_60 trivial rfl).2.trans f_187
          have f_189 := (hs.o gq_60 trivial rfl).2.trans f_189
          have f_191 := (hs.o gq_60 trivial rfl).2.trans f_191
          have f_193 := (hs.o gq_60 trivial rfl).2.trans f_193
          have fa_36 : ∀ j, j < 14 → _ = P_wo j := fun j hj => (hs.a gq_34 rfl j).1.trans (fa_36 j hj)
          have fa_167 : ∀ j, j < 13 → _ = P_w1 j := fun j hj => (hs.a gq_165 rfl j).1.trans (fa_167 j hj)
          have gq_2 := gq_2.S hs
          have gq_27 := gq_27.S hs
          have gq_29 := gq_29.S hs
          have gq_31 := gq_31.S hs
          have gq_34 := gq_34.S hs
          have gq_37 := gq_37.S hs
          have gq_39 := gq_39.S hs
          have gq_41 := gq_41.S hs
          have gq_44 := gq_44.S hs
          have gq_47 := gq_47.S hs
          have gq_50 := gq_50.S hs
          have gq_53 := gq_53.S hs
          have gq_55 := gq_55.S hs
          have gq_60 := gq_60.S hs
          have gq_163 := gq_163.S hs
          have gq_165 := gq_165.S hs
          have gq_168 := gq_168.S hs
          have gq_170 := gq_170.S hs
          have gq_172 := gq_172.S hs
          have gq_174 := gq_174.S hs
          have gq_176 := gq_176.S hs
          have gq_178 := gq_178.S hs
          have gq_180 := gq_180.S hs
          have gq_182 := gq_182.S hs
          have gq_184 := gq_184.S hs
          have gq_186 := gq_186.S hs
          have gq_188 := gq_188.S hs
          have gq_190 := gq_190.S hs
          have gq_192 := gq_192.S hs
          have heq : r_576 = r_610 := by
            first | exact hr_578.trans hr_612.symm | (rcases hr_578 with ⟨k1, k2⟩ | ⟨k1, k2⟩ <;> rcases hr_612 with ⟨k3, k4⟩ | ⟨k3, k4⟩ <;> first | exact k2.trans k4.symm | (exfalso; omega) | exact absurd k1 k3 | exact absurd k3 k1)
          refine hb_icmp_eq (zx := r_576.toInt) (zy := r_610.toInt) (tgt := 1379) hx hb rfl rfl dL_law_883 (by decide) (fun c_613 => ?_) (fun c_613 => absurd (congrArg Int32.toInt heq) c_613)
          exact law_tail hx hb hr hlocks hX hbl hbA hL7 _ _ hW.2.2.2.1 ls hl (Nat.le_of_ble_eq_true rfl) (Nat.le_of_ble_eq_true rfl)

set_option maxHeartbeats 4000000 in
set_option maxRecDepth 100000 in
theorem law_case_14 {p : Program} {e : Env} {s : State} {m : MethodId} {below : List Frame} {meth : Method} {c : Code} (l : Launch) {b LN : Nat} {xs : Nat → Int32} (hx : p.tables.exec = Jvm.exec) (hb : c.code = code) (hr : meth.sig.returnType = ret) (hlocks : meth.locks = false) (hml : c.maxLocals = 4) (hown : s.vm.findClass "SmallCourtLaw" = some m.cls) (hts : ∀ w ∈ hx_all, w.before #[Value.ref b] s = true) (hX : va_X b LN xs s s.heap) (hbl : b < s.heap.size) (hbA : ¬ s.heap.size ≤ b) (hL7 : LN = 7) (dC : Nat → ClassId) (dI : Nat → Nat → Nat) (dA : Nat → ClassId) (b0 : Nat) (q_2 q_27 q_29 q_31 q_34 q_37 q_39 q_41 q_44 q_47 q_50 q_53 q_55 q_60 q_163 q_165 q_168 q_170 q_172 q_174 q_176 q_178 q_180 q_182 q_184 q_186 q_188 q_190 q_192 : Nat) (L1 : List Nat) (hl1 : hx_h) (H : Heap) (locs : List Loc) (ls : Array Slot) (hW : hx_W P_tb (P_ty dA) (dC, dI) vwCl (fun q : Nat => s.heap.size ≤ q) s.heap L1 hl1 s H locs) (hZ : hx_Xt (fun q : Nat => s.heap.size ≤ q) b0 s) (f_4 : hl1.2.1 q_2 1 = (0 : Int32)) (f_5 : hl1.2.1 q_2 2 = (0 : Int32)) (f_9 : hl1.2.1 q_2 6 = (0 : Int32)) (f_11 : hl1.2.1 q_2 8 = (0 : Int32)) (f_14 : hl1.2.1 q_2 11 = (0 : Int32)) (f_16 : hl1.2.1 q_2 13 = (0 : Int32)) (f_28 : hl1.2.2 q_2 0 = some q_27) (f_30 : hl1.2.2 q_2 3 = some q_29) (f_32 : hl1.2.2 q_2 4 = some q_31) (f_33 : hl1.2.1 q_31 0 = (-1 : Int32)) (f_35 : hl1.2.2 q_31 2 = some q_34) (f_38 : hl1.2.2 q_2 5 = some q_37) (f_40 : hl1.2.2 q_2 7 = some q_39) (f_42 : hl1.2.2 q_2 9 = some q_41) (f_43 : hl1.2.1 q_41 0 = (0 : Int32)) (f_45 : hl1.2.2 q_2 14 = some q_44) (f_46 : hl1.2.1 q_44 0 = (0 : Int32)) (f_48 : hl1.2.2 q_2 17 = some q_47) (f_49 : hl1.2.1 q_47 1 = (0 : Int32)) (f_51 : hl1.2.2 q_2 18 = some q_50) (f_52 : hl1.2.1 q_50 0 = (-1 : Int32)) (f_54 : hl1.2.2 q_50 5 = some q_53) (f_56 : hl1.2.2 q_2 19 = some q_55) (f_57 : hl1.2.1 q_55 0 = (0 : Int32)) (f_58 : hl1.2.1 q_55 1 = (0 : Int32)) (f_61 : hl1.2.1 q_60 0 = (0 : Int32)) (f_62 : hl1.2.1 q_60 1 = (0 : Int32)) (f_68 : hl1.2.1 q_60 7 = (0 : Int32)) (f_69 : hl1.2.1 q_60 8 = (0 : Int32)) (f_70 : hl1.2.1 q_60 9 = (0 : Int32)) (f_71 : hl1.2.1 q_60 10 = (0 : Int32)) (f_72 : hl1.2.1 q_60 11 = (0 : Int32)) (f_74 : hl1.2.1 q_60 13 = (0 : Int32)) (f_81 : hl1.2.1 q_60 20 = (0 : Int32)) (f_90 : hl1.2.1 q_60 29 = (0 : Int32)) (f_97 : hl1.2.1 q_60 36 = (0 : Int32)) (f_118 : hl1.2.1 q_60 57 = (0 : Int32)) (f_120 : hl1.2.1 q_60 59 = (0 : Int32)) (f_128 : hl1.2.1 q_60 67 = (0 : Int32)) (f_129 : hl1.2.1 q_60 68 = (0 : Int32)) (f_130 : hl1.2.1 q_60 69 = (0 : Int32)) (f_131 : hl1.2.1 q_60 70 = (0 : Int32)) (f_132 : hl1.2.1 q_60 71 = (0 : Int32)) (f_133 : hl1.2.1 q_60 72 = (0 : Int32)) (f_136 : hl1.2.1 q_60 75 = (0 : Int32)) (f_144 : hl1.2.1 q_60 83 = (0 : Int32)) (f_145 : hl1.2.1 q_60 84 = (0 : Int32)) (f_147 : hl1.2.1 q_60 86 = (0 : Int32)) (f_148 : hl1.2.1 q_60 87 = (0 : Int32)) (f_151 : hl1.2.1 q_60 90 = (0 : Int32)) (f_153 : hl1.2.1 q_60 92 = (0 : Int32)) (f_156 : hl1.2.1 q_60 95 = (0 : Int32)) (f_157 : hl1.2.1 q_60 96 = (0 : Int32)) (f_164 : hl1.2.2 q_60 2 = some q_163) (f_166 : hl1.2.2 q_60 3 = some q_165) (f_169 : hl1.2.2 q_60 4 = some q_168) (f_171 : hl1.2.2 q_60 5 = some q_170) (f_173 : hl1.2.2 q_60 6 = some q_172) (f_175 : hl1.2.2 q_60 12 = some q_174) (f_177 : hl1.2.2 q_60 15 = some q_176) (f_179 : hl1.2.2 q_60 21 = some q_178) (f_181 : hl1.2.2 q_60 22 = some q_180) (f_183 : hl1.2.2 q_60 23 = some q_182) (f_185 : hl1.2.2 q_60 24 = some q_184) (f_187 : hl1.2.2 q_60 25 = some q_186) (f_189 : hl1.2.2 q_60 26 = some q_188) (f_191 : hl1.2.2 q_60 82 = some q_190) (f_193 : hl1.2.2 q_60 94 = some q_192) (fa_36 : ∀ j, j < 14 → hl1.2.1 q_34 j = P_wo j) (fa_167 : ∀ j, j < 13 → hl1.2.1 q_165 j = P_w1 j) (gq_2 : hx_g L1 hl1 q_2 9) (gq_27 : hx_g L1 hl1 q_27 42) (gq_29 : hx_g L1 hl1 q_29 6) (gq_31 : hx_g L1 hl1 q_31 0) (gq_34 : hx_g L1 hl1 q_34 11) (gq_37 : hx_g L1 hl1 q_37 43) (gq_39 : hx_g L1 hl1 q_39 44) (gq_41 : hx_g L1 hl1 q_41 1) (gq_44 : hx_g L1 hl1 q_44 3) (gq_47 : hx_g L1 hl1 q_47 5) (gq_50 : hx_g L1 hl1 q_50 7) (gq_53 : hx_g L1 hl1 q_53 36) (gq_55 : hx_g L1 hl1 q_55 8) (gq_60 : hx_g L1 hl1 q_60 10) (gq_163 : hx_g L1 hl1 q_163 49) (gq_165 : hx_g L1 hl1 q_165 50) (gq_168 : hx_g L1 hl1 q_168 51) (gq_170 : hx_g L1 hl1 q_170 52) (gq_172 : hx_g L1 hl1 q_172 53) (gq_174 : hx_g L1 hl1 q_174 54) (gq_176 : hx_g L1 hl1 q_176 55) (gq_178 : hx_g L1 hl1 q_178 58) (gq_180 : hx_g L1 hl1 q_180 59) (gq_182 : hx_g L1 hl1 q_182 60) (gq_184 : hx_g L1 hl1 q_184 61) (gq_186 : hx_g L1 hl1 q_186 62) (gq_188 : hx_g L1 hl1 q_188 63) (gq_190 : hx_g L1 hl1 q_190 108) (gq_192 : hx_g L1 hl1 q_192 114) (hl : lv_has ls 4 [(3, .int (0 : Int32)), (2, .ref q_60), (1, .ref q_2), (0, .ref b)]) : W p l e room_1 s m #[Value.ref b] below meth c H locs 112 26072 (lw_Z below #[Value.ref b] s) (F0 m 888 ls []) := by
  refine lv_aload_n hx hb dL_law_888 rfl (lv_at hl 2 rfl) ?_
  refine lv_aload_n hx hb dL_law_889 rfl (lv_at hl 3 rfl) ?_
  refine lv_iload_n hx hb dL_law_890 rfl (lv_at hl 0 rfl) ?_
  refine lv_iconst (v := 1) hx hb dL_law_891 (by decide) ?_
  refine lv_iadd hx hb dL_law_892 ?_
  refine lv_topi (fun x_614 ex_614 => ?_)
  obtain rfl : x_614 = (1 : Int32) := ex_614.trans (by decide)
  refine va_sld hx hb hX hbl hbA hW.2.2.2.1 (vp_in_iff.mpr (by rw [hL7]; decide)) dL_law_893 ?_
  rw [show (1 : Int32).toNatClampNeg = 1 from by decide]
  refine lv_aload_n hx hb dL_law_894 rfl (lv_at hl 3 rfl) ?_
  refine lv_iload_n hx hb dL_law_895 rfl (lv_at hl 0 rfl) ?_
  refine lv_iconst (v := 2) hx hb dL_law_896 (by decide) ?_
  refine lv_iadd hx hb dL_law_897 ?_
  refine lv_topi (fun x_615 ex_615 => ?_)
  obtain rfl : x_615 = (2 : Int32) := ex_615.trans (by decide)
  refine va_sld hx hb hX hbl hbA hW.2.2.2.1 (vp_in_iff.mpr (by rw [hL7]; decide)) dL_law_898 ?_
  rw [show (2 : Int32).toNatClampNeg = 2 from by decide]
  refine hx_goi (hx_runV (As := [.int (xs 1), .int (xs 2)]) (rest := []) ⟨hx, hb, hml, hown, hts⟩ hW gq_2 td_9 (T := TX9) (N := 20) rfl (c_X9_order l dC dI dA L1 hl1 H.size q_2 (xs 1) (xs 2) gq_2 f_14) (cwV 2 hts (hx_gV kw_845 kw_842 kw_843 kw_844 kw_94) rfl rfl rfl (by decide +kernel) ⟨Nat.le_of_ble_eq_true rfl, Nat.le_of_ble_eq_true rfl⟩) rfl hl.1 rfl (Nat.le_of_ble_eq_true rfl) dL_law_899 ⟨Nat.le_of_ble_eq_true rfl, Nat.le_of_ble_eq_true rfl⟩) hW (fun r_618 L_616 h_617 H locs p_619 hW => ?_)
  obtain ⟨hr_620, hs⟩ := p_619
  have hs : hx_S P_tb [] L1 hl1 L_616 h_617 := hs
  have f_4 := (hs.o gq_2 trivial rfl).1.trans f_4
  have f_5 := (hs.o gq_2 trivial rfl).1.trans f_5
  have f_9 := (hs.o gq_2 trivial rfl).1.trans f_9
  have f_11 := (hs.o gq_2 trivial rfl).1.trans f_11
  have f_14 := (hs.o gq_2 trivial rfl).1.trans f_14
  have f_16 := (hs.o gq_2 trivial rfl).1.trans f_16
  have f_28 := (hs.o gq_2 trivial rfl).2.trans f_28
  have f_30 := (hs.o gq_2 trivial rfl).2.trans f_30
  have f_32 := (hs.o gq_2 trivial rfl).2.trans f_32
  have f_33 := (hs.o gq_31 trivial rfl).1.trans f_33
  have f_35 := (hs.o gq_31 trivial rfl).2.trans f_35
  have f_38 := (hs.o gq_2 trivial rfl).2.trans f_38
  have f_40 := (hs.o gq_2 trivial rfl).2.trans f_40
  have f_42 := (hs.o gq_2 trivial rfl).2.trans f_42
  have f_43 := (hs.o gq_41 trivial rfl).1.trans f_43
  have f_45 := (hs.o gq_2 trivial rfl).2.trans f_45
  have f_46 := (hs.o gq_44 trivial rfl).1.trans f_46
  have f_48 := (hs.o gq_2 trivial rfl).2.trans f_48
  have f_49 := (hs.o gq_47 trivial rfl).1.trans f_49
  have f_51 := (hs.o gq_2 trivial rfl).2.trans f_51
  have f_52 := (hs.o gq_50 trivial rfl).1.trans f_52
  have f_54 := (hs.o gq_50 trivial rfl).2.trans f_54
  have f_56 := (hs.o gq_2 trivial rfl).2.trans f_56
  have f_57 := (hs.o gq_55 trivial rfl).1.trans f_57
  have f_58 := (hs.o gq_55 trivial rfl).1.trans f_58
  have f_61 := (hs.o gq_60 trivial rfl).1.trans f_61
  have f_62 := (hs.o gq_60 trivial rfl).1.trans f_62
  have f_68 := (hs.o gq_60 trivial rfl).1.trans f_68
  have f_69 := (hs.o gq_60 trivial rfl).1.trans f_69
  have f_70 := (hs.o gq_60 trivial rfl).1.trans f_70
  have f_71 := (hs.o gq_60 trivial rfl).1.trans f_71
  have f_72 := (hs.o gq_60 trivial rfl).1.trans f_72
  have f_74 := (hs.o gq_60 trivial rfl).1.trans f_74
  have f_81 := (hs.o gq_60 trivial rfl).1.trans f_81
  have f_90 := (hs.o gq_60 trivial rfl).1.trans f_90
  have f_97 := (hs.o gq_60 trivial rfl).1.trans f_97
  have f_118 := (hs.o gq_60 trivial rfl).1.trans f_118
  have f_120 := (hs.o gq_60 trivial rfl).1.trans f_120
  have f_128 := (hs.o gq_60 trivial rfl).1.trans f_128
  have f_129 := (hs.o gq_60 trivial rfl).1.trans f_129
  have f_130 := (hs.o gq_60 trivial rfl).1.trans f_130
  have f_131 := (hs.o gq_60 trivial rfl).1.trans f_131
  have f_132 := (hs.o gq_60 trivial rfl).1.trans f_132
  have f_133 := (hs.o gq_60 trivial rfl).1.trans f_133
  have f_136 := (hs.o gq_60 trivial rfl).1.trans f_136
  have f_144 := (hs.o gq_60 trivial rfl).1.trans f_144
  have f_145 := (hs.o gq_60 trivial rfl).1.trans f_145
  have f_147 := (hs.o gq_60 trivial rfl).1.trans f_147
  have f_148 := (hs.o gq_60 trivial rfl).1.trans f_148
  have f_151 := (hs.o gq_60 trivial rfl).1.trans f_151
  have f_153 := (hs.o gq_60 trivial rfl).1.trans f_153
  have f_156 := (hs.o gq_60 trivial rfl).1.trans f_156
  have f_157 := (hs.o gq_60 trivial rfl).1.trans f_157
  have f_164 := (hs.o gq_60 trivial rfl).2.trans f_164
  have f_166 := (hs.o gq_60 trivial rfl).2.trans f_166
  have f_169 := (hs.o gq_60 trivial rfl).2.trans f_169
  have f_171 := (hs.o gq_60 trivial rfl).2.trans f_171
  have f_173 := (hs.o gq_60 trivial rfl).2.trans f_173
  have f_175 := (hs.o gq_60 trivial rfl).2.trans f_175
  have f_177 := (hs.o gq_60 trivial rfl).2.trans f_177
  have f_179 := (hs.o gq_60 trivial rfl).2.trans f_179
  have f_181 := (hs.o gq_60 trivial rfl).2.trans f_181
  have f_183 := (hs.o gq_60 trivial rfl).2.trans f_183
  have f_185 := (hs.o gq_60 trivial rfl).2.trans f_185
  have f_187 := (hs.o gq_60 trivial rfl).2.trans f_187
  have f_189 := (hs.o gq_60 trivial rfl).2.trans f_189
  have f_191 := (hs.o gq_60 trivial rfl).2.trans f_191
  have f_193 := (hs.o gq_60 trivial rfl).2.trans f_193
  have fa_36 : ∀ j, j < 14 → _ = P_wo j := fun j hj => (hs.a gq_34 rfl j).1.trans (fa_36 j hj)
  have fa_167 : ∀ j, j < 13 → _ = P_w1 j := fun j hj => (hs.a gq_165 rfl j).1.trans (fa_167 j hj)
  have gq_2 := gq_2.S hs
  have gq_27 := gq_27.S hs
  have gq_29 := gq_29.S hs
  have gq_31 := gq_31.S hs
  have gq_34 := gq_34.S hs
  have gq_37 := gq_37.S hs
  have gq_39 := gq_39.S hs
  have gq_41 := gq_41.S hs
  have gq_44 := gq_44.S hs
  have gq_47 := gq_47.S hs
  have gq_50 := gq_50.S hs
  have gq_53 := gq_53.S hs
  have gq_55 := gq_55.S hs
  have gq_60 := gq_60.S hs
  have gq_163 := gq_163.S hs
  have gq_165 := gq_165.S hs
  have gq_168 := gq_168.S hs
  have gq_170 := gq_170.S hs
  have gq_172 := gq_172.S hs
  have gq_174 := gq_174.S hs
  have gq_176 := gq_176.S hs
  have gq_178 := gq_178.S hs
  have gq_180 := gq_180.S hs
  have gq_182 := gq_182.S hs
  have gq_184 := gq_184.S hs
  have gq_186 := gq_186.S hs
  have gq_188 := gq_188.S hs
  have gq_190 := gq_190.S hs
  have gq_192 := gq_192.S hs
  refine lv_aload_n hx hb dL_law_902 rfl (lv_at hl 1 rfl) ?_
  refine lv_aload_n hx hb dL_law_903 rfl (lv_at hl 3 rfl) ?_
  refine lv_iload_n hx hb dL_law_904 rfl (lv_at hl 0 rfl) ?_
  refine lv_iconst (v := 1) hx hb dL_law_905 (by decide) ?_
  refine lv_iadd hx hb dL_law_906 ?_
  refine lv_topi (fun x_621 ex_621 => ?_)
  obtain rfl : x_621 = (1 : Int32) := ex_621.trans (by decide)
  refine va_sld hx hb hX hbl hbA hW.2.2.2.1 (vp_in_iff.mpr (by rw [hL7]; decide)) dL_law_907 ?_
  rw [show (1 : Int32).toNatClampNeg = 1 from by decide]
  refine lv_aload_n hx hb dL_law_908 rfl (lv_at hl 3 rfl) ?_
  refine lv_iload_n hx hb dL_law_909 rfl (lv_at hl 0 rfl) ?_
  refine lv_iconst (v := 2) hx hb dL_law_910 (by decide) ?_
  refine lv_iadd hx hb dL_law_911 ?_
  refine lv_topi (fun x_622 ex_622 => ?_)
  obtain rfl : x_622 = (2 : Int32) := ex_622.trans (by decide)
  refine va_sld hx hb hX hbl hbA hW.2.2.2.1 (vp_in_iff.mpr (by rw [hL7]; decide)) dL_law_912 ?_
  rw [show (2 : Int32).toNatClampNeg = 2 from by decide]
  refine hx_goi (hx_runV (As := [.int (xs 1), .int (xs 2)]) (rest := [.int r_618]) ⟨hx, hb, hml, hown, hts⟩ hW gq_60 td_10 (T := TX10) (N := 98) rfl (c_X10_order l dC dI dA L_616 h_617 H.size q_60 (xs 1) (xs 2) gq_60 f_97) (cwV 2 hts (hx_gV kw_1633 kw_1630 kw_1631 kw_1632 kw_103) rfl rfl rfl (by decide +kernel) ⟨Nat.le_of_ble_eq_true rfl, Nat.le_of_ble_eq_true rfl⟩) rfl hl.1 rfl (Nat.le_of_ble_eq_true rfl) dL_law_913 ⟨Nat.le_of_ble_eq_true rfl, Nat.le_of_ble_eq_true rfl⟩) hW (fun r_625 L_623 h_624 H locs p_626 hW => ?_)
  obtain ⟨hr_627, hs⟩ := p_626
  have hs : hx_S P_tb [] L_616 h_617 L_623 h_624 := hs
  have f_4 := (hs.o gq_2 trivial rfl).1.trans f_4
  have f_5 := (hs.o gq_2 trivial rfl).1.trans f_5
  have f_9 := (hs.o gq_2 trivial rfl).1.trans f_9
  have f_11 := (hs.o gq_2 trivial rfl).1.trans f_11
  have f_14 := (hs.o gq_2 trivial rfl).1.trans f_14
  have f_16 := (hs.o gq_2 trivial rfl).1.trans f_16
  have f_28 := (hs.o gq_2 trivial rfl).2.trans f_28
  have f_30 := (hs.o gq_2 trivial rfl).2.trans f_30
  have f_32 := (hs.o gq_2 trivial rfl).2.trans f_32
  have f_33 := (hs.o gq_31 trivial rfl).1.trans f_33
  have f_35 := (hs.o gq_31 trivial rfl).2.trans f_35
  have f_38 := (hs.o gq_2 trivial rfl).2.trans f_38
  have f_40 := (hs.o gq_2 trivial rfl).2.trans f_40
  have f_42 := (hs.o gq_2 trivial rfl).2.trans f_42
  have f_43 := (hs.o gq_41 trivial rfl).1.trans f_43
  have f_45 := (hs.o gq_2 trivial rfl).2.trans f_45
  have f_46 := (hs.o gq_44 trivial rfl).1.trans f_46
  have f_48 := (hs.o gq_2 trivial rfl).2.trans f_48
  have f_49 := (hs.o gq_47 trivial rfl).1.trans f_49
  have f_51 := (hs.o gq_2 trivial rfl).2.trans f_51
  have f_52 := (hs.o gq_50 trivial rfl).1.trans f_52
  have f_54 := (hs.o gq_50 trivial rfl).2.trans f_54
  have f_56 := (hs.o gq_2 trivial rfl).2.trans f_56
  have f_57 := (hs.o gq_55 trivial rfl).1.trans f_57
  have f_58 := (hs.o gq_55 trivial rfl).1.trans f_58
  have f_61 := (hs.o gq_60 trivial rfl).1.trans f_61
  have f_62 := (hs.o gq_60 trivial rfl).1.trans f_62
  have f_68 := (hs.o gq_60 trivial rfl).1.trans f_68
  have f_69 := (hs.o gq_60 trivial rfl).1.trans f_69
  have f_70 := (hs.o gq_60 trivial rfl).1.trans f_70
  have f_71 := (hs.o gq_60 trivial rfl).1.trans f_71
  have f_72 := (hs.o gq_60 trivial rfl).1.trans f_72
  have f_74 := (hs.o gq_60 trivial rfl).1.trans f_74
  have f_81 := (hs.o gq_60 trivial rfl).1.trans f_81
  have f_90 := (hs.o gq_60 trivial rfl).1.trans f_90
  have f_97 := (hs.o gq_60 trivial rfl).1.trans f_97
  have f_118 := (hs.o gq_60 trivial rfl).1.trans f_118
  have f_120 := (hs.o gq_60 trivial rfl).1.trans f_120
  have f_128 := (hs.o gq_60 trivial rfl).1.trans f_128
  have f_129 := (hs.o gq_60 trivial rfl).1.trans f_129
  have f_130 := (hs.o gq_60 trivial rfl).1.trans f_130
  have f_131 := (hs.o gq_60 trivial rfl).1.trans f_131
  have f_132 := (hs.o gq_60 trivial rfl).1.trans f_132
  have f_133 := (hs.o gq_60 trivial rfl).1.trans f_133
  have f_136 := (hs.o gq_60 trivial rfl).1.trans f_136
  have f_144 := (hs.o gq_60 trivial rfl).1.trans f_144
  have f_145 := (hs.o gq_60 trivial rfl).1.trans f_145
  have f_147 := (hs.o gq_60 trivial rfl).1.trans f_147
  have f_148 := (hs.o gq_60 trivial rfl).1.trans f_148
  have f_151 := (hs.o gq_60 trivial rfl).1.trans f_151
  have f_153 := (hs.o gq_60 trivial rfl).1.trans f_153
  have f_156 := (hs.o gq_60 trivial rfl).1.trans f_156
  have f_157 := (hs.o gq_60 trivial rfl).1.trans f_157
  have f_164 := (hs.o gq_60 trivial rfl).2.trans f_164
  have f_166 := (hs.o gq_60 trivial rfl).2.trans f_166
  have f_169 := (hs.o gq_60 trivial rfl).2.trans f_169
  have f_171 := (hs.o gq_60 trivial rfl).2.trans f_171
  have f_173 := (hs.o gq_60 trivial rfl).2.trans f_173
  have f_175 := (hs.o gq_60 trivial rfl).2.trans f_175
  have f_177 := (hs.o gq_60 trivial rfl).2.trans f_177
  have f_179 := (hs.o gq_60 trivial rfl).2.trans f_179
  have f_181 := (hs.o gq_60 trivial rfl).2.trans f_181
  have f_183 := (hs.o gq_60 trivial rfl).2.trans f_183
  have f_185 := (hs.o gq_60 trivial rfl).2.trans f_185
  have f_187 := (hs.o gq_60 trivial rfl).2.trans f_187
  have f_189 := (hs.o gq_60 trivial rfl).2.trans f_189
  have f_191 := (hs.o gq_60 trivial rfl).2.trans f_191
  have f_193 := (hs.o gq_60 trivial rfl).2.trans f_193
  have fa_36 : ∀ j, j < 14 → _ = P_wo j := fun j hj => (hs.a gq_34 rfl j).1.trans (fa_36 j hj)
  have fa_167 : ∀ j, j < 13 → _ = P_w1 j := fun j hj => (hs.a gq_165 rfl j).1.trans (fa_167 j hj)
  have gq_2 := gq_2.S hs
  have gq_27 := gq_27.S hs
  have gq_29 := gq_29.S hs
  have gq_31 := gq_31.S hs
  have gq_34 := gq_34.S hs
  have gq_37 := gq_37.S hs
  have gq_39 := gq_39.S hs
  have gq_41 := gq_41.S hs
  have gq_44 := gq_44.S hs
  have gq_47 := gq_47.S hs
  have gq_50 := gq_50.S hs
  have gq_53 := gq_53.S hs
  have gq_55 := gq_55.S hs
  have gq_60 := gq_60.S hs
  have gq_163 := gq_163.S hs
  have gq_165 := gq_165.S hs
  have gq_168 := gq_168.S hs
  have gq_170 := gq_170.S hs
  have gq_172 := gq_172.S hs
  have gq_174 := gq_174.S hs
  have gq_176 := gq_176.S hs
  have gq_178 := gq_178.S hs
  have gq_180 := gq_180.S hs
  have gq_182 := gq_182.S hs
  have gq_184 := gq_184.S hs
  have gq_186 := gq_186.S hs
  have gq_188 := gq_188.S hs
  have gq_190 := gq_190.S hs
  have gq_192 := gq_192.S hs
  have heq : r_618 = r_625 := by
    first | exact hr_620.trans hr_627.symm | (rcases hr_620 with ⟨k1, k2⟩ | ⟨k1, k2⟩ <;> rcases hr_627 with ⟨k3, k4⟩ | ⟨k3, k4⟩ <;> first | exact k2.trans k4.symm | (exfalso; omega) | exact absurd k1 k3 | exact absurd k3 k1)
  refine hb_icmp_eq (zx := r_618.toInt) (zy := r_625.toInt) (tgt := 1379) hx hb rfl rfl dL_law_916 (by decide) (fun c_628 => ?_) (fun c_628 => absurd (congrArg Int32.toInt heq) c_628)
  exact law_tail hx hb hr hlocks hX hbl hbA hL7 _ _ hW.2.2.2.1 ls hl (Nat.le_of_ble_eq_true rfl) (Nat.le_of_ble_eq_true rfl)

set_option maxHeartbeats 4000000 in
set_option maxRecDepth 100000 in
theorem law_case_15 {p : Program} {e : Env} {s : State} {m : MethodId} {below : List Frame} {meth : Method} {c : Code} (l : Launch) {b LN : Nat} {xs : Nat → Int32} (hx : p.tables.exec = Jvm.exec) (hb : c.code = code) (hr : meth.sig.returnType = ret) (hlocks : meth.locks = false) (hml : c.maxLocals = 4) (hown : s.vm.findClass "SmallCourtLaw" = some m.cls) (hts : ∀ w ∈ hx_all, w.before #[Value.ref b] s = true) (hX : va_X b LN xs s s.heap) (hbl : b < s.heap.size) (hbA : ¬ s.heap.size ≤ b) (hL7 : LN = 7) (dC : Nat → ClassId) (dI : Nat → Nat → Nat) (dA : Nat → ClassId) (b0 : Nat) (q_2 q_27 q_29 q_31 q_34 q_37 q_39 q_41 q_44 q_47 q_50 q_53 q_55 q_60 q_163 q_165 q_168 q_170 q_172 q_174 q_176 q_178 q_180 q_182 q_184 q_186 q_188 q_190 q_192 : Nat) (L1 : List Nat) (hl1 : hx_h) (H : Heap) (locs : List Loc) (ls : Array Slot) (hW : hx_W P_tb (P_ty dA) (dC, dI) vwCl (fun q : Nat => s.heap.size ≤ q) s.heap L1 hl1 s H locs) (hZ : hx_Xt (fun q : Nat => s.heap.size ≤ q) b0 s) (f_4 : hl1.2.1 q_2 1 = (0 : Int32)) (f_5 : hl1.2.1 q_2 2 = (0 : Int32)) (f_9 : hl1.2.1 q_2 6 = (0 : Int32)) (f_11 : hl1.2.1 q_2 8 = (0 : Int32)) (f_14 : hl1.2.1 q_2 11 = (0 : Int32)) (f_16 : hl1.2.1 q_2 13 = (0 : Int32)) (f_28 : hl1.2.2 q_2 0 = some q_27) (f_30 : hl1.2.2 q_2 3 = some q_29) (f_32 : hl1.2.2 q_2 4 = some q_31) (f_33 : hl1.2.1 q_31 0 = (-1 : Int32)) (f_35 : hl1.2.2 q_31 2 = some q_34) (f_38 : hl1.2.2 q_2 5 = some q_37) (f_40 : hl1.2.2 q_2 7 = some q_39) (f_42 : hl1.2.2 q_2 9 = some q_41) (f_43 : hl1.2.1 q_41 0 = (0 : Int32)) (f_45 : hl1.2.2 q_2 14 = some q_44) (f_46 : hl1.2.1 q_44 0 = (0 : Int32)) (f_48 : hl1.2.2 q_2 17 = some q_47) (f_49 : hl1.2.1 q_47 1 = (0 : Int32)) (f_51 : hl1.2.2 q_2 18 = some q_50) (f_52 : hl1.2.1 q_50 0 = (-1 : Int32)) (f_54 : hl1.2.2 q_50 5 = some q_53) (f_56 : hl1.2.2 q_2 19 = some q_55) (f_57 : hl1.2.1 q_55 0 = (0 : Int32)) (f_58 : hl1.2.1 q_55 1 = (0 : Int32)) (f_61 : hl1.2.1 q_60 0 = (0 : Int32)) (f_62 : hl1.2.1 q_60 1 = (0 : Int32)) (f_68 : hl1.2.1 q_60 7 = (0 : Int32)) (f_69 : hl1.2.1 q_60 8 = (0 : Int32)) (f_70 : hl1.2.1 q_60 9 = (0 : Int32)) (f_71 : hl1.2.1 q_60 10 = (0 : Int32)) (f_72 : hl1.2.1 q_60 11 = (0 : Int32)) (f_74 : hl1.2.1 q_60 13 = (0 : Int32)) (f_81 : hl1.2.1 q_60 20 = (0 : Int32)) (f_90 : hl1.2.1 q_60 29 = (0 : Int32)) (f_97 : hl1.2.1 q_60 36 = (0 : Int32)) (f_118 : hl1.2.1 q_60 57 = (0 : Int32)) (f_120 : hl1.2.1 q_60 59 = (0 : Int32)) (f_128 : hl1.2.1 q_60 67 = (0 : Int32)) (f_129 : hl1.2.1 q_60 68 = (0 : Int32)) (f_130 : hl1.2.1 q_60 69 = (0 : Int32)) (f_131 : hl1.2.1 q_60 70 = (0 : Int32)) (f_132 : hl1.2.1 q_60 71 = (0 : Int32)) (f_133 : hl1.2.1 q_60 72 = (0 : Int32)) (f_136 : hl1.2.1 q_60 75 = (0 : Int32)) (f_144 : hl1.2.1 q_60 83 = (0 : Int32)) (f_145 : hl1.2.1 q_60 84 = (0 : Int32)) (f_147 : hl1.2.1 q_60 86 = (0 : Int32)) (f_148 : hl1.2.1 q_60 87 = (0 : Int32)) (f_151 : hl1.2.1 q_60 90 = (0 : Int32)) (f_153 : hl1.2.1 q_60 92 = (0 : Int32)) (f_156 : hl1.2.1 q_60 95 = (0 : Int32)) (f_157 : hl1.2.1 q_60 96 = (0 : Int32)) (f_164 : hl1.2.2 q_60 2 = some q_163) (f_166 : hl1.2.2 q_60 3 = some q_165) (f_169 : hl1.2.2 q_60 4 = some q_168) (f_171 : hl1.2.2 q_60 5 = some q_170) (f_173 : hl1.2.2 q_60 6 = some q_172) (f_175 : hl1.2.2 q_60 12 = some q_174) (f_177 : hl1.2.2 q_60 15 = some q_176) (f_179 : hl1.2.2 q_60 21 = some q_178) (f_181 : hl1.2.2 q_60 22 = some q_180) (f_183 : hl1.2.2 q_60 23 = some q_182) (f_185 : hl1.2.2 q_60 24 = some q_184) (f_187 : hl1.2.2 q_60 25 = some q_186) (f_189 : hl1.2.2 q_60 26 = some q_188) (f_191 : hl1.2.2 q_60 82 = some q_190) (f_193 : hl1.2.2 q_60 94 = some q_192) (fa_36 : ∀ j, j < 14 → hl1.2.1 q_34 j = P_wo j) (fa_167 : ∀ j, j < 13 → hl1.2.1 q_165 j = P_w1 j) (gq_2 : hx_g L1 hl1 q_2 9) (gq_27 : hx_g L1 hl1 q_27 42) (gq_29 : hx_g L1 hl1 q_29 6) (gq_31 : hx_g L1 hl1 q_31 0) (gq_34 : hx_g L1 hl1 q_34 11) (gq_37 : hx_g L1 hl1 q_37 43) (gq_39 : hx_g L1 hl1 q_39 44) (gq_41 : hx_g L1 hl1 q_41 1) (gq_44 : hx_g L1 hl1 q_44 3) (gq_47 : hx_g L1 hl1 q_47 5) (gq_50 : hx_g L1 hl1 q_50 7) (gq_53 : hx_g L1 hl1 q_53 36) (gq_55 : hx_g L1 hl1 q_55 8) (gq_60 : hx_g L1 hl1 q_60 10) (gq_163 : hx_g L1 hl1 q_163 49) (gq_165 : hx_g L1 hl1 q_165 50) (gq_168 : hx_g L1 hl1 q_168 51) (gq_170 : hx_g L1 hl1 q_170 52) (gq_172 : hx_g L1 hl1 q_172 53) (gq_174 : hx_g L1 hl1 q_174 54) (gq_176 : hx_g L1 hl1 q_176 55) (gq_178 : hx_g L1 hl1 q_178 58) (gq_180 : hx_g L1 hl1 q_180 59) (gq_182 : hx_g L1 hl1 q_182 60) (gq_184 : hx_g L1 hl1 q_184 61) (gq_186 : hx_g L1 hl1 q_186 62) (gq_188 : hx_g L1 hl1 q_188 63) (gq_190 : hx_g L1 hl1 q_190 108) (gq_192 : hx_g L1 hl1 q_192 114) (hl : lv_has ls 4 [(3, .int (0 : Int32)), (2, .ref q_60), (1, .ref q_2), (0, .ref b)]) : W p l e room_1 s m #[Value.ref b] below meth c H locs 112 26072 (lw_Z below #[Value.ref b] s) (F0 m 921 ls []) := by
  refine lv_aload_n hx hb dL_law_921 rfl (lv_at hl 2 rfl) ?_
  refine lv_aload_n hx hb dL_law_922 rfl (lv_at hl 3 rfl) ?_
  refine lv_iload_n hx hb dL_law_923 rfl (lv_at hl 0 rfl) ?_
  refine lv_iconst (v := 1) hx hb dL_law_924 (by decide) ?_
  refine lv_iadd hx hb dL_law_925 ?_
  refine lv_topi (fun x_629 ex_629 => ?_)
  obtain rfl : x_629 = (1 : Int32) := ex_629.trans (by decide)
  refine va_sld hx hb hX hbl hbA hW.2.2.2.1 (vp_in_iff.mpr (by rw [hL7]; decide)) dL_law_926 ?_
  rw [show (1 : Int32).toNatClampNeg = 1 from by decide]
  refine lv_aload_n hx hb dL_law_927 rfl (lv_at hl 3 rfl) ?_
  refine lv_iload_n hx hb dL_law_928 rfl (lv_at hl 0 rfl) ?_
  refine lv_iconst (v := 2) hx hb dL_law_929 (by decide) ?_
  refine lv_iadd hx hb dL_law_930 ?_
  refine lv_topi (fun x_630 ex_630 => ?_)
  obtain rfl : x_630 = (2 : Int32) := ex_630.trans (by decide)
  refine va_sld hx hb hX hbl hbA hW.2.2.2.1 (vp_in_iff.mpr (by rw [hL7]; decide)) dL_law_931 ?_
  rw [show (2 : Int32).toNatClampNeg = 2 from by decide]
  refine lv_aload_n hx hb dL_law_932 rfl (lv_at hl 3 rfl) ?_
  refine lv_iload_n hx hb dL_law_933 rfl (lv_at hl 0 rfl) ?_
  refine lv_iconst (v := 3) hx hb dL_law_934 (by decide) ?_
  refine lv_iadd hx hb dL_law_935 ?_
  refine lv_topi (fun x_631 ex_631 => ?_)
  obtain rfl : x_631 = (3 : Int32) := ex_631.trans (by decide)
  refine va_sld hx hb hX hbl hbA hW.2.2.2.1 (vp_in_iff.mpr (by rw [hL7]; decide)) dL_law_936 ?_
  rw [show (3 : Int32).toNatClampNeg = 3 from by decide]
  refine hx_goi (hx_runV (As := [.int (xs 1), .int (xs 2), .int (xs 3)]) (rest := []) ⟨hx, hb, hml, hown, hts⟩ hW gq_2 td_9 (T := TX9) (N := 20) rfl (c_X9_pay l dC dI dA L1 hl1 H.size q_2 (xs 1) (xs 2) (xs 3) gq_2 q_44 gq_44 f_45 f_46 f_14) (cwV 3 hts (hx_gV kw_891 kw_888 kw_889 kw_890 kw_94) rfl rfl rfl (by decide +kernel) ⟨Nat.le_of_ble_eq_true rfl, Nat.le_of_ble_eq_true rfl⟩) rfl hl.1 rfl (Nat.le_of_ble_eq_true rfl) dL_law_937 ⟨Nat.le_of_ble_eq_true rfl, Nat.le_of_ble_eq_true rfl⟩) hW (fun r_634 L_632 h_633 H locs p_635 hW => ?_)
  obtain ⟨hr_636, hs⟩ := p_635
  have hs : hx_S P_tb [] L1 hl1 L_632 h_633 := hs
  have f_4 := (hs.o gq_2 trivial rfl).1.trans f_4
  have f_5 := (hs.o gq_2 trivial rfl).1.trans f_5
  have f_9 := (hs.o gq_2 trivial rfl).1.trans f_9
  have f_11 := (hs.o gq_2 trivial rfl).1.trans f_11
  have f_14 := (hs.o gq_2 trivial rfl).1.trans f_14
  have f_16 := (hs.o gq_2 trivial rfl).1.trans f_16
  have f_28 := (hs.o gq_2 trivial rfl).2.trans f_28
  have f_30 := (hs.o gq_2 trivial rfl).2.trans f_30
  have f_32 := (hs.o gq_2 trivial rfl).2.trans f_32
  have f_33 := (hs.o gq_31 trivial rfl).1.trans f_33
  have f_35 := (hs.o gq_31 trivial rfl).2.trans f_35
  have f_38 := (hs.o gq_2 trivial rfl).2.trans f_38
  have f_40 := (hs.o gq_2 trivial rfl).2.trans f_40
  have f_42 := (hs.o gq_2 trivial rfl).2.trans f_42
  have f_43 := (hs.o gq_41 trivial rfl).1.trans f_43
  have f_45 := (hs.o gq_2 trivial rfl).2.trans f_45
  have f_46 := (hs.o gq_44 trivial rfl).1.trans f_46
  have f_48 := (hs.o gq_2 trivial rfl).2.trans f_48
  have f_49 := (hs.o gq_47 trivial rfl).1.trans f_49
  have f_51 := (hs.o gq_2 trivial rfl).2.trans f_51
  have f_52 := (hs.o gq_50 trivial rfl).1.trans f_52
  have f_54 := (hs.o gq_50 trivial rfl).2.trans f_54
  have f_56 := (hs.o gq_2 trivial rfl).2.trans f_56
  have f_57 := (hs.o gq_55 trivial rfl).1.trans f_57
  have f_58 := (hs.o gq_55 trivial rfl).1.trans f_58
  have f_61 := (hs.o gq_60 trivial rfl).1.trans f_61
  have f_62 := (hs.o gq_60 trivial rfl).1.trans f_62
  have f_68 := (hs.o gq_60 trivial rfl).1.trans f_68
  have f_69 := (hs.o gq_60 trivial rfl).1.trans f_69
  have f_70 := (hs.o gq_60 trivial rfl).1.trans f_70
  have f_71 := (hs.o gq_60 trivial rfl).1.trans f_71
  have f_72 := (hs.o gq_60 trivial rfl).1.trans f_72
  have f_74 := (hs.o gq_60 trivial rfl).1.trans f_74
  have f_81 := (hs.o gq_60 trivial rfl).1.trans f_81
  have f_90 := (hs.o gq_60 trivial rfl).1.trans f_90
  have f_97 := (hs.o gq_60 trivial rfl).1.trans f_97
  have f_118 := (hs.o gq_60 trivial rfl).1.trans f_118
  have f_120 := (hs.o gq_60 trivial rfl).1.trans f_120
  have f_128 := (hs.o gq_60 trivial rfl).1.trans f_128
  have f_129 := (hs.o gq_60 trivial rfl).1.trans f_129
  have f_130 := (hs.o gq_60 trivial rfl).1.trans f_130
  have f_131 := (hs.o gq_60 trivial rfl).1.trans f_131
  have f_132 := (hs.o gq_60 trivial rfl).1.trans f_132
  have f_133 := (hs.o gq_60 trivial rfl).1.trans f_133
  have f_136 := (hs.o gq_60 trivial rfl).1.trans f_136
  have f_144 := (hs.o gq_60 trivial rfl).1.trans f_144
  have f_145 := (hs.o gq_60 trivial rfl).1.trans f_145
  have f_147 := (hs.o gq_60 trivial rfl).1.trans f_147
  have f_148 := (hs.o gq_60 trivial rfl).1.trans f_148
  have f_151 := (hs.o gq_60 trivial rfl).1.trans f_151
  have f_153 := (hs.o gq_60 trivial rfl).1.trans f_153
  have f_156 := (hs.o gq_60 trivial rfl).1.trans f_156
  have f_157 := (hs.o gq_60 trivial rfl).1.trans f_157
  have f_164 := (hs.o gq_60 trivial rfl).2.trans f_164
  have f_166 := (hs.o gq_60 trivial rfl).2.trans f_166
  have f_169 := (hs.o gq_60 trivial rfl).2.trans f_169
  have f_171 := (hs.o gq_60 trivial rfl).2.trans f_171
  have f_173 := (hs.o gq_60 trivial rfl).2.trans f_173
  have f_175 := (hs.o gq_60 trivial rfl).2.trans f_175
  have f_177 := (hs.o gq_60 trivial rfl).2.trans f_177
  have f_179 := (hs.o gq_60 trivial rfl).2.trans f_179
  have f_181 := (hs.o gq_60 trivial rfl).2.trans f_181
  have f_183 := (hs.o gq_60 trivial rfl).2.trans f_183
  have f_185 := (hs.o gq_60 trivial rfl).2.trans f_185
  have f_187 := (hs.o gq_60 trivial rfl).2.trans f_187
  have f_189 := (hs.o gq_60 trivial rfl).2.trans f_189
  have f_191 := (hs.o gq_60 trivial rfl).2.trans f_191
  have f_193 := (hs.o gq_60 trivial rfl).2.trans f_193
  have fa_36 : ∀ j, j < 14 → _ = P_wo j := fun j hj => (hs.a gq_34 rfl j).1.trans (fa_36 j hj)
  have fa_167 : ∀ j, j < 13 → _ = P_w1 j := fun j hj => (hs.a gq_165 rfl j).1.trans (fa_167 j hj)
  have gq_2 := gq_2.S hs
  have gq_27 := gq_27.S hs
  have gq_29 := gq_29.S hs
  have gq_31 := gq_31.S hs
  have gq_34 := gq_34.S hs
  have gq_37 := gq_37.S hs
  have gq_39 := gq_39.S hs
  have gq_41 := gq_41.S hs
  have gq_44 := gq_44.S hs
  have gq_47 := gq_47.S hs
  have gq_50 := gq_50.S hs
  have gq_53 := gq_53.S hs
  have gq_55 := gq_55.S hs
  have gq_60 := gq_60.S hs
  have gq_163 := gq_163.S hs
  have gq_165 := gq_165.S hs
  have gq_168 := gq_168.S hs
  have gq_170 := gq_170.S hs
  have gq_172 := gq_172.S hs
  have gq_174 := gq_174.S hs
  have gq_176 := gq_176.S hs
  have gq_178 := gq_178.S hs
  have gq_180 := gq_180.S hs
  have gq_182 := gq_182.S hs
  have gq_184 := gq_184.S hs
  have gq_186 := gq_186.S hs
  have gq_188 := gq_188.S hs
  have gq_190 := gq_190.S hs
  have gq_192 := gq_192.S hs
  refine lv_aload_n hx hb dL_law_940 rfl (lv_at hl 1 rfl) ?_
  refine lv_aload_n hx hb dL_law_941 rfl (lv_at hl 3 rfl) ?_
  refine lv_iload_n hx hb dL_law_942 rfl (lv_at hl 0 rfl) ?_
  refine lv_iconst (v := 1) hx hb dL_law_943 (by decide) ?_
  refine lv_iadd hx hb dL_law_944 ?_
  refine lv_topi (fun x_637 ex_637 => ?_)
  obtain rfl : x_637 = (1 : Int32) := ex_637.trans (by decide)
  refine va_sld hx hb hX hbl hbA hW.2.2.2.1 (vp_in_iff.mpr (by rw [hL7]; decide)) dL_law_945 ?_
  rw [show (1 : Int32).toNatClampNeg = 1 from by decide]
  refine lv_aload_n hx hb dL_law_946 rfl (lv_at hl 3 rfl) ?_
  refine lv_iload_n hx hb dL_law_947 rfl (lv_at hl 0 rfl) ?_
  refine lv_iconst (v := 2) hx hb dL_law_948 (by decide) ?_
  refine lv_iadd hx hb dL_law_949 ?_
  refine lv_topi (fun x_638 ex_638 => ?_)
  obtain rfl : x_638 = (2 : Int32) := ex_638.trans (by decide)
  refine va_sld hx hb hX hbl hbA hW.2.2.2.1 (vp_in_iff.mpr (by rw [hL7]; decide)) dL_law_950 ?_
  rw [show (2 : Int32).toNatClampNeg = 2 from by decide]
  refine lv_aload_n hx hb dL_law_951 rfl (lv_at hl 3 rfl) ?_
  refine lv_iload_n hx hb dL_law_952 rfl (lv_at hl 0 rfl) ?_
  refine lv_iconst (v := 3) hx hb dL_law_953 (by decide) ?_
  refine lv_iadd hx hb dL_law_954 ?_
  refine lv_topi (fun x_639 ex_639 => ?_)
  obtain rfl : x_639 = (3 : Int32) := ex_639.trans (by decide)
  refine va_sld hx hb hX hbl hbA hW.2.2.2.1 (vp_in_iff.mpr (by rw [hL7]; decide)) dL_law_955 ?_
  rw [show (3 : Int32).toNatClampNeg = 3 from by decide]
  refine hx_goi (hx_runV (As := [.int (xs 1), .int (xs 2), .int (xs 3)]) (rest := [.int r_634]) ⟨hx, hb, hml, hown, hts⟩ hW gq_60 td_10 (T := TX10) (N := 98) rfl (c_X10_pay l dC dI dA L_632 h_633 H.size q_60 (xs 1) (xs 2) (xs 3) gq_60 f_120 f_97) (cwV 3 hts (hx_gV kw_1649 kw_1646 kw_1647 kw_1648 kw_103) rfl rfl rfl (by decide +kernel) ⟨Nat.le_of_ble_eq_true rfl, Nat.le_of_ble_eq_true rfl⟩) rfl hl.1 rfl (Nat.le_of_ble_eq_true rfl) dL_law_956 ⟨Nat.le_of_ble_eq_true rfl, Nat.le_of_ble_eq_true rfl⟩) hW (fun r_642 L_640 h_641 H locs p_643 hW => ?_)
  obtain ⟨hr_644, hs⟩ := p_643
  have hs : hx_S P_tb [] L_632 h_633 L_640 h_641 := hs
  have f_4 := (hs.o gq_2 trivial rfl).1.trans f_4
  have f_5 := (hs.o gq_2 trivial rfl).1.trans f_5
  have f_9 := (hs.o gq_2 trivial rfl).1.trans f_9
  have f_11 := (hs.o gq_2 trivial rfl).1.trans f_11
  have f_14 := (hs.o gq_2 trivial rfl).1.trans f_14
  have f_16 := (hs.o gq_2 trivial rfl).1.trans f_16
  have f_28 := (hs.o gq_2 trivial rfl).2.trans f_28
  have f_30 := (hs.o gq_2 trivial rfl).2.trans f_30
  have f_32 := (hs.o gq_2 trivial rfl).2.trans f_32
  have f_33 := (hs.o gq_31 trivial rfl).1.trans f_33
  have f_35 := (hs.o gq_31 trivial rfl).2.trans f_35
  have f_38 := (hs.o gq_2 trivial rfl).2.trans f_38
  have f_40 := (hs.o gq_2 trivial rfl).2.trans f_40
  have f_42 := (hs.o gq_2 trivial rfl).2.trans f_42
  have f_43 := (hs.o gq_41 trivial rfl).1.trans f_43
  have f_45 := (hs.o gq_2 trivial rfl).2.trans f_45
  have f_46 := (hs.o gq_44 trivial rfl).1.trans f_46
  have f_48 := (hs.o gq_2 trivial rfl).2.trans f_48
  have f_49 := (hs.o gq_47 trivial rfl).1.trans f_49
  have f_51 := (hs.o gq_2 trivial rfl).2.trans f_51
  have f_52 := (hs.o gq_50 trivial rfl).1.trans f_52
  have f_54 := (hs.o gq_50 trivial rfl).2.trans f_54
  have f_56 := (hs.o gq_2 trivial rfl).2.trans f_56
  have f_57 := (hs.o gq_55 trivial rfl).1.trans f_57
  have f_58 := (hs.o gq_55 trivial rfl).1.trans f_58
  have f_61 := (hs.o gq_60 trivial rfl).1.trans f_61
  have f_62 := (hs.o gq_60 trivial rfl).1.trans f_62
  have f_68 := (hs.o gq_60 trivial rfl).1.trans f_68
  have f_69 := (hs.o gq_60 trivial rfl).1.trans f_69
  have f_70 := (hs.o gq_60 trivial rfl).1.trans f_70
  have f_71 := (hs.o gq_60 trivial rfl).1.trans f_71
  have f_72 := (hs.o gq_60 trivial rfl).1.trans f_72
  have f_74 := (hs.o gq_60 trivial rfl).1.trans f_74
  have f_81 := (hs.o gq_60 trivial rfl).1.trans f_81
  have f_90 := (hs.o gq_60 trivial rfl).1.trans f_90
  have f_97 := (hs.o gq_60 trivial rfl).1.trans f_97
  have f_118 := (hs.o gq_60 trivial rfl).1.trans f_118
  have f_120 := (hs.o gq_60 trivial rfl).1.trans f_120
  have f_128 := (hs.o gq_60 trivial rfl).1.trans f_128
  have f_129 := (hs.o gq_60 trivial rfl).1.trans f_129
  have f_130 := (hs.o gq_60 trivial rfl).1.trans f_130
  have f_131 := (hs.o gq_60 trivial rfl).1.trans f_131
  have f_132 := (hs.o gq_60 trivial rfl).1.trans f_132
  have f_133 := (hs.o gq_60 trivial rfl).1.trans f_133
  have f_136 := (hs.o gq_60 trivial rfl).1.trans f_136
  have f_144 := (hs.o gq_60 trivial rfl).1.trans f_144
  have f_145 := (hs.o gq_60 trivial rfl).1.trans f_145
  have f_147 := (hs.o gq_60 trivial rfl).1.trans f_147
  have f_148 := (hs.o gq_60 trivial rfl).1.trans f_148
  have f_151 := (hs.o gq_60 trivial rfl).1.trans f_151
  have f_153 := (hs.o gq_60 trivial rfl).1.trans f_153
  have f_156 := (hs.o gq_60 trivial rfl).1.trans f_156
  have f_157 := (hs.o gq_60 trivial rfl).1.trans f_157
  have f_164 := (hs.o gq_60 trivial rfl).2.trans f_164
  have f_166 := (hs.o gq_60 trivial rfl).2.trans f_166
  have f_169 := (hs.o gq_60 trivial rfl).2.trans f_169
  have f_171 := (hs.o gq_60 trivial rfl).2.trans f_171
  have f_173 := (hs.o gq_60 trivial rfl).2.trans f_173
  have f_175 := (hs.o gq_60 trivial rfl).2.trans f_175
  have f_177 := (hs.o gq_60 trivial rfl).2.trans f_177
  have f_179 := (hs.o gq_60 trivial rfl).2.trans f_179
  have f_181 := (hs.o gq_60 trivial rfl).2.trans f_181
  have f_183 := (hs.o gq_60 trivial rfl).2.trans f_183
  have f_185 := (hs.o gq_60 trivial rfl).2.trans f_185
  have f_187 := (hs.o gq_60 trivial rfl).2.trans f_187
  have f_189 := (hs.o gq_60 trivial rfl).2.trans f_189
  have f_191 := (hs.o gq_60 trivial rfl).2.trans f_191
  have f_193 := (hs.o gq_60 trivial rfl).2.trans f_193
  have fa_36 : ∀ j, j < 14 → _ = P_wo j := fun j hj => (hs.a gq_34 rfl j).1.trans (fa_36 j hj)
  have fa_167 : ∀ j, j < 13 → _ = P_w1 j := fun j hj => (hs.a gq_165 rfl j).1.trans (fa_167 j hj)
  have gq_2 := gq_2.S hs
  have gq_27 := gq_27.S hs
  have gq_29 := gq_29.S hs
  have gq_31 := gq_31.S hs
  have gq_34 := gq_34.S hs
  have gq_37 := gq_37.S hs
  have gq_39 := gq_39.S hs
  have gq_41 := gq_41.S hs
  have gq_44 := gq_44.S hs
  have gq_47 := gq_47.S hs
  have gq_50 := gq_50.S hs
  have gq_53 := gq_53.S hs
  have gq_55 := gq_55.S hs
  have gq_60 := gq_60.S hs
  have gq_163 := gq_163.S hs
  have gq_165 := gq_165.S hs
  have gq_168 := gq_168.S hs
  have gq_170 := gq_170.S hs
  have gq_172 := gq_172.S hs
  have gq_174 := gq_174.S hs
  have gq_176 := gq_176.S hs
  have gq_178 := gq_178.S hs
  have gq_180 := gq_180.S hs
  have gq_182 := gq_182.S hs
  have gq_184 := gq_184.S hs
  have gq_186 := gq_186.S hs
  have gq_188 := gq_188.S hs
  have gq_190 := gq_190.S hs
  have gq_192 := gq_192.S hs
  have heq : r_634 = r_642 := by
    first | exact hr_636.trans hr_644.symm | (rcases hr_636 with ⟨k1, k2⟩ | ⟨k1, k2⟩ <;> rcases hr_644 with ⟨k3, k4⟩ | ⟨k3, k4⟩ <;> first | exact k2.trans k4.symm | (exfalso; omega) | exact absurd k1 k3 | exact absurd k3 k1)
  refine hb_icmp_eq (zx := r_634.toInt) (zy := r_642.toInt) (tgt := 1379) hx hb rfl rfl dL_law_959 (by decide) (fun c_645 => ?_) (fun c_645 => absurd (congrArg Int32.toInt heq) c_645)
  exact law_tail hx hb hr hlocks hX hbl hbA hL7 _ _ hW.2.2.2.1 ls hl (Nat.le_of_ble_eq_true rfl) (Nat.le_of_ble_eq_true rfl)

set_option maxHeartbeats 4000000 in
set_option maxRecDepth 100000 in
theorem law_case_16 {p : Program} {e : Env} {s : State} {m : MethodId} {below : List Frame} {meth : Method} {c : Code} (l : Launch) {b LN : Nat} {xs : Nat → Int32} (hx : p.tables.exec = Jvm.exec) (hb : c.code = code) (hr : meth.sig.returnType = ret) (hlocks : meth.locks = false) (hml : c.maxLocals = 4) (hown : s.vm.findClass "SmallCourtLaw" = some m.cls) (hts : ∀ w ∈ hx_all, w.before #[Value.ref b] s = true) (hX : va_X b LN xs s s.heap) (hbl : b < s.heap.size) (hbA : ¬ s.heap.size ≤ b) (hL7 : LN = 7) (dC : Nat → ClassId) (dI : Nat → Nat → Nat) (dA : Nat → ClassId) (b0 : Nat) (q_2 q_27 q_29 q_31 q_34 q_37 q_39 q_41 q_44 q_47 q_50 q_53 q_55 q_60 q_163 q_165 q_168 q_170 q_172 q_174 q_176 q_178 q_180 q_182 q_184 q_186 q_188 q_190 q_192 : Nat) (L1 : List Nat) (hl1 : hx_h) (H : Heap) (locs : List Loc) (ls : Array Slot) (hW : hx_W P_tb (P_ty dA) (dC, dI) vwCl (fun q : Nat => s.heap.size ≤ q) s.heap L1 hl1 s H locs) (hZ : hx_Xt (fun q : Nat => s.heap.size ≤ q) b0 s) (f_4 : hl1.2.1 q_2 1 = (0 : Int32)) (f_5 : hl1.2.1 q_2 2 = (0 : Int32)) (f_9 : hl1.2.1 q_2 6 = (0 : Int32)) (f_11 : hl1.2.1 q_2 8 = (0 : Int32)) (f_14 : hl1.2.1 q_2 11 = (0 : Int32)) (f_16 : hl1.2.1 q_2 13 = (0 : Int32)) (f_28 : hl1.2.2 q_2 0 = some q_27) (f_30 : hl1.2.2 q_2 3 = some q_29) (f_32 : hl1.2.2 q_2 4 = some q_31) (f_33 : hl1.2.1 q_31 0 = (-1 : Int32)) (f_35 : hl1.2.2 q_31 2 = some q_34) (f_38 : hl1.2.2 q_2 5 = some q_37) (f_40 : hl1.2.2 q_2 7 = some q_39) (f_42 : hl1.2.2 q_2 9 = some q_41) (f_43 : hl1.2.1 q_41 0 = (0 : Int32)) (f_45 : hl1.2.2 q_2 14 = some q_44) (f_46 : hl1.2.1 q_44 0 = (0 : Int32)) (f_48 : hl1.2.2 q_2 17 = some q_47) (f_49 : hl1.2.1 q_47 1 = (0 : Int32)) (f_51 : hl1.2.2 q_2 18 = some q_50) (f_52 : hl1.2.1 q_50 0 = (-1 : Int32)) (f_54 : hl1.2.2 q_50 5 = some q_53) (f_56 : hl1.2.2 q_2 19 = some q_55) (f_57 : hl1.2.1 q_55 0 = (0 : Int32)) (f_58 : hl1.2.1 q_55 1 = (0 : Int32)) (f_61 : hl1.2.1 q_60 0 = (0 : Int32)) (f_62 : hl1.2.1 q_60 1 = (0 : Int32)) (f_68 : hl1.2.1 q_60 7 = (0 : Int32)) (f_69 : hl1.2.1 q_60 8 = (0 : Int32)) (f_70 : hl1.2.1 q_60 9 = (0 : Int32)) (f_71 : hl1.2.1 q_60 10 = (0 : Int32)) (f_72 : hl1.2.1 q_60 11 = (0 : Int32)) (f_74 : hl1.2.1 q_60 13 = (0 : Int32)) (f_81 : hl1.2.1 q_60 20 = (0 : Int32)) (f_90 : hl1.2.1 q_60 29 = (0 : Int32)) (f_97 : hl1.2.1 q_60 36 = (0 : Int32)) (f_118 : hl1.2.1 q_60 57 = (0 : Int32)) (f_120 : hl1.2.1 q_60 59 = (0 : Int32)) (f_128 : hl1.2.1 q_60 67 = (0 : Int32)) (f_129 : hl1.2.1 q_60 68 = (0 : Int32)) (f_130 : hl1.2.1 q_60 69 = (0 : Int32)) (f_131 : hl1.2.1 q_60 70 = (0 : Int32)) (f_132 : hl1.2.1 q_60 71 = (0 : Int32)) (f_133 : hl1.2.1 q_60 72 = (0 : Int32)) (f_136 : hl1.2.1 q_60 75 = (0 : Int32)) (f_144 : hl1.2.1 q_60 83 = (0 : Int32)) (f_145 : hl1.2.1 q_60 84 = (0 : Int32)) (f_147 : hl1.2.1 q_60 86 = (0 : Int32)) (f_148 : hl1.2.1 q_60 87 = (0 : Int32)) (f_151 : hl1.2.1 q_60 90 = (0 : Int32)) (f_153 : hl1.2.1 q_60 92 = (0 : Int32)) (f_156 : hl1.2.1 q_60 95 = (0 : Int32)) (f_157 : hl1.2.1 q_60 96 = (0 : Int32)) (f_164 : hl1.2.2 q_60 2 = some q_163) (f_166 : hl1.2.2 q_60 3 = some q_165) (f_169 : hl1.2.2 q_60 4 = some q_168) (f_171 : hl1.2.2 q_60 5 = some q_170) (f_173 : hl1.2.2 q_60 6 = some q_172) (f_175 : hl1.2.2 q_60 12 = some q_174) (f_177 : hl1.2.2 q_60 15 = some q_176) (f_179 : hl1.2.2 q_60 21 = some q_178) (f_181 : hl1.2.2 q_60 22 = some q_180) (f_183 : hl1.2.2 q_60 23 = some q_182) (f_185 : hl1.2.2 q_60 24 = some q_184) (f_187 : hl1.2.2 q_60 25 = some q_186) (f_189 : hl1.2.2 q_60 26 = some q_188) (f_191 : hl1.2.2 q_60 82 = some q_190) (f_193 : hl1.2.2 q_60 94 = some q_192) (fa_36 : ∀ j, j < 14 → hl1.2.1 q_34 j = P_wo j) (fa_167 : ∀ j, j < 13 → hl1.2.1 q_165 j = P_w1 j) (gq_2 : hx_g L1 hl1 q_2 9) (gq_27 : hx_g L1 hl1 q_27 42) (gq_29 : hx_g L1 hl1 q_29 6) (gq_31 : hx_g L1 hl1 q_31 0) (gq_34 : hx_g L1 hl1 q_34 11) (gq_37 : hx_g L1 hl1 q_37 43) (gq_39 : hx_g L1 hl1 q_39 44) (gq_41 : hx_g L1 hl1 q_41 1) (gq_44 : hx_g L1 hl1 q_44 3) (gq_47 : hx_g L1 hl1 q_47 5) (gq_50 : hx_g L1 hl1 q_50 7) (gq_53 : hx_g L1 hl1 q_53 36) (gq_55 : hx_g L1 hl1 q_55 8) (gq_60 : hx_g L1 hl1 q_60 10) (gq_163 : hx_g L1 hl1 q_163 49) (gq_165 : hx_g L1 hl1 q_165 50) (gq_168 : hx_g L1 hl1 q_168 51) (gq_170 : hx_g L1 hl1 q_170 52) (gq_172 : hx_g L1 hl1 q_172 53) (gq_174 : hx_g L1 hl1 q_174 54) (gq_176 : hx_g L1 hl1 q_176 55) (gq_178 : hx_g L1 hl1 q_178 58) (gq_180 : hx_g L1 hl1 q_180 59) (gq_182 : hx_g L1 hl1 q_182 60) (gq_184 : hx_g L1 hl1 q_184 61) (gq_186 : hx_g L1 hl1 q_186 62) (gq_188 : hx_g L1 hl1 q_188 63) (gq_190 : hx_g L1 hl1 q_190 108) (gq_192 : hx_g L1 hl1 q_192 114) (hl : lv_has ls 4 [(3, .int (0 : Int32)), (2, .ref q_60), (1, .ref q_2), (0, .ref b)]) : W p l e room_1 s m #[Value.ref b] below meth c H locs 112 26072 (lw_Z below #[Value.ref b] s) (F0 m 964 ls []) := by
  refine lv_aload_n hx hb dL_law_964 rfl (lv_at hl 2 rfl) ?_
  refine lv_aload_n hx hb dL_law_965 rfl (lv_at hl 3 rfl) ?_
  refine lv_iload_n hx hb dL_law_966 rfl (lv_at hl 0 rfl) ?_
  refine lv_iconst (v := 1) hx hb dL_law_967 (by decide) ?_
  refine lv_iadd hx hb dL_law_968 ?_
  refine lv_topi (fun x_646 ex_646 => ?_)
  obtain rfl : x_646 = (1 : Int32) := ex_646.trans (by decide)
  refine va_sld hx hb hX hbl hbA hW.2.2.2.1 (vp_in_iff.mpr (by rw [hL7]; decide)) dL_law_969 ?_
  rw [show (1 : Int32).toNatClampNeg = 1 from by decide]
  refine hx_goi (hx_runV (As := [.int (xs 1)]) (rest := []) ⟨hx, hb, hml, hown, hts⟩ hW gq_2 td_9 (T := TX9) (N := 20) rfl (c_X9_strike l dC dI dA L1 hl1 H.size q_2 (xs 1) gq_2 q_44 gq_44 f_45 f_46) (cwV 1 hts (hx_gV kw_899 kw_896 kw_897 kw_898 kw_94) rfl rfl rfl (by decide +kernel) ⟨Nat.le_of_ble_eq_true rfl, Nat.le_of_ble_eq_true rfl⟩) rfl hl.1 rfl (Nat.le_of_ble_eq_true rfl) dL_law_970 ⟨Nat.le_of_ble_eq_true rfl, Nat.le_of_ble_eq_true rfl⟩) hW (fun r_649 L_647 h_648 H locs p_650 hW => ?_)
  obtain ⟨hr_651, hs⟩ := p_650
  have hs : hx_S P_tb [] L1 hl1 L_647 h_648 := hs
  have f_4 := (hs.o gq_2 trivial rfl).1.trans f_4
  have f_5 := (hs.o gq_2 trivial rfl).1.trans f_5
  have f_9 := (hs.o gq_2 trivial rfl).1.trans f_9
  have f_11 := (hs.o gq_2 trivial rfl).1.trans f_11
  have f_14 := (hs.o gq_2 trivial rfl).1.trans f_14
  have f_16 := (hs.o gq_2 trivial rfl).1.trans f_16
  have f_28 := (hs.o gq_2 trivial rfl).2.trans f_28
  have f_30 := (hs.o gq_2 trivial rfl).2.trans f_30
  have f_32 := (hs.o gq_2 trivial rfl).2.trans f_32
  have f_33 := (hs.o gq_31 trivial rfl).1.trans f_33
  have f_35 := (hs.o gq_31 trivial rfl).2.trans f_35
  have f_38 := (hs.o gq_2 trivial rfl).2.trans f_38
  have f_40 := (hs.o gq_2 trivial rfl).2.trans f_40
  have f_42 := (hs.o gq_2 trivial rfl).2.trans f_42
  have f_43 := (hs.o gq_41 trivial rfl).1.trans f_43
  have f_45 := (hs.o gq_2 trivial rfl).2.trans f_45
  have f_46 := (hs.o gq_44 trivial rfl).1.trans f_46
  have f_48 := (hs.o gq_2 trivial rfl).2.trans f_48
  have f_49 := (hs.o gq_47 trivial rfl).1.trans f_49
  have f_51 := (hs.o gq_2 trivial rfl).2.trans f_51
  have f_52 := (hs.o gq_50 trivial rfl).1.trans f_52
  have f_54 := (hs.o gq_50 trivial rfl).2.trans f_54
  have f_56 := (hs.o gq_2 trivial rfl).2.trans f_56
  have f_57 := (hs.o gq_55 trivial rfl).1.trans f_57
  have f_58 := (hs.o gq_55 trivial rfl).1.trans f_58
  have f_61 := (hs.o gq_60 trivial rfl).1.trans f_61
  have f_62 := (hs.o gq_60 trivial rfl).1.trans f_62
  have f_68 := (hs.o gq_60 trivial rfl).1.trans f_68
  have f_69 := (hs.o gq_60 trivial rfl).1.trans f_69
  have f_70 := (hs.o gq_60 trivial rfl).1.trans f_70
  have f_71 := (hs.o gq_60 trivial rfl).1.trans f_71
  have f_72 := (hs.o gq_60 trivial rfl).1.trans f_72
  have f_74 := (hs.o gq_60 trivial rfl).1.trans f_74
  have f_81 := (hs.o gq_60 trivial rfl).1.trans f_81
  have f_90 := (hs.o gq_60 trivial rfl).1.trans f_90
  have f_97 := (hs.o gq_60 trivial rfl).1.trans f_97
  have f_118 := (hs.o gq_60 trivial rfl).1.trans f_118
  have f_120 := (hs.o gq_60 trivial rfl).1.trans f_120
  have f_128 := (hs.o gq_60 trivial rfl).1.trans f_128
  have f_129 := (hs.o gq_60 trivial rfl).1.trans f_129
  have f_130 := (hs.o gq_60 trivial rfl).1.trans f_130
  have f_131 := (hs.o gq_60 trivial rfl).1.trans f_131
  have f_132 := (hs.o gq_60 trivial rfl).1.trans f_132
  have f_133 := (hs.o gq_60 trivial rfl).1.trans f_133
  have f_136 := (hs.o gq_60 trivial rfl).1.trans f_136
  have f_144 := (hs.o gq_60 trivial rfl).1.trans f_144
  have f_145 := (hs.o gq_60 trivial rfl).1.trans f_145
  have f_147 := (hs.o gq_60 trivial rfl).1.trans f_147
  have f_148 := (hs.o gq_60 trivial rfl).1.trans f_148
  have f_151 := (hs.o gq_60 trivial rfl).1.trans f_151
  have f_153 := (hs.o gq_60 trivial rfl).1.trans f_153
  have f_156 := (hs.o gq_60 trivial rfl).1.trans f_156
  have f_157 := (hs.o gq_60 trivial rfl).1.trans f_157
  have f_164 := (hs.o gq_60 trivial rfl).2.trans f_164
  have f_166 := (hs.o gq_60 trivial rfl).2.trans f_166
  have f_169 := (hs.o gq_60 trivial rfl).2.trans f_169
  have f_171 := (hs.o gq_60 trivial rfl).2.trans f_171
  have f_173 := (hs.o gq_60 trivial rfl).2.trans f_173
  have f_175 := (hs.o gq_60 trivial rfl).2.trans f_175
  have f_177 := (hs.o gq_60 trivial rfl).2.trans f_177
  have f_179 := (hs.o gq_60 trivial rfl).2.trans f_179
  have f_181 := (hs.o gq_60 trivial rfl).2.trans f_181
  have f_183 := (hs.o gq_60 trivial rfl).2.trans f_183
  have f_185 := (hs.o gq_60 trivial rfl).2.trans f_185
  have f_187 := (hs.o gq_60 trivial rfl).2.trans f_187
  have f_189 := (hs.o gq_60 trivial rfl).2.trans f_189
  have f_191 := (hs.o gq_60 trivial rfl).2.trans f_191
  have f_193 := (hs.o gq_60 trivial rfl).2.trans f_193
  have fa_36 : ∀ j, j < 14 → _ = P_wo j := fun j hj => (hs.a gq_34 rfl j).1.trans (fa_36 j hj)
  have fa_167 : ∀ j, j < 13 → _ = P_w1 j := fun j hj => (hs.a gq_165 rfl j).1.trans (fa_167 j hj)
  have gq_2 := gq_2.S hs
  have gq_27 := gq_27.S hs
  have gq_29 := gq_29.S hs
  have gq_31 := gq_31.S hs
  have gq_34 := gq_34.S hs
  have gq_37 := gq_37.S hs
  have gq_39 := gq_39.S hs
  have gq_41 := gq_41.S hs
  have gq_44 := gq_44.S hs
  have gq_47 := gq_47.S hs
  have gq_50 := gq_50.S hs
  have gq_53 := gq_53.S hs
  have gq_55 := gq_55.S hs
  have gq_60 := gq_60.S hs
  have gq_163 := gq_163.S hs
  have gq_165 := gq_165.S hs
  have gq_168 := gq_168.S hs
  have gq_170 := gq_170.S hs
  have gq_172 := gq_172.S hs
  have gq_174 := gq_174.S hs
  have gq_176 := gq_176.S hs
  have gq_178 := gq_178.S hs
  have gq_180 := gq_180.S hs
  have gq_182 := gq_182.S hs
  have gq_184 := gq_184.S hs
  have gq_186 := gq_186.S hs
  have gq_188 := gq_188.S hs
  have gq_190 := gq_190.S hs
  have gq_192 := gq_192.S hs
  refine lv_aload_n hx hb dL_law_973 rfl (lv_at hl 1 rfl) ?_
  refine lv_aload_n hx hb dL_law_974 rfl (lv_at hl 3 rfl) ?_
  refine lv_iload_n hx hb dL_law_975 rfl (lv_at hl 0 rfl) ?_
  refine lv_iconst (v := 1) hx hb dL_law_976 (by decide) ?_
  refine lv_iadd hx hb dL_law_977 ?_
  refine lv_topi (fun x_652 ex_652 => ?_)
  obtain rfl : x_652 = (1 : Int32) := ex_652.trans (by decide)
  refine va_sld hx hb hX hbl hbA hW.2.2.2.1 (vp_in_iff.mpr (by rw [hL7]; decide)) dL_law_978 ?_
  rw [show (1 : Int32).toNatClampNeg = 1 from by decide]
  refine hx_goi (hx_runV (As := [.int (xs 1)]) (rest := [.int r_649]) ⟨hx, hb, hml, hown, hts⟩ hW gq_60 td_10 (T := TX10) (N := 98) rfl (c_X10_strike l dC dI dA L_647 h_648 H.size q_60 (xs 1) gq_60 f_120) (cwV 1 hts (hx_gV kw_1657 kw_1654 kw_1655 kw_1656 kw_103) rfl rfl rfl (by decide +kernel) ⟨Nat.le_of_ble_eq_true rfl, Nat.le_of_ble_eq_true rfl⟩) rfl hl.1 rfl (Nat.le_of_ble_eq_true rfl) dL_law_979 ⟨Nat.le_of_ble_eq_true rfl, Nat.le_of_ble_eq_true rfl⟩) hW (fun r_655 L_653 h_654 H locs p_656 hW => ?_)
  obtain ⟨hr_657, hs⟩ := p_656
  have hs : hx_S P_tb [] L_647 h_648 L_653 h_654 := hs
  have f_4 := (hs.o gq_2 trivial rfl).1.trans f_4
  have f_5 := (hs.o gq_2 trivial rfl).1.trans f_5
  have f_9 := (hs.o gq_2 trivial rfl).1.trans f_9
  have f_11 := (hs.o gq_2 trivial rfl).1.trans f_11
  have f_14 := (hs.o gq_2 trivial rfl).1.trans f_14
  have f_16 := (hs.o gq_2 trivial rfl).1.trans f_16
  have f_28 := (hs.o gq_2 trivial rfl).2.trans f_28
  have f_30 := (hs.o gq_2 trivial rfl).2.trans f_30
  have f_32 := (hs.o gq_2 trivial rfl).2.trans f_32
  have f_33 := (hs.o gq_31 trivial rfl).1.trans f_33
  have f_35 := (hs.o gq_31 trivial rfl).2.trans f_35
  have f_38 := (hs.o gq_2 trivial rfl).2.trans f_38
  have f_40 := (hs.o gq_2 trivial rfl).2.trans f_40
  have f_42 := (hs.o gq_2 trivial rfl).2.trans f_42
  have f_43 := (hs.o gq_41 trivial rfl).1.trans f_43
  have f_45 := (hs.o gq_2 trivial rfl).2.trans f_45
  have f_46 := (hs.o gq_44 trivial rfl).1.trans f_46
  have f_48 := (hs.o gq_2 trivial rfl).2.trans f_48
  have f_49 := (hs.o gq_47 trivial rfl).1.trans f_49
  have f_51 := (hs.o gq_2 trivial rfl).2.trans f_51
  have f_52 := (hs.o gq_50 trivial rfl).1.trans f_52
  have f_54 := (hs.o gq_50 trivial rfl).2.trans f_54
  have f_56 := (hs.o gq_2 trivial rfl).2.trans f_56
  have f_57 := (hs.o gq_55 trivial rfl).1.trans f_57
  have f_58 := (hs.o gq_55 trivial rfl).1.trans f_58
  have f_61 := (hs.o gq_60 trivial rfl).1.trans f_61
  have f_62 := (hs.o gq_60 trivial rfl).1.trans f_62
  have f_68 := (hs.o gq_60 trivial rfl).1.trans f_68
  have f_69 := (hs.o gq_60 trivial rfl).1.trans f_69
  have f_70 := (hs.o gq_60 trivial rfl).1.trans f_70
  have f_71 := (hs.o gq_60 trivial rfl).1.trans f_71
  have f_72 := (hs.o gq_60 trivial rfl).1.trans f_72
  have f_74 := (hs.o gq_60 trivial rfl).1.trans f_74
  have f_81 := (hs.o gq_60 trivial rfl).1.trans f_81
  have f_90 := (hs.o gq_60 trivial rfl).1.trans f_90
  have f_97 := (hs.o gq_60 trivial rfl).1.trans f_97
  have f_118 := (hs.o gq_60 trivial rfl).1.trans f_118
  have f_120 := (hs.o gq_60 trivial rfl).1.trans f_120
  have f_128 := (hs.o gq_60 trivial rfl).1.trans f_128
  have f_129 := (hs.o gq_60 trivial rfl).1.trans f_129
  have f_130 := (hs.o gq_60 trivial rfl).1.trans f_130
  have f_131 := (hs.o gq_60 trivial rfl).1.trans f_131
  have f_132 := (hs.o gq_60 trivial rfl).1.trans f_132
  have f_133 := (hs.o gq_60 trivial rfl).1.trans f_133
  have f_136 := (hs.o gq_60 trivial rfl).1.trans f_136
  have f_144 := (hs.o gq_60 trivial rfl).1.trans f_144
  have f_145 := (hs.o gq_60 trivial rfl).1.trans f_145
  have f_147 := (hs.o gq_60 trivial rfl).1.trans f_147
  have f_148 := (hs.o gq_60 trivial rfl).1.trans f_148
  have f_151 := (hs.o gq_60 trivial rfl).1.trans f_151
  have f_153 := (hs.o gq_60 trivial rfl).1.trans f_153
  have f_156 := (hs.o gq_60 trivial rfl).1.trans f_156
  have f_157 := (hs.o gq_60 trivial rfl).1.trans f_157
  have f_164 := (hs.o gq_60 trivial rfl).2.trans f_164
  have f_166 := (hs.o gq_60 trivial rfl).2.trans f_166
  have f_169 := (hs.o gq_60 trivial rfl).2.trans f_169
  have f_171 := (hs.o gq_60 trivial rfl).2.trans f_171
  have f_173 := (hs.o gq_60 trivial rfl).2.trans f_173
  have f_175 := (hs.o gq_60 trivial rfl).2.trans f_175
  have f_177 := (hs.o gq_60 trivial rfl).2.trans f_177
  have f_179 := (hs.o gq_60 trivial rfl).2.trans f_179
  have f_181 := (hs.o gq_60 trivial rfl).2.trans f_181
  have f_183 := (hs.o gq_60 trivial rfl).2.trans f_183
  have f_185 := (hs.o gq_60 trivial rfl).2.trans f_185
  have f_187 := (hs.o gq_60 trivial rfl).2.trans f_187
  have f_189 := (hs.o gq_60 trivial rfl).2.trans f_189
  have f_191 := (hs.o gq_60 trivial rfl).2.trans f_191
  have f_193 := (hs.o gq_60 trivial rfl).2.trans f_193
  have fa_36 : ∀ j, j < 14 → _ = P_wo j := fun j hj => (hs.a gq_34 rfl j).1.trans (fa_36 j hj)
  have fa_167 : ∀ j, j < 13 → _ = P_w1 j := fun j hj => (hs.a gq_165 rfl j).1.trans (fa_167 j hj)
  have gq_2 := gq_2.S hs
  have gq_27 := gq_27.S hs
  have gq_29 := gq_29.S hs
  have gq_31 := gq_31.S hs
  have gq_34 := gq_34.S hs
  have gq_37 := gq_37.S hs
  have gq_39 := gq_39.S hs
  have gq_41 := gq_41.S hs
  have gq_44 := gq_44.S hs
  have gq_47 := gq_47.S hs
  have gq_50 := gq_50.S hs
  have gq_53 := gq_53.S hs
  have gq_55 := gq_55.S hs
  have gq_60 := gq_60.S hs
  have gq_163 := gq_163.S hs
  have gq_165 := gq_165.S hs
  have gq_168 := gq_168.S hs
  have gq_170 := gq_170.S hs
  have gq_172 := gq_172.S hs
  have gq_174 := gq_174.S hs
  have gq_176 := gq_176.S hs
  have gq_178 := gq_178.S hs
  have gq_180 := gq_180.S hs
  have gq_182 := gq_182.S hs
  have gq_184 := gq_184.S hs
  have gq_186 := gq_186.S hs
  have gq_188 := gq_188.S hs
  have gq_190 := gq_190.S hs
  have gq_192 := gq_192.S hs
  have heq : r_649 = r_655 := by
    first | exact hr_651.trans hr_657.symm | (rcases hr_651 with ⟨k1, k2⟩ | ⟨k1, k2⟩ <;> rcases hr_657 with ⟨k3, k4⟩ | ⟨k3, k4⟩ <;> first | exact k2.trans k4.symm | (exfalso; omega) | exact absurd k1 k3 | exact absurd k3 k1)
  refine hb_icmp_eq (zx := r_649.toInt) (zy := r_655.toInt) (tgt := 1379) hx hb rfl rfl dL_law_982 (by decide) (fun c_658 => ?_) (fun c_658 => absurd (congrArg Int32.toInt heq) c_658)
  exact law_tail hx hb hr hlocks hX hbl hbA hL7 _ _ hW.2.2.2.1 ls hl (Nat.le_of_ble_eq_true rfl) (Nat.le_of_ble_eq_true rfl)

set_option maxHeartbeats 4000000 in
set_option maxRecDepth 100000 in
theorem law_case_17 {p : Program} {e : Env} {s : State} {m : MethodId} {below : List Frame} {meth : Method} {c : Code} (l : Launch) {b LN : Nat} {xs : Nat → Int32} (hx : p.tables.exec = Jvm.exec) (hb : c.code = code) (hr : meth.sig.returnType = ret) (hlocks : meth.locks = false) (hml : c.maxLocals = 4) (hown : s.vm.findClass "SmallCourtLaw" = some m.cls) (hts : ∀ w ∈ hx_all, w.before #[Value.ref b] s = true) (hX : va_X b LN xs s s.heap) (hbl : b < s.heap.size) (hbA : ¬ s.heap.size ≤ b) (hL7 : LN = 7) (dC : Nat → ClassId) (dI : Nat → Nat → Nat) (dA : Nat → ClassId) (b0 : Nat) (q_2 q_27 q_29 q_31 q_34 q_37 q_39 q_41 q_44 q_47 q_50 q_53 q_55 q_60 q_163 q_165 q_168 q_170 q_172 q_174 q_176 q_178 q_180 q_182 q_184 q_186 q_188 q_190 q_192 : Nat) (L1 : List Nat) (hl1 : hx_h) (H : Heap) (locs : List Loc) (ls : Array Slot) (hW : hx_W P_tb (P_ty dA) (dC, dI) vwCl (fun q : Nat => s.heap.size ≤ q) s.heap L1 hl1 s H locs) (hZ : hx_Xt (fun q : Nat => s.heap.size ≤ q) b0 s) (f_4 : hl1.2.1 q_2 1 = (0 : Int32)) (f_5 : hl1.2.1 q_2 2 = (0 : Int32)) (f_9 : hl1.2.1 q_2 6 = (0 : Int32)) (f_11 : hl1.2.1 q_2 8 = (0 : Int32)) (f_14 : hl1.2.1 q_2 11 = (0 : Int32)) (f_16 : hl1.2.1 q_2 13 = (0 : Int32)) (f_28 : hl1.2.2 q_2 0 = some q_27) (f_30 : hl1.2.2 q_2 3 = some q_29) (f_32 : hl1.2.2 q_2 4 = some q_31) (f_33 : hl1.2.1 q_31 0 = (-1 : Int32)) (f_35 : hl1.2.2 q_31 2 = some q_34) (f_38 : hl1.2.2 q_2 5 = some q_37) (f_40 : hl1.2.2 q_2 7 = some q_39) (f_42 : hl1.2.2 q_2 9 = some q_41) (f_43 : hl1.2.1 q_41 0 = (0 : Int32)) (f_45 : hl1.2.2 q_2 14 = some q_44) (f_46 : hl1.2.1 q_44 0 = (0 : Int32)) (f_48 : hl1.2.2 q_2 17 = some q_47) (f_49 : hl1.2.1 q_47 1 = (0 : Int32)) (f_51 : hl1.2.2 q_2 18 = some q_50) (f_52 : hl1.2.1 q_50 0 = (-1 : Int32)) (f_54 : hl1.2.2 q_50 5 = some q_53) (f_56 : hl1.2.2 q_2 19 = some q_55) (f_57 : hl1.2.1 q_55 0 = (0 : Int32)) (f_58 : hl1.2.1 q_55 1 = (0 : Int32)) (f_61 : hl1.2.1 q_60 0 = (0 : Int32)) (f_62 : hl1.2.1 q_60 1 = (0 : Int32)) (f_68 : hl1.2.1 q_60 7 = (0 : Int32)) (f_69 : hl1.2.1 q_60 8 = (0 : Int32)) (f_70 : hl1.2.1 q_60 9 = (0 : Int32)) (f_71 : hl1.2.1 q_60 10 = (0 : Int32)) (f_72 : hl1.2.1 q_60 11 = (0 : Int32)) (f_74 : hl1.2.1 q_60 13 = (0 : Int32)) (f_81 : hl1.2.1 q_60 20 = (0 : Int32)) (f_90 : hl1.2.1 q_60 29 = (0 : Int32)) (f_97 : hl1.2.1 q_60 36 = (0 : Int32)) (f_118 : hl1.2.1 q_60 57 = (0 : Int32)) (f_120 : hl1.2.1 q_60 59 = (0 : Int32)) (f_128 : hl1.2.1 q_60 67 = (0 : Int32)) (f_129 : hl1.2.1 q_60 68 = (0 : Int32)) (f_130 : hl1.2.1 q_60 69 = (0 : Int32)) (f_131 : hl1.2.1 q_60 70 = (0 : Int32)) (f_132 : hl1.2.1 q_60 71 = (0 : Int32)) (f_133 : hl1.2.1 q_60 72 = (0 : Int32)) (f_136 : hl1.2.1 q_60 75 = (0 : Int32)) (f_144 : hl1.2.1 q_60 83 = (0 : Int32)) (f_145 : hl1.2.1 q_60 84 = (0 : Int32)) (f_147 : hl1.2.1 q_60 86 = (0 : Int32)) (f_148 : hl1.2.1 q_60 87 = (0 : Int32)) (f_151 : hl1.2.1 q_60 90 = (0 : Int32)) (f_153 : hl1.2.1 q_60 92 = (0 : Int32)) (f_156 : hl1.2.1 q_60 95 = (0 : Int32)) (f_157 : hl1.2.1 q_60 96 = (0 : Int32)) (f_164 : hl1.2.2 q_60 2 = some q_163) (f_166 : hl1.2.2 q_60 3 = some q_165) (f_169 : hl1.2.2 q_60 4 = some q_168) (f_171 : hl1.2.2 q_60 5 = some q_170) (f_173 : hl1.2.2 q_60 6 = some q_172) (f_175 : hl1.2.2 q_60 12 = some q_174) (f_177 : hl1.2.2 q_60 15 = some q_176) (f_179 : hl1.2.2 q_60 21 = some q_178) (f_181 : hl1.2.2 q_60 22 = some q_180) (f_183 : hl1.2.2 q_60 23 = some q_182) (f_185 : hl1.2.2 q_60 24 = some q_184) (f_187 : hl1.2.2 q_60 25 = some q_186) (f_189 : hl1.2.2 q_60 26 = some q_188) (f_191 : hl1.2.2 q_60 82 = some q_190) (f_193 : hl1.2.2 q_60 94 = some q_192) (fa_36 : ∀ j, j < 14 → hl1.2.1 q_34 j = P_wo j) (fa_167 : ∀ j, j < 13 → hl1.2.1 q_165 j = P_w1 j) (gq_2 : hx_g L1 hl1 q_2 9) (gq_27 : hx_g L1 hl1 q_27 42) (gq_29 : hx_g L1 hl1 q_29 6) (gq_31 : hx_g L1 hl1 q_31 0) (gq_34 : hx_g L1 hl1 q_34 11) (gq_37 : hx_g L1 hl1 q_37 43) (gq_39 : hx_g L1 hl1 q_39 44) (gq_41 : hx_g L1 hl1 q_41 1) (gq_44 : hx_g L1 hl1 q_44 3) (gq_47 : hx_g L1 hl1 q_47 5) (gq_50 : hx_g L1 hl1 q_50 7) (gq_53 : hx_g L1 hl1 q_53 36) (gq_55 : hx_g L1 hl1 q_55 8) (gq_60 : hx_g L1 hl1 q_60 10) (gq_163 : hx_g L1 hl1 q_163 49) (gq_165 : hx_g L1 hl1 q_165 50) (gq_168 : hx_g L1 hl1 q_168 51) (gq_170 : hx_g L1 hl1 q_170 52) (gq_172 : hx_g L1 hl1 q_172 53) (gq_174 : hx_g L1 hl1 q_174 54) (gq_176 : hx_g L1 hl1 q_176 55) (gq_178 : hx_g L1 hl1 q_178 58) (gq_180 : hx_g L1 hl1 q_180 59) (gq_182 : hx_g L1 hl1 q_182 60) (gq_184 : hx_g L1 hl1 q_184 61) (gq_186 : hx_g L1 hl1 q_186 62) (gq_188 : hx_g L1 hl1 q_188 63) (gq_190 : hx_g L1 hl1 q_190 108) (gq_192 : hx_g L1 hl1 q_192 114) (hl : lv_has ls 4 [(3, .int (0 : Int32)), (2, .ref q_60), (1, .ref q_2), (0, .ref b)]) : W p l e room_1 s m #[Value.ref b] below meth c H locs 112 26072 (lw_Z below #[Value.ref b] s) (F0 m 987 ls []) := by
  refine lv_aload_n hx hb dL_law_987 rfl (lv_at hl 2 rfl) ?_
  refine lv_aload_n hx hb dL_law_988 rfl (lv_at hl 3 rfl) ?_
  refine lv_iload_n hx hb dL_law_989 rfl (lv_at hl 0 rfl) ?_
  refine lv_iconst (v := 1) hx hb dL_law_990 (by decide) ?_
  refine lv_iadd hx hb dL_law_991 ?_
  refine lv_topi (fun x_659 ex_659 => ?_)
  obtain rfl : x_659 = (1 : Int32) := ex_659.trans (by decide)
  refine va_sld hx hb hX hbl hbA hW.2.2.2.1 (vp_in_iff.mpr (by rw [hL7]; decide)) dL_law_992 ?_
  rw [show (1 : Int32).toNatClampNeg = 1 from by decide]
  refine lv_aload_n hx hb dL_law_993 rfl (lv_at hl 3 rfl) ?_
  refine lv_iload_n hx hb dL_law_994 rfl (lv_at hl 0 rfl) ?_
  refine lv_iconst (v := 2) hx hb dL_law_995 (by decide) ?_
  refine lv_iadd hx hb dL_law_996 ?_
  refine lv_topi (fun x_660 ex_660 => ?_)
  obtain rfl : x_660 = (2 : Int32) := ex_660.trans (by decide)
  refine va_sld hx hb hX hbl hbA hW.2.2.2.1 (vp_in_iff.mpr (by rw [hL7]; decide)) dL_law_997 ?_
  rw [show (2 : Int32).toNatClampNeg = 2 from by decide]
  refine hx_goi (hx_runV (As := [.int (xs 1), .int (xs 2)]) (rest := []) ⟨hx, hb, hml, hown, hts⟩ hW gq_2 td_9 (T := TX9) (N := 20) rfl (c_X9_seize l dC dI dA L1 hl1 H.size q_2 (xs 1) (xs 2) gq_2 f_14) (cwV 2 hts (hx_gV kw_903 kw_900 kw_901 kw_902 kw_94) rfl rfl rfl (by decide +kernel) ⟨Nat.le_of_ble_eq_true rfl, Nat.le_of_ble_eq_true rfl⟩) rfl hl.1 rfl (Nat.le_of_ble_eq_true rfl) dL_law_998 ⟨Nat.le_of_ble_eq_true rfl, Nat.le_of_ble_eq_true rfl⟩) hW (fun r_663 L_661 h_662 H locs p_664 hW => ?_)
  obtain ⟨hr_665, hs⟩ := p_664
  have hs : hx_S P_tb [] L1 hl1 L_661 h_662 := hs
  have f_4 := (hs.o gq_2 trivial rfl).1.trans f_4
  have f_5 := (hs.o gq_2 trivial rfl).1.trans f_5
  have f_9 := (hs.o gq_2 trivial rfl).1.trans f_9
  have f_11 := (hs.o gq_2 trivial rfl).1.trans f_11
  have f_14 := (hs.o gq_2 trivial rfl).1.trans f_14
  have f_16 := (hs.o gq_2 trivial rfl).1.trans f_16
  have f_28 := (hs.o gq_2 trivial rfl).2.trans f_28
  have f_30 := (hs.o gq_2 trivial rfl).2.trans f_30
  have f_32 := (hs.o gq_2 trivial rfl).2.trans f_32
  have f_33 := (hs.o gq_31 trivial rfl).1.trans f_33
  have f_35 := (hs.o gq_31 trivial rfl).2.trans f_35
  have f_38 := (hs.o gq_2 trivial rfl).2.trans f_38
  have f_40 := (hs.o gq_2 trivial rfl).2.trans f_40
  have f_42 := (hs.o gq_2 trivial rfl).2.trans f_42
  have f_43 := (hs.o gq_41 trivial rfl).1.trans f_43
  have f_45 := (hs.o gq_2 trivial rfl).2.trans f_45
  have f_46 := (hs.o gq_44 trivial rfl).1.trans f_46
  have f_48 := (hs.o gq_2 trivial rfl).2.trans f_48
  have f_49 := (hs.o gq_47 trivial rfl).1.trans f_49
  have f_51 := (hs.o gq_2 trivial rfl).2.trans f_51
  have f_52 := (hs.o gq_50 trivial rfl).1.trans f_52
  have f_54 := (hs.o gq_50 trivial rfl).2.trans f_54
  have f_56 := (hs.o gq_2 trivial rfl).2.trans f_56
  have f_57 := (hs.o gq_55 trivial rfl).1.trans f_57
  have f_58 := (hs.o gq_55 trivial rfl).1.trans f_58
  have f_61 := (hs.o gq_60 trivial rfl).1.trans f_61
  have f_62 := (hs.o gq_60 trivial rfl).1.trans f_62
  have f_68 := (hs.o gq_60 trivial rfl).1.trans f_68
  have f_69 := (hs.o gq_60 trivial rfl).1.trans f_69
  have f_70 := (hs.o gq_60 trivial rfl).1.trans f_70
  have f_71 := (hs.o gq_60 trivial rfl).1.trans f_71
  have f_72 := (hs.o gq_60 trivial rfl).1.trans f_72
  have f_74 := (hs.o gq_60 trivial rfl).1.trans f_74
  have f_81 := (hs.o gq_60 trivial rfl).1.trans f_81
  have f_90 := (hs.o gq_60 trivial rfl).1.trans f_90
  have f_97 := (hs.o gq_60 trivial rfl).1.trans f_97
  have f_118 := (hs.o gq_60 trivial rfl).1.trans f_118
  have f_120 := (hs.o gq_60 trivial rfl).1.trans f_120
  have f_128 := (hs.o gq_60 trivial rfl).1.trans f_128
  have f_129 := (hs.o gq_60 trivial rfl).1.trans f_129
  have f_130 := (hs.o gq_60 trivial rfl).1.trans f_130
  have f_131 := (hs.o gq_60 trivial rfl).1.trans f_131
  have f_132 := (hs.o gq_60 trivial rfl).1.trans f_132
  have f_133 := (hs.o gq_60 trivial rfl).1.trans f_133
  have f_136 := (hs.o gq_60 trivial rfl).1.trans f_136
  have f_144 := (hs.o gq_60 trivial rfl).1.trans f_144
  have f_145 := (hs.o gq_60 trivial rfl).1.trans f_145
  have f_147 := (hs.o gq_60 trivial rfl).1.trans f_147
  have f_148 := (hs.o gq_60 trivial rfl).1.trans f_148
  have f_151 := (hs.o gq_60 trivial rfl).1.trans f_151
  have f_153 := (hs.o gq_60 trivial rfl).1.trans f_153
  have f_156 := (hs.o gq_60 trivial rfl).1.trans f_156
  have f_157 := (hs.o gq_60 trivial rfl).1.trans f_157
  have f_164 := (hs.o gq_60 trivial rfl).2.trans f_164
  have f_166 := (hs.o gq_60 trivial rfl).2.trans f_166
  have f_169 := (hs.o gq_60 trivial rfl).2.trans f_169
  have f_171 := (hs.o gq_60 trivial rfl).2.trans f_171
  have f_173 := (hs.o gq_60 trivial rfl).2.trans f_173
  have f_175 := (hs.o gq_60 trivial rfl).2.trans f_175
  have f_177 := (hs.o gq_60 trivial rfl).2.trans f_177
  have f_179 := (hs.o gq_60 trivial rfl).2.trans f_179
  have f_181 := (hs.o gq_60 trivial rfl).2.trans f_181
  have f_183 := (hs.o gq_60 trivial rfl).2.trans f_183
  have f_185 := (hs.o gq_60 trivial rfl).2.trans f_185
  have f_187 := (hs.o gq_60 trivial rfl).2.trans f_187
  have f_189 := (hs.o gq_60 trivial rfl).2.trans f_189
  have f_191 := (hs.o gq_60 trivial rfl).2.trans f_191
  have f_193 := (hs.o gq_60 trivial rfl).2.trans f_193
  have fa_36 : ∀ j, j < 14 → _ = P_wo j := fun j hj => (hs.a gq_34 rfl j).1.trans (fa_36 j hj)
  have fa_167 : ∀ j, j < 13 → _ = P_w1 j := fun j hj => (hs.a gq_165 rfl j).1.trans (fa_167 j hj)
  have gq_2 := gq_2.S hs
  have gq_27 := gq_27.S hs
  have gq_29 := gq_29.S hs
  have gq_31 := gq_31.S hs
  have gq_34 := gq_34.S hs
  have gq_37 := gq_37.S hs
  have gq_39 := gq_39.S hs
  have gq_41 := gq_41.S hs
  have gq_44 := gq_44.S hs
  have gq_47 := gq_47.S hs
  have gq_50 := gq_50.S hs
  have gq_53 := gq_53.S hs
  have gq_55 := gq_55.S hs
  have gq_60 := gq_60.S hs
  have gq_163 := gq_163.S hs
  have gq_165 := gq_165.S hs
  have gq_168 := gq_168.S hs
  have gq_170 := gq_170.S hs
  have gq_172 := gq_172.S hs
  have gq_174 := gq_174.S hs
  have gq_176 := gq_176.S hs
  have gq_178 := gq_178.S hs
  have gq_180 := gq_180.S hs
  have gq_182 := gq_182.S hs
  have gq_184 := gq_184.S hs
  have gq_186 := gq_186.S hs
  have gq_188 := gq_188.S hs
  have gq_190 := gq_190.S hs
  have gq_192 := gq_192.S hs
  refine lv_aload_n hx hb dL_law_1001 rfl (lv_at hl 1 rfl) ?_
  refine lv_aload_n hx hb dL_law_1002 rfl (lv_at hl 3 rfl) ?_
  refine lv_iload_n hx hb dL_law_1003 rfl (lv_at hl 0 rfl) ?_
  refine lv_iconst (v := 1) hx hb dL_law_1004 (by decide) ?_
  refine lv_iadd hx hb dL_law_1005 ?_
  refine lv_topi (fun x_666 ex_666 => ?_)
  obtain rfl : x_666 = (1 : Int32) := ex_666.trans (by decide)
  refine va_sld hx hb hX hbl hbA hW.2.2.2.1 (vp_in_iff.mpr (by rw [hL7]; decide)) dL_law_1006 ?_
  rw [show (1 : Int32).toNatClampNeg = 1 from by decide]
  refine lv_aload_n hx hb dL_law_1007 rfl (lv_at hl 3 rfl) ?_
  refine lv_iload_n hx hb dL_law_1008 rfl (lv_at hl 0 rfl) ?_
  refine lv_iconst (v := 2) hx hb dL_law_1009 (by decide) ?_
  refine lv_iadd hx hb dL_law_1010 ?_
  refine lv_topi (fun x_667 ex_667 => ?_)
  obtain rfl : x_667 = (2 : Int32) := ex_667.trans (by decide)
  refine va_sld hx hb hX hbl hbA hW.2.2.2.1 (vp_in_iff.mpr (by rw [hL7]; decide)) dL_law_1011 ?_
  rw [show (2 : Int32).toNatClampNeg = 2 from by decide]
  refine hx_goi (hx_runV (As := [.int (xs 1), .int (xs 2)]) (rest := [.int r_663]) ⟨hx, hb, hml, hown, hts⟩ hW gq_60 td_10 (T := TX10) (N := 98) rfl (c_X10_seize l dC dI dA L_661 h_662 H.size q_60 (xs 1) (xs 2) gq_60 f_97) (cwV 2 hts (hx_gV kw_1661 kw_1658 kw_1659 kw_1660 kw_103) rfl rfl rfl (by decide +kernel) ⟨Nat.le_of_ble_eq_true rfl, Nat.le_of_ble_eq_true rfl⟩) rfl hl.1 rfl (Nat.le_of_ble_eq_true rfl) dL_law_1012 ⟨Nat.le_of_ble_eq_true rfl, Nat.le_of_ble_eq_true rfl⟩) hW (fun r_670 L_668 h_669 H locs p_671 hW => ?_)
  obtain ⟨hr_672, hs⟩ := p_671
  have hs : hx_S P_tb [] L_661 h_662 L_668 h_669 := hs
  have f_4 := (hs.o gq_2 trivial rfl).1.trans f_4
  have f_5 := (hs.o gq_2 trivial rfl).1.trans f_5
  have f_9 := (hs.o gq_2 trivial rfl).1.trans f_9
  have f_11 := (hs.o gq_2 trivial rfl).1.trans f_11
  have f_14 := (hs.o gq_2 trivial rfl).1.trans f_14
  have f_16 := (hs.o gq_2 trivial rfl).1.trans f_16
  have f_28 := (hs.o gq_2 trivial rfl).2.trans f_28
  have f_30 := (hs.o gq_2 trivial rfl).2.trans f_30
  have f_32 := (hs.o gq_2 trivial rfl).2.trans f_32
  have f_33 := (hs.o gq_31 trivial rfl).1.trans f_33
  have f_35 := (hs.o gq_31 trivial rfl).2.trans f_35
  have f_38 := (hs.o gq_2 trivial rfl).2.trans f_38
  have f_40 := (hs.o gq_2 trivial rfl).2.trans f_40
  have f_42 := (hs.o gq_2 trivial rfl).2.trans f_42
  have f_43 := (hs.o gq_41 trivial rfl).1.trans f_43
  have f_45 := (hs.o gq_2 trivial rfl).2.trans f_45
  have f_46 := (hs.o gq_44 trivial rfl).1.trans f_46
  have f_48 := (hs.o gq_2 trivial rfl).2.trans f_48
  have f_49 := (hs.o gq_47 trivial rfl).1.trans f_49
  have f_51 := (hs.o gq_2 trivial rfl).2.trans f_51
  have f_52 := (hs.o gq_50 trivial rfl).1.trans f_52
  have f_54 := (hs.o gq_50 trivial rfl).2.trans f_54
  have f_56 := (hs.o gq_2 trivial rfl).2.trans f_56
  have f_57 := (hs.o gq_55 trivial rfl).1.trans f_57
  have f_58 := (hs.o gq_55 trivial rfl).1.trans f_58
  have f_61 := (hs.o gq_60 trivial rfl).1.trans f_61
  have f_62 := (hs.o gq_60 trivial rfl).1.trans f_62
  have f_68 := (hs.o gq_60 trivial rfl).1.trans f_68
  have f_69 := (hs.o gq_60 trivial rfl).1.trans f_69
  have f_70 := (hs.o gq_60 trivial rfl).1.trans f_70
  have f_71 := (hs.o gq_60 trivial rfl).1.trans f_71
  have f_72 := (hs.o gq_60 trivial rfl).1.trans f_72
  have f_74 := (hs.o gq_60 trivial rfl).1.trans f_74
  have f_81 := (hs.o gq_60 trivial rfl).1.trans f_81
  have f_90 := (hs.o gq_60 trivial rfl).1.trans f_90
  have f_97 := (hs.o gq_60 trivial rfl).1.trans f_97
  have f_118 := (hs.o gq_60 trivial rfl).1.trans f_118
  have f_120 := (hs.o gq_60 trivial rfl).1.trans f_120
  have f_128 := (hs.o gq_60 trivial rfl).1.trans f_128
  have f_129 := (hs.o gq_60 trivial rfl).1.trans f_129
  have f_130 := (hs.o gq_60 trivial rfl).1.trans f_130
  have f_131 := (hs.o gq_60 trivial rfl).1.trans f_131
  have f_132 := (hs.o gq_60 trivial rfl).1.trans f_132
  have f_133 := (hs.o gq_60 trivial rfl).1.trans f_133
  have f_136 := (hs.o gq_60 trivial rfl).1.trans f_136
  have f_144 := (hs.o gq_60 trivial rfl).1.trans f_144
  have f_145 := (hs.o gq_60 trivial rfl).1.trans f_145
  have f_147 := (hs.o gq_60 trivial rfl).1.trans f_147
  have f_148 := (hs.o gq_60 trivial rfl).1.trans f_148
  have f_151 := (hs.o gq_60 trivial rfl).1.trans f_151
  have f_153 := (hs.o gq_60 trivial rfl).1.trans f_153
  have f_156 := (hs.o gq_60 trivial rfl).1.trans f_156
  have f_157 := (hs.o gq_60 trivial rfl).1.trans f_157
  have f_164 := (hs.o gq_60 trivial rfl).2.trans f_164
  have f_166 := (hs.o gq_60 trivial rfl).2.trans f_166
  have f_169 := (hs.o gq_60 trivial rfl).2.trans f_169
  have f_171 := (hs.o gq_60 trivial rfl).2.trans f_171
  have f_173 := (hs.o gq_60 trivial rfl).2.trans f_173
  have f_175 := (hs.o gq_60 trivial rfl).2.trans f_175
  have f_177 := (hs.o gq_60 trivial rfl).2.trans f_177
  have f_179 := (hs.o gq_60 trivial rfl).2.trans f_179
  have f_181 := (hs.o gq_60 trivial rfl).2.trans f_181
  have f_183 := (hs.o gq_60 trivial rfl).2.trans f_183
  have f_185 := (hs.o gq_60 trivial rfl).2.trans f_185
  have f_187 := (hs.o gq_60 trivial rfl).2.trans f_187
  have f_189 := (hs.o gq_60 trivial rfl).2.trans f_189
  have f_191 := (hs.o gq_60 trivial rfl).2.trans f_191
  have f_193 := (hs.o gq_60 trivial rfl).2.trans f_193
  have fa_36 : ∀ j, j < 14 → _ = P_wo j := fun j hj => (hs.a gq_34 rfl j).1.trans (fa_36 j hj)
  have fa_167 : ∀ j, j < 13 → _ = P_w1 j := fun j hj => (hs.a gq_165 rfl j).1.trans (fa_167 j hj)
  have gq_2 := gq_2.S hs
  have gq_27 := gq_27.S hs
  have gq_29 := gq_29.S hs
  have gq_31 := gq_31.S hs
  have gq_34 := gq_34.S hs
  have gq_37 := gq_37.S hs
  have gq_39 := gq_39.S hs
  have gq_41 := gq_41.S hs
  have gq_44 := gq_44.S hs
  have gq_47 := gq_47.S hs
  have gq_50 := gq_50.S hs
  have gq_53 := gq_53.S hs
  have gq_55 := gq_55.S hs
  have gq_60 := gq_60.S hs
  have gq_163 := gq_163.S hs
  have gq_165 := gq_165.S hs
  have gq_168 := gq_168.S hs
  have gq_170 := gq_170.S hs
  have gq_172 := gq_172.S hs
  have gq_174 := gq_174.S hs
  have gq_176 := gq_176.S hs
  have gq_178 := gq_178.S hs
  have gq_180 := gq_180.S hs
  have gq_182 := gq_182.S hs
  have gq_184 := gq_184.S hs
  have gq_186 := gq_186.S hs
  have gq_188 := gq_188.S hs
  have gq_190 := gq_190.S hs
  have gq_192 := gq_192.S hs
  have heq : r_663 = r_670 := by
    first | exact hr_665.trans hr_672.symm | (rcases hr_665 with ⟨k1, k2⟩ | ⟨k1, k2⟩ <;> rcases hr_672 with ⟨k3, k4⟩ | ⟨k3, k4⟩ <;> first | exact k2.trans k4.symm | (exfalso; omega) | exact absurd k1 k3 | exact absurd k3 k1)
  refine hb_icmp_eq (zx := r_663.toInt) (zy := r_670.toInt) (tgt := 1379) hx hb rfl rfl dL_law_1015 (by decide) (fun c_673 => ?_) (fun c_673 => absurd (congrArg Int32.toInt heq) c_673)
  exact law_tail hx hb hr hlocks hX hbl hbA hL7 _ _ hW.2.2.2.1 ls hl (Nat.le_of_ble_eq_true rfl) (Nat.le_of_ble_eq_true rfl)

set_option maxHeartbeats 4000000 in
set_option maxRecDepth 100000 in
theorem law_case_18 {p : Program} {e : Env} {s : State} {m : MethodId} {below : List Frame} {meth : Method} {c : Code} (l : Launch) {b LN : Nat} {xs : Nat → Int32} (hx : p.tables.exec = Jvm.exec) (hb : c.code = code) (hr : meth.sig.returnType = ret) (hlocks : meth.locks = false) (hml : c.maxLocals = 4) (hown : s.vm.findClass "SmallCourtLaw" = some m.cls) (hts : ∀ w ∈ hx_all, w.before #[Value.ref b] s = true) (hX : va_X b LN xs s s.heap) (hbl : b < s.heap.size) (hbA : ¬ s.heap.size ≤ b) (hL7 : LN = 7) (dC : Nat → ClassId) (dI : Nat → Nat → Nat) (dA : Nat → ClassId) (b0 : Nat) (q_2 q_27 q_29 q_31 q_34 q_37 q_39 q_41 q_44 q_47 q_50 q_53 q_55 q_60 q_163 q_165 q_168 q_170 q_172 q_174 q_176 q_178 q_180 q_182 q_184 q_186 q_188 q_190 q_192 : Nat) (L1 : List Nat) (hl1 : hx_h) (H : Heap) (locs : List Loc) (ls : Array Slot) (hW : hx_W P_tb (P_ty dA) (dC, dI) vwCl (fun q : Nat => s.heap.size ≤ q) s.heap L1 hl1 s H locs) (hZ : hx_Xt (fun q : Nat => s.heap.size ≤ q) b0 s) (f_4 : hl1.2.1 q_2 1 = (0 : Int32)) (f_5 : hl1.2.1 q_2 2 = (0 : Int32)) (f_9 : hl1.2.1 q_2 6 = (0 : Int32)) (f_11 : hl1.2.1 q_2 8 = (0 : Int32)) (f_14 : hl1.2.1 q_2 11 = (0 : Int32)) (f_16 : hl1.2.1 q_2 13 = (0 : Int32)) (f_28 : hl1.2.2 q_2 0 = some q_27) (f_30 : hl1.2.2 q_2 3 = some q_29) (f_32 : hl1.2.2 q_2 4 = some q_31) (f_33 : hl1.2.1 q_31 0 = (-1 : Int32)) (f_35 : hl1.2.2 q_31 2 = some q_34) (f_38 : hl1.2.2 q_2 5 = some q_37) (f_40 : hl1.2.2 q_2 7 = some q_39) (f_42 : hl1.2.2 q_2 9 = some q_41) (f_43 : hl1.2.1 q_41 0 = (0 : Int32)) (f_45 : hl1.2.2 q_2 14 = some q_44) (f_46 : hl1.2.1 q_44 0 = (0 : Int32)) (f_48 : hl1.2.2 q_2 17 = some q_47) (f_49 : hl1.2.1 q_47 1 = (0 : Int32)) (f_51 : hl1.2.2 q_2 18 = some q_50) (f_52 : hl1.2.1 q_50 0 = (-1 : Int32)) (f_54 : hl1.2.2 q_50 5 = some q_53) (f_56 : hl1.2.2 q_2 19 = some q_55) (f_57 : hl1.2.1 q_55 0 = (0 : Int32)) (f_58 : hl1.2.1 q_55 1 = (0 : Int32)) (f_61 : hl1.2.1 q_60 0 = (0 : Int32)) (f_62 : hl1.2.1 q_60 1 = (0 : Int32)) (f_68 : hl1.2.1 q_60 7 = (0 : Int32)) (f_69 : hl1.2.1 q_60 8 = (0 : Int32)) (f_70 : hl1.2.1 q_60 9 = (0 : Int32)) (f_71 : hl1.2.1 q_60 10 = (0 : Int32)) (f_72 : hl1.2.1 q_60 11 = (0 : Int32)) (f_74 : hl1.2.1 q_60 13 = (0 : Int32)) (f_81 : hl1.2.1 q_60 20 = (0 : Int32)) (f_90 : hl1.2.1 q_60 29 = (0 : Int32)) (f_97 : hl1.2.1 q_60 36 = (0 : Int32)) (f_118 : hl1.2.1 q_60 57 = (0 : Int32)) (f_120 : hl1.2.1 q_60 59 = (0 : Int32)) (f_128 : hl1.2.1 q_60 67 = (0 : Int32)) (f_129 : hl1.2.1 q_60 68 = (0 : Int32)) (f_130 : hl1.2.1 q_60 69 = (0 : Int32)) (f_131 : hl1.2.1 q_60 70 = (0 : Int32)) (f_132 : hl1.2.1 q_60 71 = (0 : Int32)) (f_133 : hl1.2.1 q_60 72 = (0 : Int32)) (f_136 : hl1.2.1 q_60 75 = (0 : Int32)) (f_144 : hl1.2.1 q_60 83 = (0 : Int32)) (f_145 : hl1.2.1 q_60 84 = (0 : Int32)) (f_147 : hl1.2.1 q_60 86 = (0 : Int32)) (f_148 : hl1.2.1 q_60 87 = (0 : Int32)) (f_151 : hl1.2.1 q_60 90 = (0 : Int32)) (f_153 : hl1.2.1 q_60 92 = (0 : Int32)) (f_156 : hl1.2.1 q_60 95 = (0 : Int32)) (f_157 : hl1.2.1 q_60 96 = (0 : Int32)) (f_164 : hl1.2.2 q_60 2 = some q_163) (f_166 : hl1.2.2 q_60 3 = some q_165) (f_169 : hl1.2.2 q_60 4 = some q_168) (f_171 : hl1.2.2 q_60 5 = some q_170) (f_173 : hl1.2.2 q_60 6 = some q_172) (f_175 : hl1.2.2 q_60 12 = some q_174) (f_177 : hl1.2.2 q_60 15 = some q_176) (f_179 : hl1.2.2 q_60 21 = some q_178) (f_181 : hl1.2.2 q_60 22 = some q_180) (f_183 : hl1.2.2 q_60 23 = some q_182) (f_185 : hl1.2.2 q_60 24 = some q_184) (f_187 : hl1.2.2 q_60 25 = some q_186) (f_189 : hl1.2.2 q_60 26 = some q_188) (f_191 : hl1.2.2 q_60 82 = some q_190) (f_193 : hl1.2.2 q_60 94 = some q_192) (fa_36 : ∀ j, j < 14 → hl1.2.1 q_34 j = P_wo j) (fa_167 : ∀ j, j < 13 → hl1.2.1 q_165 j = P_w1 j) (gq_2 : hx_g L1 hl1 q_2 9) (gq_27 : hx_g L1 hl1 q_27 42) (gq_29 : hx_g L1 hl1 q_29 6) (gq_31 : hx_g L1 hl1 q_31 0) (gq_34 : hx_g L1 hl1 q_34 11) (gq_37 : hx_g L1 hl1 q_37 43) (gq_39 : hx_g L1 hl1 q_39 44) (gq_41 : hx_g L1 hl1 q_41 1) (gq_44 : hx_g L1 hl1 q_44 3) (gq_47 : hx_g L1 hl1 q_47 5) (gq_50 : hx_g L1 hl1 q_50 7) (gq_53 : hx_g L1 hl1 q_53 36) (gq_55 : hx_g L1 hl1 q_55 8) (gq_60 : hx_g L1 hl1 q_60 10) (gq_163 : hx_g L1 hl1 q_163 49) (gq_165 : hx_g L1 hl1 q_165 50) (gq_168 : hx_g L1 hl1 q_168 51) (gq_170 : hx_g L1 hl1 q_170 52) (gq_172 : hx_g L1 hl1 q_172 53) (gq_174 : hx_g L1 hl1 q_174 54) (gq_176 : hx_g L1 hl1 q_176 55) (gq_178 : hx_g L1 hl1 q_178 58) (gq_180 : hx_g L1 hl1 q_180 59) (gq_182 : hx_g L1 hl1 q_182 60) (gq_184 : hx_g L1 hl1 q_184 61) (gq_186 : hx_g L1 hl1 q_186 62) (gq_188 : hx_g L1 hl1 q_188 63) (gq_190 : hx_g L1 hl1 q_190 108) (gq_192 : hx_g L1 hl1 q_192 114) (hl : lv_has ls 4 [(3, .int (0 : Int32)), (2, .ref q_60), (1, .ref q_2), (0, .ref b)]) : W p l e room_1 s m #[Value.ref b] below meth c H locs 112 26072 (lw_Z below #[Value.ref b] s) (F0 m 1020 ls []) := by
  refine lv_aload_n hx hb dL_law_1020 rfl (lv_at hl 2 rfl) ?_
  refine lv_aload_n hx hb dL_law_1021 rfl (lv_at hl 3 rfl) ?_
  refine lv_iload_n hx hb dL_law_1022 rfl (lv_at hl 0 rfl) ?_
  refine lv_iconst (v := 1) hx hb dL_law_1023 (by decide) ?_
  refine lv_iadd hx hb dL_law_1024 ?_
  refine lv_topi (fun x_674 ex_674 => ?_)
  obtain rfl : x_674 = (1 : Int32) := ex_674.trans (by decide)
  refine va_sld hx hb hX hbl hbA hW.2.2.2.1 (vp_in_iff.mpr (by rw [hL7]; decide)) dL_law_1025 ?_
  rw [show (1 : Int32).toNatClampNeg = 1 from by decide]
  refine hx_goi (hx_runV (As := [.int (xs 1)]) (rest := []) ⟨hx, hb, hml, hown, hts⟩ hW gq_2 td_9 (T := TX9) (N := 20) rfl (c_X9_gaol l dC dI dA L1 hl1 H.size q_2 (xs 1) gq_2 f_14) (cwV 1 hts (hx_gV kw_926 kw_923 kw_924 kw_925 kw_94) rfl rfl rfl (by decide +kernel) ⟨Nat.le_of_ble_eq_true rfl, Nat.le_of_ble_eq_true rfl⟩) rfl hl.1 rfl (Nat.le_of_ble_eq_true rfl) dL_law_1026 ⟨Nat.le_of_ble_eq_true rfl, Nat.le_of_ble_eq_true rfl⟩) hW (fun r_677 L_675 h_676 H locs p_678 hW => ?_)
  obtain ⟨hr_679, hs⟩ := p_678
  have hs : hx_S P_tb [] L1 hl1 L_675 h_676 := hs
  have f_4 := (hs.o gq_2 trivial rfl).1.trans f_4
  have f_5 := (hs.o gq_2 trivial rfl).1.trans f_5
  have f_9 := (hs.o gq_2 trivial rfl).1.trans f_9
  have f_11 := (hs.o gq_2 trivial rfl).1.trans f_11
  have f_14 := (hs.o gq_2 trivial rfl).1.trans f_14
  have f_16 := (hs.o gq_2 trivial rfl).1.trans f_16
  have f_28 := (hs.o gq_2 trivial rfl).2.trans f_28
  have f_30 := (hs.o gq_2 trivial rfl).2.trans f_30
  have f_32 := (hs.o gq_2 trivial rfl).2.trans f_32
  have f_33 := (hs.o gq_31 trivial rfl).1.trans f_33
  have f_35 := (hs.o gq_31 trivial rfl).2.trans f_35
  have f_38 := (hs.o gq_2 trivial rfl).2.trans f_38
  have f_40 := (hs.o gq_2 trivial rfl).2.trans f_40
  have f_42 := (hs.o gq_2 trivial rfl).2.trans f_42
  have f_43 := (hs.o gq_41 trivial rfl).1.trans f_43
  have f_45 := (hs.o gq_2 trivial rfl).2.trans f_45
  have f_46 := (hs.o gq_44 trivial rfl).1.trans f_46
  have f_48 := (hs.o gq_2 trivial rfl).2.trans f_48
  have f_49 := (hs.o gq_47 trivial rfl).1.trans f_49
  have f_51 := (hs.o gq_2 trivial rfl).2.trans f_51
  have f_52 := (hs.o gq_50 trivial rfl).1.trans f_52
  have f_54 := (hs.o gq_50 trivial rfl).2.trans f_54
  have f_56 := (hs.o gq_2 trivial rfl).2.trans f_56
  have f_57 := (hs.o gq_55 trivial rfl).1.trans f_57
  have f_58 := (hs.o gq_55 trivial rfl).1.trans f_58
  have f_61 := (hs.o gq_60 trivial rfl).1.trans f_61
  have f_62 := (hs.o gq_60 trivial rfl).1.trans f_62
  have f_68 := (hs.o gq_60 trivial rfl).1.trans f_68
  have f_69 := (hs.o gq_60 trivial rfl).1.trans f_69
  have f_70 := (hs.o gq_60 trivial rfl).1.trans f_70
  have f_71 := (hs.o gq_60 trivial rfl).1.trans f_71
  have f_72 := (hs.o gq_60 trivial rfl).1.trans f_72
  have f_74 := (hs.o gq_60 trivial rfl).1.trans f_74
  have f_81 := (hs.o gq_60 trivial rfl).1.trans f_81
  have f_90 := (hs.o gq_60 trivial rfl).1.trans f_90
  have f_97 := (hs.o gq_60 trivial rfl).1.trans f_97
  have f_118 := (hs.o gq_60 trivial rfl).1.trans f_118
  have f_120 := (hs.o gq_60 trivial rfl).1.trans f_120
  have f_128 := (hs.o gq_60 trivial rfl).1.trans f_128
  have f_129 := (hs.o gq_60 trivial rfl).1.trans f_129
  have f_130 := (hs.o gq_60 trivial rfl).1.trans f_130
  have f_131 := (hs.o gq_60 trivial rfl).1.trans f_131
  have f_132 := (hs.o gq_60 trivial rfl).1.trans f_132
  have f_133 := (hs.o gq_60 trivial rfl).1.trans f_133
  have f_136 := (hs.o gq_60 trivial rfl).1.trans f_136
  have f_144 := (hs.o gq_60 trivial rfl).1.trans f_144
  have f_145 := (hs.o gq_60 trivial rfl).1.trans f_145
  have f_147 := (hs.o gq_60 trivial rfl).1.trans f_147
  have f_148 := (hs.o gq_60 trivial rfl).1.trans f_148
  have f_151 := (hs.o gq_60 trivial rfl).1.trans f_151
  have f_153 := (hs.o gq_60 trivial rfl).1.trans f_153
  have f_156 := (hs.o gq_60 trivial rfl).1.trans f_156
  have f_157 := (hs.o gq_60 trivial rfl).1.trans f_157
  have f_164 := (hs.o gq_60 trivial rfl).2.trans f_164
  have f_166 := (hs.o gq_60 trivial rfl).2.trans f_166
  have f_169 := (hs.o gq_60 trivial rfl).2.trans f_169
  have f_171 := (hs.o gq_60 trivial rfl).2.trans f_171
  have f_173 := (hs.o gq_60 trivial rfl).2.trans f_173
  have f_175 := (hs.o gq_60 trivial rfl).2.trans f_175
  have f_177 := (hs.o gq_60 trivial rfl).2.trans f_177
  have f_179 := (hs.o gq_60 trivial rfl).2.trans f_179
  have f_181 := (hs.o gq_60 trivial rfl).2.trans f_181
  have f_183 := (hs.o gq_60 trivial rfl).2.trans f_183
  have f_185 := (hs.o gq_60 trivial rfl).2.trans f_185
  have f_187 := (hs.o gq_60 trivial rfl).2.trans f_187
  have f_189 := (hs.o gq_60 trivial rfl).2.trans f_189
  have f_191 := (hs.o gq_60 trivial rfl).2.trans f_191
  have f_193 := (hs.o gq_60 trivial rfl).2.trans f_193
  have fa_36 : ∀ j, j < 14 → _ = P_wo j := fun j hj => (hs.a gq_34 rfl j).1.trans (fa_36 j hj)
  have fa_167 : ∀ j, j < 13 → _ = P_w1 j := fun j hj => (hs.a gq_165 rfl j).1.trans (fa_167 j hj)
  have gq_2 := gq_2.S hs
  have gq_27 := gq_27.S hs
  have gq_29 := gq_29.S hs
  have gq_31 := gq_31.S hs
  have gq_34 := gq_34.S hs
  have gq_37 := gq_37.S hs
  have gq_39 := gq_39.S hs
  have gq_41 := gq_41.S hs
  have gq_44 := gq_44.S hs
  have gq_47 := gq_47.S hs
  have gq_50 := gq_50.S hs
  have gq_53 := gq_53.S hs
  have gq_55 := gq_55.S hs
  have gq_60 := gq_60.S hs
  have gq_163 := gq_163.S hs
  have gq_165 := gq_165.S hs
  have gq_168 := gq_168.S hs
  have gq_170 := gq_170.S hs
  have gq_172 := gq_172.S hs
  have gq_174 := gq_174.S hs
  have gq_176 := gq_176.S hs
  have gq_178 := gq_178.S hs
  have gq_180 := gq_180.S hs
  have gq_182 := gq_182.S hs
  have gq_184 := gq_184.S hs
  have gq_186 := gq_186.S hs
  have gq_188 := gq_188.S hs
  have gq_190 := gq_190.S hs
  have gq_192 := gq_192.S hs
  refine lv_aload_n hx hb dL_law_1029 rfl (lv_at hl 1 rfl) ?_
  refine lv_aload_n hx hb dL_law_1030 rfl (lv_at hl 3 rfl) ?_
  refine lv_iload_n hx hb dL_law_1031 rfl (lv_at hl 0 rfl) ?_
  refine lv_iconst (v := 1) hx hb dL_law_1032 (by decide) ?_
  refine lv_iadd hx hb dL_law_1033 ?_
  refine lv_topi (fun x_680 ex_680 => ?_)
  obtain rfl : x_680 = (1 : Int32) := ex_680.trans (by decide)
  refine va_sld hx hb hX hbl hbA hW.2.2.2.1 (vp_in_iff.mpr (by rw [hL7]; decide)) dL_law_1034 ?_
  rw [show (1 : Int32).toNatClampNeg = 1 from by decide]
  refine hx_goi (hx_runV (As := [.int (xs 1)]) (rest := [.int r_677]) ⟨hx, hb, hml, hown, hts⟩ hW gq_60 td_10 (T := TX10) (N := 98) rfl (c_X10_gaol l dC dI dA L_675 h_676 H.size q_60 (xs 1) gq_60 f_97) (cwV 1 hts (hx_gV kw_1665 kw_1662 kw_1663 kw_1664 kw_103) rfl rfl rfl (by decide +kernel) ⟨Nat.le_of_ble_eq_true rfl, Nat.le_of_ble_eq_true rfl⟩) rfl hl.1 rfl (Nat.le_of_ble_eq_true rfl) dL_law_1035 ⟨Nat.le_of_ble_eq_true rfl, Nat.le_of_ble_eq_true rfl⟩) hW (fun r_683 L_681 h_682 H locs p_684 hW => ?_)
  obtain ⟨hr_685, hs⟩ := p_684
  have hs : hx_S P_tb [] L_675 h_676 L_681 h_682 := hs
  have f_4 := (hs.o gq_2 trivial rfl).1.trans f_4
  have f_5 := (hs.o gq_2 trivial rfl).1.trans f_5
  have f_9 := (hs.o gq_2 trivial rfl).1.trans f_9
  have f_11 := (hs.o gq_2 trivial rfl).1.trans f_11
  have f_14 := (hs.o gq_2 trivial rfl).1.trans f_14
  have f_16 := (hs.o gq_2 trivial rfl).1.trans f_16
  have f_28 := (hs.o gq_2 trivial rfl).2.trans f_28
  have f_30 := (hs.o gq_2 trivial rfl).2.trans f_30
  have f_32 := (hs.o gq_2 trivial rfl).2.trans f_32
  have f_33 := (hs.o gq_31 trivial rfl).1.trans f_33
  have f_35 := (hs.o gq_31 trivial rfl).2.trans f_35
  have f_38 := (hs.o gq_2 trivial rfl).2.trans f_38
  have f_40 := (hs.o gq_2 trivial rfl).2.trans f_40
  have f_42 := (hs.o gq_2 trivial rfl).2.trans f_42
  have f_43 := (hs.o gq_41 trivial rfl).1.trans f_43
  have f_45 := (hs.o gq_2 trivial rfl).2.trans f_45
  have f_46 := (hs.o gq_44 trivial rfl).1.trans f_46
  have f_48 := (hs.o gq_2 trivial rfl).2.trans f_48
  have f_49 := (hs.o gq_47 trivial rfl).1.trans f_49
  have f_51 := (hs.o gq_2 trivial rfl).2.trans f_51
  have f_52 := (hs.o gq_50 trivial rfl).1.trans f_52
  have f_54 := (hs.o gq_50 trivial rfl).2.trans f_54
  have f_56 := (hs.o gq_2 trivial rfl).2.trans f_56
  have f_57 := (hs.o gq_55 trivial rfl).1.trans f_57
  have f_58 := (hs.o gq_55 trivial rfl).1.trans f_58
  have f_61 := (hs.o gq_60 trivial rfl).1.trans f_61
  have f_62 := (hs.o gq_60 trivial rfl).1.trans f_62
  have f_68 := (hs.o gq_60 trivial rfl).1.trans f_68
  have f_69 := (hs.o gq_60 trivial rfl).1.trans f_69
  have f_70 := (hs.o gq_60 trivial rfl).1.trans f_70
  have f_71 := (hs.o gq_60 trivial rfl).1.trans f_71
  have f_72 := (hs.o gq_60 trivial rfl).1.trans f_72
  have f_74 := (hs.o gq_60 trivial rfl).1.trans f_74
  have f_81 := (hs.o gq_60 trivial rfl).1.trans f_81
  have f_90 := (hs.o gq_60 trivial rfl).1.trans f_90
  have f_97 := (hs.o gq_60 trivial rfl).1.trans f_97
  have f_118 := (hs.o gq_60 trivial rfl).1.trans f_118
  have f_120 := (hs.o gq_60 trivial rfl).1.trans f_120
  have f_128 := (hs.o gq_60 trivial rfl).1.trans f_128
  have f_129 := (hs.o gq_60 trivial rfl).1.trans f_129
  have f_130 := (hs.o gq_60 trivial rfl).1.trans f_130
  have f_131 := (hs.o gq_60 trivial rfl).1.trans f_131
  have f_132 := (hs.o gq_60 trivial rfl).1.trans f_132
  have f_133 := (hs.o gq_60 trivial rfl).1.trans f_133
  have f_136 := (hs.o gq_60 trivial rfl).1.trans f_136
  have f_144 := (hs.o gq_60 trivial rfl).1.trans f_144
  have f_145 := (hs.o gq_60 trivial rfl).1.trans f_145
  have f_147 := (hs.o gq_60 trivial rfl).1.trans f_147
  have f_148 := (hs.o gq_60 trivial rfl).1.trans f_148
  have f_151 := (hs.o gq_60 trivial rfl).1.trans f_151
  have f_153 := (hs.o gq_60 trivial rfl).1.trans f_153
  have f_156 := (hs.o gq_60 trivial rfl).1.trans f_156
  have f_157 := (hs.o gq_60 trivial rfl).1.trans f_157
  have f_164 := (hs.o gq_60 trivial rfl).2.trans f_164
  have f_166 := (hs.o gq_60 trivial rfl).2.trans f_166
  have f_169 := (hs.o gq_60 trivial rfl).2.trans f_169
  have f_171 := (hs.o gq_60 trivial rfl).2.trans f_171
  have f_173 := (hs.o gq_60 trivial rfl).2.trans f_173
  have f_175 := (hs.o gq_60 trivial rfl).2.trans f_175
  have f_177 := (hs.o gq_60 trivial rfl).2.trans f_177
  have f_179 := (hs.o gq_60 trivial rfl).2.trans f_179
  have f_181 := (hs.o gq_60 trivial rfl).2.trans f_181
  have f_183 := (hs.o gq_60 trivial rfl).2.trans f_183
  have f_185 := (hs.o gq_60 trivial rfl).2.trans f_185
  have f_187 := (hs.o gq_60 trivial rfl).2.trans f_187
  have f_189 := (hs.o gq_60 trivial rfl).2.trans f_189
  have f_191 := (hs.o gq_60 trivial rfl).2.trans f_191
  have f_193 := (hs.o gq_60 trivial rfl).2.trans f_193
  have fa_36 : ∀ j, j < 14 → _ = P_wo j := fun j hj => (hs.a gq_34 rfl j).1.trans (fa_36 j hj)
  have fa_167 : ∀ j, j < 13 → _ = P_w1 j := fun j hj => (hs.a gq_165 rfl j).1.trans (fa_167 j hj)
  have gq_2 := gq_2.S hs
  have gq_27 := gq_27.S hs
  have gq_29 := gq_29.S hs
  have gq_31 := gq_31.S hs
  have gq_34 := gq_34.S hs
  have gq_37 := gq_37.S hs
  have gq_39 := gq_39.S hs
  have gq_41 := gq_41.S hs
  have gq_44 := gq_44.S hs
  have gq_47 := gq_47.S hs
  have gq_50 := gq_50.S hs
  have gq_53 := gq_53.S hs
  have gq_55 := gq_55.S hs
  have gq_60 := gq_60.S hs
  have gq_163 := gq_163.S hs
  have gq_165 := gq_165.S hs
  have gq_168 := gq_168.S hs
  have gq_170 := gq_170.S hs
  have gq_172 := gq_172.S hs
  have gq_174 := gq_174.S hs
  have gq_176 := gq_176.S hs
  have gq_178 := gq_178.S hs
  have gq_180 := gq_180.S hs
  have gq_182 := gq_182.S hs
  have gq_184 := gq_184.S hs
  have gq_186 := gq_186.S hs
  have gq_188 := gq_188.S hs
  have gq_190 := gq_190.S hs
  have gq_192 := gq_192.S hs
  have heq : r_677 = r_683 := by
    first | exact hr_679.trans hr_685.symm | (rcases hr_679 with ⟨k1, k2⟩ | ⟨k1, k2⟩ <;> rcases hr_685 with ⟨k3, k4⟩ | ⟨k3, k4⟩ <;> first | exact k2.trans k4.symm | (exfalso; omega) | exact absurd k1 k3 | exact absurd k3 k1)
  refine hb_icmp_eq (zx := r_677.toInt) (zy := r_683.toInt) (tgt := 1379) hx hb rfl rfl dL_law_1038 (by decide) (fun c_686 => ?_) (fun c_686 => absurd (congrArg Int32.toInt heq) c_686)
  exact law_tail hx hb hr hlocks hX hbl hbA hL7 _ _ hW.2.2.2.1 ls hl (Nat.le_of_ble_eq_true rfl) (Nat.le_of_ble_eq_true rfl)

set_option maxHeartbeats 4000000 in
set_option maxRecDepth 100000 in
theorem law_case_19 {p : Program} {e : Env} {s : State} {m : MethodId} {below : List Frame} {meth : Method} {c : Code} (l : Launch) {b LN : Nat} {xs : Nat → Int32} (hx : p.tables.exec = Jvm.exec) (hb : c.code = code) (hr : meth.sig.returnType = ret) (hlocks : meth.locks = false) (hml : c.maxLocals = 4) (hown : s.vm.findClass "SmallCourtLaw" = some m.cls) (hts : ∀ w ∈ hx_all, w.before #[Value.ref b] s = true) (hX : va_X b LN xs s s.heap) (hbl : b < s.heap.size) (hbA : ¬ s.heap.size ≤ b) (hL7 : LN = 7) (dC : Nat → ClassId) (dI : Nat → Nat → Nat) (dA : Nat → ClassId) (b0 : Nat) (q_2 q_27 q_29 q_31 q_34 q_37 q_39 q_41 q_44 q_47 q_50 q_53 q_55 q_60 q_163 q_165 q_168 q_170 q_172 q_174 q_176 q_178 q_180 q_182 q_184 q_186 q_188 q_190 q_192 : Nat) (L1 : List Nat) (hl1 : hx_h) (H : Heap) (locs : List Loc) (ls : Array Slot) (hW : hx_W P_tb (P_ty dA) (dC, dI) vwCl (fun q : Nat => s.heap.size ≤ q) s.heap L1 hl1 s H locs) (hZ : hx_Xt (fun q : Nat => s.heap.size ≤ q) b0 s) (f_4 : hl1.2.1 q_2 1 = (0 : Int32)) (f_5 : hl1.2.1 q_2 2 = (0 : Int32)) (f_9 : hl1.2.1 q_2 6 = (0 : Int32)) (f_11 : hl1.2.1 q_2 8 = (0 : Int32)) (f_14 : hl1.2.1 q_2 11 = (0 : Int32)) (f_16 : hl1.2.1 q_2 13 = (0 : Int32)) (f_28 : hl1.2.2 q_2 0 = some q_27) (f_30 : hl1.2.2 q_2 3 = some q_29) (f_32 : hl1.2.2 q_2 4 = some q_31) (f_33 : hl1.2.1 q_31 0 = (-1 : Int32)) (f_35 : hl1.2.2 q_31 2 = some q_34) (f_38 : hl1.2.2 q_2 5 = some q_37) (f_40 : hl1.2.2 q_2 7 = some q_39) (f_42 : hl1.2.2 q_2 9 = some q_41) (f_43 : hl1.2.1 q_41 0 = (0 : Int32)) (f_45 : hl1.2.2 q_2 14 = some q_44) (f_46 : hl1.2.1 q_44 0 = (0 : Int32)) (f_48 : hl1.2.2 q_2 17 = some q_47) (f_49 : hl1.2.1 q_47 1 = (0 : Int32)) (f_51 : hl1.2.2 q_2 18 = some q_50) (f_52 : hl1.2.1 q_50 0 = (-1 : Int32)) (f_54 : hl1.2.2 q_50 5 = some q_53) (f_56 : hl1.2.2 q_2 19 = some q_55) (f_57 : hl1.2.1 q_55 0 = (0 : Int32)) (f_58 : hl1.2.1 q_55 1 = (0 : Int32)) (f_61 : hl1.2.1 q_60 0 = (0 : Int32)) (f_62 : hl1.2.1 q_60 1 = (0 : Int32)) (f_68 : hl1.2.1 q_60 7 = (0 : Int32)) (f_69 : hl1.2.1 q_60 8 = (0 : Int32)) (f_70 : hl1.2.1 q_60 9 = (0 : Int32)) (f_71 : hl1.2.1 q_60 10 = (0 : Int32)) (f_72 : hl1.2.1 q_60 11 = (0 : Int32)) (f_74 : hl1.2.1 q_60 13 = (0 : Int32)) (f_81 : hl1.2.1 q_60 20 = (0 : Int32)) (f_90 : hl1.2.1 q_60 29 = (0 : Int32)) (f_97 : hl1.2.1 q_60 36 = (0 : Int32)) (f_118 : hl1.2.1 q_60 57 = (0 : Int32)) (f_120 : hl1.2.1 q_60 59 = (0 : Int32)) (f_128 : hl1.2.1 q_60 67 = (0 : Int32)) (f_129 : hl1.2.1 q_60 68 = (0 : Int32)) (f_130 : hl1.2.1 q_60 69 = (0 : Int32)) (f_131 : hl1.2.1 q_60 70 = (0 : Int32)) (f_132 : hl1.2.1 q_60 71 = (0 : Int32)) (f_133 : hl1.2.1 q_60 72 = (0 : Int32)) (f_136 : hl1.2.1 q_60 75 = (0 : Int32)) (f_144 : hl1.2.1 q_60 83 = (0 : Int32)) (f_145 : hl1.2.1 q_60 84 = (0 : Int32)) (f_147 : hl1.2.1 q_60 86 = (0 : Int32)) (f_148 : hl1.2.1 q_60 87 = (0 : Int32)) (f_151 : hl1.2.1 q_60 90 = (0 : Int32)) (f_153 : hl1.2.1 q_60 92 = (0 : Int32)) (f_156 : hl1.2.1 q_60 95 = (0 : Int32)) (f_157 : hl1.2.1 q_60 96 = (0 : Int32)) (f_164 : hl1.2.2 q_60 2 = some q_163) (f_166 : hl1.2.2 q_60 3 = some q_165) (f_169 : hl1.2.2 q_60 4 = some q_168) (f_171 : hl1.2.2 q_60 5 = some q_170) (f_173 : hl1.2.2 q_60 6 = some q_172) (f_175 : hl1.2.2 q_60 12 = some q_174) (f_177 : hl1.2.2 q_60 15 = some q_176) (f_179 : hl1.2.2 q_60 21 = some q_178) (f_181 : hl1.2.2 q_60 22 = some q_180) (f_183 : hl1.2.2 q_60 23 = some q_182) (f_185 : hl1.2.2 q_60 24 = some q_184) (f_187 : hl1.2.2 q_60 25 = some q_186) (f_189 : hl1.2.2 q_60 26 = some q_188) (f_191 : hl1.2.2 q_60 82 = some q_190) (f_193 : hl1.2.2 q_60 94 = some q_192) (fa_36 : ∀ j, j < 14 → hl1.2.1 q_34 j = P_wo j) (fa_167 : ∀ j, j < 13 → hl1.2.1 q_165 j = P_w1 j) (gq_2 : hx_g L1 hl1 q_2 9) (gq_27 : hx_g L1 hl1 q_27 42) (gq_29 : hx_g L1 hl1 q_29 6) (gq_31 : hx_g L1 hl1 q_31 0) (gq_34 : hx_g L1 hl1 q_34 11) (gq_37 : hx_g L1 hl1 q_37 43) (gq_39 : hx_g L1 hl1 q_39 44) (gq_41 : hx_g L1 hl1 q_41 1) (gq_44 : hx_g L1 hl1 q_44 3) (gq_47 : hx_g L1 hl1 q_47 5) (gq_50 : hx_g L1 hl1 q_50 7) (gq_53 : hx_g L1 hl1 q_53 36) (gq_55 : hx_g L1 hl1 q_55 8) (gq_60 : hx_g L1 hl1 q_60 10) (gq_163 : hx_g L1 hl1 q_163 49) (gq_165 : hx_g L1 hl1 q_165 50) (gq_168 : hx_g L1 hl1 q_168 51) (gq_170 : hx_g L1 hl1 q_170 52) (gq_172 : hx_g L1 hl1 q_172 53) (gq_174 : hx_g L1 hl1 q_174 54) (gq_176 : hx_g L1 hl1 q_176 55) (gq_178 : hx_g L1 hl1 q_178 58) (gq_180 : hx_g L1 hl1 q_180 59) (gq_182 : hx_g L1 hl1 q_182 60) (gq_184 : hx_g L1 hl1 q_184 61) (gq_186 : hx_g L1 hl1 q_186 62) (gq_188 : hx_g L1 hl1 q_188 63) (gq_190 : hx_g L1 hl1 q_190 108) (gq_192 : hx_g L1 hl1 q_192 114) (hl : lv_has ls 4 [(3, .int (0 : Int32)), (2, .ref q_60), (1, .ref q_2), (0, .ref b)]) : W p l e room_1 s m #[Value.ref b] below meth c H locs 112 26072 (lw_Z below #[Value.ref b] s) (F0 m 1043 ls []) := by
  refine lv_aload_n hx hb dL_law_1043 rfl (lv_at hl 2 rfl) ?_
  refine lv_aload_n hx hb dL_law_1044 rfl (lv_at hl 3 rfl) ?_
  refine lv_iload_n hx hb dL_law_1045 rfl (lv_at hl 0 rfl) ?_
  refine lv_iconst (v := 1) hx hb dL_law_1046 (by decide) ?_
  refine lv_iadd hx hb dL_law_1047 ?_
  refine lv_topi (fun x_687 ex_687 => ?_)
  obtain rfl : x_687 = (1 : Int32) := ex_687.trans (by decide)
  refine va_sld hx hb hX hbl hbA hW.2.2.2.1 (vp_in_iff.mpr (by rw [hL7]; decide)) dL_law_1048 ?_
  rw [show (1 : Int32).toNatClampNeg = 1 from by decide]
  refine lv_aload_n hx hb dL_law_1049 rfl (lv_at hl 3 rfl) ?_
  refine lv_iload_n hx hb dL_law_1050 rfl (lv_at hl 0 rfl) ?_
  refine lv_iconst (v := 2) hx hb dL_law_1051 (by decide) ?_
  refine lv_iadd hx hb dL_law_1052 ?_
  refine lv_topi (fun x_688 ex_688 => ?_)
  obtain rfl : x_688 = (2 : Int32) := ex_688.trans (by decide)
  refine va_sld hx hb hX hbl hbA hW.2.2.2.1 (vp_in_iff.mpr (by rw [hL7]; decide)) dL_law_1053 ?_
  rw [show (2 : Int32).toNatClampNeg = 2 from by decide]
  refine hx_goi (hx_runV (As := [.int (xs 1), .int (xs 2)]) (rest := []) ⟨hx, hb, hml, hown, hts⟩ hW gq_2 td_9 (T := TX9) (N := 20) rfl (c_X9_claim l dC dI dA L1 hl1 H.size q_2 (xs 1) (xs 2) gq_2 f_14) (cwV 2 hts (hx_gV kw_933 kw_930 kw_931 kw_932 kw_94) rfl rfl rfl (by decide +kernel) ⟨Nat.le_of_ble_eq_true rfl, Nat.le_of_ble_eq_true rfl⟩) rfl hl.1 rfl (Nat.le_of_ble_eq_true rfl) dL_law_1054 ⟨Nat.le_of_ble_eq_true rfl, Nat.le_of_ble_eq_true rfl⟩) hW (fun r_691 L_689 h_690 H locs p_692 hW => ?_)
  obtain ⟨hr_693, hs⟩ := p_692
  have hs : hx_S P_tb [] L1 hl1 L_689 h_690 := hs
  have f_4 := (hs.o gq_2 trivial rfl).1.trans f_4
  have f_5 := (hs.o gq_2 trivial rfl).1.trans f_5
  have f_9 := (hs.o gq_2 trivial rfl).1.trans f_9
  have f_11 := (hs.o gq_2 trivial rfl).1.trans f_11
  have f_14 := (hs.o gq_2 trivial rfl).1.trans f_14
  have f_16 := (hs.o gq_2 trivial rfl).1.trans f_16
  have f_28 := (hs.o gq_2 trivial rfl).2.trans f_28
  have f_30 := (hs.o gq_2 trivial rfl).2.trans f_30
  have f_32 := (hs.o gq_2 trivial rfl).2.trans f_32
  have f_33 := (hs.o gq_31 trivial rfl).1.trans f_33
  have f_35 := (hs.o gq_31 trivial rfl).2.trans f_35
  have f_38 := (hs.o gq_2 trivial rfl).2.trans f_38
  have f_40 := (hs.o gq_2 trivial rfl).2.trans f_40
  have f_42 := (hs.o gq_2 trivial rfl).2.trans f_42
  have f_43 := (hs.o gq_41 trivial rfl).1.trans f_43
  have f_45 := (hs.o gq_2 trivial rfl).2.trans f_45
  have f_46 := (hs.o gq_44 trivial rfl).1.trans f_46
  have f_48 := (hs.o gq_2 trivial rfl).2.trans f_48
  have f_49 := (hs.o gq_47 trivial rfl).1.trans f_49
  have f_51 := (hs.o gq_2 trivial rfl).2.trans f_51
  have f_52 := (hs.o gq_50 trivial rfl).1.trans f_52
  have f_54 := (hs.o gq_50 trivial rfl).2.trans f_54
  have f_56 := (hs.o gq_2 trivial rfl).2.trans f_56
  have f_57 := (hs.o gq_55 trivial rfl).1.trans f_57
  have f_58 := (hs.o gq_55 trivial rfl).1.trans f_58
  have f_61 := (hs.o gq_60 trivial rfl).1.trans f_61
  have f_62 := (hs.o gq_60 trivial rfl).1.trans f_62
  have f_68 := (hs.o gq_60 trivial rfl).1.trans f_68
  have f_69 := (hs.o gq_60 trivial rfl).1.trans f_69
  have f_70 := (hs.o gq_60 trivial rfl).1.trans f_70
  have f_71 := (hs.o gq_60 trivial rfl).1.trans f_71
  have f_72 := (hs.o gq_60 trivial rfl).1.trans f_72
  have f_74 := (hs.o gq_60 trivial rfl).1.trans f_74
  have f_81 := (hs.o gq_60 trivial rfl).1.trans f_81
  have f_90 := (hs.o gq_60 trivial rfl).1.trans f_90
  have f_97 := (hs.o gq_60 trivial rfl).1.trans f_97
  have f_118 := (hs.o gq_60 trivial rfl).1.trans f_118
  have f_120 := (hs.o gq_60 trivial rfl).1.trans f_120
  have f_128 := (hs.o gq_60 trivial rfl).1.trans f_128
  have f_129 := (hs.o gq_60 trivial rfl).1.trans f_129
  have f_130 := (hs.o gq_60 trivial rfl).1.trans f_130
  have f_131 := (hs.o gq_60 trivial rfl).1.trans f_131
  have f_132 := (hs.o gq_60 trivial rfl).1.trans f_132
  have f_133 := (hs.o gq_60 trivial rfl).1.trans f_133
  have f_136 := (hs.o gq_60 trivial rfl).1.trans f_136
  have f_144 := (hs.o gq_60 trivial rfl).1.trans f_144
  have f_145 := (hs.o gq_60 trivial rfl).1.trans f_145
  have f_147 := (hs.o gq_60 trivial rfl).1.trans f_147
  have f_148 := (hs.o gq_60 trivial rfl).1.trans f_148
  have f_151 := (hs.o gq_60 trivial rfl).1.trans f_151
  have f_153 := (hs.o gq_60 trivial rfl).1.trans f_153
  have f_156 := (hs.o gq_60 trivial rfl).1.trans f_156
  have f_157 := (hs.o gq_60 trivial rfl).1.trans f_157
  have f_164 := (hs.o gq_60 trivial rfl).2.trans f_164
  have f_166 := (hs.o gq_60 trivial rfl).2.trans f_166
  have f_169 := (hs.o gq_60 trivial rfl).2.trans f_169
  have f_171 := (hs.o gq_60 trivial rfl).2.trans f_171
  have f_173 := (hs.o gq_60 trivial rfl).2.trans f_173
  have f_175 := (hs.o gq_60 trivial rfl).2.trans f_175
  have f_177 := (hs.o gq_60 trivial rfl).2.trans f_177
  have f_179 := (hs.o gq_60 trivial rfl).2.trans f_179
  have f_181 := (hs.o gq_60 trivial rfl).2.trans f_181
  have f_183 := (hs.o gq_60 trivial rfl).2.trans f_183
  have f_185 := (hs.o gq_60 trivial rfl).2.trans f_185
  have f_187 := (hs.o gq_60 trivial rfl).2.trans f_187
  have f_189 := (hs.o gq_60 trivial rfl).2.trans f_189
  have f_191 := (hs.o gq_60 trivial rfl).2.trans f_191
  have f_193 := (hs.o gq_60 trivial rfl).2.trans f_193
  have fa_36 : ∀ j, j < 14 → _ = P_wo j := fun j hj => (hs.a gq_34 rfl j).1.trans (fa_36 j hj)
  have fa_167 : ∀ j, j < 13 → _ = P_w1 j := fun j hj => (hs.a gq_165 rfl j).1.trans (fa_167 j hj)
  have gq_2 := gq_2.S hs
  have gq_27 := gq_27.S hs
  have gq_29 := gq_29.S hs
  have gq_31 := gq_31.S hs
  have gq_34 := gq_34.S hs
  have gq_37 := gq_37.S hs
  have gq_39 := gq_39.S hs
  have gq_41 := gq_41.S hs
  have gq_44 := gq_44.S hs
  have gq_47 := gq_47.S hs
  have gq_50 := gq_50.S hs
  have gq_53 := gq_53.S hs
  have gq_55 := gq_55.S hs
  have gq_60 := gq_60.S hs
  have gq_163 := gq_163.S hs
  have gq_165 := gq_165.S hs
  have gq_168 := gq_168.S hs
  have gq_170 := gq_170.S hs
  have gq_172 := gq_172.S hs
  have gq_174 := gq_174.S hs
  have gq_176 := gq_176.S hs
  have gq_178 := gq_178.S hs
  have gq_180 := gq_180.S hs
  have gq_182 := gq_182.S hs
  have gq_184 := gq_184.S hs
  have gq_186 := gq_186.S hs
  have gq_188 := gq_188.S hs
  have gq_190 := gq_190.S hs
  have gq_192 := gq_192.S hs
  refine lv_aload_n hx hb dL_law_1057 rfl (lv_at hl 1 rfl) ?_
  refine lv_aload_n hx hb dL_law_1058 rfl (lv_at hl 3 rfl) ?_
  refine lv_iload_n hx hb dL_law_1059 rfl (lv_at hl 0 rfl) ?_
  refine lv_iconst (v := 1) hx hb dL_law_1060 (by decide) ?_
  refine lv_iadd hx hb dL_law_1061 ?_
  refine lv_topi (fun x_694 ex_694 => ?_)
  obtain rfl : x_694 = (1 : Int32) := ex_694.trans (by decide)
  refine va_sld hx hb hX hbl hbA hW.2.2.2.1 (vp_in_iff.mpr (by rw [hL7]; decide)) dL_law_1062 ?_
  rw [show (1 : Int32).toNatClampNeg = 1 from by decide]
  refine lv_aload_n hx hb dL_law_1063 rfl (lv_at hl 3 rfl) ?_
  refine lv_iload_n hx hb dL_law_1064 rfl (lv_at hl 0 rfl) ?_
  refine lv_iconst (v := 2) hx hb dL_law_1065 (by decide) ?_
  refine lv_iadd hx hb dL_law_1066 ?_
  refine lv_topi (fun x_695 ex_695 => ?_)
  obtain rfl : x_695 = (2 : Int32) := ex_695.trans (by decide)
  refine va_sld hx hb hX hbl hbA hW.2.2.2.1 (vp_in_iff.mpr (by rw [hL7]; decide)) dL_law_1067 ?_
  rw [show (2 : Int32).toNatClampNeg = 2 from by decide]
  refine hx_goi (hx_runV (As := [.int (xs 1), .int (xs 2)]) (rest := [.int r_691]) ⟨hx, hb, hml, hown, hts⟩ hW gq_60 td_10 (T := TX10) (N := 98) rfl (c_X10_claim l dC dI dA L_689 h_690 H.size q_60 (xs 1) (xs 2) gq_60 f_97) (cwV 2 hts (hx_gV kw_1669 kw_1666 kw_1667 kw_1668 kw_103) rfl rfl rfl (by decide +kernel) ⟨Nat.le_of_ble_eq_true rfl, Nat.le_of_ble_eq_true rfl⟩) rfl hl.1 rfl (Nat.le_of_ble_eq_true rfl) dL_law_1068 ⟨Nat.le_of_ble_eq_true rfl, Nat.le_of_ble_eq_true rfl⟩) hW (fun r_698 L_696 h_697 H locs p_699 hW => ?_)
  obtain ⟨hr_700, hs⟩ := p_699
  have hs : hx_S P_tb [] L_689 h_690 L_696 h_697 := hs
  have f_4 := (hs.o gq_2 trivial rfl).1.trans f_4
  have f_5 := (hs.o gq_2 trivial rfl).1.trans f_5
  have f_9 := (hs.o gq_2 trivial rfl).1.trans f_9
  have f_11 := (hs.o gq_2 trivial rfl).1.trans f_11
  have f_14 := (hs.o gq_2 trivial rfl).1.trans f_14
  have f_16 := (hs.o gq_2 trivial rfl).1.trans f_16
  have f_28 := (hs.o gq_2 trivial rfl).2.trans f_28
  have f_30 := (hs.o gq_2 trivial rfl).2.trans f_30
  have f_32 := (hs.o gq_2 trivial rfl).2.trans f_32
  have f_33 := (hs.o gq_31 trivial rfl).1.trans f_33
  have f_35 := (hs.o gq_31 trivial rfl).2.trans f_35
  have f_38 := (hs.o gq_2 trivial rfl).2.trans f_38
  have f_40 := (hs.o gq_2 trivial rfl).2.trans f_40
  have f_42 := (hs.o gq_2 trivial rfl).2.trans f_42
  have f_43 := (hs.o gq_41 trivial rfl).1.trans f_43
  have f_45 := (hs.o gq_2 trivial rfl).2.trans f_45
  have f_46 := (hs.o gq_44 trivial rfl).1.trans f_46
  have f_48 := (hs.o gq_2 trivial rfl).2.trans f_48
  have f_49 := (hs.o gq_47 trivial rfl).1.trans f_49
  have f_51 := (hs.o gq_2 trivial rfl).2.trans f_51
  have f_52 := (hs.o gq_50 trivial rfl).1.trans f_52
  have f_54 := (hs.o gq_50 trivial rfl).2.trans f_54
  have f_56 := (hs.o gq_2 trivial rfl).2.trans f_56
  have f_57 := (hs.o gq_55 trivial rfl).1.trans f_57
  have f_58 := (hs.o gq_55 trivial rfl).1.trans f_58
  have f_61 := (hs.o gq_60 trivial rfl).1.trans f_61
  have f_62 := (hs.o gq_60 trivial rfl).1.trans f_62
  have f_68 := (hs.o gq_60 trivial rfl).1.trans f_68
  have f_69 := (hs.o gq_60 trivial rfl).1.trans f_69
  have f_70 := (hs.o gq_60 trivial rfl).1.trans f_70
  have f_71 := (hs.o gq_60 trivial rfl).1.trans f_71
  have f_72 := (hs.o gq_60 trivial rfl).1.trans f_72
  have f_74 := (hs.o gq_60 trivial rfl).1.trans f_74
  have f_81 := (hs.o gq_60 trivial rfl).1.trans f_81
  have f_90 := (hs.o gq_60 trivial rfl).1.trans f_90
  have f_97 := (hs.o gq_60 trivial rfl).1.trans f_97
  have f_118 := (hs.o gq_60 trivial rfl).1.trans f_118
  have f_120 := (hs.o gq_60 trivial rfl).1.trans f_120
  have f_128 := (hs.o gq_60 trivial rfl).1.trans f_128
  have f_129 := (hs.o gq_60 trivial rfl).1.trans f_129
  have f_130 := (hs.o gq_60 trivial rfl).1.trans f_130
  have f_131 := (hs.o gq_60 trivial rfl).1.trans f_131
  have f_132 := (hs.o gq_60 trivial rfl).1.trans f_132
  have f_133 := (hs.o gq_60 trivial rfl).1.trans f_133
  have f_136 := (hs.o gq_60 trivial rfl).1.trans f_136
  have f_144 := (hs.o gq_60 trivial rfl).1.trans f_144
  have f_145 := (hs.o gq_60 trivial rfl).1.trans f_145
  have f_147 := (hs.o gq_60 trivial rfl).1.trans f_147
  have f_148 := (hs.o gq_60 trivial rfl).1.trans f_148
  have f_151 := (hs.o gq_60 trivial rfl).1.trans f_151
  have f_153 := (hs.o gq_60 trivial rfl).1.trans f_153
  have f_156 := (hs.o gq_60 trivial rfl).1.trans f_156
  have f_157 := (hs.o gq_60 trivial rfl).1.trans f_157
  have f_164 := (hs.o gq_60 trivial rfl).2.trans f_164
  have f_166 := (hs.o gq_60 trivial rfl).2.trans f_166
  have f_169 := (hs.o gq_60 trivial rfl).2.trans f_169
  have f_171 := (hs.o gq_60 trivial rfl).2.trans f_171
  have f_173 := (hs.o gq_60 trivial rfl).2.trans f_173
  have f_175 := (hs.o gq_60 trivial rfl).2.trans f_175
  have f_177 := (hs.o gq_60 trivial rfl).2.trans f_177
  have f_179 := (hs.o gq_60 trivial rfl).2.trans f_179
  have f_181 := (hs.o gq_60 trivial rfl).2.trans f_181
  have f_183 := (hs.o gq_60 trivial rfl).2.trans f_183
  have f_185 := (hs.o gq_60 trivial rfl).2.trans f_185
  have f_187 := (hs.o gq_60 trivial rfl).2.trans f_187
  have f_189 := (hs.o gq_60 trivial rfl).2.trans f_189
  have f_191 := (hs.o gq_60 trivial rfl).2.trans f_191
  have f_193 := (hs.o gq_60 trivial rfl).2.trans f_193
  have fa_36 : ∀ j, j < 14 → _ = P_wo j := fun j hj => (hs.a gq_34 rfl j).1.trans (fa_36 j hj)
  have fa_167 : ∀ j, j < 13 → _ = P_w1 j := fun j hj => (hs.a gq_165 rfl j).1.trans (fa_167 j hj)
  have gq_2 := gq_2.S hs
  have gq_27 := gq_27.S hs
  have gq_29 := gq_29.S hs
  have gq_31 := gq_31.S hs
  have gq_34 := gq_34.S hs
  have gq_37 := gq_37.S hs
  have gq_39 := gq_39.S hs
  have gq_41 := gq_41.S hs
  have gq_44 := gq_44.S hs
  have gq_47 := gq_47.S hs
  have gq_50 := gq_50.S hs
  have gq_53 := gq_53.S hs
  have gq_55 := gq_55.S hs
  have gq_60 := gq_60.S hs
  have gq_163 := gq_163.S hs
  have gq_165 := gq_165.S hs
  have gq_168 := gq_168.S hs
  have gq_170 := gq_170.S hs
  have gq_172 := gq_172.S hs
  have gq_174 := gq_174.S hs
  have gq_176 := gq_176.S hs
  have gq_178 := gq_178.S hs
  have gq_180 := gq_180.S hs
  have gq_182 := gq_182.S hs
  have gq_184 := gq_184.S hs
  have gq_186 := gq_186.S hs
  have gq_188 := gq_188.S hs
  have gq_190 := gq_190.S hs
  have gq_192 := gq_192.S hs
  have heq : r_691 = r_698 := by
    first | exact hr_693.trans hr_700.symm | (rcases hr_693 with ⟨k1, k2⟩ | ⟨k1, k2⟩ <;> rcases hr_700 with ⟨k3, k4⟩ | ⟨k3, k4⟩ <;> first | exact k2.trans k4.symm | (exfalso; omega) | exact absurd k1 k3 | exact absurd k3 k1)
  refine hb_icmp_eq (zx := r_691.toInt) (zy := r_698.toInt) (tgt := 1379) hx hb rfl rfl dL_law_1071 (by decide) (fun c_701 => ?_) (fun c_701 => absurd (congrArg Int32.toInt heq) c_701)
  exact law_tail hx hb hr hlocks hX hbl hbA hL7 _ _ hW.2.2.2.1 ls hl (Nat.le_of_ble_eq_true rfl) (Nat.le_of_ble_eq_true rfl)

set_option maxHeartbeats 4000000 in
set_option maxRecDepth 100000 in
theorem law_case_20 {p : Program} {e : Env} {s : State} {m : MethodId} {below : List Frame} {meth : Method} {c : Code} (l : Launch) {b LN : Nat} {xs : Nat → Int32} (hx : p.tables.exec = Jvm.exec) (hb : c.code = code) (hr : meth.sig.returnType = ret) (hlocks : meth.locks = false) (hml : c.maxLocals = 4) (hown : s.vm.findClass "SmallCourtLaw" = some m.cls) (hts : ∀ w ∈ hx_all, w.before #[Value.ref b] s = true) (hX : va_X b LN xs s s.heap) (hbl : b < s.heap.size) (hbA : ¬ s.heap.size ≤ b) (hL7 : LN = 7) (dC : Nat → ClassId) (dI : Nat → Nat → Nat) (dA : Nat → ClassId) (b0 : Nat) (q_2 q_27 q_29 q_31 q_34 q_37 q_39 q_41 q_44 q_47 q_50 q_53 q_55 q_60 q_163 q_165 q_168 q_170 q_172 q_174 q_176 q_178 q_180 q_182 q_184 q_186 q_188 q_190 q_192 : Nat) (L1 : List Nat) (hl1 : hx_h) (H : Heap) (locs : List Loc) (ls : Array Slot) (hW : hx_W P_tb (P_ty dA) (dC, dI) vwCl (fun q : Nat => s.heap.size ≤ q) s.heap L1 hl1 s H locs) (hZ : hx_Xt (fun q : Nat => s.heap.size ≤ q) b0 s) (f_4 : hl1.2.1 q_2 1 = (0 : Int32)) (f_5 : hl1.2.1 q_2 2 = (0 : Int32)) (f_9 : hl1.2.1 q_2 6 = (0 : Int32)) (f_11 : hl1.2.1 q_2 8 = (0 : Int32)) (f_14 : hl1.2.1 q_2 11 = (0 : Int32)) (f_16 : hl1.2.1 q_2 13 = (0 : Int32)) (f_28 : hl1.2.2 q_2 0 = some q_27) (f_30 : hl1.2.2 q_2 3 = some q_29) (f_32 : hl1.2.2 q_2 4 = some q_31) (f_33 : hl1.2.1 q_31 0 = (-1 : Int32)) (f_35 : hl1.2.2 q_31 2 = some q_34) (f_38 : hl1.2.2 q_2 5 = some q_37) (f_40 : hl1.2.2 q_2 7 = some q_39) (f_42 : hl1.2.2 q_2 9 = some q_41) (f_43 : hl1.2.1 q_41 0 = (0 : Int32)) (f_45 : hl1.2.2 q_2 14 = some q_44) (f_46 : hl1.2.1 q_44 0 = (0 : Int32)) (f_48 : hl1.2.2 q_2 17 = some q_47) (f_49 : hl1.2.1 q_47 1 = (0 : Int32)) (f_51 : hl1.2.2 q_2 18 = some q_50) (f_52 : hl1.2.1 q_50 0 = (-1 : Int32)) (f_54 : hl1.2.2 q_50 5 = some q_53) (f_56 : hl1.2.2 q_2 19 = some q_55) (f_57 : hl1.2.1 q_55 0 = (0 : Int32)) (f_58 : hl1.2.1 q_55 1 = (0 : Int32)) (f_61 : hl1.2.1 q_60 0 = (0 : Int32)) (f_62 : hl1.2.1 q_60 1 = (0 : Int32)) (f_68 : hl1.2.1 q_60 7 = (0 : Int32)) (f_69 : hl1.2.1 q_60 8 = (0 : Int32)) (f_70 : hl1.2.1 q_60 9 = (0 : Int32)) (f_71 : hl1.2.1 q_60 10 = (0 : Int32)) (f_72 : hl1.2.1 q_60 11 = (0 : Int32)) (f_74 : hl1.2.1 q_60 13 = (0 : Int32)) (f_81 : hl1.2.1 q_60 20 = (0 : Int32)) (f_90 : hl1.2.1 q_60 29 = (0 : Int32)) (f_97 : hl1.2.1 q_60 36 = (0 : Int32)) (f_118 : hl1.2.1 q_60 57 = (0 : Int32)) (f_120 : hl1.2.1 q_60 59 = (0 : Int32)) (f_128 : hl1.2.1 q_60 67 = (0 : Int32)) (f_129 : hl1.2.1 q_60 68 = (0 : Int32)) (f_130 : hl1.2.1 q_60 69 = (0 : Int32)) (f_131 : hl1.2.1 q_60 70 = (0 : Int32)) (f_132 : hl1.2.1 q_60 71 = (0 : Int32)) (f_133 : hl1.2.1 q_60 72 = (0 : Int32)) (f_136 : hl1.2.1 q_60 75 = (0 : Int32)) (f_144 : hl1.2.1 q_60 83 = (0 : Int32)) (f_145 : hl1.2.1 q_60 84 = (0 : Int32)) (f_147 : hl1.2.1 q_60 86 = (0 : Int32)) (f_148 : hl1.2.1 q_60 87 = (0 : Int32)) (f_151 : hl1.2.1 q_60 90 = (0 : Int32)) (f_153 : hl1.2.1 q_60 92 = (0 : Int32)) (f_156 : hl1.2.1 q_60 95 = (0 : Int32)) (f_157 : hl1.2.1 q_60 96 = (0 : Int32)) (f_164 : hl1.2.2 q_60 2 = some q_163) (f_166 : hl1.2.2 q_60 3 = some q_165) (f_169 : hl1.2.2 q_60 4 = some q_168) (f_171 : hl1.2.2 q_60 5 = some q_170) (f_173 : hl1.2.2 q_60 6 = some q_172) (f_175 : hl1.2.2 q_60 12 = some q_174) (f_177 : hl1.2.2 q_60 15 = some q_176) (f_179 : hl1.2.2 q_60 21 = some q_178) (f_181 : hl1.2.2 q_60 22 = some q_180) (f_183 : hl1.2.2 q_60 23 = some q_182) (f_185 : hl1.2.2 q_60 24 = some q_184) (f_187 : hl1.2.2 q_60 25 = some q_186) (f_189 : hl1.2.2 q_60 26 = some q_188) (f_191 : hl1.2.2 q_60 82 = some q_190) (f_193 : hl1.2.2 q_60 94 = some q_192) (fa_36 : ∀ j, j < 14 → hl1.2.1 q_34 j = P_wo j) (fa_167 : ∀ j, j < 13 → hl1.2.1 q_165 j = P_w1 j) (gq_2 : hx_g L1 hl1 q_2 9) (gq_27 : hx_g L1 hl1 q_27 42) (gq_29 : hx_g L1 hl1 q_29 6) (gq_31 : hx_g L1 hl1 q_31 0) (gq_34 : hx_g L1 hl1 q_34 11) (gq_37 : hx_g L1 hl1 q_37 43) (gq_39 : hx_g L1 hl1 q_39 44) (gq_41 : hx_g L1 hl1 q_41 1) (gq_44 : hx_g L1 hl1 q_44 3) (gq_47 : hx_g L1 hl1 q_47 5) (gq_50 : hx_g L1 hl1 q_50 7) (gq_53 : hx_g L1 hl1 q_53 36) (gq_55 : hx_g L1 hl1 q_55 8) (gq_60 : hx_g L1 hl1 q_60 10) (gq_163 : hx_g L1 hl1 q_163 49) (gq_165 : hx_g L1 hl1 q_165 50) (gq_168 : hx_g L1 hl1 q_168 51) (gq_170 : hx_g L1 hl1 q_170 52) (gq_172 : hx_g L1 hl1 q_172 53) (gq_174 : hx_g L1 hl1 q_174 54) (gq_176 : hx_g L1 hl1 q_176 55) (gq_178 : hx_g L1 hl1 q_178 58) (gq_180 : hx_g L1 hl1 q_180 59) (gq_182 : hx_g L1 hl1 q_182 60) (gq_184 : hx_g L1 hl1 q_184 61) (gq_186 : hx_g L1 hl1 q_186 62) (gq_188 : hx_g L1 hl1 q_188 63) (gq_190 : hx_g L1 hl1 q_190 108) (gq_192 : hx_g L1 hl1 q_192 114) (hl : lv_has ls 4 [(3, .int (0 : Int32)), (2, .ref q_60), (1, .ref q_2), (0, .ref b)]) : W p l e room_1 s m #[Value.ref b] below meth c H locs 112 26072 (lw_Z below #[Value.ref b] s) (F0 m 1076 ls []) := by
  refine lv_aload_n hx hb dL_law_1076 rfl (lv_at hl 2 rfl) ?_
  refine lv_aload_n hx hb dL_law_1077 rfl (lv_at hl 3 rfl) ?_
  refine lv_iload_n hx hb dL_law_1078 rfl (lv_at hl 0 rfl) ?_
  refine lv_iconst (v := 1) hx hb dL_law_1079 (by decide) ?_
  refine lv_iadd hx hb dL_law_1080 ?_
  refine lv_topi (fun x_702 ex_702 => ?_)
  obtain rfl : x_702 = (1 : Int32) := ex_702.trans (by decide)
  refine va_sld hx hb hX hbl hbA hW.2.2.2.1 (vp_in_iff.mpr (by rw [hL7]; decide)) dL_law_1081 ?_
  rw [show (1 : Int32).toNatClampNeg = 1 from by decide]
  refine lv_aload_n hx hb dL_law_1082 rfl (lv_at hl 3 rfl) ?_
  refine lv_iload_n hx hb dL_law_1083 rfl (lv_at hl 0 rfl) ?_
  refine lv_iconst (v := 2) hx hb dL_law_1084 (by decide) ?_
  refine lv_iadd hx hb dL_law_1085 ?_
  refine lv_topi (fun x_703 ex_703 => ?_)
  obtain rfl : x_703 = (2 : Int32) := ex_703.trans (by decide)
  refine va_sld hx hb hX hbl hbA hW.2.2.2.1 (vp_in_iff.mpr (by rw [hL7]; decide)) dL_law_1086 ?_
  rw [show (2 : Int32).toNatClampNeg = 2 from by decide]
  refine lv_aload_n hx hb dL_law_1087 rfl (lv_at hl 3 rfl) ?_
  refine lv_iload_n hx hb dL_law_1088 rfl (lv_at hl 0 rfl) ?_
  refine lv_iconst (v := 3) hx hb dL_law_1089 (by decide) ?_
  refine lv_iadd hx hb dL_law_1090 ?_
  refine lv_topi (fun x_704 ex_704 => ?_)
  obtain rfl : x_704 = (3 : Int32) := ex_704.trans (by decide)
  refine va_sld hx hb hX hbl hbA hW.2.2.2.1 (vp_in_iff.mpr (by rw [hL7]; decide)) dL_law_1091 ?_
  rw [show (3 : Int32).toNatClampNeg = 3 from by decide]
  refine lv_aload_n hx hb dL_law_1092 rfl (lv_at hl 3 rfl) ?_
  refine lv_iload_n hx hb dL_law_1093 rfl (lv_at hl 0 rfl) ?_
  refine lv_iconst (v := 4) hx hb dL_law_1094 (by decide) ?_
  refine lv_iadd hx hb dL_law_1095 ?_
  refine lv_topi (fun x_705 ex_705 => ?_)
  obtain rfl : x_705 = (4 : Int32) := ex_705.trans (by decide)
  refine va_sld hx hb hX hbl hbA hW.2.2.2.1 (vp_in_iff.mpr (by rw [hL7]; decide)) dL_law_1096 ?_
  rw [show (4 : Int32).toNatClampNeg = 4 from by decide]
  refine hx_goi (hx_runV (As := [.int (xs 1), .int (xs 2), .int (xs 3), .int (xs 4)]) (rest := []) ⟨hx, hb, hml, hown, hts⟩ hW gq_2 td_9 (T := TX9) (N := 20) rfl (c_X9_state l dC dI dA L1 hl1 H.size q_2 (xs 1) (xs 2) (xs 3) (xs 4) gq_2 f_14) (cwV 4 hts (hx_gV kw_937 kw_934 kw_935 kw_936 kw_94) rfl rfl rfl (by decide +kernel) ⟨Nat.le_of_ble_eq_true rfl, Nat.le_of_ble_eq_true rfl⟩) rfl hl.1 rfl (Nat.le_of_ble_eq_true rfl) dL_law_1097 ⟨Nat.le_of_ble_eq_true rfl, Nat.le_of_ble_eq_true rfl⟩) hW (fun r_708 L_706 h_707 H locs p_709 hW => ?_)
  obtain ⟨hr_710, hs⟩ := p_709
  have hs : hx_S P_tb [] L1 hl1 L_706 h_707 := hs
  have f_4 := (hs.o gq_2 trivial rfl).1.trans f_4
  have f_5 := (hs.o gq_2 trivial rfl).1.trans f_5
  have f_9 := (hs.o gq_2 trivial rfl).1.trans f_9
  have f_11 := (hs.o gq_2 trivial rfl).1.trans f_11
  have f_14 := (hs.o gq_2 trivial rfl).1.trans f_14
  have f_16 := (hs.o gq_2 trivial rfl).1.trans f_16
  have f_28 := (hs.o gq_2 trivial rfl).2.trans f_28
  have f_30 := (hs.o gq_2 trivial rfl).2.trans f_30
  have f_32 := (hs.o gq_2 trivial rfl).2.trans f_32
  have f_33 := (hs.o gq_31 trivial rfl).1.trans f_33
  have f_35 := (hs.o gq_31 trivial rfl).2.trans f_35
  have f_38 := (hs.o gq_2 trivial rfl).2.trans f_38
  have f_40 := (hs.o gq_2 trivial rfl).2.trans f_40
  have f_42 := (hs.o gq_2 trivial rfl).2.trans f_42
  have f_43 := (hs.o gq_41 trivial rfl).1.trans f_43
  have f_45 := (hs.o gq_2 trivial rfl).2.trans f_45
  have f_46 := (hs.o gq_44 trivial rfl).1.trans f_46
  have f_48 := (hs.o gq_2 trivial rfl).2.trans f_48
  have f_49 := (hs.o gq_47 trivial rfl).1.trans f_49
  have f_51 := (hs.o gq_2 trivial rfl).2.trans f_51
  have f_52 := (hs.o gq_50 trivial rfl).1.trans f_52
  have f_54 := (hs.o gq_50 trivial rfl).2.trans f_54
  have f_56 := (hs.o gq_2 trivial rfl).2.trans f_56
  have f_57 := (hs.o gq_55 trivial rfl).1.trans f_57
  have f_58 := (hs.o gq_55 trivial rfl).1.trans f_58
  have f_61 := (hs.o gq_60 trivial rfl).1.trans f_61
  have f_62 := (hs.o gq_60 trivial rfl).1.trans f_62
  have f_68 := (hs.o gq_60 trivial rfl).1.trans f_68
  have f_69 := (hs.o gq_60 trivial rfl).1.trans f_69
  have f_70 := (hs.o gq_60 trivial rfl).1.trans f_70
  have f_71 := (hs.o gq_60 trivial rfl).1.trans f_71
  have f_72 := (hs.o gq_60 trivial rfl).1.trans f_72
  have f_74 := (hs.o gq_60 trivial rfl).1.trans f_74
  have f_81 := (hs.o gq_60 trivial rfl).1.trans f_81
  have f_90 := (hs.o gq_60 trivial rfl).1.trans f_90
  have f_97 := (hs.o gq_60 trivial rfl).1.trans f_97
  have f_118 := (hs.o gq_60 trivial rfl).1.trans f_118
  have f_120 := (hs.o gq_60 trivial rfl).1.trans f_120
  have f_128 := (hs.o gq_60 trivial rfl).1.trans f_128
  have f_129 := (hs.o gq_60 trivial rfl).1.trans f_129
  have f_130 := (hs.o gq_60 trivial rfl).1.trans f_130
  have f_131 := (hs.o gq_60 trivial rfl).1.trans f_131
  have f_132 := (hs.o gq_60 trivial rfl).1.trans f_132
  have f_133 := (hs.o gq_60 trivial rfl).1.trans f_133
  have f_136 := (hs.o gq_60 trivial rfl).1.trans f_136
  have f_144 := (hs.o gq_60 trivial rfl).1.trans f_144
  have f_145 := (hs.o gq_60 trivial rfl).1.trans f_145
  have f_147 := (hs.o gq_60 trivial rfl).1.trans f_147
  have f_148 := (hs.o gq_60 trivial rfl).1.trans f_148
  have f_151 := (hs.o gq_60 trivial rfl).1.trans f_151
  have f_153 := (hs.o gq_60 trivial rfl).1.trans f_153
  have f_156 := (hs.o gq_60 trivial rfl).1.trans f_156
  have f_157 := (hs.o gq_60 trivial rfl).1.trans f_157
  have f_164 := (hs.o gq_60 trivial rfl).2.trans f_164
  have f_166 := (hs.o gq_60 trivial rfl).2.trans f_166
  have f_169 := (hs.o gq_60 trivial rfl).2.trans f_169
  have f_171 := (hs.o gq_60 trivial rfl).2.trans f_171
  have f_173 := (hs.o gq_60 trivial rfl).2.trans f_173
  have f_175 := (hs.o gq_60 trivial rfl).2.trans f_175
  have f_177 := (hs.o gq_60 trivial rfl).2.trans f_177
  have f_179 := (hs.o gq_60 trivial rfl).2.trans f_179
  have f_181 := (hs.o gq_60 trivial rfl).2.trans f_181
  have f_183 := (hs.o gq_60 trivial rfl).2.trans f_183
  have f_185 := (hs.o gq_60 trivial rfl).2.trans f_185
  have f_187 := (hs.o gq_60 trivial rfl).2.trans f_187
  have f_189 := (hs.o gq_60 trivial rfl).2.trans f_189
  have f_191 := (hs.o gq_60 trivial rfl).2.trans f_191
  have f_193 := (hs.o gq_60 trivial rfl).2.trans f_193
  have fa_36 : ∀ j, j < 14 → _ = P_wo j := fun j hj => (hs.a gq_34 rfl j).1.trans (fa_36 j hj)
  have fa_167 : ∀ j, j < 13 → _ = P_w1 j := fun j hj => (hs.a gq_165 rfl j).1.trans (fa_167 j hj)
  have gq_2 := gq_2.S hs
  have gq_27 := gq_27.S hs
  have gq_29 := gq_29.S hs
  have gq_31 := gq_31.S hs
  have gq_34 := gq_34.S hs
  have gq_37 := gq_37.S hs
  have gq_39 := gq_39.S hs
  have gq_41 := gq_41.S hs
  have gq_44 := gq_44.S hs
  have gq_47 := gq_47.S hs
  have gq_50 := gq_50.S hs
  have gq_53 := gq_53.S hs
  have gq_55 := gq_55.S hs
  have gq_60 := gq_60.S hs
  have gq_163 := gq_163.S hs
  have gq_165 := gq_165.S hs
  have gq_168 := gq_168.S hs
  have gq_170 := gq_170.S hs
  have gq_172 := gq_172.S hs
  have gq_174 := gq_174.S hs
  have gq_176 := gq_176.S hs
  have gq_178 := gq_178.S hs
  have gq_180 := gq_180.S hs
  have gq_182 := gq_182.S hs
  have gq_184 := gq_184.S hs
  have gq_186 := gq_186.S hs
  have gq_188 := gq_188.S hs
  have gq_190 := gq_190.S hs
  have gq_192 := gq_192.S hs
  refine lv_aload_n hx hb dL_law_1100 rfl (lv_at hl 1 rfl) ?_
  refine lv_aload_n hx hb dL_law_1101 rfl (lv_at hl 3 rfl) ?_
  refine lv_iload_n hx hb dL_law_1102 rfl (lv_at hl 0 rfl) ?_
  refine lv_iconst (v := 1) hx hb dL_law_1103 (by decide) ?_
  refine lv_iadd hx hb dL_law_1104 ?_
  refine lv_topi (fun x_711 ex_711 => ?_)
  obtain rfl : x_711 = (1 : Int32) := ex_711.trans (by decide)
  refine va_sld hx hb hX hbl hbA hW.2.2.2.1 (vp_in_iff.mpr (by rw [hL7]; decide)) dL_law_1105 ?_
  rw [show (1 : Int32).toNatClampNeg = 1 from by decide]
  refine lv_aload_n hx hb dL_law_1106 rfl (lv_at hl 3 rfl) ?_
  refine lv_iload_n hx hb dL_law_1107 rfl (lv_at hl 0 rfl) ?_
  refine lv_iconst (v := 2) hx hb dL_law_1108 (by decide) ?_
  refine lv_iadd hx hb dL_law_1109 ?_
  refine lv_topi (fun x_712 ex_712 => ?_)
  obtain rfl : x_712 = (2 : Int32) := ex_712.trans (by decide)
  refine va_sld hx hb hX hbl hbA hW.2.2.2.1 (vp_in_iff.mpr (by rw [hL7]; decide)) dL_law_1110 ?_
  rw [show (2 : Int32).toNatClampNeg = 2 from by decide]
  refine lv_aload_n hx hb dL_law_1111 rfl (lv_at hl 3 rfl) ?_
  refine lv_iload_n hx hb dL_law_1112 rfl (lv_at hl 0 rfl) ?_
  refine lv_iconst (v := 3) hx hb dL_law_1113 (by decide) ?_
  refine lv_iadd hx hb dL_law_1114 ?_
  refine lv_topi (fun x_713 ex_713 => ?_)
  obtain rfl : x_713 = (3 : Int32) := ex_713.trans (by decide)
  refine va_sld hx hb hX hbl hbA hW.2.2.2.1 (vp_in_iff.mpr (by rw [hL7]; decide)) dL_law_1115 ?_
  rw [show (3 : Int32).toNatClampNeg = 3 from by decide]
  refine lv_aload_n hx hb dL_law_1116 rfl (lv_at hl 3 rfl) ?_
  refine lv_iload_n hx hb dL_law_1117 rfl (lv_at hl 0 rfl) ?_
  refine lv_iconst (v := 4) hx hb dL_law_1118 (by decide) ?_
  refine lv_iadd hx hb dL_law_1119 ?_
  refine lv_topi (fun x_714 ex_714 => ?_)
  obtain rfl : x_714 = (4 : Int32) := ex_714.trans (by decide)
  refine va_sld hx hb hX hbl hbA hW.2.2.2.1 (vp_in_iff.mpr (by rw [hL7]; decide)) dL_law_1120 ?_
  rw [show (4 : Int32).toNatClampNeg = 4 from by decide]
  refine hx_goi (hx_runV (As := [.int (xs 1), .int (xs 2), .int (xs 3), .int (xs 4)]) (rest := [.int r_708]) ⟨hx, hb, hml, hown, hts⟩ hW gq_60 td_10 (T := TX10) (N := 98) rfl (c_X10_state l dC dI dA L_706 h_707 H.size q_60 (xs 1) (xs 2) (xs 3) (xs 4) gq_60 f_97) (cwV 4 hts (hx_gV kw_1673 kw_1670 kw_1671 kw_1672 kw_103) rfl rfl rfl (by decide +kernel) ⟨Nat.le_of_ble_eq_true rfl, Nat.le_of_ble_eq_true rfl⟩) rfl hl.1 rfl (Nat.le_of_ble_eq_true rfl) dL_law_1121 ⟨Nat.le_of_ble_eq_true rfl, Nat.le_of_ble_eq_true rfl⟩) hW (fun r_717 L_715 h_716 H locs p_718 hW => ?_)
  obtain ⟨hr_719, hs⟩ := p_718
  have hs : hx_S P_tb [] L_706 h_707 L_715 h_716 := hs
  have f_4 := (hs.o gq_2 trivial rfl).1.trans f_4
  have f_5 := (hs.o gq_2 trivial rfl).1.trans f_5
  have f_9 := (hs.o gq_2 trivial rfl).1.trans f_9
  have f_11 := (hs.o gq_2 trivial rfl).1.trans f_11
  have f_14 := (hs.o gq_2 trivial rfl).1.trans f_14
  have f_16 := (hs.o gq_2 trivial rfl).1.trans f_16
  have f_28 := (hs.o gq_2 trivial rfl).2.trans f_28
  have f_30 := (hs.o gq_2 trivial rfl).2.trans f_30
  have f_32 := (hs.o gq_2 trivial rfl).2.trans f_32
  have f_33 := (hs.o gq_31 trivial rfl).1.trans f_33
  have f_35 := (hs.o gq_31 trivial rfl).2.trans f_35
  have f_38 := (hs.o gq_2 trivial rfl).2.trans f_38
  have f_40 := (hs.o gq_2 trivial rfl).2.trans f_40
  have f_42 := (hs.o gq_2 trivial rfl).2.trans f_42
  have f_43 := (hs.o gq_41 trivial rfl).1.trans f_43
  have f_45 := (hs.o gq_2 trivial rfl).2.trans f_45
  have f_46 := (hs.o gq_44 trivial rfl).1.trans f_46
  have f_48 := (hs.o gq_2 trivial rfl).2.trans f_48
  have f_49 := (hs.o gq_47 trivial rfl).1.trans f_49
  have f_51 := (hs.o gq_2 trivial rfl).2.trans f_51
  have f_52 := (hs.o gq_50 trivial rfl).1.trans f_52
  have f_54 := (hs.o gq_50 trivial rfl).2.trans f_54
  have f_56 := (hs.o gq_2 trivial rfl).2.trans f_56
  have f_57 := (hs.o gq_55 trivial rfl).1.trans f_57
  have f_58 := (hs.o gq_55 trivial rfl).1.trans f_58
  have f_61 := (hs.o gq_60 trivial rfl).1.trans f_61
  have f_62 := (hs.o gq_60 trivial rfl).1.trans f_62
  have f_68 := (hs.o gq_60 trivial rfl).1.trans f_68
  have f_69 := (hs.o gq_60 trivial rfl).1.trans f_69
  have f_70 := (hs.o gq_60 trivial rfl).1.trans f_70
  have f_71 := (hs.o gq_60 trivial rfl).1.trans f_71
  have f_72 := (hs.o gq_60 trivial rfl).1.trans f_72
  have f_74 := (hs.o gq_60 trivial rfl).1.trans f_74
  have f_81 := (hs.o gq_60 trivial rfl).1.trans f_81
  have f_90 := (hs.o gq_60 trivial rfl).1.trans f_90
  have f_97 := (hs.o gq_60 trivial rfl).1.trans f_97
  have f_118 := (hs.o gq_60 trivial rfl).1.trans f_118
  have f_120 := (hs.o gq_60 trivial rfl).1.trans f_120
  have f_128 := (hs.o gq_60 trivial rfl).1.trans f_128
  have f_129 := (hs.o gq_60 trivial rfl).1.trans f_129
  have f_130 := (hs.o gq_60 trivial rfl).1.trans f_130
  have f_131 := (hs.o gq_60 trivial rfl).1.trans f_131
  have f_132 := (hs.o gq_60 trivial rfl).1.trans f_132
  have f_133 := (hs.o gq_60 trivial rfl).1.trans f_133
  have f_136 := (hs.o gq_60 trivial rfl).1.trans f_136
  have f_144 := (hs.o gq_60 trivial rfl).1.trans f_144
  have f_145 := (hs.o gq_60 trivial rfl).1.trans f_145
  have f_147 := (hs.o gq_60 trivial rfl).1.trans f_147
  have f_148 := (hs.o gq_60 trivial rfl).1.trans f_148
  have f_151 := (hs.o gq_60 trivial rfl).1.trans f_151
  have f_153 := (hs.o gq_60 trivial rfl).1.trans f_153
  have f_156 := (hs.o gq_60 trivial rfl).1.trans f_156
  have f_157 := (hs.o gq_60 trivial rfl).1.trans f_157
  have f_164 := (hs.o gq_60 trivial rfl).2.trans f_164
  have f_166 := (hs.o gq_60 trivial rfl).2.trans f_166
  have f_169 := (hs.o gq_60 trivial rfl).2.trans f_169
  have f_171 := (hs.o gq_60 trivial rfl).2.trans f_171
  have f_173 := (hs.o gq_60 trivial rfl).2.trans f_173
  have f_175 := (hs.o gq_60 trivial rfl).2.trans f_175
  have f_177 := (hs.o gq_60 trivial rfl).2.trans f_177
  have f_179 := (hs.o gq_60 trivial rfl).2.trans f_179
  have f_181 := (hs.o gq_60 trivial rfl).2.trans f_181
  have f_183 := (hs.o gq_60 trivial rfl).2.trans f_183
  have f_185 := (hs.o gq_60 trivial rfl).2.trans f_185
  have f_187 := (hs.o gq_60 trivial rfl).2.trans f_187
  have f_189 := (hs.o gq_60 trivial rfl).2.trans f_189
  have f_191 := (hs.o gq_60 trivial rfl).2.trans f_191
  have f_193 := (hs.o gq_60 trivial rfl).2.trans f_193
  have fa_36 : ∀ j, j < 14 → _ = P_wo j := fun j hj => (hs.a gq_34 rfl j).1.trans (fa_36 j hj)
  have fa_167 : ∀ j, j < 13 → _ = P_w1 j := fun j hj => (hs.a gq_165 rfl j).1.trans (fa_167 j hj)
  have gq_2 := gq_2.S hs
  have gq_27 := gq_27.S hs
  have gq_29 := gq_29.S hs
  have gq_31 := gq_31.S hs
  have gq_34 := gq_34.S hs
  have gq_37 := gq_37.S hs
  have gq_39 := gq_39.S hs
  have gq_41 := gq_41.S hs
  have gq_44 := gq_44.S hs
  have gq_47 := gq_47.S hs
  have gq_50 := gq_50.S hs
  have gq_53 := gq_53.S hs
  have gq_55 := gq_55.S hs
  have gq_60 := gq_60.S hs
  have gq_163 := gq_163.S hs
  have gq_165 := gq_165.S hs
  have gq_168 := gq_168.S hs
  have gq_170 := gq_170.S hs
  have gq_172 := gq_172.S hs
  have gq_174 := gq_174.S hs
  have gq_176 := gq_176.S hs
  have gq_178 := gq_178.S hs
  have gq_180 := gq_180.S hs
  have gq_182 := gq_182.S hs
  have gq_184 := gq_184.S hs
  have gq_186 := gq_186.S hs
  have gq_188 := gq_188.S hs
  have gq_190 := gq_190.S hs
  have gq_192 := gq_192.S hs
  have heq : r_708 = r_717 := by
    first | exact hr_710.trans hr_719.symm | (rcases hr_710 with ⟨k1, k2⟩ | ⟨k1, k2⟩ <;> rcases hr_719 with ⟨k3, k4⟩ | ⟨k3, k4⟩ <;> first | exact k2.trans k4.symm | (exfalso; omega) | exact absurd k1 k3 | exact absurd k3 k1)
  refine hb_icmp_eq (zx := r_708.toInt) (zy := r_717.toInt) (tgt := 1379) hx hb rfl rfl dL_law_1124 (by decide) (fun c_720 => ?_) (fun c_720 => absurd (congrArg Int32.toInt heq) c_720)
  exact law_tail hx hb hr hlocks hX hbl hbA hL7 _ _ hW.2.2.2.1 ls hl (Nat.le_of_ble_eq_true rfl) (Nat.le_of_ble_eq_true rfl)

set_option maxHeartbeats 4000000 in
set_option maxRecDepth 100000 in
theorem law_case_21 {p : Program} {e : Env} {s : State} {m : MethodId} {below : List Frame} {meth : Method} {c : Code} (l : Launch) {b LN : Nat} {xs : Nat → Int32} (hx : p.tables.exec = Jvm.exec) (hb : c.code = code) (hr : meth.sig.returnType = ret) (hlocks : meth.locks = false) (hml : c.maxLocals = 4) (hown : s.vm.findClass "SmallCourtLaw" = some m.cls) (hts : ∀ w ∈ hx_all, w.before #[Value.ref b] s = true) (hX : va_X b LN xs s s.heap) (hbl : b < s.heap.size) (hbA : ¬ s.heap.size ≤ b) (hL7 : LN = 7) (dC : Nat → ClassId) (dI : Nat → Nat → Nat) (dA : Nat → ClassId) (b0 : Nat) (q_2 q_27 q_29 q_31 q_34 q_37 q_39 q_41 q_44 q_47 q_50 q_53 q_55 q_60 q_163 q_165 q_168 q_170 q_172 q_174 q_176 q_178 q_180 q_182 q_184 q_186 q_188 q_190 q_192 : Nat) (L1 : List Nat) (hl1 : hx_h) (H : Heap) (locs : List Loc) (ls : Array Slot) (hW : hx_W P_tb (P_ty dA) (dC, dI) vwCl (fun q : Nat => s.heap.size ≤ q) s.heap L1 hl1 s H locs) (hZ : hx_Xt (fun q : Nat => s.heap.size ≤ q) b0 s) (f_4 : hl1.2.1 q_2 1 = (0 : Int32)) (f_5 : hl1.2.1 q_2 2 = (0 : Int32)) (f_9 : hl1.2.1 q_2 6 = (0 : Int32)) (f_11 : hl1.2.1 q_2 8 = (0 : Int32)) (f_14 : hl1.2.1 q_2 11 = (0 : Int32)) (f_16 : hl1.2.1 q_2 13 = (0 : Int32)) (f_28 : hl1.2.2 q_2 0 = some q_27) (f_30 : hl1.2.2 q_2 3 = some q_29) (f_32 : hl1.2.2 q_2 4 = some q_31) (f_33 : hl1.2.1 q_31 0 = (-1 : Int32)) (f_35 : hl1.2.2 q_31 2 = some q_34) (f_38 : hl1.2.2 q_2 5 = some q_37) (f_40 : hl1.2.2 q_2 7 = some q_39) (f_42 : hl1.2.2 q_2 9 = some q_41) (f_43 : hl1.2.1 q_41 0 = (0 : Int32)) (f_45 : hl1.2.2 q_2 14 = some q_44) (f_46 : hl1.2.1 q_44 0 = (0 : Int32)) (f_48 : hl1.2.2 q_2 17 = some q_47) (f_49 : hl1.2.1 q_47 1 = (0 : Int32)) (f_51 : hl1.2.2 q_2 18 = some q_50) (f_52 : hl1.2.1 q_50 0 = (-1 : Int32)) (f_54 : hl1.2.2 q_50 5 = some q_53) (f_56 : hl1.2.2 q_2 19 = some q_55) (f_57 : hl1.2.1 q_55 0 = (0 : Int32)) (f_58 : hl1.2.1 q_55 1 = (0 : Int32)) (f_61 : hl1.2.1 q_60 0 = (0 : Int32)) (f_62 : hl1.2.1 q_60 1 = (0 : Int32)) (f_68 : hl1.2.1 q_60 7 = (0 : Int32)) (f_69 : hl1.2.1 q_60 8 = (0 : Int32)) (f_70 : hl1.2.1 q_60 9 = (0 : Int32)) (f_71 : hl1.2.1 q_60 10 = (0 : Int32)) (f_72 : hl1.2.1 q_60 11 = (0 : Int32)) (f_74 : hl1.2.1 q_60 13 = (0 : Int32)) (f_81 : hl1.2.1 q_60 20 = (0 : Int32)) (f_90 : hl1.2.1 q_60 29 = (0 : Int32)) (f_97 : hl1.2.1 q_60 36 = (0 : Int32)) (f_118 : hl1.2.1 q_60 57 = (0 : Int32)) (f_120 : hl1.2.1 q_60 59 = (0 : Int32)) (f_128 : hl1.2.1 q_60 67 = (0 : Int32)) (f_129 : hl1.2.1 q_60 68 = (0 : Int32)) (f_130 : hl1.2.1 q_60 69 = (0 : Int32)) (f_131 : hl1.2.1 q_60 70 = (0 : Int32)) (f_132 : hl1.2.1 q_60 71 = (0 : Int32)) (f_133 : hl1.2.1 q_60 72 = (0 : Int32)) (f_136 : hl1.2.1 q_60 75 = (0 : Int32)) (f_144 : hl1.2.1 q_60 83 = (0 : Int32)) (f_145 : hl1.2.1 q_60 84 = (0 : Int32)) (f_147 : hl1.2.1 q_60 86 = (0 : Int32)) (f_148 : hl1.2.1 q_60 87 = (0 : Int32)) (f_151 : hl1.2.1 q_60 90 = (0 : Int32)) (f_153 : hl1.2.1 q_60 92 = (0 : Int32)) (f_156 : hl1.2.1 q_60 95 = (0 : Int32)) (f_157 : hl1.2.1 q_60 96 = (0 : Int32)) (f_164 : hl1.2.2 q_60 2 = some q_163) (f_166 : hl1.2.2 q_60 3 = some q_165) (f_169 : hl1.2.2 q_60 4 = some q_168) (f_171 : hl1.2.2 q_60 5 = some q_170) (f_173 : hl1.2.2 q_60 6 = some q_172) (f_175 : hl1.2.2 q_60 12 = some q_174) (f_177 : hl1.2.2 q_60 15 = some q_176) (f_179 : hl1.2.2 q_60 21 = some q_178) (f_181 : hl1.2.2 q_60 22 = some q_180) (f_183 : hl1.2.2 q_60 23 = some q_182) (f_185 : hl1.2.2 q_60 24 = some q_184) (f_187 : hl1.2.2 q_60 25 = some q_186) (f_189 : hl1.2.2 q_60 26 = some q_188) (f_191 : hl1.2.2 q_60 82 = some q_190) (f_193 : hl1.2.2 q_60 94 = some q_192) (fa_36 : ∀ j, j < 14 → hl1.2.1 q_34 j = P_wo j) (fa_167 : ∀ j, j < 13 → hl1.2.1 q_165 j = P_w1 j) (gq_2 : hx_g L1 hl1 q_2 9) (gq_27 : hx_g L1 hl1 q_27 42) (gq_29 : hx_g L1 hl1 q_29 6) (gq_31 : hx_g L1 hl1 q_31 0) (gq_34 : hx_g L1 hl1 q_34 11) (gq_37 : hx_g L1 hl1 q_37 43) (gq_39 : hx_g L1 hl1 q_39 44) (gq_41 : hx_g L1 hl1 q_41 1) (gq_44 : hx_g L1 hl1 q_44 3) (gq_47 : hx_g L1 hl1 q_47 5) (gq_50 : hx_g L1 hl1 q_50 7) (gq_53 : hx_g L1 hl1 q_53 36) (gq_55 : hx_g L1 hl1 q_55 8) (gq_60 : hx_g L1 hl1 q_60 10) (gq_163 : hx_g L1 hl1 q_163 49) (gq_165 : hx_g L1 hl1 q_165 50) (gq_168 : hx_g L1 hl1 q_168 51) (gq_170 : hx_g L1 hl1 q_170 52) (gq_172 : hx_g L1 hl1 q_172 53) (gq_174 : hx_g L1 hl1 q_174 54) (gq_176 : hx_g L1 hl1 q_176 55) (gq_178 : hx_g L1 hl1 q_178 58) (gq_180 : hx_g L1 hl1 q_180 59) (gq_182 : hx_g L1 hl1 q_182 60) (gq_184 : hx_g L1 hl1 q_184 61) (gq_186 : hx_g L1 hl1 q_186 62) (gq_188 : hx_g L1 hl1 q_188 63) (gq_190 : hx_g L1 hl1 q_190 108) (gq_192 : hx_g L1 hl1 q_192 114) (hl : lv_has ls 4 [(3, .int (0 : Int32)), (2, .ref q_60), (1, .ref q_2), (0, .ref b)]) : W p l e room_1 s m #[Value.ref b] below meth c H locs 112 26072 (lw_Z below #[Value.ref b] s) (F0 m 1129 ls []) := by
  refine lv_aload_n hx hb dL_law_1129 rfl (lv_at hl 2 rfl) ?_
  refine lv_aload_n hx hb dL_law_1130 rfl (lv_at hl 3 rfl) ?_
  refine lv_iload_n hx hb dL_law_1131 rfl (lv_at hl 0 rfl) ?_
  refine lv_iconst (v := 1) hx hb dL_law_1132 (by decide) ?_
  refine lv_iadd hx hb dL_law_1133 ?_
  refine lv_topi (fun x_721 ex_721 => ?_)
  obtain rfl : x_721 = (1 : Int32) := ex_721.trans (by decide)
  refine va_sld hx hb hX hbl hbA hW.2.2.2.1 (vp_in_iff.mpr (by rw [hL7]; decide)) dL_law_1134 ?_
  rw [show (1 : Int32).toNatClampNeg = 1 from by decide]
  refine lv_aload_n hx hb dL_law_1135 rfl (lv_at hl 3 rfl) ?_
  refine lv_iload_n hx hb dL_law_1136 rfl (lv_at hl 0 rfl) ?_
  refine lv_iconst (v := 2) hx hb dL_law_1137 (by decide) ?_
  refine lv_iadd hx hb dL_law_1138 ?_
  refine lv_topi (fun x_722 ex_722 => ?_)
  obtain rfl : x_722 = (2 : Int32) := ex_722.trans (by decide)
  refine va_sld hx hb hX hbl hbA hW.2.2.2.1 (vp_in_iff.mpr (by rw [hL7]; decide)) dL_law_1139 ?_
  rw [show (2 : Int32).toNatClampNeg = 2 from by decide]
  refine hx_goi (hx_runV (As := [.int (xs 1), .int (xs 2)]) (rest := []) ⟨hx, hb, hml, hown, hts⟩ hW gq_2 td_9 (T := TX9) (N := 20) rfl (c_X9_plan l dC dI dA L1 hl1 H.size q_2 (xs 1) (xs 2) gq_2 f_11) (cwV 2 hts (hx_gV kw_947 kw_944 kw_945 kw_946 kw_94) rfl rfl rfl (by decide +kernel) ⟨Nat.le_of_ble_eq_true rfl, Nat.le_of_ble_eq_true rfl⟩) rfl hl.1 rfl (Nat.le_of_ble_eq_true rfl) dL_law_1140 ⟨Nat.le_of_ble_eq_true rfl, Nat.le_of_ble_eq_true rfl⟩) hW (fun r_725 L_723 h_724 H locs p_726 hW => ?_)
  obtain ⟨hr_727, hs⟩ := p_726
  have hs : hx_S P_tb [] L1 hl1 L_723 h_724 := hs
  have f_4 := (hs.o gq_2 trivial rfl).1.trans f_4
  have f_5 := (hs.o gq_2 trivial rfl).1.trans f_5
  have f_9 := (hs.o gq_2 trivial rfl).1.trans f_9
  have f_11 := (hs.o gq_2 trivial rfl).1.trans f_11
  have f_14 := (hs.o gq_2 trivial rfl).1.trans f_14
  have f_16 := (hs.o gq_2 trivial rfl).1.trans f_16
  have f_28 := (hs.o gq_2 trivial rfl).2.trans f_28
  have f_30 := (hs.o gq_2 trivial rfl).2.trans f_30
  have f_32 := (hs.o gq_2 trivial rfl).2.trans f_32
  have f_33 := (hs.o gq_31 trivial rfl).1.trans f_33
  have f_35 := (hs.o gq_31 trivial rfl).2.trans f_35
  have f_38 := (hs.o gq_2 trivial rfl).2.trans f_38
  have f_40 := (hs.o gq_2 trivial rfl).2.trans f_40
  have f_42 := (hs.o gq_2 trivial rfl).2.trans f_42
  have f_43 := (hs.o gq_41 trivial rfl).1.trans f_43
  have f_45 := (hs.o gq_2 trivial rfl).2.trans f_45
  have f_46 := (hs.o gq_44 trivial rfl).1.trans f_46
  have f_48 := (hs.o gq_2 trivial rfl).2.trans f_48
  have f_49 := (hs.o gq_47 trivial rfl).1.trans f_49
  have f_51 := (hs.o gq_2 trivial rfl).2.trans f_51
  have f_52 := (hs.o gq_50 trivial rfl).1.trans f_52
  have f_54 := (hs.o gq_50 trivial rfl).2.trans f_54
  have f_56 := (hs.o gq_2 trivial rfl).2.trans f_56
  have f_57 := (hs.o gq_55 trivial rfl).1.trans f_57
  have f_58 := (hs.o gq_55 trivial rfl).1.trans f_58
  have f_61 := (hs.o gq_60 trivial rfl).1.trans f_61
  have f_62 := (hs.o gq_60 trivial rfl).1.trans f_62
  have f_68 := (hs.o gq_60 trivial rfl).1.trans f_68
  have f_69 := (hs.o gq_60 trivial rfl).1.trans f_69
  have f_70 := (hs.o gq_60 trivial rfl).1.trans f_70
  have f_71 := (hs.o gq_60 trivial rfl).1.trans f_71
  have f_72 := (hs.o gq_60 trivial rfl).1.trans f_72
  have f_74 := (hs.o gq_60 trivial rfl).1.trans f_74
  have f_81 := (hs.o gq_60 trivial rfl).1.trans f_81
  have f_90 := (hs.o gq_60 trivial rfl).1.trans f_90
  have f_97 := (hs.o gq_60 trivial rfl).1.trans f_97
  have f_118 := (hs.o gq_60 trivial rfl).1.trans f_118
  have f_120 := (hs.o gq_60 trivial rfl).1.trans f_120
  have f_128 := (hs.o gq_60 trivial rfl).1.trans f_128
  have f_129 := (hs.o gq_60 trivial rfl).1.trans f_129
  have f_130 := (hs.o gq_60 trivial rfl).1.trans f_130
  have f_131 := (hs.o gq_60 trivial rfl).1.trans f_131
  have f_132 := (hs.o gq_60 trivial rfl).1.trans f_132
  have f_133 := (hs.o gq_60 trivial rfl).1.trans f_133
  have f_136 := (hs.o gq_60 trivial rfl).1.trans f_136
  have f_144 := (hs.o gq_60 trivial rfl).1.trans f_144
  have f_145 := (hs.o gq_60 trivial rfl).1.trans f_145
  have f_147 := (hs.o gq_60 trivial rfl).1.trans f_147
  have f_148 := (hs.o gq_60 trivial rfl).1.trans f_148
  have f_151 := (hs.o gq_60 trivial rfl).1.trans f_151
  have f_153 := (hs.o gq_60 trivial rfl).1.trans f_153
  have f_156 := (hs.o gq_60 trivial rfl).1.trans f_156
  have f_157 := (hs.o gq_60 trivial rfl).1.trans f_157
  have f_164 := (hs.o gq_60 trivial rfl).2.trans f_164
  have f_166 := (hs.o gq_60 trivial rfl).2.trans f_166
  have f_169 := (hs.o gq_60 trivial rfl).2.trans f_169
  have f_171 := (hs.o gq_60 trivial rfl).2.trans f_171
  have f_173 := (hs.o gq_60 trivial rfl).2.trans f_173
  have f_175 := (hs.o gq_60 trivial rfl).2.trans f_175
  have f_177 := (hs.o gq_60 trivial rfl).2.trans f_177
  have f_179 := (hs.o gq_60 trivial rfl).2.trans f_179
  have f_181 := (hs.o gq_60 trivial rfl).2.trans f_181
  have f_183 := (hs.o gq_60 trivial rfl).2.trans f_183
  have f_185 := (hs.o gq_60 trivial rfl).2.trans f_185
  have f_187 := (hs.o gq_60 trivial rfl).2.trans f_187
  have f_189 := (hs.o gq_60 trivial rfl).2.trans f_189
  have f_191 := (hs.o gq_60 trivial rfl).2.trans f_191
  have f_193 := (hs.o gq_60 trivial rfl).2.trans f_193
  have fa_36 : ∀ j, j < 14 → _ = P_wo j := fun j hj => (hs.a gq_34 rfl j).1.trans (fa_36 j hj)
  have fa_167 : ∀ j, j < 13 → _ = P_w1 j := fun j hj => (hs.a gq_165 rfl j).1.trans (fa_167 j hj)
  have gq_2 := gq_2.S hs
  have gq_27 := gq_27.S hs
  have gq_29 := gq_29.S hs
  have gq_31 := gq_31.S hs
  have gq_34 := gq_34.S hs
  have gq_37 := gq_37.S hs
  have gq_39 := gq_39.S hs
  have gq_41 := gq_41.S hs
  have gq_44 := gq_44.S hs
  have gq_47 := gq_47.S hs
  have gq_50 := gq_50.S hs
  have gq_53 := gq_53.S hs
  have gq_55 := gq_55.S hs
  have gq_60 := gq_60.S hs
  have gq_163 := gq_163.S hs
  have gq_165 := gq_165.S hs
  have gq_168 := gq_168.S hs
  have gq_170 := gq_170.S hs
  have gq_172 := gq_172.S hs
  have gq_174 := gq_174.S hs
  have gq_176 := gq_176.S hs
  have gq_178 := gq_178.S hs
  have gq_180 := gq_180.S hs
  have gq_182 := gq_182.S hs
  have gq_184 := gq_184.S hs
  have gq_186 := gq_186.S hs
  have gq_188 := gq_188.S hs
  have gq_190 := gq_190.S hs
  have gq_192 := gq_192.S hs
  refine lv_aload_n hx hb dL_law_1143 rfl (lv_at hl 1 rfl) ?_
  refine lv_aload_n hx hb dL_law_1144 rfl (lv_at hl 3 rfl) ?_
  refine lv_iload_n hx hb dL_law_1145 rfl (lv_at hl 0 rfl) ?_
  refine lv_iconst (v := 1) hx hb dL_law_1146 (by decide) ?_
  refine lv_iadd hx hb dL_law_1147 ?_
  refine lv_topi (fun x_728 ex_728 => ?_)
  obtain rfl : x_728 = (1 : Int32) := ex_728.trans (by decide)
  refine va_sld hx hb hX hbl hbA hW.2.2.2.1 (vp_in_iff.mpr (by rw [hL7]; decide)) dL_law_1148 ?_
  rw [show (1 : Int32).toNatClampNeg = 1 from by decide]
  refine lv_aload_n hx hb dL_law_1149 rfl (lv_at hl 3 rfl) ?_
  refine lv_iload_n hx hb dL_law_1150 rfl (lv_at hl 0 rfl) ?_
  refine lv_iconst (v := 2) hx hb dL_law_1151 (by decide) ?_
  refine lv_iadd hx hb dL_law_1152 ?_
  refine lv_topi (fun x_729 ex_729 => ?_)
  obtain rfl : x_729 = (2 : Int32) := ex_729.trans (by decide)
  refine va_sld hx hb hX hbl hbA hW.2.2.2.1 (vp_in_iff.mpr (by rw [hL7]; decide)) dL_law_1153 ?_
  rw [show (2 : Int32).toNatClampNeg = 2 from by decide]
  refine hx_goi (hx_runV (As := [.int (xs 1), .int (xs 2)]) (rest := [.int r_725]) ⟨hx, hb, hml, hown, hts⟩ hW gq_60 td_10 (T := TX10) (N := 98) rfl (c_X10_plan l dC dI dA L_723 h_724 H.size q_60 (xs 1) (xs 2) gq_60 f_81) (cwV 2 hts (hx_gV kw_1677 kw_1674 kw_1675 kw_1676 kw_103) rfl rfl rfl (by decide +kernel) ⟨Nat.le_of_ble_eq_true rfl, Nat.le_of_ble_eq_true rfl⟩) rfl hl.1 rfl (Nat.le_of_ble_eq_true rfl) dL_law_1154 ⟨Nat.le_of_ble_eq_true rfl, Nat.le_of_ble_eq_true rfl⟩) hW (fun r_732 L_730 h_731 H locs p_733 hW => ?_)
  obtain ⟨hr_734, hs⟩ := p_733
  have hs : hx_S P_tb [] L_723 h_724 L_730 h_731 := hs
  have f_4 := (hs.o gq_2 trivial rfl).1.trans f_4
  have f_5 := (hs.o gq_2 trivial rfl).1.trans f_5
  have f_9 := (hs.o gq_2 trivial rfl).1.trans f_9
  have f_11 := (hs.o gq_2 trivial rfl).1.trans f_11
  have f_14 := (hs.o gq_2 trivial rfl).1.trans f_14
  have f_16 := (hs.o gq_2 trivial rfl).1.trans f_16
  have f_28 := (hs.o gq_2 trivial rfl).2.trans f_28
  have f_30 := (hs.o gq_2 trivial rfl).2.trans f_30
  have f_32 := (hs.o gq_2 trivial rfl).2.trans f_32
  have f_33 := (hs.o gq_31 trivial rfl).1.trans f_33
  have f_35 := (hs.o gq_31 trivial rfl).2.trans f_35
  have f_38 := (hs.o gq_2 trivial rfl).2.trans f_38
  have f_40 := (hs.o gq_2 trivial rfl).2.trans f_40
  have f_42 := (hs.o gq_2 trivial rfl).2.trans f_42
  have f_43 := (hs.o gq_41 trivial rfl).1.trans f_43
  have f_45 := (hs.o gq_2 trivial rfl).2.trans f_45
  have f_46 := (hs.o gq_44 trivial rfl).1.trans f_46
  have f_48 := (hs.o gq_2 trivial rfl).2.trans f_48
  have f_49 := (hs.o gq_47 trivial rfl).1.trans f_49
  have f_51 := (hs.o gq_2 trivial rfl).2.trans f_51
  have f_52 := (hs.o gq_50 trivial rfl).1.trans f_52
  have f_54 := (hs.o gq_50 trivial rfl).2.trans f_54
  have f_56 := (hs.o gq_2 trivial rfl).2.trans f_56
  have f_57 := (hs.o gq_55 trivial rfl).1.trans f_57
  have f_58 := (hs.o gq_55 trivial rfl).1.trans f_58
  have f_61 := (hs.o gq_60 trivial rfl).1.trans f_61
  have f_62 := (hs.o gq_60 trivial rfl).1.trans f_62
  have f_68 := (hs.o gq_60 trivial rfl).1.trans f_68
  have f_69 := (hs.o gq_60 trivial rfl).1.trans f_69
  have f_70 := (hs.o gq_60 trivial rfl).1.trans f_70
  have f_71 := (hs.o gq_60 trivial rfl).1.trans f_71
  have f_72 := (hs.o gq_60 trivial rfl).1.trans f_72
  have f_74 := (hs.o gq_60 trivial rfl).1.trans f_74
  have f_81 := (hs.o gq_60 trivial rfl).1.trans f_81
  have f_90 := (hs.o gq_60 trivial rfl).1.trans f_90
  have f_97 := (hs.o gq_60 trivial rfl).1.trans f_97
  have f_118 := (hs.o gq_60 trivial rfl).1.trans f_118
  have f_120 := (hs.o gq_60 trivial rfl).1.trans f_120
  have f_128 := (hs.o gq_60 trivial rfl).1.trans f_128
  have f_129 := (hs.o gq_60 trivial rfl).1.trans f_129
  have f_130 := (hs.o gq_60 trivial rfl).1.trans f_130
  have f_131 := (hs.o gq_60 trivial rfl).1.trans f_131
  have f_132 := (hs.o gq_60 trivial rfl).1.trans f_132
  have f_133 := (hs.o gq_60 trivial rfl).1.trans f_133
  have f_136 := (hs.o gq_60 trivial rfl).1.trans f_136
  have f_144 := (hs.o gq_60 trivial rfl).1.trans f_144
  have f_145 := (hs.o gq_60 trivial rfl).1.trans f_145
  have f_147 := (hs.o gq_60 trivial rfl).1.trans f_147
  have f_148 := (hs.o gq_60 trivial rfl).1.trans f_148
  have f_151 := (hs.o gq_60 trivial rfl).1.trans f_151
  have f_153 := (hs.o gq_60 trivial rfl).1.trans f_153
  have f_156 := (hs.o gq_60 trivial rfl).1.trans f_156
  have f_157 := (hs.o gq_60 trivial rfl).1.trans f_157
  have f_164 := (hs.o gq_60 trivial rfl).2.trans f_164
  have f_166 := (hs.o gq_60 trivial rfl).2.trans f_166
  have f_169 := (hs.o gq_60 trivial rfl).2.trans f_169
  have f_171 := (hs.o gq_60 trivial rfl).2.trans f_171
  have f_173 := (hs.o gq_60 trivial rfl).2.trans f_173
  have f_175 := (hs.o gq_60 trivial rfl).2.trans f_175
  have f_177 := (hs.o gq_60 trivial rfl).2.trans f_177
  have f_179 := (hs.o gq_60 trivial rfl).2.trans f_179
  have f_181 := (hs.o gq_60 trivial rfl).2.trans f_181
  have f_183 := (hs.o gq_60 trivial rfl).2.trans f_183
  have f_185 := (hs.o gq_60 trivial rfl).2.trans f_185
  have f_187 := (hs.o gq_60 trivial rfl).2.trans f_187
  have f_189 := (hs.o gq_60 trivial rfl).2.trans f_189
  have f_191 := (hs.o gq_60 trivial rfl).2.trans f_191
  have f_193 := (hs.o gq_60 trivial rfl).2.trans f_193
  have fa_36 : ∀ j, j < 14 → _ = P_wo j := fun j hj => (hs.a gq_34 rfl j).1.trans (fa_36 j hj)
  have fa_167 : ∀ j, j < 13 → _ = P_w1 j := fun j hj => (hs.a gq_165 rfl j).1.trans (fa_167 j hj)
  have gq_2 := gq_2.S hs
  have gq_27 := gq_27.S hs
  have gq_29 := gq_29.S hs
  have gq_31 := gq_31.S hs
  have gq_34 := gq_34.S hs
  have gq_37 := gq_37.S hs
  have gq_39 := gq_39.S hs
  have gq_41 := gq_41.S hs
  have gq_44 := gq_44.S hs
  have gq_47 := gq_47.S hs
  have gq_50 := gq_50.S hs
  have gq_53 := gq_53.S hs
  have gq_55 := gq_55.S hs
  have gq_60 := gq_60.S hs
  have gq_163 := gq_163.S hs
  have gq_165 := gq_165.S hs
  have gq_168 := gq_168.S hs
  have gq_170 := gq_170.S hs
  have gq_172 := gq_172.S hs
  have gq_174 := gq_174.S hs
  have gq_176 := gq_176.S hs
  have gq_178 := gq_178.S hs
  have gq_180 := gq_180.S hs
  have gq_182 := gq_182.S hs
  have gq_184 := gq_184.S hs
  have gq_186 := gq_186.S hs
  have gq_188 := gq_188.S hs
  have gq_190 := gq_190.S hs
  have gq_192 := gq_192.S hs
  have heq : r_725 = r_732 := by
    first | exact hr_727.trans hr_734.symm | (rcases hr_727 with ⟨k1, k2⟩ | ⟨k1, k2⟩ <;> rcases hr_734 with ⟨k3, k4⟩ | ⟨k3, k4⟩ <;> first | exact k2.trans k4.symm | (exfalso; omega) | exact absurd k1 k3 | exact absurd k3 k1)
  refine hb_icmp_eq (zx := r_725.toInt) (zy := r_732.toInt) (tgt := 1379) hx hb rfl rfl dL_law_1157 (by decide) (fun c_735 => ?_) (fun c_735 => absurd (congrArg Int32.toInt heq) c_735)
  exact law_tail hx hb hr hlocks hX hbl hbA hL7 _ _ hW.2.2.2.1 ls hl (Nat.le_of_ble_eq_true rfl) (Nat.le_of_ble_eq_true rfl)

set_option maxHeartbeats 4000000 in
set_option maxRecDepth 100000 in
theorem law_case_22 {p : Program} {e : Env} {s : State} {m : MethodId} {below : List Frame} {meth : Method} {c : Code} (l : Launch) {b LN : Nat} {xs : Nat → Int32} (hx : p.tables.exec = Jvm.exec) (hb : c.code = code) (hr : meth.sig.returnType = ret) (hlocks : meth.locks = false) (hml : c.maxLocals = 4) (hown : s.vm.findClass "SmallCourtLaw" = some m.cls) (hts : ∀ w ∈ hx_all, w.before #[Value.ref b] s = true) (hX : va_X b LN xs s s.heap) (hbl : b < s.heap.size) (hbA : ¬ s.heap.size ≤ b) (hL7 : LN = 7) (dC : Nat → ClassId) (dI : Nat → Nat → Nat) (dA : Nat → ClassId) (b0 : Nat) (q_2 q_27 q_29 q_31 q_34 q_37 q_39 q_41 q_44 q_47 q_50 q_53 q_55 q_60 q_163 q_165 q_168 q_170 q_172 q_174 q_176 q_178 q_180 q_182 q_184 q_186 q_188 q_190 q_192 : Nat) (L1 : List Nat) (hl1 : hx_h) (H : Heap) (locs : List Loc) (ls : Array Slot) (hW : hx_W P_tb (P_ty dA) (dC, dI) vwCl (fun q : Nat => s.heap.size ≤ q) s.heap L1 hl1 s H locs) (hZ : hx_Xt (fun q : Nat => s.heap.size ≤ q) b0 s) (f_4 : hl1.2.1 q_2 1 = (0 : Int32)) (f_5 : hl1.2.1 q_2 2 = (0 : Int32)) (f_9 : hl1.2.1 q_2 6 = (0 : Int32)) (f_11 : hl1.2.1 q_2 8 = (0 : Int32)) (f_14 : hl1.2.1 q_2 11 = (0 : Int32)) (f_16 : hl1.2.1 q_2 13 = (0 : Int32)) (f_28 : hl1.2.2 q_2 0 = some q_27) (f_30 : hl1.2.2 q_2 3 = some q_29) (f_32 : hl1.2.2 q_2 4 = some q_31) (f_33 : hl1.2.1 q_31 0 = (-1 : Int32)) (f_35 : hl1.2.2 q_31 2 = some q_34) (f_38 : hl1.2.2 q_2 5 = some q_37) (f_40 : hl1.2.2 q_2 7 = some q_39) (f_42 : hl1.2.2 q_2 9 = some q_41) (f_43 : hl1.2.1 q_41 0 = (0 : Int32)) (f_45 : hl1.2.2 q_2 14 = some q_44) (f_46 : hl1.2.1 q_44 0 = (0 : Int32)) (f_48 : hl1.2.2 q_2 17 = some q_47) (f_49 : hl1.2.1 q_47 1 = (0 : Int32)) (f_51 : hl1.2.2 q_2 18 = some q_50) (f_52 : hl1.2.1 q_50 0 = (-1 : Int32)) (f_54 : hl1.2.2 q_50 5 = some q_53) (f_56 : hl1.2.2 q_2 19 = some q_55) (f_57 : hl1.2.1 q_55 0 = (0 : Int32)) (f_58 : hl1.2.1 q_55 1 = (0 : Int32)) (f_61 : hl1.2.1 q_60 0 = (0 : Int32)) (f_62 : hl1.2.1 q_60 1 = (0 : Int32)) (f_68 : hl1.2.1 q_60 7 = (0 : Int32)) (f_69 : hl1.2.1 q_60 8 = (0 : Int32)) (f_70 : hl1.2.1 q_60 9 = (0 : Int32)) (f_71 : hl1.2.1 q_60 10 = (0 : Int32)) (f_72 : hl1.2.1 q_60 11 = (0 : Int32)) (f_74 : hl1.2.1 q_60 13 = (0 : Int32)) (f_81 : hl1.2.1 q_60 20 = (0 : Int32)) (f_90 : hl1.2.1 q_60 29 = (0 : Int32)) (f_97 : hl1.2.1 q_60 36 = (0 : Int32)) (f_118 : hl1.2.1 q_60 57 = (0 : Int32)) (f_120 : hl1.2.1 q_60 59 = (0 : Int32)) (f_128 : hl1.2.1 q_60 67 = (0 : Int32)) (f_129 : hl1.2.1 q_60 68 = (0 : Int32)) (f_130 : hl1.2.1 q_60 69 = (0 : Int32)) (f_131 : hl1.2.1 q_60 70 = (0 : Int32)) (f_132 : hl1.2.1 q_60 71 = (0 : Int32)) (f_133 : hl1.2.1 q_60 72 = (0 : Int32)) (f_136 : hl1.2.1 q_60 75 = (0 : Int32)) (f_144 : hl1.2.1 q_60 83 = (0 : Int32)) (f_145 : hl1.2.1 q_60 84 = (0 : Int32)) (f_147 : hl1.2.1 q_60 86 = (0 : Int32)) (f_148 : hl1.2.1 q_60 87 = (0 : Int32)) (f_151 : hl1.2.1 q_60 90 = (0 : Int32)) (f_153 : hl1.2.1 q_60 92 = (0 : Int32)) (f_156 : hl1.2.1 q_60 95 = (0 : Int32)) (f_157 : hl1.2.1 q_60 96 = (0 : Int32)) (f_164 : hl1.2.2 q_60 2 = some q_163) (f_166 : hl1.2.2 q_60 3 = some q_165) (f_169 : hl1.2.2 q_60 4 = some q_168) (f_171 : hl1.2.2 q_60 5 = some q_170) (f_173 : hl1.2.2 q_60 6 = some q_172) (f_175 : hl1.2.2 q_60 12 = some q_174) (f_177 : hl1.2.2 q_60 15 = some q_176) (f_179 : hl1.2.2 q_60 21 = some q_178) (f_181 : hl1.2.2 q_60 22 = some q_180) (f_183 : hl1.2.2 q_60 23 = some q_182) (f_185 : hl1.2.2 q_60 24 = some q_184) (f_187 : hl1.2.2 q_60 25 = some q_186) (f_189 : hl1.2.2 q_60 26 = some q_188) (f_191 : hl1.2.2 q_60 82 = some q_190) (f_193 : hl1.2.2 q_60 94 = some q_192) (fa_36 : ∀ j, j < 14 → hl1.2.1 q_34 j = P_wo j) (fa_167 : ∀ j, j < 13 → hl1.2.1 q_165 j = P_w1 j) (gq_2 : hx_g L1 hl1 q_2 9) (gq_27 : hx_g L1 hl1 q_27 42) (gq_29 : hx_g L1 hl1 q_29 6) (gq_31 : hx_g L1 hl1 q_31 0) (gq_34 : hx_g L1 hl1 q_34 11) (gq_37 : hx_g L1 hl1 q_37 43) (gq_39 : hx_g L1 hl1 q_39 44) (gq_41 : hx_g L1 hl1 q_41 1) (gq_44 : hx_g L1 hl1 q_44 3) (gq_47 : hx_g L1 hl1 q_47 5) (gq_50 : hx_g L1 hl1 q_50 7) (gq_53 : hx_g L1 hl1 q_53 36) (gq_55 : hx_g L1 hl1 q_55 8) (gq_60 : hx_g L1 hl1 q_60 10) (gq_163 : hx_g L1 hl1 q_163 49) (gq_165 : hx_g L1 hl1 q_165 50) (gq_168 : hx_g L1 hl1 q_168 51) (gq_170 : hx_g L1 hl1 q_170 52) (gq_172 : hx_g L1 hl1 q_172 53) (gq_174 : hx_g L1 hl1 q_174 54) (gq_176 : hx_g L1 hl1 q_176 55) (gq_178 : hx_g L1 hl1 q_178 58) (gq_180 : hx_g L1 hl1 q_180 59) (gq_182 : hx_g L1 hl1 q_182 60) (gq_184 : hx_g L1 hl1 q_184 61) (gq_186 : hx_g L1 hl1 q_186 62) (gq_188 : hx_g L1 hl1 q_188 63) (gq_190 : hx_g L1 hl1 q_190 108) (gq_192 : hx_g L1 hl1 q_192 114) (hl : lv_has ls 4 [(3, .int (0 : Int32)), (2, .ref q_60), (1, .ref q_2), (0, .ref b)]) : W p l e room_1 s m #[Value.ref b] below meth c H locs 112 26072 (lw_Z below #[Value.ref b] s) (F0 m 1162 ls []) := by
  refine lv_aload_n hx hb dL_law_1162 rfl (lv_at hl 2 rfl) ?_
  refine lv_aload_n hx hb dL_law_1163 rfl (lv_at hl 3 rfl) ?_
  refine lv_iload_n hx hb dL_law_1164 rfl (lv_at hl 0 rfl) ?_
  refine lv_iconst (v := 1) hx hb dL_law_1165 (by decide) ?_
  refine lv_iadd hx hb dL_law_1166 ?_
  refine lv_topi (fun x_736 ex_736 => ?_)
  obtain rfl : x_736 = (1 : Int32) := ex_736.trans (by decide)
  refine va_sld hx hb hX hbl hbA hW.2.2.2.1 (vp_in_iff.mpr (by rw [hL7]; decide)) dL_law_1167 ?_
  rw [show (1 : Int32).toNatClampNeg = 1 from by decide]
  refine lv_aload_n hx hb dL_law_1168 rfl (lv_at hl 3 rfl) ?_
  refine lv_iload_n hx hb dL_law_1169 rfl (lv_at hl 0 rfl) ?_
  refine lv_iconst (v := 2) hx hb dL_law_1170 (by decide) ?_
  refine lv_iadd hx hb dL_law_1171 ?_
  refine lv_topi (fun x_737 ex_737 => ?_)
  obtain rfl : x_737 = (2 : Int32) := ex_737.trans (by decide)
  refine va_sld hx hb hX hbl hbA hW.2.2.2.1 (vp_in_iff.mpr (by rw [hL7]; decide)) dL_law_1172 ?_
  rw [show (2 : Int32).toNatClampNeg = 2 from by decide]
  refine hx_goi (hx_runV (As := [.int (xs 1), .int (xs 2)]) (rest := []) ⟨hx, hb, hml, hown, hts⟩ hW gq_2 td_9 (T := TX9) (N := 20) rfl (c_X9_planned l dC dI dA L1 hl1 H.size q_2 (xs 1) (xs 2) gq_2 q_47 gq_47 f_48 f_49) (cwV 2 hts (hx_gV kw_980 kw_977 kw_978 kw_979 kw_94) rfl rfl rfl (by decide +kernel) ⟨Nat.le_of_ble_eq_true rfl, Nat.le_of_ble_eq_true rfl⟩) rfl hl.1 rfl (Nat.le_of_ble_eq_true rfl) dL_law_1173 ⟨Nat.le_of_ble_eq_true rfl, Nat.le_of_ble_eq_true rfl⟩) hW (fun r_740 L_738 h_739 H locs p_741 hW => ?_)
  obtain ⟨hr_742, hs⟩ := p_741
  have hs : hx_S P_tb [] L1 hl1 L_738 h_739 := hs
  have f_4 := (hs.o gq_2 trivial rfl).1.trans f_4
  have f_5 := (hs.o gq_2 trivial rfl).1.trans f_5
  have f_9 := (hs.o gq_2 trivial rfl).1.trans f_9
  have f_11 := (hs.o gq_2 trivial rfl).1.trans f_11
  have f_14 := (hs.o gq_2 trivial rfl).1.trans f_14
  have f_16 := (hs.o gq_2 trivial rfl).1.trans f_16
  have f_28 := (hs.o gq_2 trivial rfl).2.trans f_28
  have f_30 := (hs.o gq_2 trivial rfl).2.trans f_30
  have f_32 := (hs.o gq_2 trivial rfl).2.trans f_32
  have f_33 := (hs.o gq_31 trivial rfl).1.trans f_33
  have f_35 := (hs.o gq_31 trivial rfl).2.trans f_35
  have f_38 := (hs.o gq_2 trivial rfl).2.trans f_38
  have f_40 := (hs.o gq_2 trivial rfl).2.trans f_40
  have f_42 := (hs.o gq_2 trivial rfl).2.trans f_42
  have f_43 := (hs.o gq_41 trivial rfl).1.trans f_43
  have f_45 := (hs.o gq_2 trivial rfl).2.trans f_45
  have f_46 := (hs.o gq_44 trivial rfl).1.trans f_46
  have f_48 := (hs.o gq_2 trivial rfl).2.trans f_48
  have f_49 := (hs.o gq_47 trivial rfl).1.trans f_49
  have f_51 := (hs.o gq_2 trivial rfl).2.trans f_51
  have f_52 := (hs.o gq_50 trivial rfl).1.trans f_52
  have f_54 := (hs.o gq_50 trivial rfl).2.trans f_54
  have f_56 := (hs.o gq_2 trivial rfl).2.trans f_56
  have f_57 := (hs.o gq_55 trivial rfl).1.trans f_57
  have f_58 := (hs.o gq_55 trivial rfl).1.trans f_58
  have f_61 := (hs.o gq_60 trivial rfl).1.trans f_61
  have f_62 := (hs.o gq_60 trivial rfl).1.trans f_62
  have f_68 := (hs.o gq_60 trivial rfl).1.trans f_68
  have f_69 := (hs.o gq_60 trivial rfl).1.trans f_69
  have f_70 := (hs.o gq_60 trivial rfl).1.trans f_70
  have f_71 := (hs.o gq_60 trivial rfl).1.trans f_71
  have f_72 := (hs.o gq_60 trivial rfl).1.trans f_72
  have f_74 := (hs.o gq_60 trivial rfl).1.trans f_74
  have f_81 := (hs.o gq_60 trivial rfl).1.trans f_81
  have f_90 := (hs.o gq_60 trivial rfl).1.trans f_90
  have f_97 := (hs.o gq_60 trivial rfl).1.trans f_97
  have f_118 := (hs.o gq_60 trivial rfl).1.trans f_118
  have f_120 := (hs.o gq_60 trivial rfl).1.trans f_120
  have f_128 := (hs.o gq_60 trivial rfl).1.trans f_128
  have f_129 := (hs.o gq_60 trivial rfl).1.trans f_129
  have f_130 := (hs.o gq_60 trivial rfl).1.trans f_130
  have f_131 := (hs.o gq_60 trivial rfl).1.trans f_131
  have f_132 := (hs.o gq_60 trivial rfl).1.trans f_132
  have f_133 := (hs.o gq_60 trivial rfl).1.trans f_133
  have f_136 := (hs.o gq_60 trivial rfl).1.trans f_136
  have f_144 := (hs.o gq_60 trivial rfl).1.trans f_144
  have f_145 := (hs.o gq_60 trivial rfl).1.trans f_145
  have f_147 := (hs.o gq_60 trivial rfl).1.trans f_147
  have f_148 := (hs.o gq_60 trivial rfl).1.trans f_148
  have f_151 := (hs.o gq_60 trivial rfl).1.trans f_151
  have f_153 := (hs.o gq_60 trivial rfl).1.trans f_153
  have f_156 := (hs.o gq_60 trivial rfl).1.trans f_156
  have f_157 := (hs.o gq_60 trivial rfl).1.trans f_157
  have f_164 := (hs.o gq_60 trivial rfl).2.trans f_164
  have f_166 := (hs.o gq_60 trivial rfl).2.trans f_166
  have f_169 := (hs.o gq_60 trivial rfl).2.trans f_169
  have f_171 := (hs.o gq_60 trivial rfl).2.trans f_171
  have f_173 := (hs.o gq_60 trivial rfl).2.trans f_173
  have f_175 := (hs.o gq_60 trivial rfl).2.trans f_175
  have f_177 := (hs.o gq_60 trivial rfl).2.trans f_177
  have f_179 := (hs.o gq_60 trivial rfl).2.trans f_179
  have f_181 := (hs.o gq_60 trivial rfl).2.trans f_181
  have f_183 := (hs.o gq_60 trivial rfl).2.trans f_183
  have f_185 := (hs.o gq_60 trivial rfl).2.trans f_185
  have f_187 := (hs.o gq_60 trivial rfl).2.trans f_187
  have f_189 := (hs.o gq_60 trivial rfl).2.trans f_189
  have f_191 := (hs.o gq_60 trivial rfl).2.trans f_191
  have f_193 := (hs.o gq_60 trivial rfl).2.trans f_193
  have fa_36 : ∀ j, j < 14 → _ = P_wo j := fun j hj => (hs.a gq_34 rfl j).1.trans (fa_36 j hj)
  have fa_167 : ∀ j, j < 13 → _ = P_w1 j := fun j hj => (hs.a gq_165 rfl j).1.trans (fa_167 j hj)
  have gq_2 := gq_2.S hs
  have gq_27 := gq_27.S hs
  have gq_29 := gq_29.S hs
  have gq_31 := gq_31.S hs
  have gq_34 := gq_34.S hs
  have gq_37 := gq_37.S hs
  have gq_39 := gq_39.S hs
  have gq_41 := gq_41.S hs
  have gq_44 := gq_44.S hs
  have gq_47 := gq_47.S hs
  have gq_50 := gq_50.S hs
  have gq_53 := gq_53.S hs
  have gq_55 := gq_55.S hs
  have gq_60 := gq_60.S hs
  have gq_163 := gq_163.S hs
  have gq_165 := gq_165.S hs
  have gq_168 := gq_168.S hs
  have gq_170 := gq_170.S hs
  have gq_172 := gq_172.S hs
  have gq_174 := gq_174.S hs
  have gq_176 := gq_176.S hs
  have gq_178 := gq_178.S hs
  have gq_180 := gq_180.S hs
  have gq_182 := gq_182.S hs
  have gq_184 := gq_184.S hs
  have gq_186 := gq_186.S hs
  have gq_188 := gq_188.S hs
  have gq_190 := gq_190.S hs
  have gq_192 := gq_192.S hs
  refine lv_aload_n hx hb dL_law_1176 rfl (lv_at hl 1 rfl) ?_
  refine lv_aload_n hx hb dL_law_1177 rfl (lv_at hl 3 rfl) ?_
  refine lv_iload_n hx hb dL_law_1178 rfl (lv_at hl 0 rfl) ?_
  refine lv_iconst (v := 1) hx hb dL_law_1179 (by decide) ?_
  refine lv_iadd hx hb dL_law_1180 ?_
  refine lv_topi (fun x_743 ex_743 => ?_)
  obtain rfl : x_743 = (1 : Int32) := ex_743.trans (by decide)
  refine va_sld hx hb hX hbl hbA hW.2.2.2.1 (vp_in_iff.mpr (by rw [hL7]; decide)) dL_law_1181 ?_
  rw [show (1 : Int32).toNatClampNeg = 1 from by decide]
  refine lv_aload_n hx hb dL_law_1182 rfl (lv_at hl 3 rfl) ?_
  refine lv_iload_n hx hb dL_law_1183 rfl (lv_at hl 0 rfl) ?_
  refine lv_iconst (v := 2) hx hb dL_law_1184 (by decide) ?_
  refine lv_iadd hx hb dL_law_1185 ?_
  refine lv_topi (fun x_744 ex_744 => ?_)
  obtain rfl : x_744 = (2 : Int32) := ex_744.trans (by decide)
  refine va_sld hx hb hX hbl hbA hW.2.2.2.1 (vp_in_iff.mpr (by rw [hL7]; decide)) dL_law_1186 ?_
  rw [show (2 : Int32).toNatClampNeg = 2 from by decide]
  refine hx_goi (hx_runV (As := [.int (xs 1), .int (xs 2)]) (rest := [.int r_740]) ⟨hx, hb, hml, hown, hts⟩ hW gq_60 td_10 (T := TX10) (N := 98) rfl (c_X10_planned l dC dI dA L_738 h_739 H.size q_60 (xs 1) (xs 2) gq_60 f_133) (cwV 2 hts (hx_gV kw_1686 kw_1683 kw_1684 kw_1685 kw_103) rfl rfl rfl (by decide +kernel) ⟨Nat.le_of_ble_eq_true rfl, Nat.le_of_ble_eq_true rfl⟩) rfl hl.1 rfl (Nat.le_of_ble_eq_true rfl) dL_law_1187 ⟨Nat.le_of_ble_eq_true rfl, Nat.le_of_ble_eq_true rfl⟩) hW (fun r_747 L_745 h_746 H locs p_748 hW => ?_)
  obtain ⟨hr_749, hs⟩ := p_748
  have hs : hx_S P_tb [] L_738 h_739 L_745 h_746 := hs
  have f_4 := (hs.o gq_2 trivial rfl).1.trans f_4
  have f_5 := (hs.o gq_2 trivial rfl).1.trans f_5
  have f_9 := (hs.o gq_2 trivial rfl).1.trans f_9
  have f_11 := (hs.o gq_2 trivial rfl).1.trans f_11
  have f_14 := (hs.o gq_2 trivial rfl).1.trans f_14
  have f_16 := (hs.o gq_2 trivial rfl).1.trans f_16
  have f_28 := (hs.o gq_2 trivial rfl).2.trans f_28
  have f_30 := (hs.o gq_2 trivial rfl).2.trans f_30
  have f_32 := (hs.o gq_2 trivial rfl).2.trans f_32
  have f_33 := (hs.o gq_31 trivial rfl).1.trans f_33
  have f_35 := (hs.o gq_31 trivial rfl).2.trans f_35
  have f_38 := (hs.o gq_2 trivial rfl).2.trans f_38
  have f_40 := (hs.o gq_2 trivial rfl).2.trans f_40
  have f_42 := (hs.o gq_2 trivial rfl).2.trans f_42
  have f_43 := (hs.o gq_41 trivial rfl).1.trans f_43
  have f_45 := (hs.o gq_2 trivial rfl).2.trans f_45
  have f_46 := (hs.o gq_44 trivial rfl).1.trans f_46
  have f_48 := (hs.o gq_2 trivial rfl).2.trans f_48
  have f_49 := (hs.o gq_47 trivial rfl).1.trans f_49
  have f_51 := (hs.o gq_2 trivial rfl).2.trans f_51
  have f_52 := (hs.o gq_50 trivial rfl).1.trans f_52
  have f_54 := (hs.o gq_50 trivial rfl).2.trans f_54
  have f_56 := (hs.o gq_2 trivial rfl).2.trans f_56
  have f_57 := (hs.o gq_55 trivial rfl).1.trans f_57
  have f_58 := (hs.o gq_55 trivial rfl).1.trans f_58
  have f_61 := (hs.o gq_60 trivial rfl).1.trans f_61
  have f_62 := (hs.o gq_60 trivial rfl).1.trans f_62
  have f_68 := (hs.o gq_60 trivial rfl).1.trans f_68
  have f_69 := (hs.o gq_60 trivial rfl).1.trans f_69
  have f_70 := (hs.o gq_60 trivial rfl).1.trans f_70
  have f_71 := (hs.o gq_60 trivial rfl).1.trans f_71
  have f_72 := (hs.o gq_60 trivial rfl).1.trans f_72
  have f_74 := (hs.o gq_60 trivial rfl).1.trans f_74
  have f_81 := (hs.o gq_60 trivial rfl).1.trans f_81
  have f_90 := (hs.o gq_60 trivial rfl).1.trans f_90
  have f_97 := (hs.o gq_60 trivial rfl).1.trans f_97
  have f_118 := (hs.o gq_60 trivial rfl).1.trans f_118
  have f_120 := (hs.o gq_60 trivial rfl).1.trans f_120
  have f_128 := (hs.o gq_60 trivial rfl).1.trans f_128
  have f_129 := (hs.o gq_60 trivial rfl).1.trans f_129
  have f_130 := (hs.o gq_60 trivial rfl).1.trans f_130
  have f_131 := (hs.o gq_60 trivial rfl).1.trans f_131
  have f_132 := (hs.o gq_60 trivial rfl).1.trans f_132
  have f_133 := (hs.o gq_60 trivial rfl).1.trans f_133
  have f_136 := (hs.o gq_60 trivial rfl).1.trans f_136
  have f_144 := (hs.o gq_60 trivial rfl).1.trans f_144
  have f_145 := (hs.o gq_60 trivial rfl).1.trans f_145
  have f_147 := (hs.o gq_60 trivial rfl).1.trans f_147
  have f_148 := (hs.o gq_60 trivial rfl).1.trans f_148
  have f_151 := (hs.o gq_60 trivial rfl).1.trans f_151
  have f_153 := (hs.o gq_60 trivial rfl).1.trans f_153
  have f_156 := (hs.o gq_60 trivial rfl).1.trans f_156
  have f_157 := (hs.o gq_60 trivial rfl).1.trans f_157
  have f_164 := (hs.o gq_60 trivial rfl).2.trans f_164
  have f_166 := (hs.o gq_60 trivial rfl).2.trans f_166
  have f_169 := (hs.o gq_60 trivial rfl).2.trans f_169
  have f_171 := (hs.o gq_60 trivial rfl).2.trans f_171
  have f_173 := (hs.o gq_60 trivial rfl).2.trans f_173
  have f_175 := (hs.o gq_60 trivial rfl).2.trans f_175
  have f_177 := (hs.o gq_60 trivial rfl).2.trans f_177
  have f_179 := (hs.o gq_60 trivial rfl).2.trans f_179
  have f_181 := (hs.o gq_60 trivial rfl).2.trans f_181
  have f_183 := (hs.o gq_60 trivial rfl).2.trans f_183
  have f_185 := (hs.o gq_60 trivial rfl).2.trans f_185
  have f_187 := (hs.o gq_60 trivial rfl).2.trans f_187
  have f_189 := (hs.o gq_60 trivial rfl).2.trans f_189
  have f_191 := (hs.o gq_60 trivial rfl).2.trans f_191
  have f_193 := (hs.o gq_60 trivial rfl).2.trans f_193
  have fa_36 : ∀ j, j < 14 → _ = P_wo j := fun j hj => (hs.a gq_34 rfl j).1.trans (fa_36 j hj)
  have fa_167 : ∀ j, j < 13 → _ = P_w1 j := fun j hj => (hs.a gq_165 rfl j).1.trans (fa_167 j hj)
  have gq_2 := gq_2.S hs
  have gq_27 := gq_27.S hs
  have gq_29 := gq_29.S hs
  have gq_31 := gq_31.S hs
  have gq_34 := gq_34.S hs
  have gq_37 := gq_37.S hs
  have gq_39 := gq_39.S hs
  have gq_41 := gq_41.S hs
  have gq_44 := gq_44.S hs
  have gq_47 := gq_47.S hs
  have gq_50 := gq_50.S hs
  have gq_53 := gq_53.S hs
  have gq_55 := gq_55.S hs
  have gq_60 := gq_60.S hs
  have gq_163 := gq_163.S hs
  have gq_165 := gq_165.S hs
  have gq_168 := gq_168.S hs
  have gq_170 := gq_170.S hs
  have gq_172 := gq_172.S hs
  have gq_174 := gq_174.S hs
  have gq_176 := gq_176.S hs
  have gq_178 := gq_178.S hs
  have gq_180 := gq_180.S hs
  have gq_182 := gq_182.S hs
  have gq_184 := gq_184.S hs
  have gq_186 := gq_186.S hs
  have gq_188 := gq_188.S hs
  have gq_190 := gq_190.S hs
  have gq_192 := gq_192.S hs
  have heq : r_740 = r_747 := by
    first | exact hr_742.trans hr_749.symm | (rcases hr_742 with ⟨k1, k2⟩ | ⟨k1, k2⟩ <;> rcases hr_749 with ⟨k3, k4⟩ | ⟨k3, k4⟩ <;> first | exact k2.trans k4.symm | (exfalso; omega) | exact absurd k1 k3 | exact absurd k3 k1)
  refine hb_icmp_eq (zx := r_740.toInt) (zy := r_747.toInt) (tgt := 1379) hx hb rfl rfl dL_law_1190 (by decide) (fun c_750 => ?_) (fun c_750 => absurd (congrArg Int32.toInt heq) c_750)
  exact law_tail hx hb hr hlocks hX hbl hbA hL7 _ _ hW.2.2.2.1 ls hl (Nat.le_of_ble_eq_true rfl) (Nat.le_of_ble_eq_true rfl)

set_option maxHeartbeats 4000000 in
set_option maxRecDepth 100000 in
theorem law_case_23 {p : Program} {e : Env} {s : State} {m : MethodId} {below : List Frame} {meth : Method} {c : Code} (l : Launch) {b LN : Nat} {xs : Nat → Int32} (hx : p.tables.exec = Jvm.exec) (hb : c.code = code) (hr : meth.sig.returnType = ret) (hlocks : meth.locks = false) (hml : c.maxLocals = 4) (hown : s.vm.findClass "SmallCourtLaw" = some m.cls) (hts : ∀ w ∈ hx_all, w.before #[Value.ref b] s = true) (hX : va_X b LN xs s s.heap) (hbl : b < s.heap.size) (hbA : ¬ s.heap.size ≤ b) (hL7 : LN = 7) (dC : Nat → ClassId) (dI : Nat → Nat → Nat) (dA : Nat → ClassId) (b0 : Nat) (q_2 q_27 q_29 q_31 q_34 q_37 q_39 q_41 q_44 q_47 q_50 q_53 q_55 q_60 q_163 q_165 q_168 q_170 q_172 q_174 q_176 q_178 q_180 q_182 q_184 q_186 q_188 q_190 q_192 : Nat) (L1 : List Nat) (hl1 : hx_h) (H : Heap) (locs : List Loc) (ls : Array Slot) (hW : hx_W P_tb (P_ty dA) (dC, dI) vwCl (fun q : Nat => s.heap.size ≤ q) s.heap L1 hl1 s H locs) (hZ : hx_Xt (fun q : Nat => s.heap.size ≤ q) b0 s) (f_4 : hl1.2.1 q_2 1 = (0 : Int32)) (f_5 : hl1.2.1 q_2 2 = (0 : Int32)) (f_9 : hl1.2.1 q_2 6 = (0 : Int32)) (f_11 : hl1.2.1 q_2 8 = (0 : Int32)) (f_14 : hl1.2.1 q_2 11 = (0 : Int32)) (f_16 : hl1.2.1 q_2 13 = (0 : Int32)) (f_28 : hl1.2.2 q_2 0 = some q_27) (f_30 : hl1.2.2 q_2 3 = some q_29) (f_32 : hl1.2.2 q_2 4 = some q_31) (f_33 : hl1.2.1 q_31 0 = (-1 : Int32)) (f_35 : hl1.2.2 q_31 2 = some q_34) (f_38 : hl1.2.2 q_2 5 = some q_37) (f_40 : hl1.2.2 q_2 7 = some q_39) (f_42 : hl1.2.2 q_2 9 = some q_41) (f_43 : hl1.2.1 q_41 0 = (0 : Int32)) (f_45 : hl1.2.2 q_2 14 = some q_44) (f_46 : hl1.2.1 q_44 0 = (0 : Int32)) (f_48 : hl1.2.2 q_2 17 = some q_47) (f_49 : hl1.2.1 q_47 1 = (0 : Int32)) (f_51 : hl1.2.2 q_2 18 = some q_50) (f_52 : hl1.2.1 q_50 0 = (-1 : Int32)) (f_54 : hl1.2.2 q_50 5 = some q_53) (f_56 : hl1.2.2 q_2 19 = some q_55) (f_57 : hl1.2.1 q_55 0 = (0 : Int32)) (f_58 : hl1.2.1 q_55 1 = (0 : Int32)) (f_61 : hl1.2.1 q_60 0 = (0 : Int32)) (f_62 : hl1.2.1 q_60 1 = (0 : Int32)) (f_68 : hl1.2.1 q_60 7 = (0 : Int32)) (f_69 : hl1.2.1 q_60 8 = (0 : Int32)) (f_70 : hl1.2.1 q_60 9 = (0 : Int32)) (f_71 : hl1.2.1 q_60 10 = (0 : Int32)) (f_72 : hl1.2.1 q_60 11 = (0 : Int32)) (f_74 : hl1.2.1 q_60 13 = (0 : Int32)) (f_81 : hl1.2.1 q_60 20 = (0 : Int32)) (f_90 : hl1.2.1 q_60 29 = (0 : Int32)) (f_97 : hl1.2.1 q_60 36 = (0 : Int32)) (f_118 : hl1.2.1 q_60 57 = (0 : Int32)) (f_120 : hl1.2.1 q_60 59 = (0 : Int32)) (f_128 : hl1.2.1 q_60 67 = (0 : Int32)) (f_129 : hl1.2.1 q_60 68 = (0 : Int32)) (f_130 : hl1.2.1 q_60 69 = (0 : Int32)) (f_131 : hl1.2.1 q_60 70 = (0 : Int32)) (f_132 : hl1.2.1 q_60 71 = (0 : Int32)) (f_133 : hl1.2.1 q_60 72 = (0 : Int32)) (f_136 : hl1.2.1 q_60 75 = (0 : Int32)) (f_144 : hl1.2.1 q_60 83 = (0 : Int32)) (f_145 : hl1.2.1 q_60 84 = (0 : Int32)) (f_147 : hl1.2.1 q_60 86 = (0 : Int32)) (f_148 : hl1.2.1 q_60 87 = (0 : Int32)) (f_151 : hl1.2.1 q_60 90 = (0 : Int32)) (f_153 : hl1.2.1 q_60 92 = (0 : Int32)) (f_156 : hl1.2.1 q_60 95 = (0 : Int32)) (f_157 : hl1.2.1 q_60 96 = (0 : Int32)) (f_164 : hl1.2.2 q_60 2 = some q_163) (f_166 : hl1.2.2 q_60 3 = some q_165) (f_169 : hl1.2.2 q_60 4 = some q_168) (f_171 : hl1.2.2 q_60 5 = some q_170) (f_173 : hl1.2.2 q_60 6 = some q_172) (f_175 : hl1.2.2 q_60 12 = some q_174) (f_177 : hl1.2.2 q_60 15 = some q_176) (f_179 : hl1.2.2 q_60 21 = some q_178) (f_181 : hl1.2.2 q_60 22 = some q_180) (f_183 : hl1.2.2 q_60 23 = some q_182) (f_185 : hl1.2.2 q_60 24 = some q_184) (f_187 : hl1.2.2 q_60 25 = some q_186) (f_189 : hl1.2.2 q_60 26 = some q_188) (f_191 : hl1.2.2 q_60 82 = some q_190) (f_193 : hl1.2.2 q_60 94 = some q_192) (fa_36 : ∀ j, j < 14 → hl1.2.1 q_34 j = P_wo j) (fa_167 : ∀ j, j < 13 → hl1.2.1 q_165 j = P_w1 j) (gq_2 : hx_g L1 hl1 q_2 9) (gq_27 : hx_g L1 hl1 q_27 42) (gq_29 : hx_g L1 hl1 q_29 6) (gq_31 : hx_g L1 hl1 q_31 0) (gq_34 : hx_g L1 hl1 q_34 11) (gq_37 : hx_g L1 hl1 q_37 43) (gq_39 : hx_g L1 hl1 q_39 44) (gq_41 : hx_g L1 hl1 q_41 1) (gq_44 : hx_g L1 hl1 q_44 3) (gq_47 : hx_g L1 hl1 q_47 5) (gq_50 : hx_g L1 hl1 q_50 7) (gq_53 : hx_g L1 hl1 q_53 36) (gq_55 : hx_g L1 hl1 q_55 8) (gq_60 : hx_g L1 hl1 q_60 10) (gq_163 : hx_g L1 hl1 q_163 49) (gq_165 : hx_g L1 hl1 q_165 50) (gq_168 : hx_g L1 hl1 q_168 51) (gq_170 : hx_g L1 hl1 q_170 52) (gq_172 : hx_g L1 hl1 q_172 53) (gq_174 : hx_g L1 hl1 q_174 54) (gq_176 : hx_g L1 hl1 q_176 55) (gq_178 : hx_g L1 hl1 q_178 58) (gq_180 : hx_g L1 hl1 q_180 59) (gq_182 : hx_g L1 hl1 q_182 60) (gq_184 : hx_g L1 hl1 q_184 61) (gq_186 : hx_g L1 hl1 q_186 62) (gq_188 : hx_g L1 hl1 q_188 63) (gq_190 : hx_g L1 hl1 q_190 108) (gq_192 : hx_g L1 hl1 q_192 114) (hl : lv_has ls 4 [(3, .int (0 : Int32)), (2, .ref q_60), (1, .ref q_2), (0, .ref b)]) : W p l e room_1 s m #[Value.ref b] below meth c H locs 112 26072 (lw_Z below #[Value.ref b] s) (F0 m 1195 ls []) := by
  refine lv_aload_n hx hb dL_law_1195 rfl (lv_at hl 2 rfl) ?_
  refine hx_goi (hx_runV (As := []) (rest := []) ⟨hx, hb, hml, hown, hts⟩ hW gq_2 td_9 (T := TX9) (N := 20) rfl (c_X9_net l dC dI dA L1 hl1 H.size q_2 gq_2 f_11 f_14 q_50 gq_50 f_51 q_53 gq_53 f_54) (cwV 0 hts (hx_gV kw_984 kw_981 kw_982 kw_983 kw_94) rfl rfl rfl (by decide +kernel) ⟨Nat.le_of_ble_eq_true rfl, Nat.le_of_ble_eq_true rfl⟩) rfl hl.1 rfl (Nat.le_of_ble_eq_true rfl) dL_law_1196 ⟨Nat.le_of_ble_eq_true rfl, Nat.le_of_ble_eq_true rfl⟩) hW (fun r_753 L_751 h_752 H locs p_754 hW => ?_)
  obtain ⟨hr_755, hs⟩ := p_754
  have hs : hx_S P_tb [(7, 0), (7, 1), (7, 2), (7, 4), (36, 0)] L1 hl1 L_751 h_752 := hs
  have f_4 := (hs.o gq_2 trivial rfl).1.trans f_4
  have f_5 := (hs.o gq_2 trivial rfl).1.trans f_5
  have f_9 := (hs.o gq_2 trivial rfl).1.trans f_9
  have f_11 := (hs.o gq_2 trivial rfl).1.trans f_11
  have f_14 := (hs.o gq_2 trivial rfl).1.trans f_14
  have f_16 := (hs.o gq_2 trivial rfl).1.trans f_16
  have f_28 := (hs.o gq_2 trivial rfl).2.trans f_28
  have f_30 := (hs.o gq_2 trivial rfl).2.trans f_30
  have f_32 := (hs.o gq_2 trivial rfl).2.trans f_32
  have f_33 := (hs.o gq_31 trivial rfl).1.trans f_33
  have f_35 := (hs.o gq_31 trivial rfl).2.trans f_35
  have f_38 := (hs.o gq_2 trivial rfl).2.trans f_38
  have f_40 := (hs.o gq_2 trivial rfl).2.trans f_40
  have f_42 := (hs.o gq_2 trivial rfl).2.trans f_42
  have f_43 := (hs.o gq_41 trivial rfl).1.trans f_43
  have f_45 := (hs.o gq_2 trivial rfl).2.trans f_45
  have f_46 := (hs.o gq_44 trivial rfl).1.trans f_46
  have f_48 := (hs.o gq_2 trivial rfl).2.trans f_48
  have f_49 := (hs.o gq_47 trivial rfl).1.trans f_49
  have f_51 := (hs.o gq_2 trivial rfl).2.trans f_51
  have f_54 := (hs.o gq_50 trivial rfl).2.trans f_54
  have f_56 := (hs.o gq_2 trivial rfl).2.trans f_56
  have f_57 := (hs.o gq_55 trivial rfl).1.trans f_57
  have f_58 := (hs.o gq_55 trivial rfl).1.trans f_58
  have f_61 := (hs.o gq_60 trivial rfl).1.trans f_61
  have f_62 := (hs.o gq_60 trivial rfl).1.trans f_62
  have f_68 := (hs.o gq_60 trivial rfl).1.trans f_68
  have f_69 := (hs.o gq_60 trivial rfl).1.trans f_69
  have f_70 := (hs.o gq_60 trivial rfl).1.trans f_70
  have f_71 := (hs.o gq_60 trivial rfl).1.trans f_71
  have f_72 := (hs.o gq_60 trivial rfl).1.trans f_72
  have f_74 := (hs.o gq_60 trivial rfl).1.trans f_74
  have f_81 := (hs.o gq_60 trivial rfl).1.trans f_81
  have f_90 := (hs.o gq_60 trivial rfl).1.trans f_90
  have f_97 := (hs.o gq_60 trivial rfl).1.trans f_97
  have f_118 := (hs.o gq_60 trivial rfl).1.trans f_118
  have f_120 := (hs.o gq_60 trivial rfl).1.trans f_120
  have f_128 := (hs.o gq_60 trivial rfl).1.trans f_128
  have f_129 := (hs.o gq_60 trivial rfl).1.trans f_129
  have f_130 := (hs.o gq_60 trivial rfl).1.trans f_130
  have f_131 := (hs.o gq_60 trivial rfl).1.trans f_131
  have f_132 := (hs.o gq_60 trivial rfl).1.trans f_132
  have f_133 := (hs.o gq_60 trivial rfl).1.trans f_133
  have f_136 := (hs.o gq_60 trivial rfl).1.trans f_136
  have f_144 := (hs.o gq_60 trivial rfl).1.trans f_144
  have f_145 := (hs.o gq_60 trivial rfl).1.trans f_145
  have f_147 := (hs.o gq_60 trivial rfl).1.trans f_147
  have f_148 := (hs.o gq_60 trivial rfl).1.trans f_148
  have f_151 := (hs.o gq_60 trivial rfl).1.trans f_151
  have f_153 := (hs.o gq_60 trivial rfl).1.trans f_153
  have f_156 := (hs.o gq_60 trivial rfl).1.trans f_156
  have f_157 := (hs.o gq_60 trivial rfl).1.trans f_157
  have f_164 := (hs.o gq_60 trivial rfl).2.trans f_164
  have f_166 := (hs.o gq_60 trivial rfl).2.trans f_166
  have f_169 := (hs.o gq_60 trivial rfl).2.trans f_169
  have f_171 := (hs.o gq_60 trivial rfl).2.trans f_171
  have f_173 := (hs.o gq_60 trivial rfl).2.trans f_173
  have f_175 := (hs.o gq_60 trivial rfl).2.trans f_175
  have f_177 := (hs.o gq_60 trivial rfl).2.trans f_177
  have f_179 := (hs.o gq_60 trivial rfl).2.trans f_179
  have f_181 := (hs.o gq_60 trivial rfl).2.trans f_181
  have f_183 := (hs.o gq_60 trivial rfl).2.trans f_183
  have f_185 := (hs.o gq_60 trivial rfl).2.trans f_185
  have f_187 := (hs.o gq_60 trivial rfl).2.trans f_187
  have f_189 := (hs.o gq_60 trivial rfl).2.trans f_189
  have f_191 := (hs.o gq_60 trivial rfl).2.trans f_191
  have f_193 := (hs.o gq_60 trivial rfl).2.trans f_193
  have fa_36 : ∀ j, j < 14 → _ = P_wo j := fun j hj => (hs.a gq_34 rfl j).1.trans (fa_36 j hj)
  have fa_167 : ∀ j, j < 13 → _ = P_w1 j := fun j hj => (hs.a gq_165 rfl j).1.trans (fa_167 j hj)
  have gq_2 := gq_2.S hs
  have gq_27 := gq_27.S hs
  have gq_29 := gq_29.S hs
  have gq_31 := gq_31.S hs
  have gq_34 := gq_34.S hs
  have gq_37 := gq_37.S hs
  have gq_39 := gq_39.S hs
  have gq_41 := gq_41.S hs
  have gq_44 := gq_44.S hs
  have gq_47 := gq_47.S hs
  have gq_50 := gq_50.S hs
  have gq_53 := gq_53.S hs
  have gq_55 := gq_55.S hs
  have gq_60 := gq_60.S hs
  have gq_163 := gq_163.S hs
  have gq_165 := gq_165.S hs
  have gq_168 := gq_168.S hs
  have gq_170 := gq_170.S hs
  have gq_172 := gq_172.S hs
  have gq_174 := gq_174.S hs
  have gq_176 := gq_176.S hs
  have gq_178 := gq_178.S hs
  have gq_180 := gq_180.S hs
  have gq_182 := gq_182.S hs
  have gq_184 := gq_184.S hs
  have gq_186 := gq_186.S hs
  have gq_188 := gq_188.S hs
  have gq_190 := gq_190.S hs
  have gq_192 := gq_192.S hs
  refine lv_aload_n hx hb dL_law_1199 rfl (lv_at hl 1 rfl) ?_
  refine hx_goi (hx_runV (As := []) (rest := [.int r_753]) ⟨hx, hb, hml, hown, hts⟩ hW gq_60 td_10 (T := TX10) (N := 98) rfl (c_X10_net l dC dI dA L_751 h_752 H.size q_60 gq_60 q_190 gq_190 f_191 f_97 f_81) (cwV 0 hts (hx_gV kw_1690 kw_1687 kw_1688 kw_1689 kw_103) rfl rfl rfl (by decide +kernel) ⟨Nat.le_of_ble_eq_true rfl, Nat.le_of_ble_eq_true rfl⟩) rfl hl.1 rfl (Nat.le_of_ble_eq_true rfl) dL_law_1200 ⟨Nat.le_of_ble_eq_true rfl, Nat.le_of_ble_eq_true rfl⟩) hW (fun r_758 L_756 h_757 H locs p_759 hW => ?_)
  obtain ⟨hr_760, hs⟩ := p_759
  have hs : hx_S P_tb [(10, 83), (10, 84), (10, 86), (10, 87), (108, 0)] L_751 h_752 L_756 h_757 := hs
  have f_4 := (hs.o gq_2 trivial rfl).1.trans f_4
  have f_5 := (hs.o gq_2 trivial rfl).1.trans f_5
  have f_9 := (hs.o gq_2 trivial rfl).1.trans f_9
  have f_11 := (hs.o gq_2 trivial rfl).1.trans f_11
  have f_14 := (hs.o gq_2 trivial rfl).1.trans f_14
  have f_16 := (hs.o gq_2 trivial rfl).1.trans f_16
  have f_28 := (hs.o gq_2 trivial rfl).2.trans f_28
  have f_30 := (hs.o gq_2 trivial rfl).2.trans f_30
  have f_32 := (hs.o gq_2 trivial rfl).2.trans f_32
  have f_33 := (hs.o gq_31 trivial rfl).1.trans f_33
  have f_35 := (hs.o gq_31 trivial rfl).2.trans f_35
  have f_38 := (hs.o gq_2 trivial rfl).2.trans f_38
  have f_40 := (hs.o gq_2 trivial rfl).2.trans f_40
  have f_42 := (hs.o gq_2 trivial rfl).2.trans f_42
  have f_43 := (hs.o gq_41 trivial rfl).1.trans f_43
  have f_45 := (hs.o gq_2 trivial rfl).2.trans f_45
  have f_46 := (hs.o gq_44 trivial rfl).1.trans f_46
  have f_48 := (hs.o gq_2 trivial rfl).2.trans f_48
  have f_49 := (hs.o gq_47 trivial rfl).1.trans f_49
  have f_51 := (hs.o gq_2 trivial rfl).2.trans f_51
  have f_54 := (hs.o gq_50 trivial rfl).2.trans f_54
  have f_56 := (hs.o gq_2 trivial rfl).2.trans f_56
  have f_57 := (hs.o gq_55 trivial rfl).1.trans f_57
  have f_58 := (hs.o gq_55 trivial rfl).1.trans f_58
  have f_61 := (hs.o gq_60 trivial rfl).1.trans f_61
  have f_62 := (hs.o gq_60 trivial rfl).1.trans f_62
  have f_68 := (hs.o gq_60 trivial rfl).1.trans f_68
  have f_69 := (hs.o gq_60 trivial rfl).1.trans f_69
  have f_70 := (hs.o gq_60 trivial rfl).1.trans f_70
  have f_71 := (hs.o gq_60 trivial rfl).1.trans f_71
  have f_72 := (hs.o gq_60 trivial rfl).1.trans f_72
  have f_74 := (hs.o gq_60 trivial rfl).1.trans f_74
  have f_81 := (hs.o gq_60 trivial rfl).1.trans f_81
  have f_90 := (hs.o gq_60 trivial rfl).1.trans f_90
  have f_97 := (hs.o gq_60 trivial rfl).1.trans f_97
  have f_118 := (hs.o gq_60 trivial rfl).1.trans f_118
  have f_120 := (hs.o gq_60 trivial rfl).1.trans f_120
  have f_128 := (hs.o gq_60 trivial rfl).1.trans f_128
  have f_129 := (hs.o gq_60 trivial rfl).1.trans f_129
  have f_130 := (hs.o gq_60 trivial rfl).1.trans f_130
  have f_131 := (hs.o gq_60 trivial rfl).1.trans f_131
  have f_132 := (hs.o gq_60 trivial rfl).1.trans f_132
  have f_133 := (hs.o gq_60 trivial rfl).1.trans f_133
  have f_136 := (hs.o gq_60 trivial rfl).1.trans f_136
  have f_151 := (hs.o gq_60 trivial rfl).1.trans f_151
  have f_153 := (hs.o gq_60 trivial rfl).1.trans f_153
  have f_156 := (hs.o gq_60 trivial rfl).1.trans f_156
  have f_157 := (hs.o gq_60 trivial rfl).1.trans f_157
  have f_164 := (hs.o gq_60 trivial rfl).2.trans f_164
  have f_166 := (hs.o gq_60 trivial rfl).2.trans f_166
  have f_169 := (hs.o gq_60 trivial rfl).2.trans f_169
  have f_171 := (hs.o gq_60 trivial rfl).2.trans f_171
  have f_173 := (hs.o gq_60 trivial rfl).2.trans f_173
  have f_175 := (hs.o gq_60 trivial rfl).2.trans f_175
  have f_177 := (hs.o gq_60 trivial rfl).2.trans f_177
  have f_179 := (hs.o gq_60 trivial rfl).2.trans f_179
  have f_181 := (hs.o gq_60 trivial rfl).2.trans f_181
  have f_183 := (hs.o gq_60 trivial rfl).2.trans f_183
  have f_185 := (hs.o gq_60 trivial rfl).2.trans f_185
  have f_187 := (hs.o gq_60 trivial rfl).2.trans f_187
  have f_189 := (hs.o gq_60 trivial rfl).2.trans f_189
  have f_191 := (hs.o gq_60 trivial rfl).2.trans f_191
  have f_193 := (hs.o gq_60 trivial rfl).2.trans f_193
  have fa_36 : ∀ j, j < 14 → _ = P_wo j := fun j hj => (hs.a gq_34 rfl j).1.trans (fa_36 j hj)
  have fa_167 : ∀ j, j < 13 → _ = P_w1 j := fun j hj => (hs.a gq_165 rfl j).1.trans (fa_167 j hj)
  have gq_2 := gq_2.S hs
  have gq_27 := gq_27.S hs
  have gq_29 := gq_29.S hs
  have gq_31 := gq_31.S hs
  have gq_34 := gq_34.S hs
  have gq_37 := gq_37.S hs
  have gq_39 := gq_39.S hs
  have gq_41 := gq_41.S hs
  have gq_44 := gq_44.S hs
  have gq_47 := gq_47.S hs
  have gq_50 := gq_50.S hs
  have gq_53 := gq_53.S hs
  have gq_55 := gq_55.S hs
  have gq_60 := gq_60.S hs
  have gq_163 := gq_163.S hs
  have gq_165 := gq_165.S hs
  have gq_168 := gq_168.S hs
  have gq_170 := gq_170.S hs
  have gq_172 := gq_172.S hs
  have gq_174 := gq_174.S hs
  have gq_176 := gq_176.S hs
  have gq_178 := gq_178.S hs
  have gq_180 := gq_180.S hs
  have gq_182 := gq_182.S hs
  have gq_184 := gq_184.S hs
  have gq_186 := gq_186.S hs
  have gq_188 := gq_188.S hs
  have gq_190 := gq_190.S hs
  have gq_192 := gq_192.S hs
  have heq : r_753 = r_758 := by
    first | exact hr_755.trans hr_760.symm | (rcases hr_755 with ⟨k1, k2⟩ | ⟨k1, k2⟩ <;> rcases hr_760 with ⟨k3, k4⟩ | ⟨k3, k4⟩ <;> first | exact k2.trans k4.symm | (exfalso; omega) | exact absurd k1 k3 | exact absurd k3 k1)
  refine hb_icmp_eq (zx := r_753.toInt) (zy := r_758.toInt) (tgt := 1379) hx hb rfl rfl dL_law_1203 (by decide) (fun c_761 => ?_) (fun c_761 => absurd (congrArg Int32.toInt heq) c_761)
  exact law_tail hx hb hr hlocks hX hbl hbA hL7 _ _ hW.2.2.2.1 ls hl (Nat.le_of_ble_eq_true rfl) (Nat.le_of_ble_eq_true rfl)

set_option maxHeartbeats 4000000 in
set_option maxRecDepth 100000 in
theorem law_case_24 {p : Program} {e : Env} {s : State} {m : MethodId} {below : List Frame} {meth : Method} {c : Code} (l : Launch) {b LN : Nat} {xs : Nat → Int32} (hx : p.tables.exec = Jvm.exec) (hb : c.code = code) (hr : meth.sig.returnType = ret) (hlocks : meth.locks = false) (hml : c.maxLocals = 4) (hown : s.vm.findClass "SmallCourtLaw" = some m.cls) (hts : ∀ w ∈ hx_all, w.before #[Value.ref b] s = true) (hX : va_X b LN xs s s.heap) (hbl : b < s.heap.size) (hbA : ¬ s.heap.size ≤ b) (hL7 : LN = 7) (dC : Nat → ClassId) (dI : Nat → Nat → Nat) (dA : Nat → ClassId) (b0 : Nat) (q_2 q_27 q_29 q_31 q_34 q_37 q_39 q_41 q_44 q_47 q_50 q_53 q_55 q_60 q_163 q_165 q_168 q_170 q_172 q_174 q_176 q_178 q_180 q_182 q_184 q_186 q_188 q_190 q_192 : Nat) (L1 : List Nat) (hl1 : hx_h) (H : Heap) (locs : List Loc) (ls : Array Slot) (hW : hx_W P_tb (P_ty dA) (dC, dI) vwCl (fun q : Nat => s.heap.size ≤ q) s.heap L1 hl1 s H locs) (hZ : hx_Xt (fun q : Nat => s.heap.size ≤ q) b0 s) (f_4 : hl1.2.1 q_2 1 = (0 : Int32)) (f_5 : hl1.2.1 q_2 2 = (0 : Int32)) (f_9 : hl1.2.1 q_2 6 = (0 : Int32)) (f_11 : hl1.2.1 q_2 8 = (0 : Int32)) (f_14 : hl1.2.1 q_2 11 = (0 : Int32)) (f_16 : hl1.2.1 q_2 13 = (0 : Int32)) (f_28 : hl1.2.2 q_2 0 = some q_27) (f_30 : hl1.2.2 q_2 3 = some q_29) (f_32 : hl1.2.2 q_2 4 = some q_31) (f_33 : hl1.2.1 q_31 0 = (-1 : Int32)) (f_35 : hl1.2.2 q_31 2 = some q_34) (f_38 : hl1.2.2 q_2 5 = some q_37) (f_40 : hl1.2.2 q_2 7 = some q_39) (f_42 : hl1.2.2 q_2 9 = some q_41) (f_43 : hl1.2.1 q_41 0 = (0 : Int32)) (f_45 : hl1.2.2 q_2 14 = some q_44) (f_46 : hl1.2.1 q_44 0 = (0 : Int32)) (f_48 : hl1.2.2 q_2 17 = some q_47) (f_49 : hl1.2.1 q_47 1 = (0 : Int32)) (f_51 : hl1.2.2 q_2 18 = some q_50) (f_52 : hl1.2.1 q_50 0 = (-1 : Int32)) (f_54 : hl1.2.2 q_50 5 = some q_53) (f_56 : hl1.2.2 q_2 19 = some q_55) (f_57 : hl1.2.1 q_55 0 = (0 : Int32)) (f_58 : hl1.2.1 q_55 1 = (0 : Int32)) (f_61 : hl1.2.1 q_60 0 = (0 : Int32)) (f_62 : hl1.2.1 q_60 1 = (0 : Int32)) (f_68 : hl1.2.1 q_60 7 = (0 : Int32)) (f_69 : hl1.2.1 q_60 8 = (0 : Int32)) (f_70 : hl1.2.1 q_60 9 = (0 : Int32)) (f_71 : hl1.2.1 q_60 10 = (0 : Int32)) (f_72 : hl1.2.1 q_60 11 = (0 : Int32)) (f_74 : hl1.2.1 q_60 13 = (0 : Int32)) (f_81 : hl1.2.1 q_60 20 = (0 : Int32)) (f_90 : hl1.2.1 q_60 29 = (0 : Int32)) (f_97 : hl1.2.1 q_60 36 = (0 : Int32)) (f_118 : hl1.2.1 q_60 57 = (0 : Int32)) (f_120 : hl1.2.1 q_60 59 = (0 : Int32)) (f_128 : hl1.2.1 q_60 67 = (0 : Int32)) (f_129 : hl1.2.1 q_60 68 = (0 : Int32)) (f_130 : hl1.2.1 q_60 69 = (0 : Int32)) (f_131 : hl1.2.1 q_60 70 = (0 : Int32)) (f_132 : hl1.2.1 q_60 71 = (0 : Int32)) (f_133 : hl1.2.1 q_60 72 = (0 : Int32)) (f_136 : hl1.2.1 q_60 75 = (0 : Int32)) (f_144 : hl1.2.1 q_60 83 = (0 : Int32)) (f_145 : hl1.2.1 q_60 84 = (0 : Int32)) (f_147 : hl1.2.1 q_60 86 = (0 : Int32)) (f_148 : hl1.2.1 q_60 87 = (0 : Int32)) (f_151 : hl1.2.1 q_60 90 = (0 : Int32)) (f_153 : hl1.2.1 q_60 92 = (0 : Int32)) (f_156 : hl1.2.1 q_60 95 = (0 : Int32)) (f_157 : hl1.2.1 q_60 96 = (0 : Int32)) (f_164 : hl1.2.2 q_60 2 = some q_163) (f_166 : hl1.2.2 q_60 3 = some q_165) (f_169 : hl1.2.2 q_60 4 = some q_168) (f_171 : hl1.2.2 q_60 5 = some q_170) (f_173 : hl1.2.2 q_60 6 = some q_172) (f_175 : hl1.2.2 q_60 12 = some q_174) (f_177 : hl1.2.2 q_60 15 = some q_176) (f_179 : hl1.2.2 q_60 21 = some q_178) (f_181 : hl1.2.2 q_60 22 = some q_180) (f_183 : hl1.2.2 q_60 23 = some q_182) (f_185 : hl1.2.2 q_60 24 = some q_184) (f_187 : hl1.2.2 q_60 25 = some q_186) (f_189 : hl1.2.2 q_60 26 = some q_188) (f_191 : hl1.2.2 q_60 82 = some q_190) (f_193 : hl1.2.2 q_60 94 = some q_192) (fa_36 : ∀ j, j < 14 → hl1.2.1 q_34 j = P_wo j) (fa_167 : ∀ j, j < 13 → hl1.2.1 q_165 j = P_w1 j) (gq_2 : hx_g L1 hl1 q_2 9) (gq_27 : hx_g L1 hl1 q_27 42) (gq_29 : hx_g L1 hl1 q_29 6) (gq_31 : hx_g L1 hl1 q_31 0) (gq_34 : hx_g L1 hl1 q_34 11) (gq_37 : hx_g L1 hl1 q_37 43) (gq_39 : hx_g L1 hl1 q_39 44) (gq_41 : hx_g L1 hl1 q_41 1) (gq_44 : hx_g L1 hl1 q_44 3) (gq_47 : hx_g L1 hl1 q_47 5) (gq_50 : hx_g L1 hl1 q_50 7) (gq_53 : hx_g L1 hl1 q_53 36) (gq_55 : hx_g L1 hl1 q_55 8) (gq_60 : hx_g L1 hl1 q_60 10) (gq_163 : hx_g L1 hl1 q_163 49) (gq_165 : hx_g L1 hl1 q_165 50) (gq_168 : hx_g L1 hl1 q_168 51) (gq_170 : hx_g L1 hl1 q_170 52) (gq_172 : hx_g L1 hl1 q_172 53) (gq_174 : hx_g L1 hl1 q_174 54) (gq_176 : hx_g L1 hl1 q_176 55) (gq_178 : hx_g L1 hl1 q_178 58) (gq_180 : hx_g L1 hl1 q_180 59) (gq_182 : hx_g L1 hl1 q_182 60) (gq_184 : hx_g L1 hl1 q_184 61) (gq_186 : hx_g L1 hl1 q_186 62) (gq_188 : hx_g L1 hl1 q_188 63) (gq_190 : hx_g L1 hl1 q_190 108) (gq_192 : hx_g L1 hl1 q_192 114) (hl : lv_has ls 4 [(3, .int (0 : Int32)), (2, .ref q_60), (1, .ref q_2), (0, .ref b)]) : W p l e room_1 s m #[Value.ref b] below meth c H locs 112 26072 (lw_Z below #[Value.ref b] s) (F0 m 1208 ls []) := by
  refine lv_aload_n hx hb dL_law_1208 rfl (lv_at hl 2 rfl) ?_
  refine lv_aload_n hx hb dL_law_1209 rfl (lv_at hl 3 rfl) ?_
  refine lv_iload_n hx hb dL_law_1210 rfl (lv_at hl 0 rfl) ?_
  refine lv_iconst (v := 1) hx hb dL_law_1211 (by decide) ?_
  refine lv_iadd hx hb dL_law_1212 ?_
  refine lv_topi (fun x_762 ex_762 => ?_)
  obtain rfl : x_762 = (1 : Int32) := ex_762.trans (by decide)
  refine va_sld hx hb hX hbl hbA hW.2.2.2.1 (vp_in_iff.mpr (by rw [hL7]; decide)) dL_law_1213 ?_
  rw [show (1 : Int32).toNatClampNeg = 1 from by decide]
  refine hx_goi (hx_runV (As := [.int (xs 1)]) (rest := []) ⟨hx, hb, hml, hown, hts⟩ hW gq_2 td_9 (T := TX9) (N := 20) rfl (c_X9_netted l dC dI dA L1 hl1 H.size q_2 (xs 1) gq_2 q_50 gq_50 f_51 f_52) (cwV 1 hts (hx_gV kw_1035 kw_1032 kw_1033 kw_1034 kw_94) rfl rfl rfl (by decide +kernel) ⟨Nat.le_of_ble_eq_true rfl, Nat.le_of_ble_eq_true rfl⟩) rfl hl.1 rfl (Nat.le_of_ble_eq_true rfl) dL_law_1214 ⟨Nat.le_of_ble_eq_true rfl, Nat.le_of_ble_eq_true rfl⟩) hW (fun r_765 L_763 h_764 H locs p_766 hW => ?_)
  obtain ⟨hr_767, hs⟩ := p_766
  have hs : hx_S P_tb [] L1 hl1 L_763 h_764 := hs
  have f_4 := (hs.o gq_2 trivial rfl).1.trans f_4
  have f_5 := (hs.o gq_2 trivial rfl).1.trans f_5
  have f_9 := (hs.o gq_2 trivial rfl).1.trans f_9
  have f_11 := (hs.o gq_2 trivial rfl).1.trans f_11
  have f_14 := (hs.o gq_2 trivial rfl).1.trans f_14
  have f_16 := (hs.o gq_2 trivial rfl).1.trans f_16
  have f_28 := (hs.o gq_2 trivial rfl).2.trans f_28
  have f_30 := (hs.o gq_2 trivial rfl).2.trans f_30
  have f_32 := (hs.o gq_2 trivial rfl).2.trans f_32
  have f_33 := (hs.o gq_31 trivial rfl).1.trans f_33
  have f_35 := (hs.o gq_31 trivial rfl).2.trans f_35
  have f_38 := (hs.o gq_2 trivial rfl).2.trans f_38
  have f_40 := (hs.o gq_2 trivial rfl).2.trans f_40
  have f_42 := (hs.o gq_2 trivial rfl).2.trans f_42
  have f_43 := (hs.o gq_41 trivial rfl).1.trans f_43
  have f_45 := (hs.o gq_2 trivial rfl).2.trans f_45
  have f_46 := (hs.o gq_44 trivial rfl).1.trans f_46
  have f_48 := (hs.o gq_2 trivial rfl).2.trans f_48
  have f_49 := (hs.o gq_47 trivial rfl).1.trans f_49
  have f_51 := (hs.o gq_2 trivial rfl).2.trans f_51
  have f_52 := (hs.o gq_50 trivial rfl).1.trans f_52
  have f_54 := (hs.o gq_50 trivial rfl).2.trans f_54
  have f_56 := (hs.o gq_2 trivial rfl).2.trans f_56
  have f_57 := (hs.o gq_55 trivial rfl).1.trans f_57
  have f_58 := (hs.o gq_55 trivial rfl).1.trans f_58
  have f_61 := (hs.o gq_60 trivial rfl).1.trans f_61
  have f_62 := (hs.o gq_60 trivial rfl).1.trans f_62
  have f_68 := (hs.o gq_60 trivial rfl).1.trans f_68
  have f_69 := (hs.o gq_60 trivial rfl).1.trans f_69
  have f_70 := (hs.o gq_60 trivial rfl).1.trans f_70
  have f_71 := (hs.o gq_60 trivial rfl).1.trans f_71
  have f_72 := (hs.o gq_60 trivial rfl).1.trans f_72
  have f_74 := (hs.o gq_60 trivial rfl).1.trans f_74
  have f_81 := (hs.o gq_60 trivial rfl).1.trans f_81
  have f_90 := (hs.o gq_60 trivial rfl).1.trans f_90
  have f_97 := (hs.o gq_60 trivial rfl).1.trans f_97
  have f_118 := (hs.o gq_60 trivial rfl).1.trans f_118
  have f_120 := (hs.o gq_60 trivial rfl).1.trans f_120
  have f_128 := (hs.o gq_60 trivial rfl).1.trans f_128
  have f_129 := (hs.o gq_60 trivial rfl).1.trans f_129
  have f_130 := (hs.o gq_60 trivial rfl).1.trans f_130
  have f_131 := (hs.o gq_60 trivial rfl).1.trans f_131
  have f_132 := (hs.o gq_60 trivial rfl).1.trans f_132
  have f_133 := (hs.o gq_60 trivial rfl).1.trans f_133
  have f_136 := (hs.o gq_60 trivial rfl).1.trans f_136
  have f_144 := (hs.o gq_60 trivial rfl).1.trans f_144
  have f_145 := (hs.o gq_60 trivial rfl).1.trans f_145
  have f_147 := (hs.o gq_60 trivial rfl).1.trans f_147
  have f_148 := (hs.o gq_60 trivial rfl).1.trans f_148
  have f_151 := (hs.o gq_60 trivial rfl).1.trans f_151
  have f_153 := (hs.o gq_60 trivial rfl).1.trans f_153
  have f_156 := (hs.o gq_60 trivial rfl).1.trans f_156
  have f_157 := (hs.o gq_60 trivial rfl).1.trans f_157
  have f_164 := (hs.o gq_60 trivial rfl).2.trans f_164
  have f_166 := (hs.o gq_60 trivial rfl).2.trans f_166
  have f_169 := (hs.o gq_60 trivial rfl).2.trans f_169
  have f_171 := (hs.o gq_60 trivial rfl).2.trans f_171
  have f_173 := (hs.o gq_60 trivial rfl).2.trans f_173
  have f_175 := (hs.o gq_60 trivial rfl).2.trans f_175
  have f_177 := (hs.o gq_60 trivial rfl).2.trans f_177
  have f_179 := (hs.o gq_60 trivial rfl).2.trans f_179
  have f_181 := (hs.o gq_60 trivial rfl).2.trans f_181
  have f_183 := (hs.o gq_60 trivial rfl).2.trans f_183
  have f_185 := (hs.o gq_60 trivial rfl).2.trans f_185
  have f_187 := (hs.o gq_60 trivial rfl).2.trans f_187
  have f_189 := (hs.o gq_60 trivial rfl).2.trans f_189
  have f_191 := (hs.o gq_60 trivial rfl).2.trans f_191
  have f_193 := (hs.o gq_60 trivial rfl).2.trans f_193
  have fa_36 : ∀ j, j < 14 → _ = P_wo j := fun j hj => (hs.a gq_34 rfl j).1.trans (fa_36 j hj)
  have fa_167 : ∀ j, j < 13 → _ = P_w1 j := fun j hj => (hs.a gq_165 rfl j).1.trans (fa_167 j hj)
  have gq_2 := gq_2.S hs
  have gq_27 := gq_27.S hs
  have gq_29 := gq_29.S hs
  have gq_31 := gq_31.S hs
  have gq_34 := gq_34.S hs
  have gq_37 := gq_37.S hs
  have gq_39 := gq_39.S hs
  have gq_41 := gq_41.S hs
  have gq_44 := gq_44.S hs
  have gq_47 := gq_47.S hs
  have gq_50 := gq_50.S hs
  have gq_53 := gq_53.S hs
  have gq_55 := gq_55.S hs
  have gq_60 := gq_60.S hs
  have gq_163 := gq_163.S hs
  have gq_165 := gq_165.S hs
  have gq_168 := gq_168.S hs
  have gq_170 := gq_170.S hs
  have gq_172 := gq_172.S hs
  have gq_174 := gq_174.S hs
  have gq_176 := gq_176.S hs
  have gq_178 := gq_178.S hs
  have gq_180 := gq_180.S hs
  have gq_182 := gq_182.S hs
  have gq_184 := gq_184.S hs
  have gq_186 := gq_186.S hs
  have gq_188 := gq_188.S hs
  have gq_190 := gq_190.S hs
  have gq_192 := gq_192.S hs
  refine lv_aload_n hx hb dL_law_1217 rfl (lv_at hl 1 rfl) ?_
  refine lv_aload_n hx hb dL_law_1218 rfl (lv_at hl 3 rfl) ?_
  refine lv_iload_n hx hb dL_law_1219 rfl (lv_at hl 0 rfl) ?_
  refine lv_iconst (v := 1) hx hb dL_law_1220 (by decide) ?_
  refine lv_iadd hx hb dL_law_1221 ?_
  refine lv_topi (fun x_768 ex_768 => ?_)
  obtain rfl : x_768 = (1 : Int32) := ex_768.trans (by decide)
  refine va_sld hx hb hX hbl hbA hW.2.2.2.1 (vp_in_iff.mpr (by rw [hL7]; decide)) dL_law_1222 ?_
  rw [show (1 : Int32).toNatClampNeg = 1 from by decide]
  refine hx_goi (hx_runV (As := [.int (xs 1)]) (rest := [.int r_765]) ⟨hx, hb, hml, hown, hts⟩ hW gq_60 td_10 (T := TX10) (N := 98) rfl (c_X10_netted l dC dI dA L_763 h_764 H.size q_60 (xs 1) gq_60 f_144) (cwV 1 hts (hx_gV kw_1713 kw_1710 kw_1711 kw_1712 kw_103) rfl rfl rfl (by decide +kernel) ⟨Nat.le_of_ble_eq_true rfl, Nat.le_of_ble_eq_true rfl⟩) rfl hl.1 rfl (Nat.le_of_ble_eq_true rfl) dL_law_1223 ⟨Nat.le_of_ble_eq_true rfl, Nat.le_of_ble_eq_true rfl⟩) hW (fun r_771 L_769 h_770 H locs p_772 hW => ?_)
  obtain ⟨hr_773, hs⟩ := p_772
  have hs : hx_S P_tb [] L_763 h_764 L_769 h_770 := hs
  have f_4 := (hs.o gq_2 trivial rfl).1.trans f_4
  have f_5 := (hs.o gq_2 trivial rfl).1.trans f_5
  have f_9 := (hs.o gq_2 trivial rfl).1.trans f_9
  have f_11 := (hs.o gq_2 trivial rfl).1.trans f_11
  have f_14 := (hs.o gq_2 trivial rfl).1.trans f_14
  have f_16 := (hs.o gq_2 trivial rfl).1.trans f_16
  have f_28 := (hs.o gq_2 trivial rfl).2.trans f_28
  have f_30 := (hs.o gq_2 trivial rfl).2.trans f_30
  have f_32 := (hs.o gq_2 trivial rfl).2.trans f_32
  have f_33 := (hs.o gq_31 trivial rfl).1.trans f_33
  have f_35 := (hs.o gq_31 trivial rfl).2.trans f_35
  have f_38 := (hs.o gq_2 trivial rfl).2.trans f_38
  have f_40 := (hs.o gq_2 trivial rfl).2.trans f_40
  have f_42 := (hs.o gq_2 trivial rfl).2.trans f_42
  have f_43 := (hs.o gq_41 trivial rfl).1.trans f_43
  have f_45 := (hs.o gq_2 trivial rfl).2.trans f_45
  have f_46 := (hs.o gq_44 trivial rfl).1.trans f_46
  have f_48 := (hs.o gq_2 trivial rfl).2.trans f_48
  have f_49 := (hs.o gq_47 trivial rfl).1.trans f_49
  have f_51 := (hs.o gq_2 trivial rfl).2.trans f_51
  have f_52 := (hs.o gq_50 trivial rfl).1.trans f_52
  have f_54 := (hs.o gq_50 trivial rfl).2.trans f_54
  have f_56 := (hs.o gq_2 trivial rfl).2.trans f_56
  have f_57 := (hs.o gq_55 trivial rfl).1.trans f_57
  have f_58 := (hs.o gq_55 trivial rfl).1.trans f_58
  have f_61 := (hs.o gq_60 trivial rfl).1.trans f_61
  have f_62 := (hs.o gq_60 trivial rfl).1.trans f_62
  have f_68 := (hs.o gq_60 trivial rfl).1.trans f_68
  have f_69 := (hs.o gq_60 trivial rfl).1.trans f_69
  have f_70 := (hs.o gq_60 trivial rfl).1.trans f_70
  have f_71 := (hs.o gq_60 trivial rfl).1.trans f_71
  have f_72 := (hs.o gq_60 trivial rfl).1.trans f_72
  have f_74 := (hs.o gq_60 trivial rfl).1.trans f_74
  have f_81 := (hs.o gq_60 trivial rfl).1.trans f_81
  have f_90 := (hs.o gq_60 trivial rfl).1.trans f_90
  have f_97 := (hs.o gq_60 trivial rfl).1.trans f_97
  have f_118 := (hs.o gq_60 trivial rfl).1.trans f_118
  have f_120 := (hs.o gq_60 trivial rfl).1.trans f_120
  have f_128 := (hs.o gq_60 trivial rfl).1.trans f_128
  have f_129 := (hs.o gq_60 trivial rfl).1.trans f_129
  have f_130 := (hs.o gq_60 trivial rfl).1.trans f_130
  have f_131 := (hs.o gq_60 trivial rfl).1.trans f_131
  have f_132 := (hs.o gq_60 trivial rfl).1.trans f_132
  have f_133 := (hs.o gq_60 trivial rfl).1.trans f_133
  have f_136 := (hs.o gq_60 trivial rfl).1.trans f_136
  have f_144 := (hs.o gq_60 trivial rfl).1.trans f_144
  have f_145 := (hs.o gq_60 trivial rfl).1.trans f_145
  have f_147 := (hs.o gq_60 trivial rfl).1.trans f_147
  have f_148 := (hs.o gq_60 trivial rfl).1.trans f_148
  have f_151 := (hs.o gq_60 trivial rfl).1.trans f_151
  have f_153 := (hs.o gq_60 trivial rfl).1.trans f_153
  have f_156 := (hs.o gq_60 trivial rfl).1.trans f_156
  have f_157 := (hs.o gq_60 trivial rfl).1.trans f_157
  have f_164 := (hs.o gq_60 trivial rfl).2.trans f_164
  have f_166 := (hs.o gq_60 trivial rfl).2.trans f_166
  have f_169 := (hs.o gq_60 trivial rfl).2.trans f_169
  have f_171 := (hs.o gq_60 trivial rfl).2.trans f_171
  have f_173 := (hs.o gq_60 trivial rfl).2.trans f_173
  have f_175 := (hs.o gq_60 trivial rfl).2.trans f_175
  have f_177 := (hs.o gq_60 trivial rfl).2.trans f_177
  have f_179 := (hs.o gq_60 trivial rfl).2.trans f_179
  have f_181 := (hs.o gq_60 trivial rfl).2.trans f_181
  have f_183 := (hs.o gq_60 trivial rfl).2.trans f_183
  have f_185 := (hs.o gq_60 trivial rfl).2.trans f_185
  have f_187 := (hs.o gq_60 trivial rfl).2.trans f_187
  have f_189 := (hs.o gq_60 trivial rfl).2.trans f_189
  have f_191 := (hs.o gq_60 trivial rfl).2.trans f_191
  have f_193 := (hs.o gq_60 trivial rfl).2.trans f_193
  have fa_36 : ∀ j, j < 14 → _ = P_wo j := fun j hj => (hs.a gq_34 rfl j).1.trans (fa_36 j hj)
  have fa_167 : ∀ j, j < 13 → _ = P_w1 j := fun j hj => (hs.a gq_165 rfl j).1.trans (fa_167 j hj)
  have gq_2 := gq_2.S hs
  have gq_27 := gq_27.S hs
  have gq_29 := gq_29.S hs
  have gq_31 := gq_31.S hs
  have gq_34 := gq_34.S hs
  have gq_37 := gq_37.S hs
  have gq_39 := gq_39.S hs
  have gq_41 := gq_41.S hs
  have gq_44 := gq_44.S hs
  have gq_47 := gq_47.S hs
  have gq_50 := gq_50.S hs
  have gq_53 := gq_53.S hs
  have gq_55 := gq_55.S hs
  have gq_60 := gq_60.S hs
  have gq_163 := gq_163.S hs
  have gq_165 := gq_165.S hs
  have gq_168 := gq_168.S hs
  have gq_170 := gq_170.S hs
  have gq_172 := gq_172.S hs
  have gq_174 := gq_174.S hs
  have gq_176 := gq_176.S hs
  have gq_178 := gq_178.S hs
  have gq_180 := gq_180.S hs
  have gq_182 := gq_182.S hs
  have gq_184 := gq_184.S hs
  have gq_186 := gq_186.S hs
  have gq_188 := gq_188.S hs
  have gq_190 := gq_190.S hs
  have gq_192 := gq_192.S hs
  have heq : r_765 = r_771 := by
    first | exact hr_767.trans hr_773.symm | (rcases hr_767 with ⟨k1, k2⟩ | ⟨k1, k2⟩ <;> rcases hr_773 with ⟨k3, k4⟩ | ⟨k3, k4⟩ <;> first | exact k2.trans k4.symm | (exfalso; omega) | exact absurd k1 k3 | exact absurd k3 k1)
  refine hb_icmp_eq (zx := r_765.toInt) (zy := r_771.toInt) (tgt := 1379) hx hb rfl rfl dL_law_1226 (by decide) (fun c_774 => ?_) (fun c_774 => absurd (congrArg Int32.toInt heq) c_774)
  exact law_tail hx hb hr hlocks hX hbl hbA hL7 _ _ hW.2.2.2.1 ls hl (Nat.le_of_ble_eq_true rfl) (Nat.le_of_ble_eq_true rfl)

set_option maxHeartbeats 4000000 in
set_option maxRecDepth 100000 in
theorem law_case_25 {p : Program} {e : Env} {s : State} {m : MethodId} {below : List Frame} {meth : Method} {c : Code} (l : Launch) {b LN : Nat} {xs : Nat → Int32} (hx : p.tables.exec = Jvm.exec) (hb : c.code = code) (hr : meth.sig.returnType = ret) (hlocks : meth.locks = false) (hml : c.maxLocals = 4) (hown : s.vm.findClass "SmallCourtLaw" = some m.cls) (hts : ∀ w ∈ hx_all, w.before #[Value.ref b] s = true) (hX : va_X b LN xs s s.heap) (hbl : b < s.heap.size) (hbA : ¬ s.heap.size ≤ b) (hL7 : LN = 7) (dC : Nat → ClassId) (dI : Nat → Nat → Nat) (dA : Nat → ClassId) (b0 : Nat) (q_2 q_27 q_29 q_31 q_34 q_37 q_39 q_41 q_44 q_47 q_50 q_53 q_55 q_60 q_163 q_165 q_168 q_170 q_172 q_174 q_176 q_178 q_180 q_182 q_184 q_186 q_188 q_190 q_192 : Nat) (L1 : List Nat) (hl1 : hx_h) (H : Heap) (locs : List Loc) (ls : Array Slot) (hW : hx_W P_tb (P_ty dA) (dC, dI) vwCl (fun q : Nat => s.heap.size ≤ q) s.heap L1 hl1 s H locs) (hZ : hx_Xt (fun q : Nat => s.heap.size ≤ q) b0 s) (f_4 : hl1.2.1 q_2 1 = (0 : Int32)) (f_5 : hl1.2.1 q_2 2 = (0 : Int32)) (f_9 : hl1.2.1 q_2 6 = (0 : Int32)) (f_11 : hl1.2.1 q_2 8 = (0 : Int32)) (f_14 : hl1.2.1 q_2 11 = (0 : Int32)) (f_16 : hl1.2.1 q_2 13 = (0 : Int32)) (f_28 : hl1.2.2 q_2 0 = some q_27) (f_30 : hl1.2.2 q_2 3 = some q_29) (f_32 : hl1.2.2 q_2 4 = some q_31) (f_33 : hl1.2.1 q_31 0 = (-1 : Int32)) (f_35 : hl1.2.2 q_31 2 = some q_34) (f_38 : hl1.2.2 q_2 5 = some q_37) (f_40 : hl1.2.2 q_2 7 = some q_39) (f_42 : hl1.2.2 q_2 9 = some q_41) (f_43 : hl1.2.1 q_41 0 = (0 : Int32)) (f_45 : hl1.2.2 q_2 14 = some q_44) (f_46 : hl1.2.1 q_44 0 = (0 : Int32)) (f_48 : hl1.2.2 q_2 17 = some q_47) (f_49 : hl1.2.1 q_47 1 = (0 : Int32)) (f_51 : hl1.2.2 q_2 18 = some q_50) (f_52 : hl1.2.1 q_50 0 = (-1 : Int32)) (f_54 : hl1.2.2 q_50 5 = some q_53) (f_56 : hl1.2.2 q_2 19 = some q_55) (f_57 : hl1.2.1 q_55 0 = (0 : Int32)) (f_58 : hl1.2.1 q_55 1 = (0 : Int32)) (f_61 : hl1.2.1 q_60 0 = (0 : Int32)) (f_62 : hl1.2.1 q_60 1 = (0 : Int32)) (f_68 : hl1.2.1 q_60 7 = (0 : Int32)) (f_69 : hl1.2.1 q_60 8 = (0 : Int32)) (f_70 : hl1.2.1 q_60 9 = (0 : Int32)) (f_71 : hl1.2.1 q_60 10 = (0 : Int32)) (f_72 : hl1.2.1 q_60 11 = (0 : Int32)) (f_74 : hl1.2.1 q_60 13 = (0 : Int32)) (f_81 : hl1.2.1 q_60 20 = (0 : Int32)) (f_90 : hl1.2.1 q_60 29 = (0 : Int32)) (f_97 : hl1.2.1 q_60 36 = (0 : Int32)) (f_118 : hl1.2.1 q_60 57 = (0 : Int32)) (f_120 : hl1.2.1 q_60 59 = (0 : Int32)) (f_128 : hl1.2.1 q_60 67 = (0 : Int32)) (f_129 : hl1.2.1 q_60 68 = (0 : Int32)) (f_130 : hl1.2.1 q_60 69 = (0 : Int32)) (f_131 : hl1.2.1 q_60 70 = (0 : Int32)) (f_132 : hl1.2.1 q_60 71 = (0 : Int32)) (f_133 : hl1.2.1 q_60 72 = (0 : Int32)) (f_136 : hl1.2.1 q_60 75 = (0 : Int32)) (f_144 : hl1.2.1 q_60 83 = (0 : Int32)) (f_145 : hl1.2.1 q_60 84 = (0 : Int32)) (f_147 : hl1.2.1 q_60 86 = (0 : Int32)) (f_148 : hl1.2.1 q_60 87 = (0 : Int32)) (f_151 : hl1.2.1 q_60 90 = (0 : Int32)) (f_153 : hl1.2.1 q_60 92 = (0 : Int32)) (f_156 : hl1.2.1 q_60 95 = (0 : Int32)) (f_157 : hl1.2.1 q_60 96 = (0 : Int32)) (f_164 : hl1.2.2 q_60 2 = some q_163) (f_166 : hl1.2.2 q_60 3 = some q_165) (f_169 : hl1.2.2 q_60 4 = some q_168) (f_171 : hl1.2.2 q_60 5 = some q_170) (f_173 : hl1.2.2 q_60 6 = some q_172) (f_175 : hl1.2.2 q_60 12 = some q_174) (f_177 : hl1.2.2 q_60 15 = some q_176) (f_179 : hl1.2.2 q_60 21 = some q_178) (f_181 : hl1.2.2 q_60 22 = some q_180) (f_183 : hl1.2.2 q_60 23 = some q_182) (f_185 : hl1.2.2 q_60 24 = some q_184) (f_187 : hl1.2.2 q_60 25 = some q_186) (f_189 : hl1.2.2 q_60 26 = some q_188) (f_191 : hl1.2.2 q_60 82 = some q_190) (f_193 : hl1.2.2 q_60 94 = some q_192) (fa_36 : ∀ j, j < 14 → hl1.2.1 q_34 j = P_wo j) (fa_167 : ∀ j, j < 13 → hl1.2.1 q_165 j = P_w1 j) (gq_2 : hx_g L1 hl1 q_2 9) (gq_27 : hx_g L1 hl1 q_27 42) (gq_29 : hx_g L1 hl1 q_29 6) (gq_31 : hx_g L1 hl1 q_31 0) (gq_34 : hx_g L1 hl1 q_34 11) (gq_37 : hx_g L1 hl1 q_37 43) (gq_39 : hx_g L1 hl1 q_39 44) (gq_41 : hx_g L1 hl1 q_41 1) (gq_44 : hx_g L1 hl1 q_44 3) (gq_47 : hx_g L1 hl1 q_47 5) (gq_50 : hx_g L1 hl1 q_50 7) (gq_53 : hx_g L1 hl1 q_53 36) (gq_55 : hx_g L1 hl1 q_55 8) (gq_60 : hx_g L1 hl1 q_60 10) (gq_163 : hx_g L1 hl1 q_163 49) (gq_165 : hx_g L1 hl1 q_165 50) (gq_168 : hx_g L1 hl1 q_168 51) (gq_170 : hx_g L1 hl1 q_170 52) (gq_172 : hx_g L1 hl1 q_172 53) (gq_174 : hx_g L1 hl1 q_174 54) (gq_176 : hx_g L1 hl1 q_176 55) (gq_178 : hx_g L1 hl1 q_178 58) (gq_180 : hx_g L1 hl1 q_180 59) (gq_182 : hx_g L1 hl1 q_182 60) (gq_184 : hx_g L1 hl1 q_184 61) (gq_186 : hx_g L1 hl1 q_186 62) (gq_188 : hx_g L1 hl1 q_188 63) (gq_190 : hx_g L1 hl1 q_190 108) (gq_192 : hx_g L1 hl1 q_192 114) (hl : lv_has ls 4 [(3, .int (0 : Int32)), (2, .ref q_60), (1, .ref q_2), (0, .ref b)]) : W p l e room_1 s m #[Value.ref b] below meth c H locs 112 26072 (lw_Z below #[Value.ref b] s) (F0 m 1231 ls []) := by
  refine lv_aload_n hx hb dL_law_1231 rfl (lv_at hl 2 rfl) ?_
  refine lv_aload_n hx hb dL_law_1232 rfl (lv_at hl 3 rfl) ?_
  refine lv_iload_n hx hb dL_law_1233 rfl (lv_at hl 0 rfl) ?_
  refine lv_iconst (v := 1) hx hb dL_law_1234 (by decide) ?_
  refine lv_iadd hx hb dL_law_1235 ?_
  refine lv_topi (fun x_775 ex_775 => ?_)
  obtain rfl : x_775 = (1 : Int32) := ex_775.trans (by decide)
  refine va_sld hx hb hX hbl hbA hW.2.2.2.1 (vp_in_iff.mpr (by rw [hL7]; decide)) dL_law_1236 ?_
  rw [show (1 : Int32).toNatClampNeg = 1 from by decide]
  refine hx_goi (hx_runV (As := [.int (xs 1)]) (rest := []) ⟨hx, hb, hml, hown, hts⟩ hW gq_2 td_9 (T := TX9) (N := 20) rfl (c_X9_list l dC dI dA L1 hl1 H.size q_2 (xs 1) gq_2 f_14) (cwV 1 hts (hx_gV kw_1039 kw_1036 kw_1037 kw_1038 kw_94) rfl rfl rfl (by decide +kernel) ⟨Nat.le_of_ble_eq_true rfl, Nat.le_of_ble_eq_true rfl⟩) rfl hl.1 rfl (Nat.le_of_ble_eq_true rfl) dL_law_1237 ⟨Nat.le_of_ble_eq_true rfl, Nat.le_of_ble_eq_true rfl⟩) hW (fun r_778 L_776 h_777 H locs p_779 hW => ?_)
  obtain ⟨hr_780, hs⟩ := p_779
  have hs : hx_S P_tb [] L1 hl1 L_776 h_777 := hs
  have f_4 := (hs.o gq_2 trivial rfl).1.trans f_4
  have f_5 := (hs.o gq_2 trivial rfl).1.trans f_5
  have f_9 := (hs.o gq_2 trivial rfl).1.trans f_9
  have f_11 := (hs.o gq_2 trivial rfl).1.trans f_11
  have f_14 := (hs.o gq_2 trivial rfl).1.trans f_14
  have f_16 := (hs.o gq_2 trivial rfl).1.trans f_16
  have f_28 := (hs.o gq_2 trivial rfl).2.trans f_28
  have f_30 := (hs.o gq_2 trivial rfl).2.trans f_30
  have f_32 := (hs.o gq_2 trivial rfl).2.trans f_32
  have f_33 := (hs.o gq_31 trivial rfl).1.trans f_33
  have f_35 := (hs.o gq_31 trivial rfl).2.trans f_35
  have f_38 := (hs.o gq_2 trivial rfl).2.trans f_38
  have f_40 := (hs.o gq_2 trivial rfl).2.trans f_40
  have f_42 := (hs.o gq_2 trivial rfl).2.trans f_42
  have f_43 := (hs.o gq_41 trivial rfl).1.trans f_43
  have f_45 := (hs.o gq_2 trivial rfl).2.trans f_45
  have f_46 := (hs.o gq_44 trivial rfl).1.trans f_46
  have f_48 := (hs.o gq_2 trivial rfl).2.trans f_48
  have f_49 := (hs.o gq_47 trivial rfl).1.trans f_49
  have f_51 := (hs.o gq_2 trivial rfl).2.trans f_51
  have f_52 := (hs.o gq_50 trivial rfl).1.trans f_52
  have f_54 := (hs.o gq_50 trivial rfl).2.trans f_54
  have f_56 := (hs.o gq_2 trivial rfl).2.trans f_56
  have f_57 := (hs.o gq_55 trivial rfl).1.trans f_57
  have f_58 := (hs.o gq_55 trivial rfl).1.trans f_58
  have f_61 := (hs.o gq_60 trivial rfl).1.trans f_61
  have f_62 := (hs.o gq_60 trivial rfl).1.trans f_62
  have f_68 := (hs.o gq_60 trivial rfl).1.trans f_68
  have f_69 := (hs.o gq_60 trivial rfl).1.trans f_69
  have f_70 := (hs.o gq_60 trivial rfl).1.trans f_70
  have f_71 := (hs.o gq_60 trivial rfl).1.trans f_71
  have f_72 := (hs.o gq_60 trivial rfl).1.trans f_72
  have f_74 := (hs.o gq_60 trivial rfl).1.trans f_74
  have f_81 := (hs.o gq_60 trivial rfl).1.trans f_81
  have f_90 := (hs.o gq_60 trivial rfl).1.trans f_90
  have f_97 := (hs.o gq_60 trivial rfl).1.trans f_97
  have f_118 := (hs.o gq_60 trivial rfl).1.trans f_118
  have f_120 := (hs.o gq_60 trivial rfl).1.trans f_120
  have f_128 := (hs.o gq_60 trivial rfl).1.trans f_128
  have f_129 := (hs.o gq_60 trivial rfl).1.trans f_129
  have f_130 := (hs.o gq_60 trivial rfl).1.trans f_130
  have f_131 := (hs.o gq_60 trivial rfl).1.trans f_131
  have f_132 := (hs.o gq_60 trivial rfl).1.trans f_132
  have f_133 := (hs.o gq_60 trivial rfl).1.trans f_133
  have f_136 := (hs.o gq_60 trivial rfl).1.trans f_136
  have f_144 := (hs.o gq_60 trivial rfl).1.trans f_144
  have f_145 := (hs.o gq_60 trivial rfl).1.trans f_145
  have f_147 := (hs.o gq_60 trivial rfl).1.trans f_147
  have f_148 := (hs.o gq_60 trivial rfl).1.trans f_148
  have f_151 := (hs.o gq_60 trivial rfl).1.trans f_151
  have f_153 := (hs.o gq_60 trivial rfl).1.trans f_153
  have f_156 := (hs.o gq_60 trivial rfl).1.trans f_156
  have f_157 := (hs.o gq_60 trivial rfl).1.trans f_157
  have f_164 := (hs.o gq_60 trivial rfl).2.trans f_164
  have f_166 := (hs.o gq_60 trivial rfl).2.trans f_166
  have f_169 := (hs.o gq_60 trivial rfl).2.trans f_169
  have f_171 := (hs.o gq_60 trivial rfl).2.trans f_171
  have f_173 := (hs.o gq_60 trivial rfl).2.trans f_173
  have f_175 := (hs.o gq_60 trivial rfl).2.trans f_175
  have f_177 := (hs.o gq_60 trivial rfl).2.trans f_177
  have f_179 := (hs.o gq_60 trivial rfl).2.trans f_179
  have f_181 := (hs.o gq_60 trivial rfl).2.trans f_181
  have f_183 := (hs.o gq_60 trivial rfl).2.trans f_183
  have f_185 := (hs.o gq_60 trivial rfl).2.trans f_185
  have f_187 := (hs.o gq_60 trivial rfl).2.trans f_187
  have f_189 := (hs.o gq_60 trivial rfl).2.trans f_189
  have f_191 := (hs.o gq_60 trivial rfl).2.trans f_191
  have f_193 := (hs.o gq_60 trivial rfl).2.trans f_193
  have fa_36 : ∀ j, j < 14 → _ = P_wo j := fun j hj => (hs.a gq_34 rfl j).1.trans (fa_36 j hj)
  have fa_167 : ∀ j, j < 13 → _ = P_w1 j := fun j hj => (hs.a gq_165 rfl j).1.trans (fa_167 j hj)
  have gq_2 := gq_2.S hs
  have gq_27 := gq_27.S hs
  have gq_29 := gq_29.S hs
  have gq_31 := gq_31.S hs
  have gq_34 := gq_34.S hs
  have gq_37 := gq_37.S hs
  have gq_39 := gq_39.S hs
  have gq_41 := gq_41.S hs
  have gq_44 := gq_44.S hs
  have gq_47 := gq_47.S hs
  have gq_50 := gq_50.S hs
  have gq_53 := gq_53.S hs
  have gq_55 := gq_55.S hs
  have gq_60 := gq_60.S hs
  have gq_163 := gq_163.S hs
  have gq_165 := gq_165.S hs
  have gq_168 := gq_168.S hs
  have gq_170 := gq_170.S hs
  have gq_172 := gq_172.S hs
  have gq_174 := gq_174.S hs
  have gq_176 := gq_176.S hs
  have gq_178 := gq_178.S hs
  have gq_180 := gq_180.S hs
  have gq_182 := gq_182.S hs
  have gq_184 := gq_184.S hs
  have gq_186 := gq_186.S hs
  have gq_188 := gq_188.S hs
  have gq_190 := gq_190.S hs
  have gq_192 := gq_192.S hs
  refine lv_aload_n hx hb dL_law_1240 rfl (lv_at hl 1 rfl) ?_
  refine lv_aload_n hx hb dL_law_1241 rfl (lv_at hl 3 rfl) ?_
  refine lv_iload_n hx hb dL_law_1242 rfl (lv_at hl 0 rfl) ?_
  refine lv_iconst (v := 1) hx hb dL_law_1243 (by decide) ?_
  refine lv_iadd hx hb dL_law_1244 ?_
  refine lv_topi (fun x_781 ex_781 => ?_)
  obtain rfl : x_781 = (1 : Int32) := ex_781.trans (by decide)
  refine va_sld hx hb hX hbl hbA hW.2.2.2.1 (vp_in_iff.mpr (by rw [hL7]; decide)) dL_law_1245 ?_
  rw [show (1 : Int32).toNatClampNeg = 1 from by decide]
  refine hx_goi (hx_runV (As := [.int (xs 1)]) (rest := [.int r_778]) ⟨hx, hb, hml, hown, hts⟩ hW gq_60 td_10 (T := TX10) (N := 98) rfl (c_X10_list l dC dI dA L_776 h_777 H.size q_60 (xs 1) gq_60 f_97) (cwV 1 hts (hx_gV kw_1717 kw_1714 kw_1715 kw_1716 kw_103) rfl rfl rfl (by decide +kernel) ⟨Nat.le_of_ble_eq_true rfl, Nat.le_of_ble_eq_true rfl⟩) rfl hl.1 rfl (Nat.le_of_ble_eq_true rfl) dL_law_1246 ⟨Nat.le_of_ble_eq_true rfl, Nat.le_of_ble_eq_true rfl⟩) hW (fun r_784 L_782 h_783 H locs p_785 hW => ?_)
  obtain ⟨hr_786, hs⟩ := p_785
  have hs : hx_S P_tb [] L_776 h_777 L_782 h_783 := hs
  have f_4 := (hs.o gq_2 trivial rfl).1.trans f_4
  have f_5 := (hs.o gq_2 trivial rfl).1.trans f_5
  have f_9 := (hs.o gq_2 trivial rfl).1.trans f_9
  have f_11 := (hs.o gq_2 trivial rfl).1.trans f_11
  have f_14 := (hs.o gq_2 trivial rfl).1.trans f_14
  have f_16 := (hs.o gq_2 trivial rfl).1.trans f_16
  have f_28 := (hs.o gq_2 trivial rfl).2.trans f_28
  have f_30 := (hs.o gq_2 trivial rfl).2.trans f_30
  have f_32 := (hs.o gq_2 trivial rfl).2.trans f_32
  have f_33 := (hs.o gq_31 trivial rfl).1.trans f_33
  have f_35 := (hs.o gq_31 trivial rfl).2.trans f_35
  have f_38 := (hs.o gq_2 trivial rfl).2.trans f_38
  have f_40 := (hs.o gq_2 trivial rfl).2.trans f_40
  have f_42 := (hs.o gq_2 trivial rfl).2.trans f_42
  have f_43 := (hs.o gq_41 trivial rfl).1.trans f_43
  have f_45 := (hs.o gq_2 trivial rfl).2.trans f_45
  have f_46 := (hs.o gq_44 trivial rfl).1.trans f_46
  have f_48 := (hs.o gq_2 trivial rfl).2.trans f_48
  have f_49 := (hs.o gq_47 trivial rfl).1.trans f_49
  have f_51 := (hs.o gq_2 trivial rfl).2.trans f_51
  have f_52 := (hs.o gq_50 trivial rfl).1.trans f_52
  have f_54 := (hs.o gq_50 trivial rfl).2.trans f_54
  have f_56 := (hs.o gq_2 trivial rfl).2.trans f_56
  have f_57 := (hs.o gq_55 trivial rfl).1.trans f_57
  have f_58 := (hs.o gq_55 trivial rfl).1.trans f_58
  have f_61 := (hs.o gq_60 trivial rfl).1.trans f_61
  have f_62 := (hs.o gq_60 trivial rfl).1.trans f_62
  have f_68 := (hs.o gq_60 trivial rfl).1.trans f_68
  have f_69 := (hs.o gq_60 trivial rfl).1.trans f_69
  have f_70 := (hs.o gq_60 trivial rfl).1.trans f_70
  have f_71 := (hs.o gq_60 trivial rfl).1.trans f_71
  have f_72 := (hs.o gq_60 trivial rfl).1.trans f_72
  have f_74 := (hs.o gq_60 trivial rfl).1.trans f_74
  have f_81 := (hs.o gq_60 trivial rfl).1.trans f_81
  have f_90 := (hs.o gq_60 trivial rfl).1.trans f_90
  have f_97 := (hs.o gq_60 trivial rfl).1.trans f_97
  have f_118 := (hs.o gq_60 trivial rfl).1.trans f_118
  have f_120 := (hs.o gq_60 trivial rfl).1.trans f_120
  have f_128 := (hs.o gq_60 trivial rfl).1.trans f_128
  have f_129 := (hs.o gq_60 trivial rfl).1.trans f_129
  have f_130 := (hs.o gq_60 trivial rfl).1.trans f_130
  have f_131 := (hs.o gq_60 trivial rfl).1.trans f_131
  have f_132 := (hs.o gq_60 trivial rfl).1.trans f_132
  have f_133 := (hs.o gq_60 trivial rfl).1.trans f_133
  have f_136 := (hs.o gq_60 trivial rfl).1.trans f_136
  have f_144 := (hs.o gq_60 trivial rfl).1.trans f_144
  have f_145 := (hs.o gq_60 trivial rfl).1.trans f_145
  have f_147 := (hs.o gq_60 trivial rfl).1.trans f_147
  have f_148 := (hs.o gq_60 trivial rfl).1.trans f_148
  have f_151 := (hs.o gq_60 trivial rfl).1.trans f_151
  have f_153 := (hs.o gq_60 trivial rfl).1.trans f_153
  have f_156 := (hs.o gq_60 trivial rfl).1.trans f_156
  have f_157 := (hs.o gq_60 trivial rfl).1.trans f_157
  have f_164 := (hs.o gq_60 trivial rfl).2.trans f_164
  have f_166 := (hs.o gq_60 trivial rfl).2.trans f_166
  have f_169 := (hs.o gq_60 trivial rfl).2.trans f_169
  have f_171 := (hs.o gq_60 trivial rfl).2.trans f_171
  have f_173 := (hs.o gq_60 trivial rfl).2.trans f_173
  have f_175 := (hs.o gq_60 trivial rfl).2.trans f_175
  have f_177 := (hs.o gq_60 trivial rfl).2.trans f_177
  have f_179 := (hs.o gq_60 trivial rfl).2.trans f_179
  have f_181 := (hs.o gq_60 trivial rfl).2.trans f_181
  have f_183 := (hs.o gq_60 trivial rfl).2.trans f_183
  have f_185 := (hs.o gq_60 trivial rfl).2.trans f_185
  have f_187 := (hs.o gq_60 trivial rfl).2.trans f_187
  have f_189 := (hs.o gq_60 trivial rfl).2.trans f_189
  have f_191 := (hs.o gq_60 trivial rfl).2.trans f_191
  have f_193 := (hs.o gq_60 trivial rfl).2.trans f_193
  have fa_36 : ∀ j, j < 14 → _ = P_wo j := fun j hj => (hs.a gq_34 rfl j).1.trans (fa_36 j hj)
  have fa_167 : ∀ j, j < 13 → _ = P_w1 j := fun j hj => (hs.a gq_165 rfl j).1.trans (fa_167 j hj)
  have gq_2 := gq_2.S hs
  have gq_27 := gq_27.S hs
  have gq_29 := gq_29.S hs
  have gq_31 := gq_31.S hs
  have gq_34 := gq_34.S hs
  have gq_37 := gq_37.S hs
  have gq_39 := gq_39.S hs
  have gq_41 := gq_41.S hs
  have gq_44 := gq_44.S hs
  have gq_47 := gq_47.S hs
  have gq_50 := gq_50.S hs
  have gq_53 := gq_53.S hs
  have gq_55 := gq_55.S hs
  have gq_60 := gq_60.S hs
  have gq_163 := gq_163.S hs
  have gq_165 := gq_165.S hs
  have gq_168 := gq_168.S hs
  have gq_170 := gq_170.S hs
  have gq_172 := gq_172.S hs
  have gq_174 := gq_174.S hs
  have gq_176 := gq_176.S hs
  have gq_178 := gq_178.S hs
  have gq_180 := gq_180.S hs
  have gq_182 := gq_182.S hs
  have gq_184 := gq_184.S hs
  have gq_186 := gq_186.S hs
  have gq_188 := gq_188.S hs
  have gq_190 := gq_190.S hs
  have gq_192 := gq_192.S hs
  have heq : r_778 = r_784 := by
    first | exact hr_780.trans hr_786.symm | (rcases hr_780 with ⟨k1, k2⟩ | ⟨k1, k2⟩ <;> rcases hr_786 with ⟨k3, k4⟩ | ⟨k3, k4⟩ <;> first | exact k2.trans k4.symm | (exfalso; omega) | exact absurd k1 k3 | exact absurd k3 k1)
  refine hb_icmp_eq (zx := r_778.toInt) (zy := r_784.toInt) (tgt := 1379) hx hb rfl rfl dL_law_1249 (by decide) (fun c_787 => ?_) (fun c_787 => absurd (congrArg Int32.toInt heq) c_787)
  exact law_tail hx hb hr hlocks hX hbl hbA hL7 _ _ hW.2.2.2.1 ls hl (Nat.le_of_ble_eq_true rfl) (Nat.le_of_ble_eq_true rfl)

set_option maxHeartbeats 4000000 in
set_option maxRecDepth 100000 in
theorem law_case_26 {p : Program} {e : Env} {s : State} {m : MethodId} {below : List Frame} {meth : Method} {c : Code} (l : Launch) {b LN : Nat} {xs : Nat → Int32} (hx : p.tables.exec = Jvm.exec) (hb : c.code = code) (hr : meth.sig.returnType = ret) (hlocks : meth.locks = false) (hml : c.maxLocals = 4) (hown : s.vm.findClass "SmallCourtLaw" = some m.cls) (hts : ∀ w ∈ hx_all, w.before #[Value.ref b] s = true) (hX : va_X b LN xs s s.heap) (hbl : b < s.heap.size) (hbA : ¬ s.heap.size ≤ b) (hL7 : LN = 7) (dC : Nat → ClassId) (dI : Nat → Nat → Nat) (dA : Nat → ClassId) (b0 : Nat) (q_2 q_27 q_29 q_31 q_34 q_37 q_39 q_41 q_44 q_47 q_50 q_53 q_55 q_60 q_163 q_165 q_168 q_170 q_172 q_174 q_176 q_178 q_180 q_182 q_184 q_186 q_188 q_190 q_192 : Nat) (L1 : List Nat) (hl1 : hx_h) (H : Heap) (locs : List Loc) (ls : Array Slot) (hW : hx_W P_tb (P_ty dA) (dC, dI) vwCl (fun q : Nat => s.heap.size ≤ q) s.heap L1 hl1 s H locs) (hZ : hx_Xt (fun q : Nat => s.heap.size ≤ q) b0 s) (f_4 : hl1.2.1 q_2 1 = (0 : Int32)) (f_5 : hl1.2.1 q_2 2 = (0 : Int32)) (f_9 : hl1.2.1 q_2 6 = (0 : Int32)) (f_11 : hl1.2.1 q_2 8 = (0 : Int32)) (f_14 : hl1.2.1 q_2 11 = (0 : Int32)) (f_16 : hl1.2.1 q_2 13 = (0 : Int32)) (f_28 : hl1.2.2 q_2 0 = some q_27) (f_30 : hl1.2.2 q_2 3 = some q_29) (f_32 : hl1.2.2 q_2 4 = some q_31) (f_33 : hl1.2.1 q_31 0 = (-1 : Int32)) (f_35 : hl1.2.2 q_31 2 = some q_34) (f_38 : hl1.2.2 q_2 5 = some q_37) (f_40 : hl1.2.2 q_2 7 = some q_39) (f_42 : hl1.2.2 q_2 9 = some q_41) (f_43 : hl1.2.1 q_41 0 = (0 : Int32)) (f_45 : hl1.2.2 q_2 14 = some q_44) (f_46 : hl1.2.1 q_44 0 = (0 : Int32)) (f_48 : hl1.2.2 q_2 17 = some q_47) (f_49 : hl1.2.1 q_47 1 = (0 : Int32)) (f_51 : hl1.2.2 q_2 18 = some q_50) (f_52 : hl1.2.1 q_50 0 = (-1 : Int32)) (f_54 : hl1.2.2 q_50 5 = some q_53) (f_56 : hl1.2.2 q_2 19 = some q_55) (f_57 : hl1.2.1 q_55 0 = (0 : Int32)) (f_58 : hl1.2.1 q_55 1 = (0 : Int32)) (f_61 : hl1.2.1 q_60 0 = (0 : Int32)) (f_62 : hl1.2.1 q_60 1 = (0 : Int32)) (f_68 : hl1.2.1 q_60 7 = (0 : Int32)) (f_69 : hl1.2.1 q_60 8 = (0 : Int32)) (f_70 : hl1.2.1 q_60 9 = (0 : Int32)) (f_71 : hl1.2.1 q_60 10 = (0 : Int32)) (f_72 : hl1.2.1 q_60 11 = (0 : Int32)) (f_74 : hl1.2.1 q_60 13 = (0 : Int32)) (f_81 : hl1.2.1 q_60 20 = (0 : Int32)) (f_90 : hl1.2.1 q_60 29 = (0 : Int32)) (f_97 : hl1.2.1 q_60 36 = (0 : Int32)) (f_118 : hl1.2.1 q_60 57 = (0 : Int32)) (f_120 : hl1.2.1 q_60 59 = (0 : Int32)) (f_128 : hl1.2.1 q_60 67 = (0 : Int32)) (f_129 : hl1.2.1 q_60 68 = (0 : Int32)) (f_130 : hl1.2.1 q_60 69 = (0 : Int32)) (f_131 : hl1.2.1 q_60 70 = (0 : Int32)) (f_132 : hl1.2.1 q_60 71 = (0 : Int32)) (f_133 : hl1.2.1 q_60 72 = (0 : Int32)) (f_136 : hl1.2.1 q_60 75 = (0 : Int32)) (f_144 : hl1.2.1 q_60 83 = (0 : Int32)) (f_145 : hl1.2.1 q_60 84 = (0 : Int32)) (f_147 : hl1.2.1 q_60 86 = (0 : Int32)) (f_148 : hl1.2.1 q_60 87 = (0 : Int32)) (f_151 : hl1.2.1 q_60 90 = (0 : Int32)) (f_153 : hl1.2.1 q_60 92 = (0 : Int32)) (f_156 : hl1.2.1 q_60 95 = (0 : Int32)) (f_157 : hl1.2.1 q_60 96 = (0 : Int32)) (f_164 : hl1.2.2 q_60 2 = some q_163) (f_166 : hl1.2.2 q_60 3 = some q_165) (f_169 : hl1.2.2 q_60 4 = some q_168) (f_171 : hl1.2.2 q_60 5 = some q_170) (f_173 : hl1.2.2 q_60 6 = some q_172) (f_175 : hl1.2.2 q_60 12 = some q_174) (f_177 : hl1.2.2 q_60 15 = some q_176) (f_179 : hl1.2.2 q_60 21 = some q_178) (f_181 : hl1.2.2 q_60 22 = some q_180) (f_183 : hl1.2.2 q_60 23 = some q_182) (f_185 : hl1.2.2 q_60 24 = some q_184) (f_187 : hl1.2.2 q_60 25 = some q_186) (f_189 : hl1.2.2 q_60 26 = some q_188) (f_191 : hl1.2.2 q_60 82 = some q_190) (f_193 : hl1.2.2 q_60 94 = some q_192) (fa_36 : ∀ j, j < 14 → hl1.2.1 q_34 j = P_wo j) (fa_167 : ∀ j, j < 13 → hl1.2.1 q_165 j = P_w1 j) (gq_2 : hx_g L1 hl1 q_2 9) (gq_27 : hx_g L1 hl1 q_27 42) (gq_29 : hx_g L1 hl1 q_29 6) (gq_31 : hx_g L1 hl1 q_31 0) (gq_34 : hx_g L1 hl1 q_34 11) (gq_37 : hx_g L1 hl1 q_37 43) (gq_39 : hx_g L1 hl1 q_39 44) (gq_41 : hx_g L1 hl1 q_41 1) (gq_44 : hx_g L1 hl1 q_44 3) (gq_47 : hx_g L1 hl1 q_47 5) (gq_50 : hx_g L1 hl1 q_50 7) (gq_53 : hx_g L1 hl1 q_53 36) (gq_55 : hx_g L1 hl1 q_55 8) (gq_60 : hx_g L1 hl1 q_60 10) (gq_163 : hx_g L1 hl1 q_163 49) (gq_165 : hx_g L1 hl1 q_165 50) (gq_168 : hx_g L1 hl1 q_168 51) (gq_170 : hx_g L1 hl1 q_170 52) (gq_172 : hx_g L1 hl1 q_172 53) (gq_174 : hx_g L1 hl1 q_174 54) (gq_176 : hx_g L1 hl1 q_176 55) (gq_178 : hx_g L1 hl1 q_178 58) (gq_180 : hx_g L1 hl1 q_180 59) (gq_182 : hx_g L1 hl1 q_182 60) (gq_184 : hx_g L1 hl1 q_184 61) (gq_186 : hx_g L1 hl1 q_186 62) (gq_188 : hx_g L1 hl1 q_188 63) (gq_190 : hx_g L1 hl1 q_190 108) (gq_192 : hx_g L1 hl1 q_192 114) (hl : lv_has ls 4 [(3, .int (0 : Int32)), (2, .ref q_60), (1, .ref q_2), (0, .ref b)]) : W p l e room_1 s m #[Value.ref b] below meth c H locs 112 26072 (lw_Z below #[Value.ref b] s) (F0 m 1254 ls []) := by
  refine lv_aload_n hx hb dL_law_1254 rfl (lv_at hl 2 rfl) ?_
  refine hx_goi (hx_runV (As := []) (rest := []) ⟨hx, hb, hml, hown, hts⟩ hW gq_2 td_9 (T := TX9) (N := 20) rfl (c_X9_walk l dC dI dA L1 hl1 H.size q_2 gq_2 q_55 gq_55 f_56 f_57) (cwV 0 hts (hx_gV kw_1051 kw_1048 kw_1049 kw_1050 kw_94) rfl rfl rfl (by decide +kernel) ⟨Nat.le_of_ble_eq_true rfl, Nat.le_of_ble_eq_true rfl⟩) rfl hl.1 rfl (Nat.le_of_ble_eq_true rfl) dL_law_1255 ⟨Nat.le_of_ble_eq_true rfl, Nat.le_of_ble_eq_true rfl⟩) hW (fun r_790 L_788 h_789 H locs p_791 hW => ?_)
  obtain ⟨hr_792, hs⟩ := p_791
  have hs : hx_S P_tb [(8, 0), (8, 1)] L1 hl1 L_788 h_789 := hs
  have f_4 := (hs.o gq_2 trivial rfl).1.trans f_4
  have f_5 := (hs.o gq_2 trivial rfl).1.trans f_5
  have f_9 := (hs.o gq_2 trivial rfl).1.trans f_9
  have f_11 := (hs.o gq_2 trivial rfl).1.trans f_11
  have f_14 := (hs.o gq_2 trivial rfl).1.trans f_14
  have f_16 := (hs.o gq_2 trivial rfl).1.trans f_16
  have f_28 := (hs.o gq_2 trivial rfl).2.trans f_28
  have f_30 := (hs.o gq_2 trivial rfl).2.trans f_30
  have f_32 := (hs.o gq_2 trivial rfl).2.trans f_32
  have f_33 := (hs.o gq_31 trivial rfl).1.trans f_33
  have f_35 := (hs.o gq_31 trivial rfl).2.trans f_35
  have f_38 := (hs.o gq_2 trivial rfl).2.trans f_38
  have f_40 := (hs.o gq_2 trivial rfl).2.trans f_40
  have f_42 := (hs.o gq_2 trivial rfl).2.trans f_42
  have f_43 := (hs.o gq_41 trivial rfl).1.trans f_43
  have f_45 := (hs.o gq_2 trivial rfl).2.trans f_45
  have f_46 := (hs.o gq_44 trivial rfl).1.trans f_46
  have f_48 := (hs.o gq_2 trivial rfl).2.trans f_48
  have f_49 := (hs.o gq_47 trivial rfl).1.trans f_49
  have f_51 := (hs.o gq_2 trivial rfl).2.trans f_51
  have f_52 := (hs.o gq_50 trivial rfl).1.trans f_52
  have f_54 := (hs.o gq_50 trivial rfl).2.trans f_54
  have f_56 := (hs.o gq_2 trivial rfl).2.trans f_56
  have f_61 := (hs.o gq_60 trivial rfl).1.trans f_61
  have f_62 := (hs.o gq_60 trivial rfl).1.trans f_62
  have f_68 := (hs.o gq_60 trivial rfl).1.trans f_68
  have f_69 := (hs.o gq_60 trivial rfl).1.trans f_69
  have f_70 := (hs.o gq_60 trivial rfl).1.trans f_70
  have f_71 := (hs.o gq_60 trivial rfl).1.trans f_71
  have f_72 := (hs.o gq_60 trivial rfl).1.trans f_72
  have f_74 := (hs.o gq_60 trivial rfl).1.trans f_74
  have f_81 := (hs.o gq_60 trivial rfl).1.trans f_81
  have f_90 := (hs.o gq_60 trivial rfl).1.trans f_90
  have f_97 := (hs.o gq_60 trivial rfl).1.trans f_97
  have f_118 := (hs.o gq_60 trivial rfl).1.trans f_118
  have f_120 := (hs.o gq_60 trivial rfl).1.trans f_120
  have f_128 := (hs.o gq_60 trivial rfl).1.trans f_128
  have f_129 := (hs.o gq_60 trivial rfl).1.trans f_129
  have f_130 := (hs.o gq_60 trivial rfl).1.trans f_130
  have f_131 := (hs.o gq_60 trivial rfl).1.trans f_131
  have f_132 := (hs.o gq_60 trivial rfl).1.trans f_132
  have f_133 := (hs.o gq_60 trivial rfl).1.trans f_133
  have f_136 := (hs.o gq_60 trivial rfl).1.trans f_136
  have f_144 := (hs.o gq_60 trivial rfl).1.trans f_144
  have f_145 := (hs.o gq_60 trivial rfl).1.trans f_145
  have f_147 := (hs.o gq_60 trivial rfl).1.trans f_147
  have f_148 := (hs.o gq_60 trivial rfl).1.trans f_148
  have f_151 := (hs.o gq_60 trivial rfl).1.trans f_151
  have f_153 := (hs.o gq_60 trivial rfl).1.trans f_153
  have f_156 := (hs.o gq_60 trivial rfl).1.trans f_156
  have f_157 := (hs.o gq_60 trivial rfl).1.trans f_157
  have f_164 := (hs.o gq_60 trivial rfl).2.trans f_164
  have f_166 := (hs.o gq_60 trivial rfl).2.trans f_166
  have f_169 := (hs.o gq_60 trivial rfl).2.trans f_169
  have f_171 := (hs.o gq_60 trivial rfl).2.trans f_171
  have f_173 := (hs.o gq_60 trivial rfl).2.trans f_173
  have f_175 := (hs.o gq_60 trivial rfl).2.trans f_175
  have f_177 := (hs.o gq_60 trivial rfl).2.trans f_177
  have f_179 := (hs.o gq_60 trivial rfl).2.trans f_179
  have f_181 := (hs.o gq_60 trivial rfl).2.trans f_181
  have f_183 := (hs.o gq_60 trivial rfl).2.trans f_183
  have f_185 := (hs.o gq_60 trivial rfl).2.trans f_185
  have f_187 := (hs.o gq_60 trivial rfl).2.trans f_187
  have f_189 := (hs.o gq_60 trivial rfl).2.trans f_189
  have f_191 := (hs.o gq_60 trivial rfl).2.trans f_191
  have f_193 := (hs.o gq_60 trivial rfl).2.trans f_193
  have fa_36 : ∀ j, j < 14 → _ = P_wo j := fun j hj => (hs.a gq_34 rfl j).1.trans (fa_36 j hj)
  have fa_167 : ∀ j, j < 13 → _ = P_w1 j := fun j hj => (hs.a gq_165 rfl j).1.trans (fa_167 j hj)
  have gq_2 := gq_2.S hs
  have gq_27 := gq_27.S hs
  have gq_29 := gq_29.S hs
  have gq_31 := gq_31.S hs
  have gq_34 := gq_34.S hs
  have gq_37 := gq_37.S hs
  have gq_39 := gq_39.S hs
  have gq_41 := gq_41.S hs
  have gq_44 := gq_44.S hs
  have gq_47 := gq_47.S hs
  have gq_50 := gq_50.S hs
  have gq_53 := gq_53.S hs
  have gq_55 := gq_55.S hs
  have gq_60 := gq_60.S hs
  have gq_163 := gq_163.S hs
  have gq_165 := gq_165.S hs
  have gq_168 := gq_168.S hs
  have gq_170 := gq_170.S hs
  have gq_172 := gq_172.S hs
  have gq_174 := gq_174.S hs
  have gq_176 := gq_176.S hs
  have gq_178 := gq_178.S hs
  have gq_180 := gq_180.S hs
  have gq_182 := gq_182.S hs
  have gq_184 := gq_184.S hs
  have gq_186 := gq_186.S hs
  have gq_188 := gq_188.S hs
  have gq_190 := gq_190.S hs
  have gq_192 := gq_192.S hs
  refine lv_aload_n hx hb dL_law_1258 rfl (lv_at hl 1 rfl) ?_
  refine hx_goi (hx_runV (As := []) (rest := [.int r_790]) ⟨hx, hb, hml, hown, hts⟩ hW gq_60 td_10 (T := TX10) (N := 98) rfl (c_X10_walk l dC dI dA L_788 h_789 H.size q_60 gq_60 f_151 q_192 gq_192 f_193) (cwV 0 hts (hx_gV kw_1721 kw_1718 kw_1719 kw_1720 kw_103) rfl rfl rfl (by decide +kernel) ⟨Nat.le_of_ble_eq_true rfl, Nat.le_of_ble_eq_true rfl⟩) rfl hl.1 rfl (Nat.le_of_ble_eq_true rfl) dL_law_1259 ⟨Nat.le_of_ble_eq_true rfl, Nat.le_of_ble_eq_true rfl⟩) hW (fun r_795 L_793 h_794 H locs p_796 hW => ?_)
  obtain ⟨hr_797, hs⟩ := p_796
  have hs : hx_S P_tb [(10, 90), (10, 92), (114, 0)] L_788 h_789 L_793 h_794 := hs
  have f_4 := (hs.o gq_2 trivial rfl).1.trans f_4
  have f_5 := (hs.o gq_2 trivial rfl).1.trans f_5
  have f_9 := (hs.o gq_2 trivial rfl).1.trans f_9
  have f_11 := (hs.o gq_2 trivial rfl).1.trans f_11
  have f_14 := (hs.o gq_2 trivial rfl).1.trans f_14
  have f_16 := (hs.o gq_2 trivial rfl).1.trans f_16
  have f_28 := (hs.o gq_2 trivial rfl).2.trans f_28
  have f_30 := (hs.o gq_2 trivial rfl).2.trans f_30
  have f_32 := (hs.o gq_2 trivial rfl).2.trans f_32
  have f_33 := (hs.o gq_31 trivial rfl).1.trans f_33
  have f_35 := (hs.o gq_31 trivial rfl).2.trans f_35
  have f_38 := (hs.o gq_2 trivial rfl).2.trans f_38
  have f_40 := (hs.o gq_2 trivial rfl).2.trans f_40
  have f_42 := (hs.o gq_2 trivial rfl).2.trans f_42
  have f_43 := (hs.o gq_41 trivial rfl).1.trans f_43
  have f_45 := (hs.o gq_2 trivial rfl).2.trans f_45
  have f_46 := (hs.o gq_44 trivial rfl).1.trans f_46
  have f_48 := (hs.o gq_2 trivial rfl).2.trans f_48
  have f_49 := (hs.o gq_47 trivial rfl).1.trans f_49
  have f_51 := (hs.o gq_2 trivial rfl).2.trans f_51
  have f_52 := (hs.o gq_50 trivial rfl).1.trans f_52
  have f_54 := (hs.o gq_50 trivial rfl).2.trans f_54
  have f_56 := (hs.o gq_2 trivial rfl).2.trans f_56
  have f_61 := (hs.o gq_60 trivial rfl).1.trans f_61
  have f_62 := (hs.o gq_60 trivial rfl).1.trans f_62
  have f_68 := (hs.o gq_60 trivial rfl).1.trans f_68
  have f_69 := (hs.o gq_60 trivial rfl).1.trans f_69
  have f_70 := (hs.o gq_60 trivial rfl).1.trans f_70
  have f_71 := (hs.o gq_60 trivial rfl).1.trans f_71
  have f_72 := (hs.o gq_60 trivial rfl).1.trans f_72
  have f_74 := (hs.o gq_60 trivial rfl).1.trans f_74
  have f_81 := (hs.o gq_60 trivial rfl).1.trans f_81
  have f_90 := (hs.o gq_60 trivial rfl).1.trans f_90
  have f_97 := (hs.o gq_60 trivial rfl).1.trans f_97
  have f_118 := (hs.o gq_60 trivial rfl).1.trans f_118
  have f_120 := (hs.o gq_60 trivial rfl).1.trans f_120
  have f_128 := (hs.o gq_60 trivial rfl).1.trans f_128
  have f_129 := (hs.o gq_60 trivial rfl).1.trans f_129
  have f_130 := (hs.o gq_60 trivial rfl).1.trans f_130
  have f_131 := (hs.o gq_60 trivial rfl).1.trans f_131
  have f_132 := (hs.o gq_60 trivial rfl).1.trans f_132
  have f_133 := (hs.o gq_60 trivial rfl).1.trans f_133
  have f_136 := (hs.o gq_60 trivial rfl).1.trans f_136
  have f_144 := (hs.o gq_60 trivial rfl).1.trans f_144
  have f_145 := (hs.o gq_60 trivial rfl).1.trans f_145
  have f_147 := (hs.o gq_60 trivial rfl).1.trans f_147
  have f_148 := (hs.o gq_60 trivial rfl).1.trans f_148
  have f_156 := (hs.o gq_60 trivial rfl).1.trans f_156
  have f_157 := (hs.o gq_60 trivial rfl).1.trans f_157
  have f_164 := (hs.o gq_60 trivial rfl).2.trans f_164
  have f_166 := (hs.o gq_60 trivial rfl).2.trans f_166
  have f_169 := (hs.o gq_60 trivial rfl).2.trans f_169
  have f_171 := (hs.o gq_60 trivial rfl).2.trans f_171
  have f_173 := (hs.o gq_60 trivial rfl).2.trans f_173
  have f_175 := (hs.o gq_60 trivial rfl).2.trans f_175
  have f_177 := (hs.o gq_60 trivial rfl).2.trans f_177
  have f_179 := (hs.o gq_60 trivial rfl).2.trans f_179
  have f_181 := (hs.o gq_60 trivial rfl).2.trans f_181
  have f_183 := (hs.o gq_60 trivial rfl).2.trans f_183
  have f_185 := (hs.o gq_60 trivial rfl).2.trans f_185
  have f_187 := (hs.o gq_60 trivial rfl).2.trans f_187
  have f_189 := (hs.o gq_60 trivial rfl).2.trans f_189
  have f_191 := (hs.o gq_60 trivial rfl).2.trans f_191
  have f_193 := (hs.o gq_60 trivial rfl).2.trans f_193
  have fa_36 : ∀ j, j < 14 → _ = P_wo j := fun j hj => (hs.a gq_34 rfl j).1.trans (fa_36 j hj)
  have fa_167 : ∀ j, j < 13 → _ = P_w1 j := fun j hj => (hs.a gq_165 rfl j).1.trans (fa_167 j hj)
  have gq_2 := gq_2.S hs
  have gq_27 := gq_27.S hs
  have gq_29 := gq_29.S hs
  have gq_31 := gq_31.S hs
  have gq_34 := gq_34.S hs
  have gq_37 := gq_37.S hs
  have gq_39 := gq_39.S hs
  have gq_41 := gq_41.S hs
  have gq_44 := gq_44.S hs
  have gq_47 := gq_47.S hs
  have gq_50 := gq_50.S hs
  have gq_53 := gq_53.S hs
  have gq_55 := gq_55.S hs
  have gq_60 := gq_60.S hs
  have gq_163 := gq_163.S hs
  have gq_165 := gq_165.S hs
  have gq_168 := gq_168.S hs
  have gq_170 := gq_170.S hs
  have gq_172 := gq_172.S hs
  have gq_174 := gq_174.S hs
  have gq_176 := gq_176.S hs
  have gq_178 := gq_178.S hs
  have gq_180 := gq_180.S hs
  have gq_182 := gq_182.S hs
  have gq_184 := gq_184.S hs
  have gq_186 := gq_186.S hs
  have gq_188 := gq_188.S hs
  have gq_190 := gq_190.S hs
  have gq_192 := gq_192.S hs
  have heq : r_790 = r_795 := by
    first | exact hr_792.trans hr_797.symm | (rcases hr_792 with ⟨k1, k2⟩ | ⟨k1, k2⟩ <;> rcases hr_797 with ⟨k3, k4⟩ | ⟨k3, k4⟩ <;> first | exact k2.trans k4.symm | (exfalso; omega) | exact absurd k1 k3 | exact absurd k3 k1)
  refine hb_icmp_eq (zx := r_790.toInt) (zy := r_795.toInt) (tgt := 1379) hx hb rfl rfl dL_law_1262 (by decide) (fun c_798 => ?_) (fun c_798 => absurd (congrArg Int32.toInt heq) c_798)
  exact law_tail hx hb hr hlocks hX hbl hbA hL7 _ _ hW.2.2.2.1 ls hl (Nat.le_of_ble_eq_true rfl) (Nat.le_of_ble_eq_true rfl)

set_option maxHeartbeats 4000000 in
set_option maxRecDepth 100000 in
theorem law_case_27 {p : Program} {e : Env} {s : State} {m : MethodId} {below : List Frame} {meth : Method} {c : Code} (l : Launch) {b LN : Nat} {xs : Nat → Int32} (hx : p.tables.exec = Jvm.exec) (hb : c.code = code) (hr : meth.sig.returnType = ret) (hlocks : meth.locks = false) (hml : c.maxLocals = 4) (hown : s.vm.findClass "SmallCourtLaw" = some m.cls) (hts : ∀ w ∈ hx_all, w.before #[Value.ref b] s = true) (hX : va_X b LN xs s s.heap) (hbl : b < s.heap.size) (hbA : ¬ s.heap.size ≤ b) (hL7 : LN = 7) (dC : Nat → ClassId) (dI : Nat → Nat → Nat) (dA : Nat → ClassId) (b0 : Nat) (q_2 q_27 q_29 q_31 q_34 q_37 q_39 q_41 q_44 q_47 q_50 q_53 q_55 q_60 q_163 q_165 q_168 q_170 q_172 q_174 q_176 q_178 q_180 q_182 q_184 q_186 q_188 q_190 q_192 : Nat) (L1 : List Nat) (hl1 : hx_h) (H : Heap) (locs : List Loc) (ls : Array Slot) (hW : hx_W P_tb (P_ty dA) (dC, dI) vwCl (fun q : Nat => s.heap.size ≤ q) s.heap L1 hl1 s H locs) (hZ : hx_Xt (fun q : Nat => s.heap.size ≤ q) b0 s) (f_4 : hl1.2.1 q_2 1 = (0 : Int32)) (f_5 : hl1.2.1 q_2 2 = (0 : Int32)) (f_9 : hl1.2.1 q_2 6 = (0 : Int32)) (f_11 : hl1.2.1 q_2 8 = (0 : Int32)) (f_14 : hl1.2.1 q_2 11 = (0 : Int32)) (f_16 : hl1.2.1 q_2 13 = (0 : Int32)) (f_28 : hl1.2.2 q_2 0 = some q_27) (f_30 : hl1.2.2 q_2 3 = some q_29) (f_32 : hl1.2.2 q_2 4 = some q_31) (f_33 : hl1.2.1 q_31 0 = (-1 : Int32)) (f_35 : hl1.2.2 q_31 2 = some q_34) (f_38 : hl1.2.2 q_2 5 = some q_37) (f_40 : hl1.2.2 q_2 7 = some q_39) (f_42 : hl1.2.2 q_2 9 = some q_41) (f_43 : hl1.2.1 q_41 0 = (0 : Int32)) (f_45 : hl1.2.2 q_2 14 = some q_44) (f_46 : hl1.2.1 q_44 0 = (0 : Int32)) (f_48 : hl1.2.2 q_2 17 = some q_47) (f_49 : hl1.2.1 q_47 1 = (0 : Int32)) (f_51 : hl1.2.2 q_2 18 = some q_50) (f_52 : hl1.2.1 q_50 0 = (-1 : Int32)) (f_54 : hl1.2.2 q_50 5 = some q_53) (f_56 : hl1.2.2 q_2 19 = some q_55) (f_57 : hl1.2.1 q_55 0 = (0 : Int32)) (f_58 : hl1.2.1 q_55 1 = (0 : Int32)) (f_61 : hl1.2.1 q_60 0 = (0 : Int32)) (f_62 : hl1.2.1 q_60 1 = (0 : Int32)) (f_68 : hl1.2.1 q_60 7 = (0 : Int32)) (f_69 : hl1.2.1 q_60 8 = (0 : Int32)) (f_70 : hl1.2.1 q_60 9 = (0 : Int32)) (f_71 : hl1.2.1 q_60 10 = (0 : Int32)) (f_72 : hl1.2.1 q_60 11 = (0 : Int32)) (f_74 : hl1.2.1 q_60 13 = (0 : Int32)) (f_81 : hl1.2.1 q_60 20 = (0 : Int32)) (f_90 : hl1.2.1 q_60 29 = (0 : Int32)) (f_97 : hl1.2.1 q_60 36 = (0 : Int32)) (f_118 : hl1.2.1 q_60 57 = (0 : Int32)) (f_120 : hl1.2.1 q_60 59 = (0 : Int32)) (f_128 : hl1.2.1 q_60 67 = (0 : Int32)) (f_129 : hl1.2.1 q_60 68 = (0 : Int32)) (f_130 : hl1.2.1 q_60 69 = (0 : Int32)) (f_131 : hl1.2.1 q_60 70 = (0 : Int32)) (f_132 : hl1.2.1 q_60 71 = (0 : Int32)) (f_133 : hl1.2.1 q_60 72 = (0 : Int32)) (f_136 : hl1.2.1 q_60 75 = (0 : Int32)) (f_144 : hl1.2.1 q_60 83 = (0 : Int32)) (f_145 : hl1.2.1 q_60 84 = (0 : Int32)) (f_147 : hl1.2.1 q_60 86 = (0 : Int32)) (f_148 : hl1.2.1 q_60 87 = (0 : Int32)) (f_151 : hl1.2.1 q_60 90 = (0 : Int32)) (f_153 : hl1.2.1 q_60 92 = (0 : Int32)) (f_156 : hl1.2.1 q_60 95 = (0 : Int32)) (f_157 : hl1.2.1 q_60 96 = (0 : Int32)) (f_164 : hl1.2.2 q_60 2 = some q_163) (f_166 : hl1.2.2 q_60 3 = some q_165) (f_169 : hl1.2.2 q_60 4 = some q_168) (f_171 : hl1.2.2 q_60 5 = some q_170) (f_173 : hl1.2.2 q_60 6 = some q_172) (f_175 : hl1.2.2 q_60 12 = some q_174) (f_177 : hl1.2.2 q_60 15 = some q_176) (f_179 : hl1.2.2 q_60 21 = some q_178) (f_181 : hl1.2.2 q_60 22 = some q_180) (f_183 : hl1.2.2 q_60 23 = some q_182) (f_185 : hl1.2.2 q_60 24 = some q_184) (f_187 : hl1.2.2 q_60 25 = some q_186) (f_189 : hl1.2.2 q_60 26 = some q_188) (f_191 : hl1.2.2 q_60 82 = some q_190) (f_193 : hl1.2.2 q_60 94 = some q_192) (fa_36 : ∀ j, j < 14 → hl1.2.1 q_34 j = P_wo j) (fa_167 : ∀ j, j < 13 → hl1.2.1 q_165 j = P_w1 j) (gq_2 : hx_g L1 hl1 q_2 9) (gq_27 : hx_g L1 hl1 q_27 42) (gq_29 : hx_g L1 hl1 q_29 6) (gq_31 : hx_g L1 hl1 q_31 0) (gq_34 : hx_g L1 hl1 q_34 11) (gq_37 : hx_g L1 hl1 q_37 43) (gq_39 : hx_g L1 hl1 q_39 44) (gq_41 : hx_g L1 hl1 q_41 1) (gq_44 : hx_g L1 hl1 q_44 3) (gq_47 : hx_g L1 hl1 q_47 5) (gq_50 : hx_g L1 hl1 q_50 7) (gq_53 : hx_g L1 hl1 q_53 36) (gq_55 : hx_g L1 hl1 q_55 8) (gq_60 : hx_g L1 hl1 q_60 10) (gq_163 : hx_g L1 hl1 q_163 49) (gq_165 : hx_g L1 hl1 q_165 50) (gq_168 : hx_g L1 hl1 q_168 51) (gq_170 : hx_g L1 hl1 q_170 52) (gq_172 : hx_g L1 hl1 q_172 53) (gq_174 : hx_g L1 hl1 q_174 54) (gq_176 : hx_g L1 hl1 q_176 55) (gq_178 : hx_g L1 hl1 q_178 58) (gq_180 : hx_g L1 hl1 q_180 59) (gq_182 : hx_g L1 hl1 q_182 60) (gq_184 : hx_g L1 hl1 q_184 61) (gq_186 : hx_g L1 hl1 q_186 62) (gq_188 : hx_g L1 hl1 q_188 63) (gq_190 : hx_g L1 hl1 q_190 108) (gq_192 : hx_g L1 hl1 q_192 114) (hl : lv_has ls 4 [(3, .int (0 : Int32)), (2, .ref q_60), (1, .ref q_2), (0, .ref b)]) : W p l e room_1 s m #[Value.ref b] below meth c H locs 112 26072 (lw_Z below #[Value.ref b] s) (F0 m 1267 ls []) := by
  refine lv_aload_n hx hb dL_law_1267 rfl (lv_at hl 2 rfl) ?_
  refine lv_aload_n hx hb dL_law_1268 rfl (lv_at hl 3 rfl) ?_
  refine lv_iload_n hx hb dL_law_1269 rfl (lv_at hl 0 rfl) ?_
  refine lv_iconst (v := 1) hx hb dL_law_1270 (by decide) ?_
  refine lv_iadd hx hb dL_law_1271 ?_
  refine lv_topi (fun x_799 ex_799 => ?_)
  obtain rfl : x_799 = (1 : Int32) := ex_799.trans (by decide)
  refine va_sld hx hb hX hbl hbA hW.2.2.2.1 (vp_in_iff.mpr (by rw [hL7]; decide)) dL_law_1272 ?_
  rw [show (1 : Int32).toNatClampNeg = 1 from by decide]
  refine hx_goi (hx_runV (As := [.int (xs 1)]) (rest := []) ⟨hx, hb, hml, hown, hts⟩ hW gq_2 td_9 (T := TX9) (N := 20) rfl (c_X9_walked l dC dI dA L1 hl1 H.size q_2 (xs 1) gq_2 q_55 gq_55 f_56 f_57 f_58) (cwV 1 hts (hx_gV kw_1088 kw_1085 kw_1086 kw_1087 kw_94) rfl rfl rfl (by decide +kernel) ⟨Nat.le_of_ble_eq_true rfl, Nat.le_of_ble_eq_true rfl⟩) rfl hl.1 rfl (Nat.le_of_ble_eq_true rfl) dL_law_1273 ⟨Nat.le_of_ble_eq_true rfl, Nat.le_of_ble_eq_true rfl⟩) hW (fun r_802 L_800 h_801 H locs p_803 hW => ?_)
  obtain ⟨hr_804, hs⟩ := p_803
  have hs : hx_S P_tb [] L1 hl1 L_800 h_801 := hs
  have f_4 := (hs.o gq_2 trivial rfl).1.trans f_4
  have f_5 := (hs.o gq_2 trivial rfl).1.trans f_5
  have f_9 := (hs.o gq_2 trivial rfl).1.trans f_9
  have f_11 := (hs.o gq_2 trivial rfl).1.trans f_11
  have f_14 := (hs.o gq_2 trivial rfl).1.trans f_14
  have f_16 := (hs.o gq_2 trivial rfl).1.trans f_16
  have f_28 := (hs.o gq_2 trivial rfl).2.trans f_28
  have f_30 := (hs.o gq_2 trivial rfl).2.trans f_30
  have f_32 := (hs.o gq_2 trivial rfl).2.trans f_32
  have f_33 := (hs.o gq_31 trivial rfl).1.trans f_33
  have f_35 := (hs.o gq_31 trivial rfl).2.trans f_35
  have f_38 := (hs.o gq_2 trivial rfl).2.trans f_38
  have f_40 := (hs.o gq_2 trivial rfl).2.trans f_40
  have f_42 := (hs.o gq_2 trivial rfl).2.trans f_42
  have f_43 := (hs.o gq_41 trivial rfl).1.trans f_43
  have f_45 := (hs.o gq_2 trivial rfl).2.trans f_45
  have f_46 := (hs.o gq_44 trivial rfl).1.trans f_46
  have f_48 := (hs.o gq_2 trivial rfl).2.trans f_48
  have f_49 := (hs.o gq_47 trivial rfl).1.trans f_49
  have f_51 := (hs.o gq_2 trivial rfl).2.trans f_51
  have f_52 := (hs.o gq_50 trivial rfl).1.trans f_52
  have f_54 := (hs.o gq_50 trivial rfl).2.trans f_54
  have f_56 := (hs.o gq_2 trivial rfl).2.trans f_56
  have f_57 := (hs.o gq_55 trivial rfl).1.trans f_57
  have f_58 := (hs.o gq_55 trivial rfl).1.trans f_58
  have f_61 := (hs.o gq_60 trivial rfl).1.trans f_61
  have f_62 := (hs.o gq_60 trivial rfl).1.trans f_62
  have f_68 := (hs.o gq_60 trivial rfl).1.trans f_68
  have f_69 := (hs.o gq_60 trivial rfl).1.trans f_69
  have f_70 := (hs.o gq_60 trivial rfl).1.trans f_70
  have f_71 := (hs.o gq_60 trivial rfl).1.trans f_71
  have f_72 := (hs.o gq_60 trivial rfl).1.trans f_72
  have f_74 := (hs.o gq_60 trivial rfl).1.trans f_74
  have f_81 := (hs.o gq_60 trivial rfl).1.trans f_81
  have f_90 := (hs.o gq_60 trivial rfl).1.trans f_90
  have f_97 := (hs.o gq_60 trivial rfl).1.trans f_97
  have f_118 := (hs.o gq_60 trivial rfl).1.trans f_118
  have f_120 := (hs.o gq_60 trivial rfl).1.trans f_120
  have f_128 := (hs.o gq_60 trivial rfl).1.trans f_128
  have f_129 := (hs.o gq_60 trivial rfl).1.trans f_129
  have f_130 := (hs.o gq_60 trivial rfl).1.trans f_130
  have f_131 := (hs.o gq_60 trivial rfl).1.trans f_131
  have f_132 := (hs.o gq_60 trivial rfl).1.trans f_132
  have f_133 := (hs.o gq_60 trivial rfl).1.trans f_133
  have f_136 := (hs.o gq_60 trivial rfl).1.trans f_136
  have f_144 := (hs.o gq_60 trivial rfl).1.trans f_144
  have f_145 := (hs.o gq_60 trivial rfl).1.trans f_145
  have f_147 := (hs.o gq_60 trivial rfl).1.trans f_147
  have f_148 := (hs.o gq_60 trivial rfl).1.trans f_148
  have f_151 := (hs.o gq_60 trivial rfl).1.trans f_151
  have f_153 := (hs.o gq_60 trivial rfl).1.trans f_153
  have f_156 := (hs.o gq_60 trivial rfl).1.trans f_156
  have f_157 := (hs.o gq_60 trivial rfl).1.trans f_157
  have f_164 := (hs.o gq_60 trivial rfl).2.trans f_164
  have f_166 := (hs.o gq_60 trivial rfl).2.trans f_166
  have f_169 := (hs.o gq_60 trivial rfl).2.trans f_169
  have f_171 := (hs.o gq_60 trivial rfl).2.trans f_171
  have f_173 := (hs.o gq_60 trivial rfl).2.trans f_173
  have f_175 := (hs.o gq_60 trivial rfl).2.trans f_175
  have f_177 := (hs.o gq_60 trivial rfl).2.trans f_177
  have f_179 := (hs.o gq_60 trivial rfl).2.trans f_179
  have f_181 := (hs.o gq_60 trivial rfl).2.trans f_181
  have f_183 := (hs.o gq_60 trivial rfl).2.trans f_183
  have f_185 := (hs.o gq_60 trivial rfl).2.trans f_185
  have f_187 := (hs.o gq_60 trivial rfl).2.trans f_187
  have f_189 := (hs.o gq_60 trivial rfl).2.trans f_189
  have f_191 := (hs.o gq_60 trivial rfl).2.trans f_191
  have f_193 := (hs.o gq_60 trivial rfl).2.trans f_193
  have fa_36 : ∀ j, j < 14 → _ = P_wo j := fun j hj => (hs.a gq_34 rfl j).1.trans (fa_36 j hj)
  have fa_167 : ∀ j, j < 13 → _ = P_w1 j := fun j hj => (hs.a gq_165 rfl j).1.trans (fa_167 j hj)
  have gq_2 := gq_2.S hs
  have gq_27 := gq_27.S hs
  have gq_29 := gq_29.S hs
  have gq_31 := gq_31.S hs
  have gq_34 := gq_34.S hs
  have gq_37 := gq_37.S hs
  have gq_39 := gq_39.S hs
  have gq_41 := gq_41.S hs
  have gq_44 := gq_44.S hs
  have gq_47 := gq_47.S hs
  have gq_50 := gq_50.S hs
  have gq_53 := gq_53.S hs
  have gq_55 := gq_55.S hs
  have gq_60 := gq_60.S hs
  have gq_163 := gq_163.S hs
  have gq_165 := gq_165.S hs
  have gq_168 := gq_168.S hs
  have gq_170 := gq_170.S hs
  have gq_172 := gq_172.S hs
  have gq_174 := gq_174.S hs
  have gq_176 := gq_176.S hs
  have gq_178 := gq_178.S hs
  have gq_180 := gq_180.S hs
  have gq_182 := gq_182.S hs
  have gq_184 := gq_184.S hs
  have gq_186 := gq_186.S hs
  have gq_188 := gq_188.S hs
  have gq_190 := gq_190.S hs
  have gq_192 := gq_192.S hs
  refine lv_aload_n hx hb dL_law_1276 rfl (lv_at hl 1 rfl) ?_
  refine lv_aload_n hx hb dL_law_1277 rfl (lv_at hl 3 rfl) ?_
  refine lv_iload_n hx hb dL_law_1278 rfl (lv_at hl 0 rfl) ?_
  refine lv_iconst (v := 1) hx hb dL_law_1279 (by decide) ?_
  refine lv_iadd hx hb dL_law_1280 ?_
  refine lv_topi (fun x_805 ex_805 => ?_)
  obtain rfl : x_805 = (1 : Int32) := ex_805.trans (by decide)
  refine va_sld hx hb hX hbl hbA hW.2.2.2.1 (vp_in_iff.mpr (by rw [hL7]; decide)) dL_law_1281 ?_
  rw [show (1 : Int32).toNatClampNeg = 1 from by decide]
  refine hx_goi (hx_runV (As := [.int (xs 1)]) (rest := [.int r_802]) ⟨hx, hb, hml, hown, hts⟩ hW gq_60 td_10 (T := TX10) (N := 98) rfl (c_X10_walked l dC dI dA L_800 h_801 H.size q_60 (xs 1) gq_60 f_153) (cwV 1 hts (hx_gV kw_1732 kw_1729 kw_1730 kw_1731 kw_103) rfl rfl rfl (by decide +kernel) ⟨Nat.le_of_ble_eq_true rfl, Nat.le_of_ble_eq_true rfl⟩) rfl hl.1 rfl (Nat.le_of_ble_eq_true rfl) dL_law_1282 ⟨Nat.le_of_ble_eq_true rfl, Nat.le_of_ble_eq_true rfl⟩) hW (fun r_808 L_806 h_807 H locs p_809 hW => ?_)
  obtain ⟨hr_810, hs⟩ := p_809
  have hs : hx_S P_tb [] L_800 h_801 L_806 h_807 := hs
  have f_4 := (hs.o gq_2 trivial rfl).1.trans f_4
  have f_5 := (hs.o gq_2 trivial rfl).1.trans f_5
  have f_9 := (hs.o gq_2 trivial rfl).1.trans f_9
  have f_11 := (hs.o gq_2 trivial rfl).1.trans f_11
  have f_14 := (hs.o gq_2 trivial rfl).1.trans f_14
  have f_16 := (hs.o gq_2 trivial rfl).1.trans f_16
  have f_28 := (hs.o gq_2 trivial rfl).2.trans f_28
  have f_30 := (hs.o gq_2 trivial rfl).2.trans f_30
  have f_32 := (hs.o gq_2 trivial rfl).2.trans f_32
  have f_33 := (hs.o gq_31 trivial rfl).1.trans f_33
  have f_35 := (hs.o gq_31 trivial rfl).2.trans f_35
  have f_38 := (hs.o gq_2 trivial rfl).2.trans f_38
  have f_40 := (hs.o gq_2 trivial rfl).2.trans f_40
  have f_42 := (hs.o gq_2 trivial rfl).2.trans f_42
  have f_43 := (hs.o gq_41 trivial rfl).1.trans f_43
  have f_45 := (hs.o gq_2 trivial rfl).2.trans f_45
  have f_46 := (hs.o gq_44 trivial rfl).1.trans f_46
  have f_48 := (hs.o gq_2 trivial rfl).2.trans f_48
  have f_49 := (hs.o gq_47 trivial rfl).1.trans f_49
  have f_51 := (hs.o gq_2 trivial rfl).2.trans f_51
  have f_52 := (hs.o gq_50 trivial rfl).1.trans f_52
  have f_54 := (hs.o gq_50 trivial rfl).2.trans f_54
  have f_56 := (hs.o gq_2 trivial rfl).2.trans f_56
  have f_57 := (hs.o gq_55 trivial rfl).1.trans f_57
  have f_58 := (hs.o gq_55 trivial rfl).1.trans f_58
  have f_61 := (hs.o gq_60 trivial rfl).1.trans f_61
  have f_62 := (hs.o gq_60 trivial rfl).1.trans f_62
  have f_68 := (hs.o gq_60 trivial rfl).1.trans f_68
  have f_69 := (hs.o gq_60 trivial rfl).1.trans f_69
  have f_70 := (hs.o gq_60 trivial rfl).1.trans f_70
  have f_71 := (hs.o gq_60 trivial rfl).1.trans f_71
  have f_72 := (hs.o gq_60 trivial rfl).1.trans f_72
  have f_74 := (hs.o gq_60 trivial rfl).1.trans f_74
  have f_81 := (hs.o gq_60 trivial rfl).1.trans f_81
  have f_90 := (hs.o gq_60 trivial rfl).1.trans f_90
  have f_97 := (hs.o gq_60 trivial rfl).1.trans f_97
  have f_118 := (hs.o gq_60 trivial rfl).1.trans f_118
  have f_120 := (hs.o gq_60 trivial rfl).1.trans f_120
  have f_128 := (hs.o gq_60 trivial rfl).1.trans f_128
  have f_129 := (hs.o gq_60 trivial rfl).1.trans f_129
  have f_130 := (hs.o gq_60 trivial rfl).1.trans f_130
  have f_131 := (hs.o gq_60 trivial rfl).1.trans f_131
  have f_132 := (hs.o gq_60 trivial rfl).1.trans f_132
  have f_133 := (hs.o gq_60 trivial rfl).1.trans f_133
  have f_136 := (hs.o gq_60 trivial rfl).1.trans f_136
  have f_144 := (hs.o gq_60 trivial rfl).1.trans f_144
  have f_145 := (hs.o gq_60 trivial rfl).1.trans f_145
  have f_147 := (hs.o gq_60 trivial rfl).1.trans f_147
  have f_148 := (hs.o gq_60 trivial rfl).1.trans f_148
  have f_151 := (hs.o gq_60 trivial rfl).1.trans f_151
  have f_153 := (hs.o gq_60 trivial rfl).1.trans f_153
  have f_156 := (hs.o gq_60 trivial rfl).1.trans f_156
  have f_157 := (hs.o gq_60 trivial rfl).1.trans f_157
  have f_164 := (hs.o gq_60 trivial rfl).2.trans f_164
  have f_166 := (hs.o gq_60 trivial rfl).2.trans f_166
  have f_169 := (hs.o gq_60 trivial rfl).2.trans f_169
  have f_171 := (hs.o gq_60 trivial rfl).2.trans f_171
  have f_173 := (hs.o gq_60 trivial rfl).2.trans f_173
  have f_175 := (hs.o gq_60 trivial rfl).2.trans f_175
  have f_177 := (hs.o gq_60 trivial rfl).2.trans f_177
  have f_179 := (hs.o gq_60 trivial rfl).2.trans f_179
  have f_181 := (hs.o gq_60 trivial rfl).2.trans f_181
  have f_183 := (hs.o gq_60 trivial rfl).2.trans f_183
  have f_185 := (hs.o gq_60 trivial rfl).2.trans f_185
  have f_187 := (hs.o gq_60 trivial rfl).2.trans f_187
  have f_189 := (hs.o gq_60 trivial rfl).2.trans f_189
  have f_191 := (hs.o gq_60 trivial rfl).2.trans f_191
  have f_193 := (hs.o gq_60 trivial rfl).2.trans f_193
  have fa_36 : ∀ j, j < 14 → _ = P_wo j := fun j hj => (hs.a gq_34 rfl j).1.trans (fa_36 j hj)
  have fa_167 : ∀ j, j < 13 → _ = P_w1 j := fun j hj => (hs.a gq_165 rfl j).1.trans (fa_167 j hj)
  have gq_2 := gq_2.S hs
  have gq_27 := gq_27.S hs
  have gq_29 := gq_29.S hs
  have gq_31 := gq_31.S hs
  have gq_34 := gq_34.S hs
  have gq_37 := gq_37.S hs
  have gq_39 := gq_39.S hs
  have gq_41 := gq_41.S hs
  have gq_44 := gq_44.S hs
  have gq_47 := gq_47.S hs
  have gq_50 := gq_50.S hs
  have gq_53 := gq_53.S hs
  have gq_55 := gq_55.S hs
  have gq_60 := gq_60.S hs
  have gq_163 := gq_163.S hs
  have gq_165 := gq_165.S hs
  have gq_168 := gq_168.S hs
  have gq_170 := gq_170.S hs
  have gq_172 := gq_172.S hs
  have gq_174 := gq_174.S hs
  have gq_176 := gq_176.S hs
  have gq_178 := gq_178.S hs
  have gq_180 := gq_180.S hs
  have gq_182 := gq_182.S hs
  have gq_184 := gq_184.S hs
  have gq_186 := gq_186.S hs
  have gq_188 := gq_188.S hs
  have gq_190 := gq_190.S hs
  have gq_192 := gq_192.S hs
  have heq : r_802 = r_808 := by
    first | exact hr_804.trans hr_810.symm | (rcases hr_804 with ⟨k1, k2⟩ | ⟨k1, k2⟩ <;> rcases hr_810 with ⟨k3, k4⟩ | ⟨k3, k4⟩ <;> first | exact k2.trans k4.symm | (exfalso; omega) | exact absurd k1 k3 | exact absurd k3 k1)
  refine hb_icmp_eq (zx := r_802.toInt) (zy := r_808.toInt) (tgt := 1379) hx hb rfl rfl dL_law_1285 (by decide) (fun c_811 => ?_) (fun c_811 => absurd (congrArg Int32.toInt heq) c_811)
  exact law_tail hx hb hr hlocks hX hbl hbA hL7 _ _ hW.2.2.2.1 ls hl (Nat.le_of_ble_eq_true rfl) (Nat.le_of_ble_eq_true rfl)

set_option maxHeartbeats 4000000 in
set_option maxRecDepth 100000 in
theorem law_case_28 {p : Program} {e : Env} {s : State} {m : MethodId} {below : List Frame} {meth : Method} {c : Code} (l : Launch) {b LN : Nat} {xs : Nat → Int32} (hx : p.tables.exec = Jvm.exec) (hb : c.code = code) (hr : meth.sig.returnType = ret) (hlocks : meth.locks = false) (hml : c.maxLocals = 4) (hown : s.vm.findClass "SmallCourtLaw" = some m.cls) (hts : ∀ w ∈ hx_all, w.before #[Value.ref b] s = true) (hX : va_X b LN xs s s.heap) (hbl : b < s.heap.size) (hbA : ¬ s.heap.size ≤ b) (hL7 : LN = 7) (dC : Nat → ClassId) (dI : Nat → Nat → Nat) (dA : Nat → ClassId) (b0 : Nat) (q_2 q_27 q_29 q_31 q_34 q_37 q_39 q_41 q_44 q_47 q_50 q_53 q_55 q_60 q_163 q_165 q_168 q_170 q_172 q_174 q_176 q_178 q_180 q_182 q_184 q_186 q_188 q_190 q_192 : Nat) (L1 : List Nat) (hl1 : hx_h) (H : Heap) (locs : List Loc) (ls : Array Slot) (hW : hx_W P_tb (P_ty dA) (dC, dI) vwCl (fun q : Nat => s.heap.size ≤ q) s.heap L1 hl1 s H locs) (hZ : hx_Xt (fun q : Nat => s.heap.size ≤ q) b0 s) (f_4 : hl1.2.1 q_2 1 = (0 : Int32)) (f_5 : hl1.2.1 q_2 2 = (0 : Int32)) (f_9 : hl1.2.1 q_2 6 = (0 : Int32)) (f_11 : hl1.2.1 q_2 8 = (0 : Int32)) (f_14 : hl1.2.1 q_2 11 = (0 : Int32)) (f_16 : hl1.2.1 q_2 13 = (0 : Int32)) (f_28 : hl1.2.2 q_2 0 = some q_27) (f_30 : hl1.2.2 q_2 3 = some q_29) (f_32 : hl1.2.2 q_2 4 = some q_31) (f_33 : hl1.2.1 q_31 0 = (-1 : Int32)) (f_35 : hl1.2.2 q_31 2 = some q_34) (f_38 : hl1.2.2 q_2 5 = some q_37) (f_40 : hl1.2.2 q_2 7 = some q_39) (f_42 : hl1.2.2 q_2 9 = some q_41) (f_43 : hl1.2.1 q_41 0 = (0 : Int32)) (f_45 : hl1.2.2 q_2 14 = some q_44) (f_46 : hl1.2.1 q_44 0 = (0 : Int32)) (f_48 : hl1.2.2 q_2 17 = some q_47) (f_49 : hl1.2.1 q_47 1 = (0 : Int32)) (f_51 : hl1.2.2 q_2 18 = some q_50) (f_52 : hl1.2.1 q_50 0 = (-1 : Int32)) (f_54 : hl1.2.2 q_50 5 = some q_53) (f_56 : hl1.2.2 q_2 19 = some q_55) (f_57 : hl1.2.1 q_55 0 = (0 : Int32)) (f_58 : hl1.2.1 q_55 1 = (0 : Int32)) (f_61 : hl1.2.1 q_60 0 = (0 : Int32)) (f_62 : hl1.2.1 q_60 1 = (0 : Int32)) (f_68 : hl1.2.1 q_60 7 = (0 : Int32)) (f_69 : hl1.2.1 q_60 8 = (0 : Int32)) (f_70 : hl1.2.1 q_60 9 = (0 : Int32)) (f_71 : hl1.2.1 q_60 10 = (0 : Int32)) (f_72 : hl1.2.1 q_60 11 = (0 : Int32)) (f_74 : hl1.2.1 q_60 13 = (0 : Int32)) (f_81 : hl1.2.1 q_60 20 = (0 : Int32)) (f_90 : hl1.2.1 q_60 29 = (0 : Int32)) (f_97 : hl1.2.1 q_60 36 = (0 : Int32)) (f_118 : hl1.2.1 q_60 57 = (0 : Int32)) (f_120 : hl1.2.1 q_60 59 = (0 : Int32)) (f_128 : hl1.2.1 q_60 67 = (0 : Int32)) (f_129 : hl1.2.1 q_60 68 = (0 : Int32)) (f_130 : hl1.2.1 q_60 69 = (0 : Int32)) (f_131 : hl1.2.1 q_60 70 = (0 : Int32)) (f_132 : hl1.2.1 q_60 71 = (0 : Int32)) (f_133 : hl1.2.1 q_60 72 = (0 : Int32)) (f_136 : hl1.2.1 q_60 75 = (0 : Int32)) (f_144 : hl1.2.1 q_60 83 = (0 : Int32)) (f_145 : hl1.2.1 q_60 84 = (0 : Int32)) (f_147 : hl1.2.1 q_60 86 = (0 : Int32)) (f_148 : hl1.2.1 q_60 87 = (0 : Int32)) (f_151 : hl1.2.1 q_60 90 = (0 : Int32)) (f_153 : hl1.2.1 q_60 92 = (0 : Int32)) (f_156 : hl1.2.1 q_60 95 = (0 : Int32)) (f_157 : hl1.2.1 q_60 96 = (0 : Int32)) (f_164 : hl1.2.2 q_60 2 = some q_163) (f_166 : hl1.2.2 q_60 3 = some q_165) (f_169 : hl1.2.2 q_60 4 = some q_168) (f_171 : hl1.2.2 q_60 5 = some q_170) (f_173 : hl1.2.2 q_60 6 = some q_172) (f_175 : hl1.2.2 q_60 12 = some q_174) (f_177 : hl1.2.2 q_60 15 = some q_176) (f_179 : hl1.2.2 q_60 21 = some q_178) (f_181 : hl1.2.2 q_60 22 = some q_180) (f_183 : hl1.2.2 q_60 23 = some q_182) (f_185 : hl1.2.2 q_60 24 = some q_184) (f_187 : hl1.2.2 q_60 25 = some q_186) (f_189 : hl1.2.2 q_60 26 = some q_188) (f_191 : hl1.2.2 q_60 82 = some q_190) (f_193 : hl1.2.2 q_60 94 = some q_192) (fa_36 : ∀ j, j < 14 → hl1.2.1 q_34 j = P_wo j) (fa_167 : ∀ j, j < 13 → hl1.2.1 q_165 j = P_w1 j) (gq_2 : hx_g L1 hl1 q_2 9) (gq_27 : hx_g L1 hl1 q_27 42) (gq_29 : hx_g L1 hl1 q_29 6) (gq_31 : hx_g L1 hl1 q_31 0) (gq_34 : hx_g L1 hl1 q_34 11) (gq_37 : hx_g L1 hl1 q_37 43) (gq_39 : hx_g L1 hl1 q_39 44) (gq_41 : hx_g L1 hl1 q_41 1) (gq_44 : hx_g L1 hl1 q_44 3) (gq_47 : hx_g L1 hl1 q_47 5) (gq_50 : hx_g L1 hl1 q_50 7) (gq_53 : hx_g L1 hl1 q_53 36) (gq_55 : hx_g L1 hl1 q_55 8) (gq_60 : hx_g L1 hl1 q_60 10) (gq_163 : hx_g L1 hl1 q_163 49) (gq_165 : hx_g L1 hl1 q_165 50) (gq_168 : hx_g L1 hl1 q_168 51) (gq_170 : hx_g L1 hl1 q_170 52) (gq_172 : hx_g L1 hl1 q_172 53) (gq_174 : hx_g L1 hl1 q_174 54) (gq_176 : hx_g L1 hl1 q_176 55) (gq_178 : hx_g L1 hl1 q_178 58) (gq_180 : hx_g L1 hl1 q_180 59) (gq_182 : hx_g L1 hl1 q_182 60) (gq_184 : hx_g L1 hl1 q_184 61) (gq_186 : hx_g L1 hl1 q_186 62) (gq_188 : hx_g L1 hl1 q_188 63) (gq_190 : hx_g L1 hl1 q_190 108) (gq_192 : hx_g L1 hl1 q_192 114) (hl : lv_has ls 4 [(3, .int (0 : Int32)), (2, .ref q_60), (1, .ref q_2), (0, .ref b)]) : W p l e room_1 s m #[Value.ref b] below meth c H locs 112 26072 (lw_Z below #[Value.ref b] s) (F0 m 1290 ls []) := by
  refine lv_aload_n hx hb dL_law_1290 rfl (lv_at hl 2 rfl) ?_
  refine lv_aload_n hx hb dL_law_1291 rfl (lv_at hl 3 rfl) ?_
  refine lv_iload_n hx hb dL_law_1292 rfl (lv_at hl 0 rfl) ?_
  refine lv_iconst (v := 1) hx hb dL_law_1293 (by decide) ?_
  refine lv_iadd hx hb dL_law_1294 ?_
  refine lv_topi (fun x_812 ex_812 => ?_)
  obtain rfl : x_812 = (1 : Int32) := ex_812.trans (by decide)
  refine va_sld hx hb hX hbl hbA hW.2.2.2.1 (vp_in_iff.mpr (by rw [hL7]; decide)) dL_law_1295 ?_
  rw [show (1 : Int32).toNatClampNeg = 1 from by decide]
  refine lv_aload_n hx hb dL_law_1296 rfl (lv_at hl 3 rfl) ?_
  refine lv_iload_n hx hb dL_law_1297 rfl (lv_at hl 0 rfl) ?_
  refine lv_iconst (v := 2) hx hb dL_law_1298 (by decide) ?_
  refine lv_iadd hx hb dL_law_1299 ?_
  refine lv_topi (fun x_813 ex_813 => ?_)
  obtain rfl : x_813 = (2 : Int32) := ex_813.trans (by decide)
  refine va_sld hx hb hX hbl hbA hW.2.2.2.1 (vp_in_iff.mpr (by rw [hL7]; decide)) dL_law_1300 ?_
  rw [show (2 : Int32).toNatClampNeg = 2 from by decide]
  refine hx_goi (hx_runV (As := [.int (xs 1), .int (xs 2)]) (rest := []) ⟨hx, hb, hml, hown, hts⟩ hW gq_2 td_9 (T := TX9) (N := 20) rfl (c_X9_habit l dC dI dA L1 hl1 H.size q_2 (xs 1) (xs 2) gq_2 f_11) (cwV 2 hts (hx_gV kw_1092 kw_1089 kw_1090 kw_1091 kw_94) rfl rfl rfl (by decide +kernel) ⟨Nat.le_of_ble_eq_true rfl, Nat.le_of_ble_eq_true rfl⟩) rfl hl.1 rfl (Nat.le_of_ble_eq_true rfl) dL_law_1301 ⟨Nat.le_of_ble_eq_true rfl, Nat.le_of_ble_eq_true rfl⟩) hW (fun r_816 L_814 h_815 H locs p_817 hW => ?_)
  obtain ⟨hr_818, hs⟩ := p_817
  have hs : hx_S P_tb [] L1 hl1 L_814 h_815 := hs
  have f_4 := (hs.o gq_2 trivial rfl).1.trans f_4
  have f_5 := (hs.o gq_2 trivial rfl).1.trans f_5
  have f_9 := (hs.o gq_2 trivial rfl).1.trans f_9
  have f_11 := (hs.o gq_2 trivial rfl).1.trans f_11
  have f_14 := (hs.o gq_2 trivial rfl).1.trans f_14
  have f_16 := (hs.o gq_2 trivial rfl).1.trans f_16
  have f_28 := (hs.o gq_2 trivial rfl).2.trans f_28
  have f_30 := (hs.o gq_2 trivial rfl).2.trans f_30
  have f_32 := (hs.o gq_2 trivial rfl).2.trans f_32
  have f_33 := (hs.o gq_31 trivial rfl).1.trans f_33
  have f_35 := (hs.o gq_31 trivial rfl).2.trans f_35
  have f_38 := (hs.o gq_2 trivial rfl).2.trans f_38
  have f_40 := (hs.o gq_2 trivial rfl).2.trans f_40
  have f_42 := (hs.o gq_2 trivial rfl).2.trans f_42
  have f_43 := (hs.o gq_41 trivial rfl).1.trans f_43
  have f_45 := (hs.o gq_2 trivial rfl).2.trans f_45
  have f_46 := (hs.o gq_44 trivial rfl).1.trans f_46
  have f_48 := (hs.o gq_2 trivial rfl).2.trans f_48
  have f_49 := (hs.o gq_47 trivial rfl).1.trans f_49
  have f_51 := (hs.o gq_2 trivial rfl).2.trans f_51
  have f_52 := (hs.o gq_50 trivial rfl).1.trans f_52
  have f_54 := (hs.o gq_50 trivial rfl).2.trans f_54
  have f_56 := (hs.o gq_2 trivial rfl).2.trans f_56
  have f_57 := (hs.o gq_55 trivial rfl).1.trans f_57
  have f_58 := (hs.o gq_55 trivial rfl).1.trans f_58
  have f_61 := (hs.o gq_60 trivial rfl).1.trans f_61
  have f_62 := (hs.o gq_60 trivial rfl).1.trans f_62
  have f_68 := (hs.o gq_60 trivial rfl).1.trans f_68
  have f_69 := (hs.o gq_60 trivial rfl).1.trans f_69
  have f_70 := (hs.o gq_60 trivial rfl).1.trans f_70
  have f_71 := (hs.o gq_60 trivial rfl).1.trans f_71
  have f_72 := (hs.o gq_60 trivial rfl).1.trans f_72
  have f_74 := (hs.o gq_60 trivial rfl).1.trans f_74
  have f_81 := (hs.o gq_60 trivial rfl).1.trans f_81
  have f_90 := (hs.o gq_60 trivial rfl).1.trans f_90
  have f_97 := (hs.o gq_60 trivial rfl).1.trans f_97
  have f_118 := (hs.o gq_60 trivial rfl).1.trans f_118
  have f_120 := (hs.o gq_60 trivial rfl).1.trans f_120
  have f_128 := (hs.o gq_60 trivial rfl).1.trans f_128
  have f_129 := (hs.o gq_60 trivial rfl).1.trans f_129
  have f_130 := (hs.o gq_60 trivial rfl).1.trans f_130
  have f_131 := (hs.o gq_60 trivial rfl).1.trans f_131
  have f_132 := (hs.o gq_60 trivial rfl).1.trans f_132
  have f_133 := (hs.o gq_60 trivial rfl).1.trans f_133
  have f_136 := (hs.o gq_60 trivial rfl).1.trans f_136
  have f_144 := (hs.o gq_60 trivial rfl).1.trans f_144
  have f_145 := (hs.o gq_60 trivial rfl).1.trans f_145
  have f_147 := (hs.o gq_60 trivial rfl).1.trans f_147
  have f_148 := (hs.o gq_60 trivial rfl).1.trans f_148
  have f_151 := (hs.o gq_60 trivial rfl).1.trans f_151
  have f_153 := (hs.o gq_60 trivial rfl).1.trans f_153
  have f_156 := (hs.o gq_60 trivial rfl).1.trans f_156
  have f_157 := (hs.o gq_60 trivial rfl).1.trans f_157
  have f_164 := (hs.o gq_60 trivial rfl).2.trans f_164
  have f_166 := (hs.o gq_60 trivial rfl).2.trans f_166
  have f_169 := (hs.o gq_60 trivial rfl).2.trans f_169
  have f_171 := (hs.o gq_60 trivial rfl).2.trans f_171
  have f_173 := (hs.o gq_60 trivial rfl).2.trans f_173
  have f_175 := (hs.o gq_60 trivial rfl).2.trans f_175
  have f_177 := (hs.o gq_60 trivial rfl).2.trans f_177
  have f_179 := (hs.o gq_60 trivial rfl).2.trans f_179
  have f_181 := (hs.o gq_60 trivial rfl).2.trans f_181
  have f_183 := (hs.o gq_60 trivial rfl).2.trans f_183
  have f_185 := (hs.o gq_60 trivial rfl).2.trans f_185
  have f_187 := (hs.o gq_60 trivial rfl).2.trans f_187
  have f_189 := (hs.o gq_60 trivial rfl).2.trans f_189
  have f_191 := (hs.o gq_60 trivial rfl).2.trans f_191
  have f_193 := (hs.o gq_60 trivial rfl).2.trans f_193
  have fa_36 : ∀ j, j < 14 → _ = P_wo j := fun j hj => (hs.a gq_34 rfl j).1.trans (fa_36 j hj)
  have fa_167 : ∀ j, j < 13 → _ = P_w1 j := fun j hj => (hs.a gq_165 rfl j).1.trans (fa_167 j hj)
  have gq_2 := gq_2.S hs
  have gq_27 := gq_27.S hs
  have gq_29 := gq_29.S hs
  have gq_31 := gq_31.S hs
  have gq_34 := gq_34.S hs
  have gq_37 := gq_37.S hs
  have gq_39 := gq_39.S hs
  have gq_41 := gq_41.S hs
  have gq_44 := gq_44.S hs
  have gq_47 := gq_47.S hs
  have gq_50 := gq_50.S hs
  have gq_53 := gq_53.S hs
  have gq_55 := gq_55.S hs
  have gq_60 := gq_60.S hs
  have gq_163 := gq_163.S hs
  have gq_165 := gq_165.S hs
  have gq_168 := gq_168.S hs
  have gq_170 := gq_170.S hs
  have gq_172 := gq_172.S hs
  have gq_174 := gq_174.S hs
  have gq_176 := gq_176.S hs
  have gq_178 := gq_178.S hs
  have gq_180 := gq_180.S hs
  have gq_182 := gq_182.S hs
  have gq_184 := gq_184.S hs
  have gq_186 := gq_186.S hs
  have gq_188 := gq_188.S hs
  have gq_190 := gq_190.S hs
  have gq_192 := gq_192.S hs
  refine lv_aload_n hx hb dL_law_1304 rfl (lv_at hl 1 rfl) ?_
  refine lv_aload_n hx hb dL_law_1305 rfl (lv_at hl 3 rfl) ?_
  refine lv_iload_n hx hb dL_law_1306 rfl (lv_at hl 0 rfl) ?_
  refine lv_iconst (v := 1) hx hb dL_law_1307 (by decide) ?_
  refine lv_iadd hx hb dL_law_1308 ?_
  refine lv_topi (fun x_819 ex_819 => ?_)
  obtain rfl : x_819 = (1 : Int32) := ex_819.trans (by decide)
  refine va_sld hx hb hX hbl hbA hW.2.2.2.1 (vp_in_iff.mpr (by rw [hL7]; decide)) dL_law_1309 ?_
  rw [show (1 : Int32).toNatClampNeg = 1 from by decide]
  refine lv_aload_n hx hb dL_law_1310 rfl (lv_at hl 3 rfl) ?_
  refine lv_iload_n hx hb dL_law_1311 rfl (lv_at hl 0 rfl) ?_
  refine lv_iconst (v := 2) hx hb dL_law_1312 (by decide) ?_
  refine lv_iadd hx hb dL_law_1313 ?_
  refine lv_topi (fun x_820 ex_820 => ?_)
  obtain rfl : x_820 = (2 : Int32) := ex_820.trans (by decide)
  refine va_sld hx hb hX hbl hbA hW.2.2.2.1 (vp_in_iff.mpr (by rw [hL7]; decide)) dL_law_1314 ?_
  rw [show (2 : Int32).toNatClampNeg = 2 from by decide]
  refine hx_goi (hx_runV (As := [.int (xs 1), .int (xs 2)]) (rest := [.int r_816]) ⟨hx, hb, hml, hown, hts⟩ hW gq_60 td_10 (T := TX10) (N := 98) rfl (c_X10_habit l dC dI dA L_814 h_815 H.size q_60 (xs 1) (xs 2) gq_60 f_81) (cwV 2 hts (hx_gV kw_1736 kw_1733 kw_1734 kw_1735 kw_103) rfl rfl rfl (by decide +kernel) ⟨Nat.le_of_ble_eq_true rfl, Nat.le_of_ble_eq_true rfl⟩) rfl hl.1 rfl (Nat.le_of_ble_eq_true rfl) dL_law_1315 ⟨Nat.le_of_ble_eq_true rfl, Nat.le_of_ble_eq_true rfl⟩) hW (fun r_823 L_821 h_822 H locs p_824 hW => ?_)
  obtain ⟨hr_825, hs⟩ := p_824
  have hs : hx_S P_tb [] L_814 h_815 L_821 h_822 := hs
  have f_4 := (hs.o gq_2 trivial rfl).1.trans f_4
  have f_5 := (hs.o gq_2 trivial rfl).1.trans f_5
  have f_9 := (hs.o gq_2 trivial rfl).1.trans f_9
  have f_11 := (hs.o gq_2 trivial rfl).1.trans f_11
  have f_14 := (hs.o gq_2 trivial rfl).1.trans f_14
  have f_16 := (hs.o gq_2 trivial rfl).1.trans f_16
  have f_28 := (hs.o gq_2 trivial rfl).2.trans f_28
  have f_30 := (hs.o gq_2 trivial rfl).2.trans f_30
  have f_32 := (hs.o gq_2 trivial rfl).2.trans f_32
  have f_33 := (hs.o gq_31 trivial rfl).1.trans f_33
  have f_35 := (hs.o gq_31 trivial rfl).2.trans f_35
  have f_38 := (hs.o gq_2 trivial rfl).2.trans f_38
  have f_40 := (hs.o gq_2 trivial rfl).2.trans f_40
  have f_42 := (hs.o gq_2 trivial rfl).2.trans f_42
  have f_43 := (hs.o gq_41 trivial rfl).1.trans f_43
  have f_45 := (hs.o gq_2 trivial rfl).2.trans f_45
  have f_46 := (hs.o gq_44 trivial rfl).1.trans f_46
  have f_48 := (hs.o gq_2 trivial rfl).2.trans f_48
  have f_49 := (hs.o gq_47 trivial rfl).1.trans f_49
  have f_51 := (hs.o gq_2 trivial rfl).2.trans f_51
  have f_52 := (hs.o gq_50 trivial rfl).1.trans f_52
  have f_54 := (hs.o gq_50 trivial rfl).2.trans f_54
  have f_56 := (hs.o gq_2 trivial rfl).2.trans f_56
  have f_57 := (hs.o gq_55 trivial rfl).1.trans f_57
  have f_58 := (hs.o gq_55 trivial rfl).1.trans f_58
  have f_61 := (hs.o gq_60 trivial rfl).1.trans f_61
  have f_62 := (hs.o gq_60 trivial rfl).1.trans f_62
  have f_68 := (hs.o gq_60 trivial rfl).1.trans f_68
  have f_69 := (hs.o gq_60 trivial rfl).1.trans f_69
  have f_70 := (hs.o gq_60 trivial rfl).1.trans f_70
  have f_71 := (hs.o gq_60 trivial rfl).1.trans f_71
  have f_72 := (hs.o gq_60 trivial rfl).1.trans f_72
  have f_74 := (hs.o gq_60 trivial rfl).1.trans f_74
  have f_81 := (hs.o gq_60 trivial rfl).1.trans f_81
  have f_90 := (hs.o gq_60 trivial rfl).1.trans f_90
  have f_97 := (hs.o gq_60 trivial rfl).1.trans f_97
  have f_118 := (hs.o gq_60 trivial rfl).1.trans f_118
  have f_120 := (hs.o gq_60 trivial rfl).1.trans f_120
  have f_128 := (hs.o gq_60 trivial rfl).1.trans f_128
  have f_129 := (hs.o gq_60 trivial rfl).1.trans f_129
  have f_130 := (hs.o gq_60 trivial rfl).1.trans f_130
  have f_131 := (hs.o gq_60 trivial rfl).1.trans f_131
  have f_132 := (hs.o gq_60 trivial rfl).1.trans f_132
  have f_133 := (hs.o gq_60 trivial rfl).1.trans f_133
  have f_136 := (hs.o gq_60 trivial rfl).1.trans f_136
  have f_144 := (hs.o gq_60 trivial rfl).1.trans f_144
  have f_145 := (hs.o gq_60 trivial rfl).1.trans f_145
  have f_147 := (hs.o gq_60 trivial rfl).1.trans f_147
  have f_148 := (hs.o gq_60 trivial rfl).1.trans f_148
  have f_151 := (hs.o gq_60 trivial rfl).1.trans f_151
  have f_153 := (hs.o gq_60 trivial rfl).1.trans f_153
  have f_156 := (hs.o gq_60 trivial rfl).1.trans f_156
  have f_157 := (hs.o gq_60 trivial rfl).1.trans f_157
  have f_164 := (hs.o gq_60 trivial rfl).2.trans f_164
  have f_166 := (hs.o gq_60 trivial rfl).2.trans f_166
  have f_169 := (hs.o gq_60 trivial rfl).2.trans f_169
  have f_171 := (hs.o gq_60 trivial rfl).2.trans f_171
  have f_173 := (hs.o gq_60 trivial rfl).2.trans f_173
  have f_175 := (hs.o gq_60 trivial rfl).2.trans f_175
  have f_177 := (hs.o gq_60 trivial rfl).2.trans f_177
  have f_179 := (hs.o gq_60 trivial rfl).2.trans f_179
  have f_181 := (hs.o gq_60 trivial rfl).2.trans f_181
  have f_183 := (hs.o gq_60 trivial rfl).2.trans f_183
  have f_185 := (hs.o gq_60 trivial rfl).2.trans f_185
  have f_187 := (hs.o gq_60 trivial rfl).2.trans f_187
  have f_189 := (hs.o gq_60 trivial rfl).2.trans f_189
  have f_191 := (hs.o gq_60 trivial rfl).2.trans f_191
  have f_193 := (hs.o gq_60 trivial rfl).2.trans f_193
  have fa_36 : ∀ j, j < 14 → _ = P_wo j := fun j hj => (hs.a gq_34 rfl j).1.trans (fa_36 j hj)
  have fa_167 : ∀ j, j < 13 → _ = P_w1 j := fun j hj => (hs.a gq_165 rfl j).1.trans (fa_167 j hj)
  have gq_2 := gq_2.S hs
  have gq_27 := gq_27.S hs
  have gq_29 := gq_29.S hs
  have gq_31 := gq_31.S hs
  have gq_34 := gq_34.S hs
  have gq_37 := gq_37.S hs
  have gq_39 := gq_39.S hs
  have gq_41 := gq_41.S hs
  have gq_44 := gq_44.S hs
  have gq_47 := gq_47.S hs
  have gq_50 := gq_50.S hs
  have gq_53 := gq_53.S hs
  have gq_55 := gq_55.S hs
  have gq_60 := gq_60.S hs
  have gq_163 := gq_163.S hs
  have gq_165 := gq_165.S hs
  have gq_168 := gq_168.S hs
  have gq_170 := gq_170.S hs
  have gq_172 := gq_172.S hs
  have gq_174 := gq_174.S hs
  have gq_176 := gq_176.S hs
  have gq_178 := gq_178.S hs
  have gq_180 := gq_180.S hs
  have gq_182 := gq_182.S hs
  have gq_184 := gq_184.S hs
  have gq_186 := gq_186.S hs
  have gq_188 := gq_188.S hs
  have gq_190 := gq_190.S hs
  have gq_192 := gq_192.S hs
  have heq : r_816 = r_823 := by
    first | exact hr_818.trans hr_825.symm | (rcases hr_818 with ⟨k1, k2⟩ | ⟨k1, k2⟩ <;> rcases hr_825 with ⟨k3, k4⟩ | ⟨k3, k4⟩ <;> first | exact k2.trans k4.symm | (exfalso; omega) | exact absurd k1 k3 | exact absurd k3 k1)
  refine hb_icmp_eq (zx := r_816.toInt) (zy := r_823.toInt) (tgt := 1379) hx hb rfl rfl dL_law_1318 (by decide) (fun c_826 => ?_) (fun c_826 => absurd (congrArg Int32.toInt heq) c_826)
  exact law_tail hx hb hr hlocks hX hbl hbA hL7 _ _ hW.2.2.2.1 ls hl (Nat.le_of_ble_eq_true rfl) (Nat.le_of_ble_eq_true rfl)

set_option maxHeartbeats 4000000 in
set_option maxRecDepth 100000 in
theorem law_case_29 {p : Program} {e : Env} {s : State} {m : MethodId} {below : List Frame} {meth : Method} {c : Code} (l : Launch) {b LN : Nat} {xs : Nat → Int32} (hx : p.tables.exec = Jvm.exec) (hb : c.code = code) (hr : meth.sig.returnType = ret) (hlocks : meth.locks = false) (hml : c.maxLocals = 4) (hown : s.vm.findClass "SmallCourtLaw" = some m.cls) (hts : ∀ w ∈ hx_all, w.before #[Value.ref b] s = true) (hX : va_X b LN xs s s.heap) (hbl : b < s.heap.size) (hbA : ¬ s.heap.size ≤ b) (hL7 : LN = 7) (dC : Nat → ClassId) (dI : Nat → Nat → Nat) (dA : Nat → ClassId) (b0 : Nat) (q_2 q_27 q_29 q_31 q_34 q_37 q_39 q_41 q_44 q_47 q_50 q_53 q_55 q_60 q_163 q_165 q_168 q_170 q_172 q_174 q_176 q_178 q_180 q_182 q_184 q_186 q_188 q_190 q_192 : Nat) (L1 : List Nat) (hl1 : hx_h) (H : Heap) (locs : List Loc) (ls : Array Slot) (hW : hx_W P_tb (P_ty dA) (dC, dI) vwCl (fun q : Nat => s.heap.size ≤ q) s.heap L1 hl1 s H locs) (hZ : hx_Xt (fun q : Nat => s.heap.size ≤ q) b0 s) (f_4 : hl1.2.1 q_2 1 = (0 : Int32)) (f_5 : hl1.2.1 q_2 2 = (0 : Int32)) (f_9 : hl1.2.1 q_2 6 = (0 : Int32)) (f_11 : hl1.2.1 q_2 8 = (0 : Int32)) (f_14 : hl1.2.1 q_2 11 = (0 : Int32)) (f_16 : hl1.2.1 q_2 13 = (0 : Int32)) (f_28 : hl1.2.2 q_2 0 = some q_27) (f_30 : hl1.2.2 q_2 3 = some q_29) (f_32 : hl1.2.2 q_2 4 = some q_31) (f_33 : hl1.2.1 q_31 0 = (-1 : Int32)) (f_35 : hl1.2.2 q_31 2 = some q_34) (f_38 : hl1.2.2 q_2 5 = some q_37) (f_40 : hl1.2.2 q_2 7 = some q_39) (f_42 : hl1.2.2 q_2 9 = some q_41) (f_43 : hl1.2.1 q_41 0 = (0 : Int32)) (f_45 : hl1.2.2 q_2 14 = some q_44) (f_46 : hl1.2.1 q_44 0 = (0 : Int32)) (f_48 : hl1.2.2 q_2 17 = some q_47) (f_49 : hl1.2.1 q_47 1 = (0 : Int32)) (f_51 : hl1.2.2 q_2 18 = some q_50) (f_52 : hl1.2.1 q_50 0 = (-1 : Int32)) (f_54 : hl1.2.2 q_50 5 = some q_53) (f_56 : hl1.2.2 q_2 19 = some q_55) (f_57 : hl1.2.1 q_55 0 = (0 : Int32)) (f_58 : hl1.2.1 q_55 1 = (0 : Int32)) (f_61 : hl1.2.1 q_60 0 = (0 : Int32)) (f_62 : hl1.2.1 q_60 1 = (0 : Int32)) (f_68 : hl1.2.1 q_60 7 = (0 : Int32)) (f_69 : hl1.2.1 q_60 8 = (0 : Int32)) (f_70 : hl1.2.1 q_60 9 = (0 : Int32)) (f_71 : hl1.2.1 q_60 10 = (0 : Int32)) (f_72 : hl1.2.1 q_60 11 = (0 : Int32)) (f_74 : hl1.2.1 q_60 13 = (0 : Int32)) (f_81 : hl1.2.1 q_60 20 = (0 : Int32)) (f_90 : hl1.2.1 q_60 29 = (0 : Int32)) (f_97 : hl1.2.1 q_60 36 = (0 : Int32)) (f_118 : hl1.2.1 q_60 57 = (0 : Int32)) (f_120 : hl1.2.1 q_60 59 = (0 : Int32)) (f_128 : hl1.2.1 q_60 67 = (0 : Int32)) (f_129 : hl1.2.1 q_60 68 = (0 : Int32)) (f_130 : hl1.2.1 q_60 69 = (0 : Int32)) (f_131 : hl1.2.1 q_60 70 = (0 : Int32)) (f_132 : hl1.2.1 q_60 71 = (0 : Int32)) (f_133 : hl1.2.1 q_60 72 = (0 : Int32)) (f_136 : hl1.2.1 q_60 75 = (0 : Int32)) (f_144 : hl1.2.1 q_60 83 = (0 : Int32)) (f_145 : hl1.2.1 q_60 84 = (0 : Int32)) (f_147 : hl1.2.1 q_60 86 = (0 : Int32)) (f_148 : hl1.2.1 q_60 87 = (0 : Int32)) (f_151 : hl1.2.1 q_60 90 = (0 : Int32)) (f_153 : hl1.2.1 q_60 92 = (0 : Int32)) (f_156 : hl1.2.1 q_60 95 = (0 : Int32)) (f_157 : hl1.2.1 q_60 96 = (0 : Int32)) (f_164 : hl1.2.2 q_60 2 = some q_163) (f_166 : hl1.2.2 q_60 3 = some q_165) (f_169 : hl1.2.2 q_60 4 = some q_168) (f_171 : hl1.2.2 q_60 5 = some q_170) (f_173 : hl1.2.2 q_60 6 = some q_172) (f_175 : hl1.2.2 q_60 12 = some q_174) (f_177 : hl1.2.2 q_60 15 = some q_176) (f_179 : hl1.2.2 q_60 21 = some q_178) (f_181 : hl1.2.2 q_60 22 = some q_180) (f_183 : hl1.2.2 q_60 23 = some q_182) (f_185 : hl1.2.2 q_60 24 = some q_184) (f_187 : hl1.2.2 q_60 25 = some q_186) (f_189 : hl1.2.2 q_60 26 = some q_188) (f_191 : hl1.2.2 q_60 82 = some q_190) (f_193 : hl1.2.2 q_60 94 = some q_192) (fa_36 : ∀ j, j < 14 → hl1.2.1 q_34 j = P_wo j) (fa_167 : ∀ j, j < 13 → hl1.2.1 q_165 j = P_w1 j) (gq_2 : hx_g L1 hl1 q_2 9) (gq_27 : hx_g L1 hl1 q_27 42) (gq_29 : hx_g L1 hl1 q_29 6) (gq_31 : hx_g L1 hl1 q_31 0) (gq_34 : hx_g L1 hl1 q_34 11) (gq_37 : hx_g L1 hl1 q_37 43) (gq_39 : hx_g L1 hl1 q_39 44) (gq_41 : hx_g L1 hl1 q_41 1) (gq_44 : hx_g L1 hl1 q_44 3) (gq_47 : hx_g L1 hl1 q_47 5) (gq_50 : hx_g L1 hl1 q_50 7) (gq_53 : hx_g L1 hl1 q_53 36) (gq_55 : hx_g L1 hl1 q_55 8) (gq_60 : hx_g L1 hl1 q_60 10) (gq_163 : hx_g L1 hl1 q_163 49) (gq_165 : hx_g L1 hl1 q_165 50) (gq_168 : hx_g L1 hl1 q_168 51) (gq_170 : hx_g L1 hl1 q_170 52) (gq_172 : hx_g L1 hl1 q_172 53) (gq_174 : hx_g L1 hl1 q_174 54) (gq_176 : hx_g L1 hl1 q_176 55) (gq_178 : hx_g L1 hl1 q_178 58) (gq_180 : hx_g L1 hl1 q_180 59) (gq_182 : hx_g L1 hl1 q_182 60) (gq_184 : hx_g L1 hl1 q_184 61) (gq_186 : hx_g L1 hl1 q_186 62) (gq_188 : hx_g L1 hl1 q_188 63) (gq_190 : hx_g L1 hl1 q_190 108) (gq_192 : hx_g L1 hl1 q_192 114) (hl : lv_has ls 4 [(3, .int (0 : Int32)), (2, .ref q_60), (1, .ref q_2), (0, .ref b)]) : W p l e room_1 s m #[Value.ref b] below meth c H locs 112 26072 (lw_Z below #[Value.ref b] s) (F0 m 1323 ls []) := by
  refine lv_aload_n hx hb dL_law_1323 rfl (lv_at hl 2 rfl) ?_
  refine lv_aload_n hx hb dL_law_1324 rfl (lv_at hl 3 rfl) ?_
  refine lv_iload_n hx hb dL_law_1325 rfl (lv_at hl 0 rfl) ?_
  refine lv_iconst (v := 1) hx hb dL_law_1326 (by decide) ?_
  refine lv_iadd hx hb dL_law_1327 ?_
  refine lv_topi (fun x_827 ex_827 => ?_)
  obtain rfl : x_827 = (1 : Int32) := ex_827.trans (by decide)
  refine va_sld hx hb hX hbl hbA hW.2.2.2.1 (vp_in_iff.mpr (by rw [hL7]; decide)) dL_law_1328 ?_
  rw [show (1 : Int32).toNatClampNeg = 1 from by decide]
  refine lv_aload_n hx hb dL_law_1329 rfl (lv_at hl 3 rfl) ?_
  refine lv_iload_n hx hb dL_law_1330 rfl (lv_at hl 0 rfl) ?_
  refine lv_iconst (v := 2) hx hb dL_law_1331 (by decide) ?_
  refine lv_iadd hx hb dL_law_1332 ?_
  refine lv_topi (fun x_828 ex_828 => ?_)
  obtain rfl : x_828 = (2 : Int32) := ex_828.trans (by decide)
  refine va_sld hx hb hX hbl hbA hW.2.2.2.1 (vp_in_iff.mpr (by rw [hL7]; decide)) dL_law_1333 ?_
  rw [show (2 : Int32).toNatClampNeg = 2 from by decide]
  refine hx_goi (hx_runV (As := [.int (xs 1), .int (xs 2)]) (rest := []) ⟨hx, hb, hml, hown, hts⟩ hW gq_2 td_9 (T := TX9) (N := 20) rfl (c_X9_other l dC dI dA L1 hl1 H.size q_2 (xs 1) (xs 2) gq_2 f_9 q_31 gq_31 f_32 f_16) (cwV 2 hts (hx_gV kw_1104 kw_1101 kw_1102 kw_1103 kw_94) rfl rfl rfl (by decide +kernel) ⟨Nat.le_of_ble_eq_true rfl, Nat.le_of_ble_eq_true rfl⟩) rfl hl.1 rfl (Nat.le_of_ble_eq_true rfl) dL_law_1334 ⟨Nat.le_of_ble_eq_true rfl, Nat.le_of_ble_eq_true rfl⟩) hW (fun r_831 L_829 h_830 H locs p_832 hW => ?_)
  obtain ⟨hr_833, hs⟩ := p_832
  have hs : hx_S P_tb [] L1 hl1 L_829 h_830 := hs
  have f_4 := (hs.o gq_2 trivial rfl).1.trans f_4
  have f_5 := (hs.o gq_2 trivial rfl).1.trans f_5
  have f_9 := (hs.o gq_2 trivial rfl).1.trans f_9
  have f_11 := (hs.o gq_2 trivial rfl).1.trans f_11
  have f_14 := (hs.o gq_2 trivial rfl).1.trans f_14
  have f_16 := (hs.o gq_2 trivial rfl).1.trans f_16
  have f_28 := (hs.o gq_2 trivial rfl).2.trans f_28
  have f_30 := (hs.o gq_2 trivial rfl).2.trans f_30
  have f_32 := (hs.o gq_2 trivial rfl).2.trans f_32
  have f_33 := (hs.o gq_31 trivial rfl).1.trans f_33
  have f_35 := (hs.o gq_31 trivial rfl).2.trans f_35
  have f_38 := (hs.o gq_2 trivial rfl).2.trans f_38
  have f_40 := (hs.o gq_2 trivial rfl).2.trans f_40
  have f_42 := (hs.o gq_2 trivial rfl).2.trans f_42
  have f_43 := (hs.o gq_41 trivial rfl).1.trans f_43
  have f_45 := (hs.o gq_2 trivial rfl).2.trans f_45
  have f_46 := (hs.o gq_44 trivial rfl).1.trans f_46
  have f_48 := (hs.o gq_2 trivial rfl).2.trans f_48
  have f_49 := (hs.o gq_47 trivial rfl).1.trans f_49
  have f_51 := (hs.o gq_2 trivial rfl).2.trans f_51
  have f_52 := (hs.o gq_50 trivial rfl).1.trans f_52
  have f_54 := (hs.o gq_50 trivial rfl).2.trans f_54
  have f_56 := (hs.o gq_2 trivial rfl).2.trans f_56
  have f_57 := (hs.o gq_55 trivial rfl).1.trans f_57
  have f_58 := (hs.o gq_55 trivial rfl).1.trans f_58
  have f_61 := (hs.o gq_60 trivial rfl).1.trans f_61
  have f_62 := (hs.o gq_60 trivial rfl).1.trans f_62
  have f_68 := (hs.o gq_60 trivial rfl).1.trans f_68
  have f_69 := (hs.o gq_60 trivial rfl).1.trans f_69
  have f_70 := (hs.o gq_60 trivial rfl).1.trans f_70
  have f_71 := (hs.o gq_60 trivial rfl).1.trans f_71
  have f_72 := (hs.o gq_60 trivial rfl).1.trans f_72
  have f_74 := (hs.o gq_60 trivial rfl).1.trans f_74
  have f_81 := (hs.o gq_60 trivial rfl).1.trans f_81
  have f_90 := (hs.o gq_60 trivial rfl).1.trans f_90
  have f_97 := (hs.o gq_60 trivial rfl).1.trans f_97
  have f_118 := (hs.o gq_60 trivial rfl).1.trans f_118
  have f_120 := (hs.o gq_60 trivial rfl).1.trans f_120
  have f_128 := (hs.o gq_60 trivial rfl).1.trans f_128
  have f_129 := (hs.o gq_60 trivial rfl).1.trans f_129
  have f_130 := (hs.o gq_60 trivial rfl).1.trans f_130
  have f_131 := (hs.o gq_60 trivial rfl).1.trans f_131
  have f_132 := (hs.o gq_60 trivial rfl).1.trans f_132
  have f_133 := (hs.o gq_60 trivial rfl).1.trans f_133
  have f_136 := (hs.o gq_60 trivial rfl).1.trans f_136
  have f_144 := (hs.o gq_60 trivial rfl).1.trans f_144
  have f_145 := (hs.o gq_60 trivial rfl).1.trans f_145
  have f_147 := (hs.o gq_60 trivial rfl).1.trans f_147
  have f_148 := (hs.o gq_60 trivial rfl).1.trans f_148
  have f_151 := (hs.o gq_60 trivial rfl).1.trans f_151
  have f_153 := (hs.o gq_60 trivial rfl).1.trans f_153
  have f_156 := (hs.o gq_60 trivial rfl).1.trans f_156
  have f_157 := (hs.o gq_60 trivial rfl).1.trans f_157
  have f_164 := (hs.o gq_60 trivial rfl).2.trans f_164
  have f_166 := (hs.o gq_60 trivial rfl).2.trans f_166
  have f_169 := (hs.o gq_60 trivial rfl).2.trans f_169
  have f_171 := (hs.o gq_60 trivial rfl).2.trans f_171
  have f_173 := (hs.o gq_60 trivial rfl).2.trans f_173
  have f_175 := (hs.o gq_60 trivial rfl).2.trans f_175
  have f_177 := (hs.o gq_60 trivial rfl).2.trans f_177
  have f_179 := (hs.o gq_60 trivial rfl).2.trans f_179
  have f_181 := (hs.o gq_60 trivial rfl).2.trans f_181
  have f_183 := (hs.o gq_60 trivial rfl).2.trans f_183
  have f_185 := (hs.o gq_60 trivial rfl).2.trans f_185
  have f_187 := (hs.o gq_60 trivial rfl).2.trans f_187
  have f_189 := (hs.o gq_60 trivial rfl).2.trans f_189
  have f_191 := (hs.o gq_60 trivial rfl).2.trans f_191
  have f_193 := (hs.o gq_60 trivial rfl).2.trans f_193
  have fa_36 : ∀ j, j < 14 → _ = P_wo j := fun j hj => (hs.a gq_34 rfl j).1.trans (fa_36 j hj)
  have fa_167 : ∀ j, j < 13 → _ = P_w1 j := fun j hj => (hs.a gq_165 rfl j).1.trans (fa_167 j hj)
  have gq_2 := gq_2.S hs
  have gq_27 := gq_27.S hs
  have gq_29 := gq_29.S hs
  have gq_31 := gq_31.S hs
  have gq_34 := gq_34.S hs
  have gq_37 := gq_37.S hs
  have gq_39 := gq_39.S hs
  have gq_41 := gq_41.S hs
  have gq_44 := gq_44.S hs
  have gq_47 := gq_47.S hs
  have gq_50 := gq_50.S hs
  have gq_53 := gq_53.S hs
  have gq_55 := gq_55.S hs
  have gq_60 := gq_60.S hs
  have gq_163 := gq_163.S hs
  have gq_165 := gq_165.S hs
  have gq_168 := gq_168.S hs
  have gq_170 := gq_170.S hs
  have gq_172 := gq_172.S hs
  have gq_174 := gq_174.S hs
  have gq_176 := gq_176.S hs
  have gq_178 := gq_178.S hs
  have gq_180 := gq_180.S hs
  have gq_182 := gq_182.S hs
  have gq_184 := gq_184.S hs
  have gq_186 := gq_186.S hs
  have gq_188 := gq_188.S hs
  have gq_190 := gq_190.S hs
  have gq_192 := gq_192.S hs
  refine lv_aload_n hx hb dL_law_1337 rfl (lv_at hl 1 rfl) ?_
  refine lv_aload_n hx hb dL_law_1338 rfl (lv_at hl 3 rfl) ?_
  refine lv_iload_n hx hb dL_law_1339 rfl (lv_at hl 0 rfl) ?_
  refine lv_iconst (v := 1) hx hb dL_law_1340 (by decide) ?_
  refine lv_iadd hx hb dL_law_1341 ?_
  refine lv_topi (fun x_834 ex_834 => ?_)
  obtain rfl : x_834 = (1 : Int32) := ex_834.trans (by decide)
  refine va_sld hx hb hX hbl hbA hW.2.2.2.1 (vp_in_iff.mpr (by rw [hL7]; decide)) dL_law_1342 ?_
  rw [show (1 : Int32).toNatClampNeg = 1 from by decide]
  refine lv_aload_n hx hb dL_law_1343 rfl (lv_at hl 3 rfl) ?_
  refine lv_iload_n hx hb dL_law_1344 rfl (lv_at hl 0 rfl) ?_
  refine lv_iconst (v := 2) hx hb dL_law_1345 (by decide) ?_
  refine lv_iadd hx hb dL_law_1346 ?_
  refine lv_topi (fun x_835 ex_835 => ?_)
  obtain rfl : x_835 = (2 : Int32) := ex_835.trans (by decide)
  refine va_sld hx hb hX hbl hbA hW.2.2.2.1 (vp_in_iff.mpr (by rw [hL7]; decide)) dL_law_1347 ?_
  rw [show (2 : Int32).toNatClampNeg = 2 from by decide]
  refine hx_goi (hx_runV (As := [.int (xs 1), .int (xs 2)]) (rest := [.int r_831]) ⟨hx, hb, hml, hown, hts⟩ hW gq_60 td_10 (T := TX10) (N := 98) rfl (c_X10_other l dC dI dA L_829 h_830 H.size q_60 (xs 1) (xs 2) gq_60 f_62 f_118) (cwV 2 hts (hx_gV kw_1749 kw_1746 kw_1747 kw_1748 kw_103) rfl rfl rfl (by decide +kernel) ⟨Nat.le_of_ble_eq_true rfl, Nat.le_of_ble_eq_true rfl⟩) rfl hl.1 rfl (Nat.le_of_ble_eq_true rfl) dL_law_1348 ⟨Nat.le_of_ble_eq_true rfl, Nat.le_of_ble_eq_true rfl⟩) hW (fun r_838 L_836 h_837 H locs p_839 hW => ?_)
  obtain ⟨hr_840, hs⟩ := p_839
  have hs : hx_S P_tb [] L_829 h_830 L_836 h_837 := hs
  have f_4 := (hs.o gq_2 trivial rfl).1.trans f_4
  have f_5 := (hs.o gq_2 trivial rfl).1.trans f_5
  have f_9 := (hs.o gq_2 trivial rfl).1.trans f_9
  have f_11 := (hs.o gq_2 trivial rfl).1.trans f_11
  have f_14 := (hs.o gq_2 trivial rfl).1.trans f_14
  have f_16 := (hs.o gq_2 trivial rfl).1.trans f_16
  have f_28 := (hs.o gq_2 trivial rfl).2.trans f_28
  have f_30 := (hs.o gq_2 trivial rfl).2.trans f_30
  have f_32 := (hs.o gq_2 trivial rfl).2.trans f_32
  have f_33 := (hs.o gq_31 trivial rfl).1.trans f_33
  have f_35 := (hs.o gq_31 trivial rfl).2.trans f_35
  have f_38 := (hs.o gq_2 trivial rfl).2.trans f_38
  have f_40 := (hs.o gq_2 trivial rfl).2.trans f_40
  have f_42 := (hs.o gq_2 trivial rfl).2.trans f_42
  have f_43 := (hs.o gq_41 trivial rfl).1.trans f_43
  have f_45 := (hs.o gq_2 trivial rfl).2.trans f_45
  have f_46 := (hs.o gq_44 trivial rfl).1.trans f_46
  have f_48 := (hs.o gq_2 trivial rfl).2.trans f_48
  have f_49 := (hs.o gq_47 trivial rfl).1.trans f_49
  have f_51 := (hs.o gq_2 trivial rfl).2.trans f_51
  have f_52 := (hs.o gq_50 trivial rfl).1.trans f_52
  have f_54 := (hs.o gq_50 trivial rfl).2.trans f_54
  have f_56 := (hs.o gq_2 trivial rfl).2.trans f_56
  have f_57 := (hs.o gq_55 trivial rfl).1.trans f_57
  have f_58 := (hs.o gq_55 trivial rfl).1.trans f_58
  have f_61 := (hs.o gq_60 trivial rfl).1.trans f_61
  have f_62 := (hs.o gq_60 trivial rfl).1.trans f_62
  have f_68 := (hs.o gq_60 trivial rfl).1.trans f_68
  have f_69 := (hs.o gq_60 trivial rfl).1.trans f_69
  have f_70 := (hs.o gq_60 trivial rfl).1.trans f_70
  have f_71 := (hs.o gq_60 trivial rfl).1.trans f_71
  have f_72 := (hs.o gq_60 trivial rfl).1.trans f_72
  have f_74 := (hs.o gq_60 trivial rfl).1.trans f_74
  have f_81 := (hs.o gq_60 trivial rfl).1.trans f_81
  have f_90 := (hs.o gq_60 trivial rfl).1.trans f_90
  have f_97 := (hs.o gq_60 trivial rfl).1.trans f_97
  have f_118 := (hs.o gq_60 trivial rfl).1.trans f_118
  have f_120 := (hs.o gq_60 trivial rfl).1.trans f_120
  have f_128 := (hs.o gq_60 trivial rfl).1.trans f_128
  have f_129 := (hs.o gq_60 trivial rfl).1.trans f_129
  have f_130 := (hs.o gq_60 trivial rfl).1.trans f_130
  have f_131 := (hs.o gq_60 trivial rfl).1.trans f_131
  have f_132 := (hs.o gq_60 trivial rfl).1.trans f_132
  have f_133 := (hs.o gq_60 trivial rfl).1.trans f_133
  have f_136 := (hs.o gq_60 trivial rfl).1.trans f_136
  have f_144 := (hs.o gq_60 trivial rfl).1.trans f_144
  have f_145 := (hs.o gq_60 trivial rfl).1.trans f_145
  have f_147 := (hs.o gq_60 trivial rfl).1.trans f_147
  have f_148 := (hs.o gq_60 trivial rfl).1.trans f_148
  have f_151 := (hs.o gq_60 trivial rfl).1.trans f_151
  have f_153 := (hs.o gq_60 trivial rfl).1.trans f_153
  have f_156 := (hs.o gq_60 trivial rfl).1.trans f_156
  have f_157 := (hs.o gq_60 trivial rfl).1.trans f_157
  have f_164 := (hs.o gq_60 trivial rfl).2.trans f_164
  have f_166 := (hs.o gq_60 trivial rfl).2.trans f_166
  have f_169 := (hs.o gq_60 trivial rfl).2.trans f_169
  have f_171 := (hs.o gq_60 trivial rfl).2.trans f_171
  have f_173 := (hs.o gq_60 trivial rfl).2.trans f_173
  have f_175 := (hs.o gq_60 trivial rfl).2.trans f_175
  have f_177 := (hs.o gq_60 trivial rfl).2.trans f_177
  have f_179 := (hs.o gq_60 trivial rfl).2.trans f_179
  have f_181 := (hs.o gq_60 trivial rfl).2.trans f_181
  have f_183 := (hs.o gq_60 trivial rfl).2.trans f_183
  have f_185 := (hs.o gq_60 trivial rfl).2.trans f_185
  have f_187 := (hs.o gq_60 trivial rfl).2.trans f_187
  have f_189 := (hs.o gq_60 trivial rfl).2.trans f_189
  have f_191 := (hs.o gq_60 trivial rfl).2.trans f_191
  have f_193 := (hs.o gq_60 trivial rfl).2.trans f_193
  have fa_36 : ∀ j, j < 14 → _ = P_wo j := fun j hj => (hs.a gq_34 rfl j).1.trans (fa_36 j hj)
  have fa_167 : ∀ j, j < 13 → _ = P_w1 j := fun j hj => (hs.a gq_165 rfl j).1.trans (fa_167 j hj)
  have gq_2 := gq_2.S hs
  have gq_27 := gq_27.S hs
  have gq_29 := gq_29.S hs
  have gq_31 := gq_31.S hs
  have gq_34 := gq_34.S hs
  have gq_37 := gq_37.S hs
  have gq_39 := gq_39.S hs
  have gq_41 := gq_41.S hs
  have gq_44 := gq_44.S hs
  have gq_47 := gq_47.S hs
  have gq_50 := gq_50.S hs
  have gq_53 := gq_53.S hs
  have gq_55 := gq_55.S hs
  have gq_60 := gq_60.S hs
  have gq_163 := gq_163.S hs
  have gq_165 := gq_165.S hs
  have gq_168 := gq_168.S hs
  have gq_170 := gq_170.S hs
  have gq_172 := gq_172.S hs
  have gq_174 := gq_174.S hs
  have gq_176 := gq_176.S hs
  have gq_178 := gq_178.S hs
  have gq_180 := gq_180.S hs
  have gq_182 := gq_182.S hs
  have gq_184 := gq_184.S hs
  have gq_186 := gq_186.S hs
  have gq_188 := gq_188.S hs
  have gq_190 := gq_190.S hs
  have gq_192 := gq_192.S hs
  have heq : r_831 = r_838 := by
    first | exact hr_833.trans hr_840.symm | (rcases hr_833 with ⟨k1, k2⟩ | ⟨k1, k2⟩ <;> rcases hr_840 with ⟨k3, k4⟩ | ⟨k3, k4⟩ <;> first | exact k2.trans k4.symm | (exfalso; omega) | exact absurd k1 k3 | exact absurd k3 k1)
  refine hb_icmp_eq (zx := r_831.toInt) (zy := r_838.toInt) (tgt := 1379) hx hb rfl rfl dL_law_1351 (by decide) (fun c_841 => ?_) (fun c_841 => absurd (congrArg Int32.toInt heq) c_841)
  exact law_tail hx hb hr hlocks hX hbl hbA hL7 _ _ hW.2.2.2.1 ls hl (Nat.le_of_ble_eq_true rfl) (Nat.le_of_ble_eq_true rfl)

set_option maxHeartbeats 4000000 in
set_option maxRecDepth 100000 in
theorem law_case_30 {p : Program} {e : Env} {s : State} {m : MethodId} {below : List Frame} {meth : Method} {c : Code} (l : Launch) {b LN : Nat} {xs : Nat → Int32} (hx : p.tables.exec = Jvm.exec) (hb : c.code = code) (hr : meth.sig.returnType = ret) (hlocks : meth.locks = false) (hml : c.maxLocals = 4) (hown : s.vm.findClass "SmallCourtLaw" = some m.cls) (hts : ∀ w ∈ hx_all, w.before #[Value.ref b] s = true) (hX : va_X b LN xs s s.heap) (hbl : b < s.heap.size) (hbA : ¬ s.heap.size ≤ b) (hL7 : LN = 7) (dC : Nat → ClassId) (dI : Nat → Nat → Nat) (dA : Nat → ClassId) (b0 : Nat) (q_2 q_27 q_29 q_31 q_34 q_37 q_39 q_41 q_44 q_47 q_50 q_53 q_55 q_60 q_163 q_165 q_168 q_170 q_172 q_174 q_176 q_178 q_180 q_182 q_184 q_186 q_188 q_190 q_192 : Nat) (L1 : List Nat) (hl1 : hx_h) (H : Heap) (locs : List Loc) (ls : Array Slot) (hW : hx_W P_tb (P_ty dA) (dC, dI) vwCl (fun q : Nat => s.heap.size ≤ q) s.heap L1 hl1 s H locs) (hZ : hx_Xt (fun q : Nat => s.heap.size ≤ q) b0 s) (f_4 : hl1.2.1 q_2 1 = (0 : Int32)) (f_5 : hl1.2.1 q_2 2 = (0 : Int32)) (f_9 : hl1.2.1 q_2 6 = (0 : Int32)) (f_11 : hl1.2.1 q_2 8 = (0 : Int32)) (f_14 : hl1.2.1 q_2 11 = (0 : Int32)) (f_16 : hl1.2.1 q_2 13 = (0 : Int32)) (f_28 : hl1.2.2 q_2 0 = some q_27) (f_30 : hl1.2.2 q_2 3 = some q_29) (f_32 : hl1.2.2 q_2 4 = some q_31) (f_33 : hl1.2.1 q_31 0 = (-1 : Int32)) (f_35 : hl1.2.2 q_31 2 = some q_34) (f_38 : hl1.2.2 q_2 5 = some q_37) (f_40 : hl1.2.2 q_2 7 = some q_39) (f_42 : hl1.2.2 q_2 9 = some q_41) (f_43 : hl1.2.1 q_41 0 = (0 : Int32)) (f_45 : hl1.2.2 q_2 14 = some q_44) (f_46 : hl1.2.1 q_44 0 = (0 : Int32)) (f_48 : hl1.2.2 q_2 17 = some q_47) (f_49 : hl1.2.1 q_47 1 = (0 : Int32)) (f_51 : hl1.2.2 q_2 18 = some q_50) (f_52 : hl1.2.1 q_50 0 = (-1 : Int32)) (f_54 : hl1.2.2 q_50 5 = some q_53) (f_56 : hl1.2.2 q_2 19 = some q_55) (f_57 : hl1.2.1 q_55 0 = (0 : Int32)) (f_58 : hl1.2.1 q_55 1 = (0 : Int32)) (f_61 : hl1.2.1 q_60 0 = (0 : Int32)) (f_62 : hl1.2.1 q_60 1 = (0 : Int32)) (f_68 : hl1.2.1 q_60 7 = (0 : Int32)) (f_69 : hl1.2.1 q_60 8 = (0 : Int32)) (f_70 : hl1.2.1 q_60 9 = (0 : Int32)) (f_71 : hl1.2.1 q_60 10 = (0 : Int32)) (f_72 : hl1.2.1 q_60 11 = (0 : Int32)) (f_74 : hl1.2.1 q_60 13 = (0 : Int32)) (f_81 : hl1.2.1 q_60 20 = (0 : Int32)) (f_90 : hl1.2.1 q_60 29 = (0 : Int32)) (f_97 : hl1.2.1 q_60 36 = (0 : Int32)) (f_118 : hl1.2.1 q_60 57 = (0 : Int32)) (f_120 : hl1.2.1 q_60 59 = (0 : Int32)) (f_128 : hl1.2.1 q_60 67 = (0 : Int32)) (f_129 : hl1.2.1 q_60 68 = (0 : Int32)) (f_130 : hl1.2.1 q_60 69 = (0 : Int32)) (f_131 : hl1.2.1 q_60 70 = (0 : Int32)) (f_132 : hl1.2.1 q_60 71 = (0 : Int32)) (f_133 : hl1.2.1 q_60 72 = (0 : Int32)) (f_136 : hl1.2.1 q_60 75 = (0 : Int32)) (f_144 : hl1.2.1 q_60 83 = (0 : Int32)) (f_145 : hl1.2.1 q_60 84 = (0 : Int32)) (f_147 : hl1.2.1 q_60 86 = (0 : Int32)) (f_148 : hl1.2.1 q_60 87 = (0 : Int32)) (f_151 : hl1.2.1 q_60 90 = (0 : Int32)) (f_153 : hl1.2.1 q_60 92 = (0 : Int32)) (f_156 : hl1.2.1 q_60 95 = (0 : Int32)) (f_157 : hl1.2.1 q_60 96 = (0 : Int32)) (f_164 : hl1.2.2 q_60 2 = some q_163) (f_166 : hl1.2.2 q_60 3 = some q_165) (f_169 : hl1.2.2 q_60 4 = some q_168) (f_171 : hl1.2.2 q_60 5 = some q_170) (f_173 : hl1.2.2 q_60 6 = some q_172) (f_175 : hl1.2.2 q_60 12 = some q_174) (f_177 : hl1.2.2 q_60 15 = some q_176) (f_179 : hl1.2.2 q_60 21 = some q_178) (f_181 : hl1.2.2 q_60 22 = some q_180) (f_183 : hl1.2.2 q_60 23 = some q_182) (f_185 : hl1.2.2 q_60 24 = some q_184) (f_187 : hl1.2.2 q_60 25 = some q_186) (f_189 : hl1.2.2 q_60 26 = some q_188) (f_191 : hl1.2.2 q_60 82 = some q_190) (f_193 : hl1.2.2 q_60 94 = some q_192) (fa_36 : ∀ j, j < 14 → hl1.2.1 q_34 j = P_wo j) (fa_167 : ∀ j, j < 13 → hl1.2.1 q_165 j = P_w1 j) (gq_2 : hx_g L1 hl1 q_2 9) (gq_27 : hx_g L1 hl1 q_27 42) (gq_29 : hx_g L1 hl1 q_29 6) (gq_31 : hx_g L1 hl1 q_31 0) (gq_34 : hx_g L1 hl1 q_34 11) (gq_37 : hx_g L1 hl1 q_37 43) (gq_39 : hx_g L1 hl1 q_39 44) (gq_41 : hx_g L1 hl1 q_41 1) (gq_44 : hx_g L1 hl1 q_44 3) (gq_47 : hx_g L1 hl1 q_47 5) (gq_50 : hx_g L1 hl1 q_50 7) (gq_53 : hx_g L1 hl1 q_53 36) (gq_55 : hx_g L1 hl1 q_55 8) (gq_60 : hx_g L1 hl1 q_60 10) (gq_163 : hx_g L1 hl1 q_163 49) (gq_165 : hx_g L1 hl1 q_165 50) (gq_168 : hx_g L1 hl1 q_168 51) (gq_170 : hx_g L1 hl1 q_170 52) (gq_172 : hx_g L1 hl1 q_172 53) (gq_174 : hx_g L1 hl1 q_174 54) (gq_176 : hx_g L1 hl1 q_176 55) (gq_178 : hx_g L1 hl1 q_178 58) (gq_180 : hx_g L1 hl1 q_180 59) (gq_182 : hx_g L1 hl1 q_182 60) (gq_184 : hx_g L1 hl1 q_184 61) (gq_186 : hx_g L1 hl1 q_186 62) (gq_188 : hx_g L1 hl1 q_188 63) (gq_190 : hx_g L1 hl1 q_190 108) (gq_192 : hx_g L1 hl1 q_192 114) (hl : lv_has ls 4 [(3, .int (0 : Int32)), (2, .ref q_60), (1, .ref q_2), (0, .ref b)]) : W p l e room_1 s m #[Value.ref b] below meth c H locs 112 26072 (lw_Z below #[Value.ref b] s) (F0 m 1356 ls []) := by
  refine lv_aload_n hx hb dL_law_1356 rfl (lv_at hl 2 rfl) ?_
  refine lv_aload_n hx hb dL_law_1357 rfl (lv_at hl 3 rfl) ?_
  refine lv_iload_n hx hb dL_law_1358 rfl (lv_at hl 0 rfl) ?_
  refine lv_iconst (v := 1) hx hb dL_law_1359 (by decide) ?_
  refine lv_iadd hx hb dL_law_1360 ?_
  refine lv_topi (fun x_842 ex_842 => ?_)
  obtain rfl : x_842 = (1 : Int32) := ex_842.trans (by decide)
  refine va_sld hx hb hX hbl hbA hW.2.2.2.1 (vp_in_iff.mpr (by rw [hL7]; decide)) dL_law_1361 ?_
  rw [show (1 : Int32).toNatClampNeg = 1 from by decide]
  refine hx_goi (hx_runV (As := [.int (xs 1)]) (rest := []) ⟨hx, hb, hml, hown, hts⟩ hW gq_2 td_9 (T := TX9) (N := 20) rfl (c_X9_count l dC dI dA L1 hl1 H.size q_2 (xs 1) gq_2 f_5 f_9 f_11 q_41 gq_41 f_42 f_43 f_14 q_44 gq_44 f_45 f_46 f_4 q_55 gq_55 f_56 f_57 f_58) (cwV 1 hts (hx_gV kw_1108 kw_1105 kw_1106 kw_1107 kw_94) rfl rfl rfl (by decide +kernel) ⟨Nat.le_of_ble_eq_true rfl, Nat.le_of_ble_eq_true rfl⟩) rfl hl.1 rfl (Nat.le_of_ble_eq_true rfl) dL_law_1362 ⟨Nat.le_of_ble_eq_true rfl, Nat.le_of_ble_eq_true rfl⟩) hW (fun r_845 L_843 h_844 H locs p_846 hW => ?_)
  obtain ⟨hr_847, hs⟩ := p_846
  have hs : hx_S P_tb [] L1 hl1 L_843 h_844 := hs
  have f_4 := (hs.o gq_2 trivial rfl).1.trans f_4
  have f_5 := (hs.o gq_2 trivial rfl).1.trans f_5
  have f_9 := (hs.o gq_2 trivial rfl).1.trans f_9
  have f_11 := (hs.o gq_2 trivial rfl).1.trans f_11
  have f_14 := (hs.o gq_2 trivial rfl).1.trans f_14
  have f_16 := (hs.o gq_2 trivial rfl).1.trans f_16
  have f_28 := (hs.o gq_2 trivial rfl).2.trans f_28
  have f_30 := (hs.o gq_2 trivial rfl).2.trans f_30
  have f_32 := (hs.o gq_2 trivial rfl).2.trans f_32
  have f_33 := (hs.o gq_31 trivial rfl).1.trans f_33
  have f_35 := (hs.o gq_31 trivial rfl).2.trans f_35
  have f_38 := (hs.o gq_2 trivial rfl).2.trans f_38
  have f_40 := (hs.o gq_2 trivial rfl).2.trans f_40
  have f_42 := (hs.o gq_2 trivial rfl).2.trans f_42
  have f_43 := (hs.o gq_41 trivial rfl).1.trans f_43
  have f_45 := (hs.o gq_2 trivial rfl).2.trans f_45
  have f_46 := (hs.o gq_44 trivial rfl).1.trans f_46
  have f_48 := (hs.o gq_2 trivial rfl).2.trans f_48
  have f_49 := (hs.o gq_47 trivial rfl).1.trans f_49
  have f_51 := (hs.o gq_2 trivial rfl).2.trans f_51
  have f_52 := (hs.o gq_50 trivial rfl).1.trans f_52
  have f_54 := (hs.o gq_50 trivial rfl).2.trans f_54
  have f_56 := (hs.o gq_2 trivial rfl).2.trans f_56
  have f_57 := (hs.o gq_55 trivial rfl).1.trans f_57
  have f_58 := (hs.o gq_55 trivial rfl).1.trans f_58
  have f_61 := (hs.o gq_60 trivial rfl).1.trans f_61
  have f_62 := (hs.o gq_60 trivial rfl).1.trans f_62
  have f_68 := (hs.o gq_60 trivial rfl).1.trans f_68
  have f_69 := (hs.o gq_60 trivial rfl).1.trans f_69
  have f_70 := (hs.o gq_60 trivial rfl).1.trans f_70
  have f_71 := (hs.o gq_60 trivial rfl).1.trans f_71
  have f_72 := (hs.o gq_60 trivial rfl).1.trans f_72
  have f_74 := (hs.o gq_60 trivial rfl).1.trans f_74
  have f_81 := (hs.o gq_60 trivial rfl).1.trans f_81
  have f_90 := (hs.o gq_60 trivial rfl).1.trans f_90
  have f_97 := (hs.o gq_60 trivial rfl).1.trans f_97
  have f_118 := (hs.o gq_60 trivial rfl).1.trans f_118
  have f_120 := (hs.o gq_60 trivial rfl).1.trans f_120
  have f_128 := (hs.o gq_60 trivial rfl).1.trans f_128
  have f_129 := (hs.o gq_60 trivial rfl).1.trans f_129
  have f_130 := (hs.o gq_60 trivial rfl).1.trans f_130
  have f_131 := (hs.o gq_60 trivial rfl).1.trans f_131
  have f_132 := (hs.o gq_60 trivial rfl).1.trans f_132
  have f_133 := (hs.o gq_60 trivial rfl).1.trans f_133
  have f_136 := (hs.o gq_60 trivial rfl).1.trans f_136
  have f_144 := (hs.o gq_60 trivial rfl).1.trans f_144
  have f_145 := (hs.o gq_60 trivial rfl).1.trans f_145
  have f_147 := (hs.o gq_60 trivial rfl).1.trans f_147
  have f_148 := (hs.o gq_60 trivial rfl).1.trans f_148
  have f_151 := (hs.o gq_60 trivial rfl).1.trans f_151
  have f_153 := (hs.o gq_60 trivial rfl).1.trans f_153
  have f_156 := (hs.o gq_60 trivial rfl).1.trans f_156
  have f_157 := (hs.o gq_60 trivial rfl).1.trans f_157
  have f_164 := (hs.o gq_60 trivial rfl).2.trans f_164
  have f_166 := (hs.o gq_60 trivial rfl).2.trans f_166
  have f_169 := (hs.o gq_60 trivial rfl).2.trans f_169
  have f_171 := (hs.o gq_60 trivial rfl).2.trans f_171
  have f_173 := (hs.o gq_60 trivial rfl).2.trans f_173
  have f_175 := (hs.o gq_60 trivial rfl).2.trans f_175
  have f_177 := (hs.o gq_60 trivial rfl).2.trans f_177
  have f_179 := (hs.o gq_60 trivial rfl).2.trans f_179
  have f_181 := (hs.o gq_60 trivial rfl).2.trans f_181
  have f_183 := (hs.o gq_60 trivial rfl).2.trans f_183
  have f_185 := (hs.o gq_60 trivial rfl).2.trans f_185
  have f_187 := (hs.o gq_60 trivial rfl).2.trans f_187
  have f_189 := (hs.o gq_60 trivial rfl).2.trans f_189
  have f_191 := (hs.o gq_60 trivial rfl).2.trans f_191
  have f_193 := (hs.o gq_60 trivial rfl).2.trans f_193
  have fa_36 : ∀ j, j < 14 → _ = P_wo j := fun j hj => (hs.a gq_34 rfl j).1.trans (fa_36 j hj)
  have fa_167 : ∀ j, j < 13 → _ = P_w1 j := fun j hj => (hs.a gq_165 rfl j).1.trans (fa_167 j hj)
  have gq_2 := gq_2.S hs
  have gq_27 := gq_27.S hs
  have gq_29 := gq_29.S hs
  have gq_31 := gq_31.S hs
  have gq_34 := gq_34.S hs
  have gq_37 := gq_37.S hs
  have gq_39 := gq_39.S hs
  have gq_41 := gq_41.S hs
  have gq_44 := gq_44.S hs
  have gq_47 := gq_47.S hs
  have gq_50 := gq_50.S hs
  have gq_53 := gq_53.S hs
  have gq_55 := gq_55.S hs
  have gq_60 := gq_60.S hs
  have gq_163 := gq_163.S hs
  have gq_165 := gq_165.S hs
  have gq_168 := gq_168.S hs
  have gq_170 := gq_170.S hs
  have gq_172 := gq_172.S hs
  have gq_174 := gq_174.S hs
  have gq_176 := gq_176.S hs
  have gq_178 := gq_178.S hs
  have gq_180 := gq_180.S hs
  have gq_182 := gq_182.S hs
  have gq_184 := gq_184.S hs
  have gq_186 := gq_186.S hs
  have gq_188 := gq_188.S hs
  have gq_190 := gq_190.S hs
  have gq_192 := gq_192.S hs
  refine lv_aload_n hx hb dL_law_1365 rfl (lv_at hl 1 rfl) ?_
  refine lv_aload_n hx hb dL_law_1366 rfl (lv_at hl 3 rfl) ?_
  refine lv_iload_n hx hb dL_law_1367 rfl (lv_at hl 0 rfl) ?_
  refine lv_iconst (v := 1) hx hb dL_law_1368 (by decide) ?_
  refine lv_iadd hx hb dL_law_1369 ?_
  refine lv_topi (fun x_848 ex_848 => ?_)
  obtain rfl : x_848 = (1 : Int32) := ex_848.trans (by decide)
  refine va_sld hx hb hX hbl hbA hW.2.2.2.1 (vp_in_iff.mpr (by rw [hL7]; decide)) dL_law_1370 ?_
  rw [show (1 : Int32).toNatClampNeg = 1 from by decide]
  refine hx_goi (hx_runV (As := [.int (xs 1)]) (rest := [.int r_845]) ⟨hx, hb, hml, hown, hts⟩ hW gq_60 td_10 (T := TX10) (N := 98) rfl (c_X10_count l dC dI dA L_843 h_844 H.size q_60 (xs 1) gq_60 f_61 f_62 f_81 f_90 f_97 f_120 f_68 f_151) (cwV 1 hts (hx_gV kw_1753 kw_1750 kw_1751 kw_1752 kw_103) rfl rfl rfl (by decide +kernel) ⟨Nat.le_of_ble_eq_true rfl, Nat.le_of_ble_eq_true rfl⟩) rfl hl.1 rfl (Nat.le_of_ble_eq_true rfl) dL_law_1371 ⟨Nat.le_of_ble_eq_true rfl, Nat.le_of_ble_eq_true rfl⟩) hW (fun r_851 L_849 h_850 H locs p_852 hW => ?_)
  obtain ⟨hr_853, hs⟩ := p_852
  have hs : hx_S P_tb [] L_843 h_844 L_849 h_850 := hs
  have f_4 := (hs.o gq_2 trivial rfl).1.trans f_4
  have f_5 := (hs.o gq_2 trivial rfl).1.trans f_5
  have f_9 := (hs.o gq_2 trivial rfl).1.trans f_9
  have f_11 := (hs.o gq_2 trivial rfl).1.trans f_11
  have f_14 := (hs.o gq_2 trivial rfl).1.trans f_14
  have f_16 := (hs.o gq_2 trivial rfl).1.trans f_16
  have f_28 := (hs.o gq_2 trivial rfl).2.trans f_28
  have f_30 := (hs.o gq_2 trivial rfl).2.trans f_30
  have f_32 := (hs.o gq_2 trivial rfl).2.trans f_32
  have f_33 := (hs.o gq_31 trivial rfl).1.trans f_33
  have f_35 := (hs.o gq_31 trivial rfl).2.trans f_35
  have f_38 := (hs.o gq_2 trivial rfl).2.trans f_38
  have f_40 := (hs.o gq_2 trivial rfl).2.trans f_40
  have f_42 := (hs.o gq_2 trivial rfl).2.trans f_42
  have f_43 := (hs.o gq_41 trivial rfl).1.trans f_43
  have f_45 := (hs.o gq_2 trivial rfl).2.trans f_45
  have f_46 := (hs.o gq_44 trivial rfl).1.trans f_46
  have f_48 := (hs.o gq_2 trivial rfl).2.trans f_48
  have f_49 := (hs.o gq_47 trivial rfl).1.trans f_49
  have f_51 := (hs.o gq_2 trivial rfl).2.trans f_51
  have f_52 := (hs.o gq_50 trivial rfl).1.trans f_52
  have f_54 := (hs.o gq_50 trivial rfl).2.trans f_54
  have f_56 := (hs.o gq_2 trivial rfl).2.trans f_56
  have f_57 := (hs.o gq_55 trivial rfl).1.trans f_57
  have f_58 := (hs.o gq_55 trivial rfl).1.trans f_58
  have f_61 := (hs.o gq_60 trivial rfl).1.trans f_61
  have f_62 := (hs.o gq_60 trivial rfl).1.trans f_62
  have f_68 := (hs.o gq_60 trivial rfl).1.trans f_68
  have f_69 := (hs.o gq_60 trivial rfl).1.trans f_69
  have f_70 := (hs.o gq_60 trivial rfl).1.trans f_70
  have f_71 := (hs.o gq_60 trivial rfl).1.trans f_71
  have f_72 := (hs.o gq_60 trivial rfl).1.trans f_72
  have f_74 := (hs.o gq_60 trivial rfl).1.trans f_74
  have f_81 := (hs.o gq_60 trivial rfl).1.trans f_81
  have f_90 := (hs.o gq_60 trivial rfl).1.trans f_90
  have f_97 := (hs.o gq_60 trivial rfl).1.trans f_97
  have f_118 := (hs.o gq_60 trivial rfl).1.trans f_118
  have f_120 := (hs.o gq_60 trivial rfl).1.trans f_120
  have f_128 := (hs.o gq_60 trivial rfl).1.trans f_128
  have f_129 := (hs.o gq_60 trivial rfl).1.trans f_129
  have f_130 := (hs.o gq_60 trivial rfl).1.trans f_130
  have f_131 := (hs.o gq_60 trivial rfl).1.trans f_131
  have f_132 := (hs.o gq_60 trivial rfl).1.trans f_132
  have f_133 := (hs.o gq_60 trivial rfl).1.trans f_133
  have f_136 := (hs.o gq_60 trivial rfl).1.trans f_136
  have f_144 := (hs.o gq_60 trivial rfl).1.trans f_144
  have f_145 := (hs.o gq_60 trivial rfl).1.trans f_145
  have f_147 := (hs.o gq_60 trivial rfl).1.trans f_147
  have f_148 := (hs.o gq_60 trivial rfl).1.trans f_148
  have f_151 := (hs.o gq_60 trivial rfl).1.trans f_151
  have f_153 := (hs.o gq_60 trivial rfl).1.trans f_153
  have f_156 := (hs.o gq_60 trivial rfl).1.trans f_156
  have f_157 := (hs.o gq_60 trivial rfl).1.trans f_157
  have f_164 := (hs.o gq_60 trivial rfl).2.trans f_164
  have f_166 := (hs.o gq_60 trivial rfl).2.trans f_166
  have f_169 := (hs.o gq_60 trivial rfl).2.trans f_169
  have f_171 := (hs.o gq_60 trivial rfl).2.trans f_171
  have f_173 := (hs.o gq_60 trivial rfl).2.trans f_173
  have f_175 := (hs.o gq_60 trivial rfl).2.trans f_175
  have f_177 := (hs.o gq_60 trivial rfl).2.trans f_177
  have f_179 := (hs.o gq_60 trivial rfl).2.trans f_179
  have f_181 := (hs.o gq_60 trivial rfl).2.trans f_181
  have f_183 := (hs.o gq_60 trivial rfl).2.trans f_183
  have f_185 := (hs.o gq_60 trivial rfl).2.trans f_185
  have f_187 := (hs.o gq_60 trivial rfl).2.trans f_187
  have f_189 := (hs.o gq_60 trivial rfl).2.trans f_189
  have f_191 := (hs.o gq_60 trivial rfl).2.trans f_191
  have f_193 := (hs.o gq_60 trivial rfl).2.trans f_193
  have fa_36 : ∀ j, j < 14 → _ = P_wo j := fun j hj => (hs.a gq_34 rfl j).1.trans (fa_36 j hj)
  have fa_167 : ∀ j, j < 13 → _ = P_w1 j := fun j hj => (hs.a gq_165 rfl j).1.trans (fa_167 j hj)
  have gq_2 := gq_2.S hs
  have gq_27 := gq_27.S hs
  have gq_29 := gq_29.S hs
  have gq_31 := gq_31.S hs
  have gq_34 := gq_34.S hs
  have gq_37 := gq_37.S hs
  have gq_39 := gq_39.S hs
  have gq_41 := gq_41.S hs
  have gq_44 := gq_44.S hs
  have gq_47 := gq_47.S hs
  have gq_50 := gq_50.S hs
  have gq_53 := gq_53.S hs
  have gq_55 := gq_55.S hs
  have gq_60 := gq_60.S hs
  have gq_163 := gq_163.S hs
  have gq_165 := gq_165.S hs
  have gq_168 := gq_168.S hs
  have gq_170 := gq_170.S hs
  have gq_172 := gq_172.S hs
  have gq_174 := gq_174.S hs
  have gq_176 := gq_176.S hs
  have gq_178 := gq_178.S hs
  have gq_180 := gq_180.S hs
  have gq_182 := gq_182.S hs
  have gq_184 := gq_184.S hs
  have gq_186 := gq_186.S hs
  have gq_188 := gq_188.S hs
  have gq_190 := gq_190.S hs
  have gq_192 := gq_192.S hs
  have heq : r_845 = r_851 := by
    first | exact hr_847.trans hr_853.symm | (rcases hr_847 with ⟨k1, k2⟩ | ⟨k1, k2⟩ <;> rcases hr_853 with ⟨k3, k4⟩ | ⟨k3, k4⟩ <;> first | exact k2.trans k4.symm | (exfalso; omega) | exact absurd k1 k3 | exact absurd k3 k1)
  refine hb_icmp_eq (zx := r_845.toInt) (zy := r_851.toInt) (tgt := 1379) hx hb rfl rfl dL_law_1374 (by decide) (fun c_854 => ?_) (fun c_854 => absurd (congrArg Int32.toInt heq) c_854)
  exact law_tail hx hb hr hlocks hX hbl hbA hL7 _ _ hW.2.2.2.1 ls hl (Nat.le_of_ble_eq_true rfl) (Nat.le_of_ble_eq_true rfl)
