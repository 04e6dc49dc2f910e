def wLX10_begins_0 : List Nat := [42, 182, 0, 248, 60, 42, 182, 1, 21, 61, 27, 16, 40, 159, 0, 14, 28, 5, 159, 0, 9, 42, 28, 182, 1, 34, 172, 42, 182, 1, 37, 16, 8, 160, 0, 13, 42, 6, 42, 180, 0, 245, 182, 0, 255, 172, 42, 180, 0, 32, 42, 180, 1, 9, 27, 16, 40, 160, 0, 8, 16, 100, 167, 0]
def wLX10_begins_1 : List Nat := [4, 5, 79, 42, 89, 180, 1, 9, 4, 96, 181, 1, 9, 42, 89, 180, 0, 245, 27, 16, 40, 160, 0, 7, 4, 167, 0, 4, 6, 96, 181, 0, 245, 167, 255, 159]
theorem wX10_begins_0 : (cX10_begins.data.toList.map UInt8.toNat).drop 0 = wLX10_begins_0 ++ (wLX10_begins_1 ++ ([])) := by decide +kernel
theorem wX10_begins_1 : (cX10_begins.data.toList.map UInt8.toNat).drop 64 = wLX10_begins_1 ++ ([]) := hz_wn wX10_begins_0 rfl
theorem dX10_begins_0 : decode cX10_begins 0 = .ok (.aload_n 0, 1) := dq_42 (hz_wg wX10_begins_0 (j := 0) (n := 42) rfl)
theorem dX10_begins_1 : decode cX10_begins 1 = .ok (.invokevirtual 248, 3) := dq_182 (hz_wg wX10_begins_0 (j := 1) (n := 182) rfl) (hz_wg wX10_begins_0 (j := 2) (n := 0) rfl) (hz_wg wX10_begins_0 (j := 3) (n := 248) rfl) rfl
theorem dX10_begins_4 : decode cX10_begins 4 = .ok (.istore_n 1, 1) := dq_60 (hz_wg wX10_begins_0 (j := 4) (n := 60) rfl)
theorem dX10_begins_5 : decode cX10_begins 5 = .ok (.aload_n 0, 1) := dq_42 (hz_wg wX10_begins_0 (j := 5) (n := 42) rfl)
theorem dX10_begins_6 : decode cX10_begins 6 = .ok (.invokevirtual 277, 3) := dq_182 (hz_wg wX10_begins_0 (j := 6) (n := 182) rfl) (hz_wg wX10_begins_0 (j := 7) (n := 1) rfl) (hz_wg wX10_begins_0 (j := 8) (n := 21) rfl) rfl
theorem dX10_begins_9 : decode cX10_begins 9 = .ok (.istore_n 2, 1) := dq_61 (hz_wg wX10_begins_0 (j := 9) (n := 61) rfl)
theorem dX10_begins_10 : decode cX10_begins 10 = .ok (.iload_n 1, 1) := dq_27 (hz_wg wX10_begins_0 (j := 10) (n := 27) rfl)
theorem dX10_begins_11 : decode cX10_begins 11 = .ok (.bipush 40, 2) := dq_16 (hz_wg wX10_begins_0 (j := 11) (n := 16) rfl) (hz_wg wX10_begins_0 (j := 12) (n := 40) rfl) (by decide)
theorem dX10_begins_13 : decode cX10_begins 13 = .ok (.if_icmp .eq 14, 3) := dq_159 (hz_wg wX10_begins_0 (j := 13) (n := 159) rfl) (hz_wg wX10_begins_0 (j := 14) (n := 0) rfl) (hz_wg wX10_begins_0 (j := 15) (n := 14) rfl) (by decide)
theorem dX10_begins_16 : decode cX10_begins 16 = .ok (.iload_n 2, 1) := dq_28 (hz_wg wX10_begins_0 (j := 16) (n := 28) rfl)
theorem dX10_begins_17 : decode cX10_begins 17 = .ok (.iconst 2, 1) := dq_5 (hz_wg wX10_begins_0 (j := 17) (n := 5) rfl)
theorem dX10_begins_18 : decode cX10_begins 18 = .ok (.if_icmp .eq 9, 3) := dq_159 (hz_wg wX10_begins_0 (j := 18) (n := 159) rfl) (hz_wg wX10_begins_0 (j := 19) (n := 0) rfl) (hz_wg wX10_begins_0 (j := 20) (n := 9) rfl) (by decide)
theorem dX10_begins_21 : decode cX10_begins 21 = .ok (.aload_n 0, 1) := dq_42 (hz_wg wX10_begins_0 (j := 21) (n := 42) rfl)
theorem dX10_begins_22 : decode cX10_begins 22 = .ok (.iload_n 2, 1) := dq_28 (hz_wg wX10_begins_0 (j := 22) (n := 28) rfl)
theorem dX10_begins_23 : decode cX10_begins 23 = .ok (.invokevirtual 290, 3) := dq_182 (hz_wg wX10_begins_0 (j := 23) (n := 182) rfl) (hz_wg wX10_begins_0 (j := 24) (n := 1) rfl) (hz_wg wX10_begins_0 (j := 25) (n := 34) rfl) rfl
theorem dX10_begins_26 : decode cX10_begins 26 = .ok (.ireturn, 1) := dq_172 (hz_wg wX10_begins_0 (j := 26) (n := 172) rfl)
theorem dX10_begins_27 : decode cX10_begins 27 = .ok (.aload_n 0, 1) := dq_42 (hz_wg wX10_begins_0 (j := 27) (n := 42) rfl)
theorem dX10_begins_28 : decode cX10_begins 28 = .ok (.invokevirtual 293, 3) := dq_182 (hz_wg wX10_begins_0 (j := 28) (n := 182) rfl) (hz_wg wX10_begins_0 (j := 29) (n := 1) rfl) (hz_wg wX10_begins_0 (j := 30) (n := 37) rfl) rfl
theorem dX10_begins_31 : decode cX10_begins 31 = .ok (.bipush 8, 2) := dq_16 (hz_wg wX10_begins_0 (j := 31) (n := 16) rfl) (hz_wg wX10_begins_0 (j := 32) (n := 8) rfl) (by decide)
theorem dX10_begins_33 : decode cX10_begins 33 = .ok (.if_icmp .ne 13, 3) := dq_160 (hz_wg wX10_begins_0 (j := 33) (n := 160) rfl) (hz_wg wX10_begins_0 (j := 34) (n := 0) rfl) (hz_wg wX10_begins_0 (j := 35) (n := 13) rfl) (by decide)
theorem dX10_begins_36 : decode cX10_begins 36 = .ok (.aload_n 0, 1) := dq_42 (hz_wg wX10_begins_0 (j := 36) (n := 42) rfl)
theorem dX10_begins_37 : decode cX10_begins 37 = .ok (.iconst 3, 1) := dq_6 (hz_wg wX10_begins_0 (j := 37) (n := 6) rfl)
theorem dX10_begins_38 : decode cX10_begins 38 = .ok (.aload_n 0, 1) := dq_42 (hz_wg wX10_begins_0 (j := 38) (n := 42) rfl)
theorem dX10_begins_39 : decode cX10_begins 39 = .ok (.getfield 245, 3) := dq_180 (hz_wg wX10_begins_0 (j := 39) (n := 180) rfl) (hz_wg wX10_begins_0 (j := 40) (n := 0) rfl) (hz_wg wX10_begins_0 (j := 41) (n := 245) rfl) rfl
theorem dX10_begins_42 : decode cX10_begins 42 = .ok (.invokevirtual 255, 3) := dq_182 (hz_wg wX10_begins_0 (j := 42) (n := 182) rfl) (hz_wg wX10_begins_0 (j := 43) (n := 0) rfl) (hz_wg wX10_begins_0 (j := 44) (n := 255) rfl) rfl
theorem dX10_begins_45 : decode cX10_begins 45 = .ok (.ireturn, 1) := dq_172 (hz_wg wX10_begins_0 (j := 45) (n := 172) rfl)
theorem dX10_begins_46 : decode cX10_begins 46 = .ok (.aload_n 0, 1) := dq_42 (hz_wg wX10_begins_0 (j := 46) (n := 42) rfl)
theorem dX10_begins_47 : decode cX10_begins 47 = .ok (.getfield 32, 3) := dq_180 (hz_wg wX10_begins_0 (j := 47) (n := 180) rfl) (hz_wg wX10_begins_0 (j := 48) (n := 0) rfl) (hz_wg wX10_begins_0 (j := 49) (n := 32) rfl) rfl
theorem dX10_begins_50 : decode cX10_begins 50 = .ok (.aload_n 0, 1) := dq_42 (hz_wg wX10_begins_0 (j := 50) (n := 42) rfl)
theorem dX10_begins_51 : decode cX10_begins 51 = .ok (.getfield 265, 3) := dq_180 (hz_wg wX10_begins_0 (j := 51) (n := 180) rfl) (hz_wg wX10_begins_0 (j := 52) (n := 1) rfl) (hz_wg wX10_begins_0 (j := 53) (n := 9) rfl) rfl
theorem dX10_begins_54 : decode cX10_begins 54 = .ok (.iload_n 1, 1) := dq_27 (hz_wg wX10_begins_0 (j := 54) (n := 27) rfl)
theorem dX10_begins_55 : decode cX10_begins 55 = .ok (.bipush 40, 2) := dq_16 (hz_wg wX10_begins_0 (j := 55) (n := 16) rfl) (hz_wg wX10_begins_0 (j := 56) (n := 40) rfl) (by decide)
theorem dX10_begins_57 : decode cX10_begins 57 = .ok (.if_icmp .ne 8, 3) := dq_160 (hz_wg wX10_begins_0 (j := 57) (n := 160) rfl) (hz_wg wX10_begins_0 (j := 58) (n := 0) rfl) (hz_wg wX10_begins_0 (j := 59) (n := 8) rfl) (by decide)
theorem dX10_begins_60 : decode cX10_begins 60 = .ok (.bipush 100, 2) := dq_16 (hz_wg wX10_begins_0 (j := 60) (n := 16) rfl) (hz_wg wX10_begins_0 (j := 61) (n := 100) rfl) (by decide)
theorem dX10_begins_62 : decode cX10_begins 62 = .ok (.goto 4, 3) := dq_167 (hz_wg wX10_begins_0 (j := 62) (n := 167) rfl) (hz_wg wX10_begins_0 (j := 63) (n := 0) rfl) (hz_wg wX10_begins_1 (j := 0) (n := 4) rfl) (by decide)
theorem dX10_begins_65 : decode cX10_begins 65 = .ok (.iconst 2, 1) := dq_5 (hz_wg wX10_begins_1 (j := 1) (n := 5) rfl)
theorem dX10_begins_66 : decode cX10_begins 66 = .ok (.iastore, 1) := dq_79 (hz_wg wX10_begins_1 (j := 2) (n := 79) rfl)
theorem dX10_begins_67 : decode cX10_begins 67 = .ok (.aload_n 0, 1) := dq_42 (hz_wg wX10_begins_1 (j := 3) (n := 42) rfl)
theorem dX10_begins_68 : decode cX10_begins 68 = .ok (.dup, 1) := dq_89 (hz_wg wX10_begins_1 (j := 4) (n := 89) rfl)
theorem dX10_begins_69 : decode cX10_begins 69 = .ok (.getfield 265, 3) := dq_180 (hz_wg wX10_begins_1 (j := 5) (n := 180) rfl) (hz_wg wX10_begins_1 (j := 6) (n := 1) rfl) (hz_wg wX10_begins_1 (j := 7) (n := 9) rfl) rfl
theorem dX10_begins_72 : decode cX10_begins 72 = .ok (.iconst 1, 1) := dq_4 (hz_wg wX10_begins_1 (j := 8) (n := 4) rfl)
theorem dX10_begins_73 : decode cX10_begins 73 = .ok (.iadd, 1) := dq_96 (hz_wg wX10_begins_1 (j := 9) (n := 96) rfl)
theorem dX10_begins_74 : decode cX10_begins 74 = .ok (.putfield 265, 3) := dq_181 (hz_wg wX10_begins_1 (j := 10) (n := 181) rfl) (hz_wg wX10_begins_1 (j := 11) (n := 1) rfl) (hz_wg wX10_begins_1 (j := 12) (n := 9) rfl) rfl
theorem dX10_begins_77 : decode cX10_begins 77 = .ok (.aload_n 0, 1) := dq_42 (hz_wg wX10_begins_1 (j := 13) (n := 42) rfl)
theorem dX10_begins_78 : decode cX10_begins 78 = .ok (.dup, 1) := dq_89 (hz_wg wX10_begins_1 (j := 14) (n := 89) rfl)
theorem dX10_begins_79 : decode cX10_begins 79 = .ok (.getfield 245, 3) := dq_180 (hz_wg wX10_begins_1 (j := 15) (n := 180) rfl) (hz_wg wX10_begins_1 (j := 16) (n := 0) rfl) (hz_wg wX10_begins_1 (j := 17) (n := 245) rfl) rfl
theorem dX10_begins_82 : decode cX10_begins 82 = .ok (.iload_n 1, 1) := dq_27 (hz_wg wX10_begins_1 (j := 18) (n := 27) rfl)
theorem dX10_begins_83 : decode cX10_begins 83 = .ok (.bipush 40, 2) := dq_16 (hz_wg wX10_begins_1 (j := 19) (n := 16) rfl) (hz_wg wX10_begins_1 (j := 20) (n := 40) rfl) (by decide)
theorem dX10_begins_85 : decode cX10_begins 85 = .ok (.if_icmp .ne 7, 3) := dq_160 (hz_wg wX10_begins_1 (j := 21) (n := 160) rfl) (hz_wg wX10_begins_1 (j := 22) (n := 0) rfl) (hz_wg wX10_begins_1 (j := 23) (n := 7) rfl) (by decide)
theorem dX10_begins_88 : decode cX10_begins 88 = .ok (.iconst 1, 1) := dq_4 (hz_wg wX10_begins_1 (j := 24) (n := 4) rfl)
theorem dX10_begins_89 : decode cX10_begins 89 = .ok (.goto 4, 3) := dq_167 (hz_wg wX10_begins_1 (j := 25) (n := 167) rfl) (hz_wg wX10_begins_1 (j := 26) (n := 0) rfl) (hz_wg wX10_begins_1 (j := 27) (n := 4) rfl) (by decide)
theorem dX10_begins_92 : decode cX10_begins 92 = .ok (.iconst 3, 1) := dq_6 (hz_wg wX10_begins_1 (j := 28) (n := 6) rfl)
theorem dX10_begins_93 : decode cX10_begins 93 = .ok (.iadd, 1) := dq_96 (hz_wg wX10_begins_1 (j := 29) (n := 96) rfl)
theorem dX10_begins_94 : decode cX10_begins 94 = .ok (.putfield 245, 3) := dq_181 (hz_wg wX10_begins_1 (j := 30) (n := 181) rfl) (hz_wg wX10_begins_1 (j := 31) (n := 0) rfl) (hz_wg wX10_begins_1 (j := 32) (n := 245) rfl) rfl
theorem dX10_begins_97 : decode cX10_begins 97 = .ok (.goto (-97), 3) := dq_167 (hz_wg wX10_begins_1 (j := 33) (n := 167) rfl) (hz_wg wX10_begins_1 (j := 34) (n := 255) rfl) (hz_wg wX10_begins_1 (j := 35) (n := 159) rfl) (by decide)
set_option maxHeartbeats 4000000 in
set_option maxRecDepth 100000 in
theorem t_X10_begins (l : Launch) (dC : Nat → ClassId) (dI : Nat → Nat → Nat) (dA : Nat → ClassId) (L : List Nat) (h : hx_h) (sz : Nat) (x : Nat) (hT : hx_T T_tb L h) (gx : hx_g L h x 10) (qs : Nat) (gqs : hx_g L h qs 55) (f_x_15 : h.2.2 x 15 = some qs) (qo : Nat) (gqo : hx_g L h qo 56) (f_x_17 : h.2.2 x 17 = some qo) (qt : Nat) (gqt : hx_g L h qt 53) (f_x_6 : h.2.2 x 6 = some qt) (qw : Nat) (gqw : hx_g L h qw 57) (f_x_19 : h.2.2 x 19 = some qw) (sf : Nat → Int32) (af_qs : h.2.1 qs = sf) (of : Nat → Int32) (af_qo : h.2.1 qo = of) (tf : Nat → Int32) (af_qt : h.2.1 qt = tf) (wf : Nat → Int32) (af_qw : h.2.1 qw = wf) (cp0 : Int32) (f_x_16 : h.2.1 x 16 = cp0) (nx0 : Int32) (f_x_8 : h.2.1 x 8 = nx0) (st0 : Int32) (f_x_14 : h.2.1 x 14 = st0) (op0 : Int32) (f_x_18 : h.2.1 x 18 = op0) (tp0 : Int32) (f_x_7 : h.2.1 x 7 = tp0) (hQ : hx_QQ 0 cp0.toInt nx0.toInt st0.toInt op0.toInt sf of) (hwd : hx_wd wf) : Met l yX10_begins (Cond.code yX10_begins cX10_begins 3 (some .boolean) :: hx_all) ({ frames := 3, cells := 0, slots := 0, locals := 73 }) (va_Pc [.ref x] (hx_B T_tb (P_ty dA) (dC, dI) vwCl L h sz)) (va_Qi (fun (r : Int32) (u : List Nat × hx_h) => (∃ (cp1 : Int32) (nx1 : Int32) (st1 : Int32) (op1 : Int32) (sf1 : Nat → Int32) (of1 : Nat → Int32), u.2.2.1 x 16 = cp1 ∧ u.2.2.1 x 8 = nx1 ∧ u.2.2.1 x 14 = st1 ∧ u.2.2.1 x 18 = op1 ∧ u.2.2.1 qs = sf1 ∧ u.2.2.1 qo = of1 ∧ ((r.toInt = 0 ∨ r.toInt = 1) ∧ nx0.toInt ≤ nx1.toInt ∧ (r.toInt = 1 → hx_QQ 1 cp1.toInt nx1.toInt st1.toInt op1.toInt sf1 of1))) ∧ hx_T T_tb u.1 u.2 ∧ hx_S T_tb [(10, 8), (10, 9), (10, 10), (10, 11), (10, 14), (10, 16), (10, 18), (55, 0), (56, 0)] L h u.1 u.2) (hx_E T_tb (P_ty dA) (dC, dI) vwCl (hx_A L sz)) (hx_A L sz)) 0 0 (hx_A L sz) := by
  refine hx_met (lv := [(0, .ref x)]) (by decide +kernel) rfl (Nat.le_of_ble_eq_true rfl) rfl ?_
  intro p e s m below meth c hx hb hml hr hlk hts0 hown hin hsz hW ls hl
  have hts : ∀ w ∈ hx_all, w.before _ s = true := fun w hw => hts0 w (List.mem_cons_of_mem _ hw)
  have hown : s.vm.findClass "SmallCourtModel" = some m.cls := hown
  have hM : hx_S T_tb [(10, 8), (10, 9), (10, 10), (10, 11), (10, 14), (10, 16), (10, 18), (55, 0), (56, 0)] L h L h := hx_S.rf
  have b_cp0 := hT.gi gx tt_10 (k := 16) rfl
  rw [f_x_16] at b_cp0
  have b_cp0 : 0 ≤ cp0.toInt ∧ cp0.toInt ≤ 20 := b_cp0
  have b_nx0 := hT.gi gx tt_10 (k := 8) rfl
  rw [f_x_8] at b_nx0
  have b_nx0 : 0 ≤ nx0.toInt ∧ nx0.toInt ≤ 402 := b_nx0
  have b_st0 := hT.gi gx tt_10 (k := 14) rfl
  rw [f_x_14] at b_st0
  have b_st0 : 0 ≤ st0.toInt ∧ st0.toInt ≤ 128 := b_st0
  have b_op0 := hT.gi gx tt_10 (k := 18) rfl
  rw [f_x_18] at b_op0
  have b_op0 : 0 ≤ op0.toInt ∧ op0.toInt ≤ 128 := b_op0
  have b_tp0 := hT.gi gx tt_10 (k := 7) rfl
  rw [f_x_7] at b_tp0
  have b_tp0 : 0 ≤ tp0.toInt ∧ tp0.toInt ≤ 400 := b_tp0
  have loop0 : ∀ (n0 : Nat) (fw0_x_18 fw0_x_8 : Int32) (ia0_qo : Nat → Int32) (H : Heap) (locs : List Loc) (hL1 : List Nat) (hl1 : hx_h), 0 ≤ fw0_x_18.toInt → fw0_x_18.toInt ≤ 128 → 0 ≤ fw0_x_8.toInt → fw0_x_8.toInt ≤ 402 → (nx0.toInt ≤ fw0_x_8.toInt) → (hx_QQ 0 cp0.toInt fw0_x_8.toInt st0.toInt fw0_x_18.toInt sf ia0_qo) → ∀ (ls : Array Slot), 402 - fw0_x_8.toInt < (n0 : Int) → hx_W T_tb (P_ty dA) (dC, dI) vwCl (hx_A L sz) s.heap hL1 hl1 s H locs → hx_T T_tb hL1 hl1 → hx_S T_tb [(10, 8), (10, 9), (10, 10), (10, 11), (10, 14), (10, 16), (10, 18), (55, 0), (56, 0)] L h hL1 hl1 → hl1.2.1 x 18 = fw0_x_18 → hl1.2.1 x 8 = fw0_x_8 → hl1.2.1 x 16 = cp0 → hl1.2.1 x 14 = st0 → hl1.2.1 qo = ia0_qo → hl1.2.1 qs = sf → lv_has ls 3 [(0, .ref x)] → W p l e ({ frames := 3, cells := 0, slots := 0, locals := 73 }) s m ([.ref x] : List Value).toArray below meth c H locs 0 0 (MQ below (va_Qi (fun (r : Int32) (u : List Nat × hx_h) => (∃ (cp1 : Int32) (nx1 : Int32) (st1 : Int32) (op1 : Int32) (sf1 : Nat → Int32) (of1 : Nat → Int32), u.2.2.1 x 16 = cp1 ∧ u.2.2.1 x 8 = nx1 ∧ u.2.2.1 x 14 = st1 ∧ u.2.2.1 x 18 = op1 ∧ u.2.2.1 qs = sf1 ∧ u.2.2.1 qo = of1 ∧ ((r.toInt = 0 ∨ r.toInt = 1) ∧ nx0.toInt ≤ nx1.toInt ∧ (r.toInt = 1 → hx_QQ 1 cp1.toInt nx1.toInt st1.toInt op1.toInt sf1 of1))) ∧ hx_T T_tb u.1 u.2 ∧ hx_S T_tb [(10, 8), (10, 9), (10, 10), (10, 11), (10, 14), (10, 16), (10, 18), (55, 0), (56, 0)] L h u.1 u.2) (hx_E T_tb (P_ty dA) (dC, dI) vwCl (hx_A L sz)) (hx_A L sz)) ([.ref x] : List Value).toArray s 0 0 (hx_A L sz)) (F0 m 0 ls []) := by
    intro n0
    induction n0 with
    | zero => intro fw0_x_18 fw0_x_8 ia0_qo H locs hL1 hl1 blfw0_x_18 bufw0_x_18 blfw0_x_8 bufw0_x_8 vi0_0 vi0_1 ls hn0; exfalso; omega
    | succ n0 ih0 =>
      intro fw0_x_18 fw0_x_8 ia0_qo H locs hL1 hl1 blfw0_x_18 bufw0_x_18 blfw0_x_8 bufw0_x_8 vi0_0 vi0_1 ls hn0 hW hT hM ffw0_x_18 ffw0_x_8 f_x_16 f_x_14 nia0_qo af_qs hl
      have hqb := hx_QQ_b vi0_1
      refine lv_aload_n hx hb dX10_begins_0 rfl (lv_at hl 0 rfl) ?_
      refine hx_goi (hx_runV (As := []) (rest := []) ⟨hx, hb, hml, hown, hts⟩ hW (gx.S hM) tt_10 (T := TX10) (N := 98) rfl (t_X10_see l dC dI dA hL1 hl1 H.size x hT (gx.S hM) qt (gqt.S hM) ((hM.o gx trivial rfl).2.trans f_x_6) tf (hx_afS hM gqt rfl af_qt) fw0_x_8 ffw0_x_8 tp0 ((hM.o gx trivial rfl).1.trans f_x_7)) (cwV 0 hts (hx_gV kw_1468 kw_1465 kw_1467 kw_53 kw_103) rfl rfl rfl (by decide +kernel) ⟨Nat.le_of_ble_eq_true rfl, Nat.le_of_ble_eq_true rfl⟩) rfl hl.1 rfl (Nat.le_of_ble_eq_true rfl) dX10_begins_1 ⟨Nat.le_of_ble_eq_true rfl, Nat.le_of_ble_eq_true rfl⟩) hW (fun r_3 L_1 h_2 H locs p_4 hW => ?_)
      obtain ⟨⟨w_6, fw_6, hr_5⟩, hT, hs⟩ := p_4
      replace hT : hx_T T_tb L_1 h_2 := hT
      replace hs : hx_S T_tb [(10, 8)] hL1 hl1 L_1 h_2 := hs
      replace f_x_16 := (hs.o (gx.S hM) trivial rfl).1.trans f_x_16
      replace f_x_14 := (hs.o (gx.S hM) trivial rfl).1.trans f_x_14
      replace ffw0_x_18 := (hs.o (gx.S hM) trivial rfl).1.trans ffw0_x_18
      replace af_qs : h_2.2.1 qs = sf := (funext fun j => (hs.a (gqs.S hM) rfl j).1).trans af_qs
      replace nia0_qo : h_2.2.1 qo = ia0_qo := (funext fun j => (hs.a (gqo.S hM) rfl j).1).trans nia0_qo
      replace hM := hM.tr (hs.mono (by decide))
      have fw_6 : h_2.2.1 x 8 = w_6 := fw_6
      have bw_6 := hT.gi (gx.S hM) tt_10 (k := 8) rfl
      rw [fw_6] at bw_6
      have bw_6 : 0 ≤ w_6.toInt ∧ w_6.toInt ≤ 402 := bw_6
      refine lv_istore_n (lv' := [(1, .int r_3), (0, .ref x)]) hx hb dX10_begins_4 rfl hl (by decide) rfl (fun ls hl => ?_)
      refine lv_aload_n hx hb dX10_begins_5 rfl (lv_at hl 1 rfl) ?_
      refine hx_goi (hx_runV (As := []) (rest := []) ⟨hx, hb, hml, hown, hts⟩ hW (gx.S hM) tt_10 (T := TX10) (N := 98) rfl (t_X10_wordHere l dC dI dA L_1 h_2 H.size x hT (gx.S hM) qt (gqt.S hM) ((hM.o gx trivial rfl).2.trans f_x_6) qw (gqw.S hM) ((hM.o gx trivial rfl).2.trans f_x_19) tf (hx_afS hM gqt rfl af_qt) wf (hx_afS hM gqw rfl af_qw) w_6 fw_6 tp0 ((hM.o gx trivial rfl).1.trans f_x_7) hwd) (cwV 0 hts (hx_gV kw_1476 kw_1473 kw_1475 kw_55 kw_103) rfl rfl rfl (by decide +kernel) ⟨Nat.le_of_ble_eq_true rfl, Nat.le_of_ble_eq_true rfl⟩) rfl hl.1 rfl (Nat.le_of_ble_eq_true rfl) dX10_begins_6 ⟨Nat.le_of_ble_eq_true rfl, Nat.le_of_ble_eq_true rfl⟩) hW (fun r_9 L_7 h_8 H locs p_10 hW => ?_)
      obtain ⟨⟨w_12, w_13, fw_12, fw_13, hr_11⟩, hT, hs⟩ := p_10
      replace hT : hx_T T_tb L_7 h_8 := hT
      replace hs : hx_S T_tb [(10, 8), (10, 11)] L_1 h_2 L_7 h_8 := hs
      replace f_x_16 := (hs.o (gx.S hM) trivial rfl).1.trans f_x_16
      replace f_x_14 := (hs.o (gx.S hM) trivial rfl).1.trans f_x_14
      replace ffw0_x_18 := (hs.o (gx.S hM) trivial rfl).1.trans ffw0_x_18
      replace af_qs : h_8.2.1 qs = sf := (funext fun j => (hs.a (gqs.S hM) rfl j).1).trans af_qs
      replace nia0_qo : h_8.2.1 qo = ia0_qo := (funext fun j => (hs.a (gqo.S hM) rfl j).1).trans nia0_qo
      replace hM := hM.tr (hs.mono (by decide))
      have fw_12 : h_8.2.1 x 8 = w_12 := fw_12
      have bw_12 := hT.gi (gx.S hM) tt_10 (k := 8) rfl
      rw [fw_12] at bw_12
      have bw_12 : 0 ≤ w_12.toInt ∧ w_12.toInt ≤ 402 := bw_12
      have fw_13 : h_8.2.1 x 11 = w_13 := fw_13
      have bw_13 := hT.gi (gx.S hM) tt_10 (k := 11) rfl
      rw [fw_13] at bw_13
      have bw_13 : 0 ≤ w_13.toInt ∧ w_13.toInt ≤ 400 := bw_13
      refine lv_istore_n (lv' := [(2, .int r_9), (1, .int r_3), (0, .ref x)]) hx hb dX10_begins_9 rfl hl (by decide) rfl (fun ls hl => ?_)
      refine lv_iload_n hx hb dX10_begins_10 rfl (lv_at hl 1 rfl) ?_
      refine lv_bipush (v := 40) hx hb dX10_begins_11 (by decide) ?_
      refine hb_icmp_eq (zx := r_3.toInt) (zy := 40) (tgt := 27) hx hb rfl (by decide) dX10_begins_13 (by decide) (fun c_14 => ?_) (fun c_14 => ?_)
      · skip
        refine lv_aload_n hx hb dX10_begins_27 rfl (lv_at hl 2 rfl) ?_
        refine hx_goi (hx_runV (As := []) (rest := []) ⟨hx, hb, hml, hown, hts⟩ hW (gx.S hM) tt_10 (T := TX10) (N := 98) rfl (t_X10_deep_2 l dC dI dA L_7 h_8 H.size x hT (gx.S hM) qo (gqo.S hM) ((hM.o gx trivial rfl).2.trans f_x_17) ia0_qo nia0_qo fw0_x_18 ffw0_x_18) (cwV 0 hts (hx_gV kw_1507 kw_1504 kw_1506 kw_62 kw_103) rfl rfl rfl (by decide +kernel) ⟨Nat.le_of_ble_eq_true rfl, Nat.le_of_ble_eq_true rfl⟩) rfl hl.1 rfl (Nat.le_of_ble_eq_true rfl) dX10_begins_28 ⟨Nat.le_of_ble_eq_true rfl, Nat.le_of_ble_eq_true rfl⟩) hW (fun r_17 L_15 h_16 H locs p_18 hW => ?_)
        obtain ⟨hr_19, hT, hs⟩ := p_18
        replace hT : hx_T T_tb L_15 h_16 := hT
        replace hs : hx_S T_tb [] L_7 h_8 L_15 h_16 := hs
        replace f_x_16 := (hs.o (gx.S hM) trivial rfl).1.trans f_x_16
        replace f_x_14 := (hs.o (gx.S hM) trivial rfl).1.trans f_x_14
        replace ffw0_x_18 := (hs.o (gx.S hM) trivial rfl).1.trans ffw0_x_18
        replace fw_12 := (hs.o (gx.S hM) trivial rfl).1.trans fw_12
        replace fw_13 := (hs.o (gx.S hM) trivial rfl).1.trans fw_13
        replace af_qs : h_16.2.1 qs = sf := (funext fun j => (hs.a (gqs.S hM) rfl j).1).trans af_qs
        replace nia0_qo : h_16.2.1 qo = ia0_qo := (funext fun j => (hs.a (gqo.S hM) rfl j).1).trans nia0_qo
        replace hM := hM.tr (hs.mono (by decide))
        refine lv_bipush (v := 8) hx hb dX10_begins_31 (by decide) ?_
        refine hb_icmp_ne (zx := r_17.toInt) (zy := 8) (tgt := 46) hx hb rfl (by decide) dX10_begins_33 (by decide) (fun c_20 => ?_) (fun c_20 => ?_)
        · skip
          refine lv_aload_n hx hb dX10_begins_46 rfl (lv_at hl 2 rfl) ?_
          refine hk_getr hx hb hts hC_10 hown hW (gx.S hM) tt_10 17 (by decide) rfl kw_1160 ⟨rfl, rfl, rfl⟩ ((hM.o gx trivial rfl).2.trans f_x_17) dX10_begins_47 ?_
          refine lv_aload_n hx hb dX10_begins_50 rfl (lv_at hl 2 rfl) ?_
          refine hk_geti hx hb hts hC_10 hown hW (gx.S hM) tt_10 18 (by decide) rfl kw_1161 ⟨rfl, rfl, rfl⟩ ffw0_x_18 dX10_begins_51 ?_
          refine lv_iload_n hx hb dX10_begins_54 rfl (lv_at hl 1 rfl) ?_
          refine lv_bipush (v := 40) hx hb dX10_begins_55 (by decide) ?_
          refine hb_icmp_ne (zx := r_3.toInt) (zy := 40) (tgt := 65) hx hb rfl (by decide) dX10_begins_57 (by decide) (fun c_21 => by exfalso; omega) (fun c_21 => ?_)
          refine lv_bipush (v := 100) hx hb dX10_begins_60 (by decide) ?_
          refine lv_goto (tgt := 66) hx hb dX10_begins_62 (by decide) ?_
          have nia0_qoO := nia0_qo
          refine hx_iast hx hb hW hT (hx_S.rf (M := [(56, 0)])) (gqo.S hM) tt_56 rfl ⟨by omega, by omega⟩ rfl (by decide) (List.mem_singleton.mpr rfl) dX10_begins_66 (fun H locs h_22 eh_22 hW hT hs => ?_)
          replace f_x_16 := (hs.o (gx.S hM) trivial rfl).1.trans f_x_16
          replace f_x_14 := (hs.o (gx.S hM) trivial rfl).1.trans f_x_14
          replace ffw0_x_18 := (hs.o (gx.S hM) trivial rfl).1.trans ffw0_x_18
          replace fw_12 := (hs.o (gx.S hM) trivial rfl).1.trans fw_12
          replace fw_13 := (hs.o (gx.S hM) trivial rfl).1.trans fw_13
          replace af_qs : h_22.2.1 qs = sf := (funext fun j => (hs.a (gqs.S hM) rfl j).1).trans af_qs
          replace hM := hM.tr (hs.mono (by decide))
          obtain ⟨fa_23, dfa_23⟩ : ∃ g : Nat → Int32, g = hx_up ia0_qo fw0_x_18.toNatClampNeg (100 : Int32) := ⟨_, rfl⟩
          have nfa_23 : h_22.2.1 qo = fa_23 := by rw [eh_22, dfa_23, ← nia0_qoO]; exact hx_pi_fun _ _ _ _
          refine lv_aload_n hx hb dX10_begins_67 rfl (lv_at hl 2 rfl) ?_
          refine lv_dup hx hb dX10_begins_68 rfl ?_
          refine hk_geti hx hb hts hC_10 hown hW (gx.S hM) tt_10 18 (by decide) rfl kw_1161 ⟨rfl, rfl, rfl⟩ ffw0_x_18 dX10_begins_69 ?_
          refine lv_iconst (v := 1) hx hb dX10_begins_72 (by decide) ?_
          refine lv_iadd hx hb dX10_begins_73 ?_
          have rg_24 := i32_r fw0_x_18
          refine lv_topi (fun x_25 ex_25 => ?_)
          have zx_25 : x_25.toInt = fw0_x_18.toInt + 1 := by rw [ex_25]; exact i32_add rfl (by decide) (by omega) (by omega)
          refine hx_puti hx hb hts hC_10 hown hW hT (hx_S.rf (M := [(10, 18)])) (gx.S hM) tt_10 18 (by decide) rfl kw_1161 ⟨rfl, rfl, rfl⟩ rfl (x := x_25) ⟨by omega, by omega⟩ rfl rfl rfl (List.mem_singleton.mpr rfl) dX10_begins_74 (fun H locs h_26 eh_26 hW hT hs => ?_)
          replace f_x_16 := (hs.o (gx.S hM) trivial rfl).1.trans f_x_16
          replace f_x_14 := (hs.o (gx.S hM) trivial rfl).1.trans f_x_14
          replace fw_12 := (hs.o (gx.S hM) trivial rfl).1.trans fw_12
          replace fw_13 := (hs.o (gx.S hM) trivial rfl).1.trans fw_13
          replace af_qs : h_26.2.1 qs = sf := (funext fun j => (hs.a (gqs.S hM) rfl j).1).trans af_qs
          replace nfa_23 : h_26.2.1 qo = fa_23 := (funext fun j => (hs.a (gqo.S hM) rfl j).1).trans nfa_23
          replace hM := hM.tr (hs.mono (by decide))
          have f_27 : h_26.2.1 x 18 = x_25 := by rw [eh_26]; exact hx_pi_at _ _ _ _
          refine lv_aload_n hx hb dX10_begins_77 rfl (lv_at hl 2 rfl) ?_
          refine lv_dup hx hb dX10_begins_78 rfl ?_
          refine hk_geti hx hb hts hC_10 hown hW (gx.S hM) tt_10 8 (by decide) rfl kw_1151 ⟨rfl, rfl, rfl⟩ fw_12 dX10_begins_79 ?_
          refine lv_iload_n hx hb dX10_begins_82 rfl (lv_at hl 1 rfl) ?_
          refine lv_bipush (v := 40) hx hb dX10_begins_83 (by decide) ?_
          refine hb_icmp_ne (zx := r_3.toInt) (zy := 40) (tgt := 92) hx hb rfl (by decide) dX10_begins_85 (by decide) (fun c_28 => by exfalso; omega) (fun c_28 => ?_)
          refine lv_iconst (v := 1) hx hb dX10_begins_88 (by decide) ?_
          refine lv_goto (tgt := 93) hx hb dX10_begins_89 (by decide) ?_
          refine lv_iadd hx hb dX10_begins_93 ?_
          have rg_29 := i32_r w_12
          refine lv_topi (fun x_30 ex_30 => ?_)
          have zx_30 : x_30.toInt = w_12.toInt + 1 := by rw [ex_30]; exact i32_add rfl (by decide) (by omega) (by omega)
          refine hx_puti hx hb hts hC_10 hown hW hT (hx_S.rf (M := [(10, 8)])) (gx.S hM) tt_10 8 (by decide) rfl kw_1151 ⟨rfl, rfl, rfl⟩ rfl (x := x_30) ⟨by omega, by omega⟩ rfl rfl rfl (List.mem_singleton.mpr rfl) dX10_begins_94 (fun H locs h_31 eh_31 hW hT hs => ?_)
          replace f_x_16 := (hs.o (gx.S hM) trivial rfl).1.trans f_x_16
          replace f_x_14 := (hs.o (gx.S hM) trivial rfl).1.trans f_x_14
          replace fw_13 := (hs.o (gx.S hM) trivial rfl).1.trans fw_13
          replace f_27 := (hs.o (gx.S hM) trivial rfl).1.trans f_27
          replace af_qs : h_31.2.1 qs = sf := (funext fun j => (hs.a (gqs.S hM) rfl j).1).trans af_qs
          replace nfa_23 : h_31.2.1 qo = fa_23 := (funext fun j => (hs.a (gqo.S hM) rfl j).1).trans nfa_23
          replace hM := hM.tr (hs.mono (by decide))
          have f_32 : h_31.2.1 x 8 = x_30 := by rw [eh_31]; exact hx_pi_at _ _ _ _
          refine lv_goto (tgt := 0) hx hb dX10_begins_97 (by decide) ?_
          exact ih0 x_25 x_30 fa_23 _ _ L_15 h_31 (by omega) (by omega) (by omega) (by omega) (by omega) (hx_QQ_open vi0_1 (by have q := hx_QQ_dp vi0_1; omega) (by have z1 : (100 : Int32).toInt = 100 := (by decide); have z2 : (2 : Int32).toInt = 2 := (by decide); omega) (hx_cl (by omega)) (by omega) dfa_23) ls (by omega) hW hT hM f_27 f_32 f_x_16 f_x_14 nfa_23 af_qs (lv_sub hl [2] rfl)
        · skip
          refine lv_aload_n hx hb dX10_begins_36 rfl (lv_at hl 2 rfl) ?_
          refine lv_iconst (v := 3) hx hb dX10_begins_37 (by decide) ?_
          refine lv_aload_n hx hb dX10_begins_38 rfl (lv_at hl 2 rfl) ?_
          refine hk_geti hx hb hts hC_10 hown hW (gx.S hM) tt_10 8 (by decide) rfl kw_1151 ⟨rfl, rfl, rfl⟩ fw_12 dX10_begins_39 ?_
          have zc_3 : (3 : Int32).toInt = 3 := by decide
          refine hx_goi (hx_runV (As := [.int (3 : Int32), .int w_12]) (rest := []) ⟨hx, hb, hml, hown, hts⟩ hW (gx.S hM) tt_10 (T := TX10) (N := 98) rfl (t_X10_fails l dC dI dA L_15 h_16 H.size x (3 : Int32) w_12 hT (gx.S hM)) (cwV 2 hts (hx_gV kw_1480 kw_1477 kw_1479 kw_56 kw_103) rfl rfl rfl (by decide +kernel) ⟨Nat.le_of_ble_eq_true rfl, Nat.le_of_ble_eq_true rfl⟩) rfl hl.1 rfl (Nat.le_of_ble_eq_true rfl) dX10_begins_42 ⟨Nat.le_of_ble_eq_true rfl, Nat.le_of_ble_eq_true rfl⟩) hW (fun r_35 L_33 h_34 H locs p_36 hW => ?_)
          obtain ⟨hr_37, hT, hs⟩ := p_36
          replace hT : hx_T T_tb L_33 h_34 := hT
          replace hs : hx_S T_tb [(10, 9)] L_15 h_16 L_33 h_34 := hs
          replace f_x_16 := (hs.o (gx.S hM) trivial rfl).1.trans f_x_16
          replace f_x_14 := (hs.o (gx.S hM) trivial rfl).1.trans f_x_14
          replace ffw0_x_18 := (hs.o (gx.S hM) trivial rfl).1.trans ffw0_x_18
          replace fw_12 := (hs.o (gx.S hM) trivial rfl).1.trans fw_12
          replace fw_13 := (hs.o (gx.S hM) trivial rfl).1.trans fw_13
          replace af_qs : h_34.2.1 qs = sf := (funext fun j => (hs.a (gqs.S hM) rfl j).1).trans af_qs
          replace nia0_qo : h_34.2.1 qo = ia0_qo := (funext fun j => (hs.a (gqo.S hM) rfl j).1).trans nia0_qo
          replace hM := hM.tr (hs.mono (by decide))
          exact hx_retz hx hb hr (hx_nar01 (by omega)) hlk hW ⟨⟨cp0, w_12, st0, fw0_x_18, sf, ia0_qo, f_x_16, fw_12, f_x_14, ffw0_x_18, af_qs, nia0_qo, ⟨by omega, by omega, fun z => by exfalso; omega⟩⟩, hT, hM⟩ dX10_begins_45
      · skip
        refine lv_iload_n hx hb dX10_begins_16 rfl (lv_at hl 0 rfl) ?_
        refine lv_iconst (v := 2) hx hb dX10_begins_17 (by decide) ?_
        refine hb_icmp_eq (zx := r_9.toInt) (zy := 2) (tgt := 27) hx hb rfl (by decide) dX10_begins_18 (by decide) (fun c_38 => ?_) (fun c_38 => ?_)
        · skip
          refine lv_aload_n hx hb dX10_begins_27 rfl (lv_at hl 2 rfl) ?_
          refine hx_goi (hx_runV (As := []) (rest := []) ⟨hx, hb, hml, hown, hts⟩ hW (gx.S hM) tt_10 (T := TX10) (N := 98) rfl (t_X10_deep_2 l dC dI dA L_7 h_8 H.size x hT (gx.S hM) qo (gqo.S hM) ((hM.o gx trivial rfl).2.trans f_x_17) ia0_qo nia0_qo fw0_x_18 ffw0_x_18) (cwV 0 hts (hx_gV kw_1507 kw_1504 kw_1506 kw_62 kw_103) rfl rfl rfl (by decide +kernel) ⟨Nat.le_of_ble_eq_true rfl, Nat.le_of_ble_eq_true rfl⟩) rfl hl.1 rfl (Nat.le_of_ble_eq_true rfl) dX10_begins_28 ⟨Nat.le_of_ble_eq_true rfl, Nat.le_of_ble_eq_true rfl⟩) hW (fun r_41 L_39 h_40 H locs p_42 hW => ?_)
          obtain ⟨hr_43, hT, hs⟩ := p_42
          replace hT : hx_T T_tb L_39 h_40 := hT
          replace hs : hx_S T_tb [] L_7 h_8 L_39 h_40 := hs
          replace f_x_16 := (hs.o (gx.S hM) trivial rfl).1.trans f_x_16
          replace f_x_14 := (hs.o (gx.S hM) trivial rfl).1.trans f_x_14
          replace ffw0_x_18 := (hs.o (gx.S hM) trivial rfl).1.trans ffw0_x_18
          replace fw_12 := (hs.o (gx.S hM) trivial rfl).1.trans fw_12
          replace fw_13 := (hs.o (gx.S hM) trivial rfl).1.trans fw_13
          replace af_qs : h_40.2.1 qs = sf := (funext fun j => (hs.a (gqs.S hM) rfl j).1).trans af_qs
          replace nia0_qo : h_40.2.1 qo = ia0_qo := (funext fun j => (hs.a (gqo.S hM) rfl j).1).trans nia0_qo
          replace hM := hM.tr (hs.mono (by decide))
          refine lv_bipush (v := 8) hx hb dX10_begins_31 (by decide) ?_
          refine hb_icmp_ne (zx := r_41.toInt) (zy := 8) (tgt := 46) hx hb rfl (by decide) dX10_begins_33 (by decide) (fun c_44 => ?_) (fun c_44 => ?_)
          · skip
            refine lv_aload_n hx hb dX10_begins_46 rfl (lv_at hl 2 rfl) ?_
            refine hk_getr hx hb hts hC_10 hown hW (gx.S hM) tt_10 17 (by decide) rfl kw_1160 ⟨rfl, rfl, rfl⟩ ((hM.o gx trivial rfl).2.trans f_x_17) dX10_begins_47 ?_
            refine lv_aload_n hx hb dX10_begins_50 rfl (lv_at hl 2 rfl) ?_
            refine hk_geti hx hb hts hC_10 hown hW (gx.S hM) tt_10 18 (by decide) rfl kw_1161 ⟨rfl, rfl, rfl⟩ ffw0_x_18 dX10_begins_51 ?_
            refine lv_iload_n hx hb dX10_begins_54 rfl (lv_at hl 1 rfl) ?_
            refine lv_bipush (v := 40) hx hb dX10_begins_55 (by decide) ?_
            refine hb_icmp_ne (zx := r_3.toInt) (zy := 40) (tgt := 65) hx hb rfl (by decide) dX10_begins_57 (by decide) (fun c_45 => ?_) (fun c_45 => ?_)
            · skip
              refine lv_iconst (v := 2) hx hb dX10_begins_65 (by decide) ?_
              have nia0_qoO := nia0_qo
              refine hx_iast hx hb hW hT (hx_S.rf (M := [(56, 0)])) (gqo.S hM) tt_56 rfl ⟨by omega, by omega⟩ rfl (by decide) (List.mem_singleton.mpr rfl) dX10_begins_66 (fun H locs h_46 eh_46 hW hT hs => ?_)
              replace f_x_16 := (hs.o (gx.S hM) trivial rfl).1.trans f_x_16
              replace f_x_14 := (hs.o (gx.S hM) trivial rfl).1.trans f_x_14
              replace ffw0_x_18 := (hs.o (gx.S hM) trivial rfl).1.trans ffw0_x_18
              replace fw_12 := (hs.o (gx.S hM) trivial rfl).1.trans fw_12
              replace fw_13 := (hs.o (gx.S hM) trivial rfl).1.trans fw_13
              replace af_qs : h_46.2.1 qs = sf := (funext fun j => (hs.a (gqs.S hM) rfl j).1).trans af_qs
              replace hM := hM.tr (hs.mono (by decide))
              obtain ⟨fa_47, dfa_47⟩ : ∃ g : Nat → Int32, g = hx_up ia0_qo fw0_x_18.toNatClampNeg (2 : Int32) := ⟨_, rfl⟩
              have nfa_47 : h_46.2.1 qo = fa_47 := by rw [eh_46, dfa_47, ← nia0_qoO]; exact hx_pi_fun _ _ _ _
              refine lv_aload_n hx hb dX10_begins_67 rfl (lv_at hl 2 rfl) ?_
              refine lv_dup hx hb dX10_begins_68 rfl ?_
              refine hk_geti hx hb hts hC_10 hown hW (gx.S hM) tt_10 18 (by decide) rfl kw_1161 ⟨rfl, rfl, rfl⟩ ffw0_x_18 dX10_begins_69 ?_
              refine lv_iconst (v := 1) hx hb dX10_begins_72 (by decide) ?_
              refine lv_iadd hx hb dX10_begins_73 ?_
              have rg_48 := i32_r fw0_x_18
              refine lv_topi (fun x_49 ex_49 => ?_)
              have zx_49 : x_49.toInt = fw0_x_18.toInt + 1 := by rw [ex_49]; exact i32_add rfl (by decide) (by omega) (by omega)
              refine hx_puti hx hb hts hC_10 hown hW hT (hx_S.rf (M := [(10, 18)])) (gx.S hM) tt_10 18 (by decide) rfl kw_1161 ⟨rfl, rfl, rfl⟩ rfl (x := x_49) ⟨by omega, by omega⟩ rfl rfl rfl (List.mem_singleton.mpr rfl) dX10_begins_74 (fun H locs h_50 eh_50 hW hT hs => ?_)
              replace f_x_16 := (hs.o (gx.S hM) trivial rfl).1.trans f_x_16
              replace f_x_14 := (hs.o (gx.S hM) trivial rfl).1.trans f_x_14
              replace fw_12 := (hs.o (gx.S hM) trivial rfl).1.trans fw_12
              replace fw_13 := (hs.o (gx.S hM) trivial rfl).1.trans fw_13
              replace af_qs : h_50.2.1 qs = sf := (funext fun j => (hs.a (gqs.S hM) rfl j).1).trans af_qs
              replace nfa_47 : h_50.2.1 qo = fa_47 := (funext fun j => (hs.a (gqo.S hM) rfl j).1).trans nfa_47
              replace hM := hM.tr (hs.mono (by decide))
              have f_51 : h_50.2.1 x 18 = x_49 := by rw [eh_50]; exact hx_pi_at _ _ _ _
              refine lv_aload_n hx hb dX10_begins_77 rfl (lv_at hl 2 rfl) ?_
              refine lv_dup hx hb dX10_begins_78 rfl ?_
              refine hk_geti hx hb hts hC_10 hown hW (gx.S hM) tt_10 8 (by decide) rfl kw_1151 ⟨rfl, rfl, rfl⟩ fw_12 dX10_begins_79 ?_
              refine lv_iload_n hx hb dX10_begins_82 rfl (lv_at hl 1 rfl) ?_
              refine lv_bipush (v := 40) hx hb dX10_begins_83 (by decide) ?_
              refine hb_icmp_ne (zx := r_3.toInt) (zy := 40) (tgt := 92) hx hb rfl (by decide) dX10_begins_85 (by decide) (fun c_52 => ?_) (fun c_52 => ?_)
              · skip
                refine lv_iconst (v := 3) hx hb dX10_begins_92 (by decide) ?_
                refine lv_iadd hx hb dX10_begins_93 ?_
                have rg_53 := i32_r w_12
                refine lv_topi (fun x_54 ex_54 => ?_)
                have zx_54 : x_54.toInt = w_12.toInt + 3 := by rw [ex_54]; exact i32_add rfl (by decide) (by omega) (by omega)
                refine hx_puti hx hb hts hC_10 hown hW hT (hx_S.rf (M := [(10, 8)])) (gx.S hM) tt_10 8 (by decide) rfl kw_1151 ⟨rfl, rfl, rfl⟩ rfl (x := x_54) ⟨by omega, by omega⟩ rfl rfl rfl (List.mem_singleton.mpr rfl) dX10_begins_94 (fun H locs h_55 eh_55 hW hT hs => ?_)
                replace f_x_16 := (hs.o (gx.S hM) trivial rfl).1.trans f_x_16
                replace f_x_14 := (hs.o (gx.S hM) trivial rfl).1.trans f_x_14
                replace fw_13 := (hs.o (gx.S hM) trivial rfl).1.trans fw_13
                replace f_51 := (hs.o (gx.S hM) trivial rfl).1.trans f_51
                replace af_qs : h_55.2.1 qs = sf := (funext fun j => (hs.a (gqs.S hM) rfl j).1).trans af_qs
                replace nfa_47 : h_55.2.1 qo = fa_47 := (funext fun j => (hs.a (gqo.S hM) rfl j).1).trans nfa_47
                replace hM := hM.tr (hs.mono (by decide))
                have f_56 : h_55.2.1 x 8 = x_54 := by rw [eh_55]; exact hx_pi_at _ _ _ _
                refine lv_goto (tgt := 0) hx hb dX10_begins_97 (by decide) ?_
                exact ih0 x_49 x_54 fa_47 _ _ L_39 h_55 (by omega) (by omega) (by omega) (by omega) (by omega) (hx_QQ_open vi0_1 (by have q := hx_QQ_dp vi0_1; omega) (by have z1 : (100 : Int32).toInt = 100 := (by decide); have z2 : (2 : Int32).toInt = 2 := (by decide); omega) (hx_cl (by omega)) (by omega) dfa_47) ls (by omega) hW hT hM f_51 f_56 f_x_16 f_x_14 nfa_47 af_qs (lv_sub hl [2] rfl)
              · skip
                refine lv_iconst (v := 1) hx hb dX10_begins_88 (by decide) ?_
                refine lv_goto (tgt := 93) hx hb dX10_begins_89 (by decide) ?_
                refine lv_iadd hx hb dX10_begins_93 ?_
                have rg_57 := i32_r w_12
                refine lv_topi (fun x_58 ex_58 => ?_)
                have zx_58 : x_58.toInt = w_12.toInt + 1 := by rw [ex_58]; exact i32_add rfl (by decide) (by omega) (by omega)
                refine hx_puti hx hb hts hC_10 hown hW hT (hx_S.rf (M := [(10, 8)])) (gx.S hM) tt_10 8 (by decide) rfl kw_1151 ⟨rfl, rfl, rfl⟩ rfl (x := x_58) ⟨by omega, by omega⟩ rfl rfl rfl (List.mem_singleton.mpr rfl) dX10_begins_94 (fun H locs h_59 eh_59 hW hT hs => ?_)
                replace f_x_16 := (hs.o (gx.S hM) trivial rfl).1.trans f_x_16
                replace f_x_14 := (hs.o (gx.S hM) trivial rfl).1.trans f_x_14
                replace fw_13 := (hs.o (gx.S hM) trivial rfl).1.trans fw_13
                replace f_51 := (hs.o (gx.S hM) trivial rfl).1.trans f_51
                replace af_qs : h_59.2.1 qs = sf := (funext fun j => (hs.a (gqs.S hM) rfl j).1).trans af_qs
                replace nfa_47 : h_59.2.1 qo = fa_47 := (funext fun j => (hs.a (gqo.S hM) rfl j).1).trans nfa_47
                replace hM := hM.tr (hs.mono (by decide))
                have f_60 : h_59.2.1 x 8 = x_58 := by rw [eh_59]; exact hx_pi_at _ _ _ _
                refine lv_goto (tgt := 0) hx hb dX10_begins_97 (by decide) ?_
                exact ih0 x_49 x_58 fa_47 _ _ L_39 h_59 (by omega) (by omega) (by omega) (by omega) (by omega) (hx_QQ_open vi0_1 (by have q := hx_QQ_dp vi0_1; omega) (by have z1 : (100 : Int32).toInt = 100 := (by decide); have z2 : (2 : Int32).toInt = 2 := (by decide); omega) (hx_cl (by omega)) (by omega) dfa_47) ls (by omega) hW hT hM f_51 f_60 f_x_16 f_x_14 nfa_47 af_qs (lv_sub hl [2] rfl)
            · skip
              refine lv_bipush (v := 100) hx hb dX10_begins_60 (by decide) ?_
              refine lv_goto (tgt := 66) hx hb dX10_begins_62 (by decide) ?_
              have nia0_qoO := nia0_qo
              refine hx_iast hx hb hW hT (hx_S.rf (M := [(56, 0)])) (gqo.S hM) tt_56 rfl ⟨by omega, by omega⟩ rfl (by decide) (List.mem_singleton.mpr rfl) dX10_begins_66 (fun H locs h_61 eh_61 hW hT hs => ?_)
              replace f_x_16 := (hs.o (gx.S hM) trivial rfl).1.trans f_x_16
              replace f_x_14 := (hs.o (gx.S hM) trivial rfl).1.trans f_x_14
              replace ffw0_x_18 := (hs.o (gx.S hM) trivial rfl).1.trans ffw0_x_18
              replace fw_12 := (hs.o (gx.S hM) trivial rfl).1.trans fw_12
              replace fw_13 := (hs.o (gx.S hM) trivial rfl).1.trans fw_13
              replace af_qs : h_61.2.1 qs = sf := (funext fun j => (hs.a (gqs.S hM) rfl j).1).trans af_qs
              replace hM := hM.tr (hs.mono (by decide))
              obtain ⟨fa_62, dfa_62⟩ : ∃ g : Nat → Int32, g = hx_up ia0_qo fw0_x_18.toNatClampNeg (100 : Int32) := ⟨_, rfl⟩
              have nfa_62 : h_61.2.1 qo = fa_62 := by rw [eh_61, dfa_62, ← nia0_qoO]; exact hx_pi_fun _ _ _ _
              refine lv_aload_n hx hb dX10_begins_67 rfl (lv_at hl 2 rfl) ?_
              refine lv_dup hx hb dX10_begins_68 rfl ?_
              refine hk_geti hx hb hts hC_10 hown hW (gx.S hM) tt_10 18 (by decide) rfl kw_1161 ⟨rfl, rfl, rfl⟩ ffw0_x_18 dX10_begins_69 ?_
              refine lv_iconst (v := 1) hx hb dX10_begins_72 (by decide) ?_
              refine lv_iadd hx hb dX10_begins_73 ?_
              have rg_63 := i32_r fw0_x_18
              refine lv_topi (fun x_64 ex_64 => ?_)
              have zx_64 : x_64.toInt = fw0_x_18.toInt + 1 := by rw [ex_64]; exact i32_add rfl (by decide) (by omega) (by omega)
              refine hx_puti hx hb hts hC_10 hown hW hT (hx_S.rf (M := [(10, 18)])) (gx.S hM) tt_10 18 (by decide) rfl kw_1161 ⟨rfl, rfl, rfl⟩ rfl (x := x_64) ⟨by omega, by omega⟩ rfl rfl rfl (List.mem_singleton.mpr rfl) dX10_begins_74 (fun H locs h_65 eh_65 hW hT hs => ?_)
              replace f_x_16 := (hs.o (gx.S hM) trivial rfl).1.trans f_x_16
              replace f_x_14 := (hs.o (gx.S hM) trivial rfl).1.trans f_x_14
              replace fw_12 := (hs.o (gx.S hM) trivial rfl).1.trans fw_12
              replace fw_13 := (hs.o (gx.S hM) trivial rfl).1.trans fw_13
              replace af_qs : h_65.2.1 qs = sf := (funext fun j => (hs.a (gqs.S hM) rfl j).1).trans af_qs
              replace nfa_62 : h_65.2.1 qo = fa_62 := (funext fun j => (hs.a (gqo.S hM) rfl j).1).trans nfa_62
              replace hM := hM.tr (hs.mono (by decide))
              have f_66 : h_65.2.1 x 18 = x_64 := by rw [eh_65]; exact hx_pi_at _ _ _ _
              refine lv_aload_n hx hb dX10_begins_77 rfl (lv_at hl 2 rfl) ?_
              refine lv_dup hx hb dX10_begins_78 rfl ?_
              refine hk_geti hx hb hts hC_10 hown hW (gx.S hM) tt_10 8 (by decide) rfl kw_1151 ⟨rfl, rfl, rfl⟩ fw_12 dX10_begins_79 ?_
              refine lv_iload_n hx hb dX10_begins_82 rfl (lv_at hl 1 rfl) ?_
              refine lv_bipush (v := 40) hx hb dX10_begins_83 (by decide) ?_
              refine hb_icmp_ne (zx := r_3.toInt) (zy := 40) (tgt := 92) hx hb rfl (by decide) dX10_begins_85 (by decide) (fun c_67 => by exfalso; omega) (fun c_67 => ?_)
              refine lv_iconst (v := 1) hx hb dX10_begins_88 (by decide) ?_
              refine lv_goto (tgt := 93) hx hb dX10_begins_89 (by decide) ?_
              refine lv_iadd hx hb dX10_begins_93 ?_
              have rg_68 := i32_r w_12
              refine lv_topi (fun x_69 ex_69 => ?_)
              have zx_69 : x_69.toInt = w_12.toInt + 1 := by rw [ex_69]; exact i32_add rfl (by decide) (by omega) (by omega)
              refine hx_puti hx hb hts hC_10 hown hW hT (hx_S.rf (M := [(10, 8)])) (gx.S hM) tt_10 8 (by decide) rfl kw_1151 ⟨rfl, rfl, rfl⟩ rfl (x := x_69) ⟨by omega, by omega⟩ rfl rfl rfl (List.mem_singleton.mpr rfl) dX10_begins_94 (fun H locs h_70 eh_70 hW hT hs => ?_)
              replace f_x_16 := (hs.o (gx.S hM) trivial rfl).1.trans f_x_16
              replace f_x_14 := (hs.o (gx.S hM) trivial rfl).1.trans f_x_14
              replace fw_13 := (hs.o (gx.S hM) trivial rfl).1.trans fw_13
              replace f_66 := (hs.o (gx.S hM) trivial rfl).1.trans f_66
              replace af_qs : h_70.2.1 qs = sf := (funext fun j => (hs.a (gqs.S hM) rfl j).1).trans af_qs
              replace nfa_62 : h_70.2.1 qo = fa_62 := (funext fun j => (hs.a (gqo.S hM) rfl j).1).trans nfa_62
              replace hM := hM.tr (hs.mono (by decide))
              have f_71 : h_70.2.1 x 8 = x_69 := by rw [eh_70]; exact hx_pi_at _ _ _ _
              refine lv_goto (tgt := 0) hx hb dX10_begins_97 (by decide) ?_
              exact ih0 x_64 x_69 fa_62 _ _ L_39 h_70 (by omega) (by omega) (by omega) (by omega) (by omega) (hx_QQ_open vi0_1 (by have q := hx_QQ_dp vi0_1; omega) (by have z1 : (100 : Int32).toInt = 100 := (by decide); have z2 : (2 : Int32).toInt = 2 := (by decide); omega) (hx_cl (by omega)) (by omega) dfa_62) ls (by omega) hW hT hM f_66 f_71 f_x_16 f_x_14 nfa_62 af_qs (lv_sub hl [2] rfl)
          · skip
            refine lv_aload_n hx hb dX10_begins_36 rfl (lv_at hl 2 rfl) ?_
            refine lv_iconst (v := 3) hx hb dX10_begins_37 (by decide) ?_
            refine lv_aload_n hx hb dX10_begins_38 rfl (lv_at hl 2 rfl) ?_
            refine hk_geti hx hb hts hC_10 hown hW (gx.S hM) tt_10 8 (by decide) rfl kw_1151 ⟨rfl, rfl, rfl⟩ fw_12 dX10_begins_39 ?_
            have zc_3 : (3 : Int32).toInt = 3 := by decide
            refine hx_goi (hx_runV (As := [.int (3 : Int32), .int w_12]) (rest := []) ⟨hx, hb, hml, hown, hts⟩ hW (gx.S hM) tt_10 (T := TX10) (N := 98) rfl (t_X10_fails l dC dI dA L_39 h_40 H.size x (3 : Int32) w_12 hT (gx.S hM)) (cwV 2 hts (hx_gV kw_1480 kw_1477 kw_1479 kw_56 kw_103) rfl rfl rfl (by decide +kernel) ⟨Nat.le_of_ble_eq_true rfl, Nat.le_of_ble_eq_true rfl⟩) rfl hl.1 rfl (Nat.le_of_ble_eq_true rfl) dX10_begins_42 ⟨Nat.le_of_ble_eq_true rfl, Nat.le_of_ble_eq_true rfl⟩) hW (fun r_74 L_72 h_73 H locs p_75 hW => ?_)
            obtain ⟨hr_76, hT, hs⟩ := p_75
            replace hT : hx_T T_tb L_72 h_73 := hT
            replace hs : hx_S T_tb [(10, 9)] L_39 h_40 L_72 h_73 := hs
            replace f_x_16 := (hs.o (gx.S hM) trivial rfl).1.trans f_x_16
            replace f_x_14 := (hs.o (gx.S hM) trivial rfl).1.trans f_x_14
            replace ffw0_x_18 := (hs.o (gx.S hM) trivial rfl).1.trans ffw0_x_18
            replace fw_12 := (hs.o (gx.S hM) trivial rfl).1.trans fw_12
            replace fw_13 := (hs.o (gx.S hM) trivial rfl).1.trans fw_13
            replace af_qs : h_73.2.1 qs = sf := (funext fun j => (hs.a (gqs.S hM) rfl j).1).trans af_qs
            replace nia0_qo : h_73.2.1 qo = ia0_qo := (funext fun j => (hs.a (gqo.S hM) rfl j).1).trans nia0_qo
            replace hM := hM.tr (hs.mono (by decide))
            exact hx_retz hx hb hr (hx_nar01 (by omega)) hlk hW ⟨⟨cp0, w_12, st0, fw0_x_18, sf, ia0_qo, f_x_16, fw_12, f_x_14, ffw0_x_18, af_qs, nia0_qo, ⟨by omega, by omega, fun z => by exfalso; omega⟩⟩, hT, hM⟩ dX10_begins_45
        · skip
          refine lv_aload_n hx hb dX10_begins_21 rfl (lv_at hl 2 rfl) ?_
          refine lv_iload_n hx hb dX10_begins_22 rfl (lv_at hl 0 rfl) ?_
          refine hx_goi (hx_runV (As := [.int r_9]) (rest := []) ⟨hx, hb, hml, hown, hts⟩ hW (gx.S hM) tt_10 (T := TX10) (N := 98) rfl (t_X10_compare l dC dI dA L_7 h_8 H.size x r_9 hT (gx.S hM) qs (gqs.S hM) ((hM.o gx trivial rfl).2.trans f_x_15) qo (gqo.S hM) ((hM.o gx trivial rfl).2.trans f_x_17) qt (gqt.S hM) ((hM.o gx trivial rfl).2.trans f_x_6) qw (gqw.S hM) ((hM.o gx trivial rfl).2.trans f_x_19) sf af_qs ia0_qo nia0_qo tf (hx_afS hM gqt rfl af_qt) wf (hx_afS hM gqw rfl af_qw) cp0 f_x_16 w_12 fw_12 st0 f_x_14 fw0_x_18 ffw0_x_18 tp0 ((hM.o gx trivial rfl).1.trans f_x_7) w_13 fw_13 (hx_QQ_next vi0_1 (by omega)) (fun z => by omega) hwd) (cwV 1 hts (hx_gV kw_1496 kw_1493 kw_1495 kw_60 kw_103) rfl rfl rfl (by decide +kernel) ⟨Nat.le_of_ble_eq_true rfl, Nat.le_of_ble_eq_true rfl⟩) rfl hl.1 rfl (Nat.le_of_ble_eq_true rfl) dX10_begins_23 ⟨Nat.le_of_ble_eq_true rfl, Nat.le_of_ble_eq_true rfl⟩) hW (fun r_79 L_77 h_78 H locs p_80 hW => ?_)
          obtain ⟨⟨w_82, w_83, w_84, w_85, fw_82, fw_83, fw_84, fw_85, hr_81⟩, hT, hs⟩ := p_80
          replace hT : hx_T T_tb L_77 h_78 := hT
          replace hs : hx_S T_tb [(10, 8), (10, 9), (10, 10), (10, 11), (10, 14), (10, 16), (55, 0)] L_7 h_8 L_77 h_78 := hs
          replace ffw0_x_18 := (hs.o (gx.S hM) trivial rfl).1.trans ffw0_x_18
          replace nia0_qo : h_78.2.1 qo = ia0_qo := (funext fun j => (hs.a (gqo.S hM) rfl j).1).trans nia0_qo
          replace hM := hM.tr (hs.mono (by decide))
          have fw_82 : h_78.2.1 x 16 = w_82 := fw_82
          have bw_82 := hT.gi (gx.S hM) tt_10 (k := 16) rfl
          rw [fw_82] at bw_82
          have bw_82 : 0 ≤ w_82.toInt ∧ w_82.toInt ≤ 20 := bw_82
          have fw_83 : h_78.2.1 x 8 = w_83 := fw_83
          have bw_83 := hT.gi (gx.S hM) tt_10 (k := 8) rfl
          rw [fw_83] at bw_83
          have bw_83 : 0 ≤ w_83.toInt ∧ w_83.toInt ≤ 402 := bw_83
          have fw_84 : h_78.2.1 x 14 = w_84 := fw_84
          have bw_84 := hT.gi (gx.S hM) tt_10 (k := 14) rfl
          rw [fw_84] at bw_84
          have bw_84 : 0 ≤ w_84.toInt ∧ w_84.toInt ≤ 128 := bw_84
          have fw_85 : h_78.2.1 qs = w_85 := fw_85
          exact hx_retz hx hb hr (hx_nar01 (by omega)) hlk hW ⟨⟨w_82, w_83, w_84, fw0_x_18, w_85, ia0_qo, fw_82, fw_83, fw_84, ffw0_x_18, fw_85, nia0_qo, ⟨by omega, by omega, hr_81.2.2⟩⟩, hT, hM⟩ dX10_begins_26
  exact loop0 403 op0 nx0 of _ _ L h (by omega) (by omega) (by omega) (by omega) (by omega) hQ ls (by omega) hW hT hM f_x_18 f_x_8 f_x_16 f_x_14 af_qo af_qs hl

theorem dX10_clears_0 : decode cX10_clears 0 = .ok (.aload_n 0, 1) := by decide +kernel
theorem dX10_clears_1 : decode cX10_clears 1 = .ok (.iconst 0, 1) := by decide +kernel
theorem dX10_clears_2 : decode cX10_clears 2 = .ok (.putfield 262, 3) := by decide +kernel
theorem dX10_clears_5 : decode cX10_clears 5 = .ok (.aload_n 0, 1) := by decide +kernel
theorem dX10_clears_6 : decode cX10_clears 6 = .ok (.iconst 0, 1) := by decide +kernel
theorem dX10_clears_7 : decode cX10_clears 7 = .ok (.putfield 274, 3) := by decide +kernel
theorem dX10_clears_10 : decode cX10_clears 10 = .ok (.aload_n 0, 1) := by decide +kernel
theorem dX10_clears_11 : decode cX10_clears 11 = .ok (.iconst 0, 1) := by decide +kernel
theorem dX10_clears_12 : decode cX10_clears 12 = .ok (.putfield 265, 3) := by decide +kernel
theorem dX10_clears_15 : decode cX10_clears 15 = .ok (.return_, 1) := by decide +kernel
set_option maxHeartbeats 4000000 in
set_option maxRecDepth 100000 in
theorem t_X10_clears (l : Launch) (dC : Nat → ClassId) (dI : Nat → Nat → Nat) (dA : Nat → ClassId) (L : List Nat) (h : hx_h) (sz : Nat) (x : Nat) (hT : hx_T T_tb L h) (gx : hx_g L h x 10)  : Met l yX10_clears (Cond.code yX10_clears cX10_clears 1 none :: hx_all) ({ frames := 0, cells := 0, slots := 0, locals := 0 }) (va_Pc [.ref x] (hx_B T_tb (P_ty dA) (dC, dI) vwCl L h sz)) (va_Qv (fun (u : List Nat × hx_h) => (∃ (st1 : Int32) (cp1 : Int32) (op1 : Int32), u.2.2.1 x 14 = st1 ∧ u.2.2.1 x 16 = cp1 ∧ u.2.2.1 x 18 = op1 ∧ (st1.toInt = 0 ∧ cp1.toInt = 0 ∧ op1.toInt = 0)) ∧ hx_T T_tb u.1 u.2 ∧ hx_S T_tb [(10, 14), (10, 16), (10, 18)] L h u.1 u.2) (hx_E T_tb (P_ty dA) (dC, dI) vwCl (hx_A L sz)) (hx_A L sz)) 0 0 (hx_A L sz) := by
  refine hx_met (lv := [(0, .ref x)]) (by decide +kernel) rfl (Nat.le_of_ble_eq_true rfl) rfl ?_
  intro p e s m below meth c hx hb hml hr hlk hts0 hown hin hsz hW ls hl
  have hts : ∀ w ∈ hx_all, w.before _ s = true := fun w hw => hts0 w (List.mem_cons_of_mem _ hw)
  have hown : s.vm.findClass "SmallCourtModel" = some m.cls := hown
  have hM : hx_S T_tb [(10, 14), (10, 16), (10, 18)] L h L h := hx_S.rf
  refine lv_aload_n hx hb dX10_clears_0 rfl (lv_at hl 0 rfl) ?_
  refine lv_iconst (v := 0) hx hb dX10_clears_1 (by decide) ?_
  refine hx_puti hx hb hts hC_10 hown hW hT (hx_S.rf (M := [(10, 14)])) (gx.S hM) tt_10 14 (by decide) rfl kw_1157 ⟨rfl, rfl, rfl⟩ rfl (x := (0 : Int32)) (by decide) rfl rfl rfl (List.mem_singleton.mpr rfl) dX10_clears_2 (fun H locs h_1 eh_1 hW hT hs => ?_)
  replace hM := hM.tr (hs.mono (by decide))
  have f_2 : h_1.2.1 x 14 = (0 : Int32) := by rw [eh_1]; exact hx_pi_at _ _ _ _
  refine lv_aload_n hx hb dX10_clears_5 rfl (lv_at hl 0 rfl) ?_
  refine lv_iconst (v := 0) hx hb dX10_clears_6 (by decide) ?_
  refine hx_puti hx hb hts hC_10 hown hW hT (hx_S.rf (M := [(10, 16)])) (gx.S hM) tt_10 16 (by decide) rfl kw_1159 ⟨rfl, rfl, rfl⟩ rfl (x := (0 : Int32)) (by decide) rfl rfl rfl (List.mem_singleton.mpr rfl) dX10_clears_7 (fun H locs h_3 eh_3 hW hT hs => ?_)
  replace f_2 := (hs.o (gx.S hM) trivial rfl).1.trans f_2
  replace hM := hM.tr (hs.mono (by decide))
  have f_4 : h_3.2.1 x 16 = (0 : Int32) := by rw [eh_3]; exact hx_pi_at _ _ _ _
  refine lv_aload_n hx hb dX10_clears_10 rfl (lv_at hl 0 rfl) ?_
  refine lv_iconst (v := 0) hx hb dX10_clears_11 (by decide) ?_
  refine hx_puti hx hb hts hC_10 hown hW hT (hx_S.rf (M := [(10, 18)])) (gx.S hM) tt_10 18 (by decide) rfl kw_1161 ⟨rfl, rfl, rfl⟩ rfl (x := (0 : Int32)) (by decide) rfl rfl rfl (List.mem_singleton.mpr rfl) dX10_clears_12 (fun H locs h_5 eh_5 hW hT hs => ?_)
  replace f_2 := (hs.o (gx.S hM) trivial rfl).1.trans f_2
  replace f_4 := (hs.o (gx.S hM) trivial rfl).1.trans f_4
  replace hM := hM.tr (hs.mono (by decide))
  have f_6 : h_5.2.1 x 18 = (0 : Int32) := by rw [eh_5]; exact hx_pi_at _ _ _ _
  have zo_0 : (0 : Int32).toInt = 0 := by decide
  have zo_0 : (0 : Int32).toInt = 0 := by decide
  have zo_0 : (0 : Int32).toInt = 0 := by decide
  exact hx_retv hx hb hr hlk hW ⟨⟨(0 : Int32), (0 : Int32), (0 : Int32), f_2, f_4, f_6, ⟨by decide, by decide, by decide⟩⟩, hT, hM⟩ dX10_clears_15

def wLX10_either_0 : List Nat := [42, 182, 0, 218, 4, 60, 27, 153, 0, 12, 42, 182, 1, 40, 154, 0, 5, 3, 172, 27, 153, 0, 7, 42, 182, 1, 44, 3, 60, 42, 182, 0, 248, 61, 42, 182, 1, 21, 62, 29, 4, 159, 0, 7, 29, 154, 0, 46, 42, 29, 182, 1, 47, 42, 180, 0, 32, 42, 180, 1, 9, 29, 79, 42]
def wLX10_either_1 : List Nat := [89, 180, 1, 9, 4, 96, 181, 1, 9, 42, 89, 180, 0, 245, 42, 180, 0, 252, 96, 181, 0, 245, 4, 60, 167, 0, 88, 28, 16, 41, 160, 0, 52, 42, 3, 182, 1, 47, 42, 180, 1, 9, 154, 0, 13, 42, 3, 42, 180, 0, 245, 182, 0, 255, 172, 42, 89, 180, 1, 9, 4, 100, 181, 1]
def wLX10_either_2 : List Nat := [9, 42, 89, 180, 0, 245, 4, 96, 181, 0, 245, 42, 182, 1, 44, 167, 0, 33, 42, 3, 182, 1, 47, 42, 180, 1, 9, 153, 0, 15, 42, 3, 42, 180, 0, 245, 182, 0, 255, 153, 0, 7, 4, 167, 0, 4, 3, 172, 167, 255, 86]
theorem wX10_either_0 : (cX10_either.data.toList.map UInt8.toNat).drop 0 = wLX10_either_0 ++ (wLX10_either_1 ++ (wLX10_either_2 ++ ([]))) := by decide +kernel
theorem wX10_either_1 : (cX10_either.data.toList.map UInt8.toNat).drop 64 = wLX10_either_1 ++ (wLX10_either_2 ++ ([])) := hz_wn wX10_either_0 rfl
theorem wX10_either_2 : (cX10_either.data.toList.map UInt8.toNat).drop 128 = wLX10_either_2 ++ ([]) := hz_wn wX10_either_1 rfl
theorem dX10_either_0 : decode cX10_either 0 = .ok (.aload_n 0, 1) := dq_42 (hz_wg wX10_either_0 (j := 0) (n := 42) rfl)
theorem dX10_either_1 : decode cX10_either 1 = .ok (.invokevirtual 218, 3) := dq_182 (hz_wg wX10_either_0 (j := 1) (n := 182) rfl) (hz_wg wX10_either_0 (j := 2) (n := 0) rfl) (hz_wg wX10_either_0 (j := 3) (n := 218) rfl) rfl
theorem dX10_either_4 : decode cX10_either 4 = .ok (.iconst 1, 1) := dq_4 (hz_wg wX10_either_0 (j := 4) (n := 4) rfl)
theorem dX10_either_5 : decode cX10_either 5 = .ok (.istore_n 1, 1) := dq_60 (hz_wg wX10_either_0 (j := 5) (n := 60) rfl)
theorem dX10_either_6 : decode cX10_either 6 = .ok (.iload_n 1, 1) := dq_27 (hz_wg wX10_either_0 (j := 6) (n := 27) rfl)
theorem dX10_either_7 : decode cX10_either 7 = .ok (.ifCond .eq 12, 3) := dq_153 (hz_wg wX10_either_0 (j := 7) (n := 153) rfl) (hz_wg wX10_either_0 (j := 8) (n := 0) rfl) (hz_wg wX10_either_0 (j := 9) (n := 12) rfl) (by decide)
theorem dX10_either_10 : decode cX10_either 10 = .ok (.aload_n 0, 1) := dq_42 (hz_wg wX10_either_0 (j := 10) (n := 42) rfl)
theorem dX10_either_11 : decode cX10_either 11 = .ok (.invokevirtual 296, 3) := dq_182 (hz_wg wX10_either_0 (j := 11) (n := 182) rfl) (hz_wg wX10_either_0 (j := 12) (n := 1) rfl) (hz_wg wX10_either_0 (j := 13) (n := 40) rfl) rfl
theorem dX10_either_14 : decode cX10_either 14 = .ok (.ifCond .ne 5, 3) := dq_154 (hz_wg wX10_either_0 (j := 14) (n := 154) rfl) (hz_wg wX10_either_0 (j := 15) (n := 0) rfl) (hz_wg wX10_either_0 (j := 16) (n := 5) rfl) (by decide)
theorem dX10_either_17 : decode cX10_either 17 = .ok (.iconst 0, 1) := dq_3 (hz_wg wX10_either_0 (j := 17) (n := 3) rfl)
theorem dX10_either_18 : decode cX10_either 18 = .ok (.ireturn, 1) := dq_172 (hz_wg wX10_either_0 (j := 18) (n := 172) rfl)
theorem dX10_either_19 : decode cX10_either 19 = .ok (.iload_n 1, 1) := dq_27 (hz_wg wX10_either_0 (j := 19) (n := 27) rfl)
theorem dX10_either_20 : decode cX10_either 20 = .ok (.ifCond .eq 7, 3) := dq_153 (hz_wg wX10_either_0 (j := 20) (n := 153) rfl) (hz_wg wX10_either_0 (j := 21) (n := 0) rfl) (hz_wg wX10_either_0 (j := 22) (n := 7) rfl) (by decide)
theorem dX10_either_23 : decode cX10_either 23 = .ok (.aload_n 0, 1) := dq_42 (hz_wg wX10_either_0 (j := 23) (n := 42) rfl)
theorem dX10_either_24 : decode cX10_either 24 = .ok (.invokevirtual 300, 3) := dq_182 (hz_wg wX10_either_0 (j := 24) (n := 182) rfl) (hz_wg wX10_either_0 (j := 25) (n := 1) rfl) (hz_wg wX10_either_0 (j := 26) (n := 44) rfl) rfl
theorem dX10_either_27 : decode cX10_either 27 = .ok (.iconst 0, 1) := dq_3 (hz_wg wX10_either_0 (j := 27) (n := 3) rfl)
theorem dX10_either_28 : decode cX10_either 28 = .ok (.istore_n 1, 1) := dq_60 (hz_wg wX10_either_0 (j := 28) (n := 60) rfl)
theorem dX10_either_29 : decode cX10_either 29 = .ok (.aload_n 0, 1) := dq_42 (hz_wg wX10_either_0 (j := 29) (n := 42) rfl)
theorem dX10_either_30 : decode cX10_either 30 = .ok (.invokevirtual 248, 3) := dq_182 (hz_wg wX10_either_0 (j := 30) (n := 182) rfl) (hz_wg wX10_either_0 (j := 31) (n := 0) rfl) (hz_wg wX10_either_0 (j := 32) (n := 248) rfl) rfl
theorem dX10_either_33 : decode cX10_either 33 = .ok (.istore_n 2, 1) := dq_61 (hz_wg wX10_either_0 (j := 33) (n := 61) rfl)
theorem dX10_either_34 : decode cX10_either 34 = .ok (.aload_n 0, 1) := dq_42 (hz_wg wX10_either_0 (j := 34) (n := 42) rfl)
theorem dX10_either_35 : decode cX10_either 35 = .ok (.invokevirtual 277, 3) := dq_182 (hz_wg wX10_either_0 (j := 35) (n := 182) rfl) (hz_wg wX10_either_0 (j := 36) (n := 1) rfl) (hz_wg wX10_either_0 (j := 37) (n := 21) rfl) rfl
theorem dX10_either_38 : decode cX10_either 38 = .ok (.istore_n 3, 1) := dq_62 (hz_wg wX10_either_0 (j := 38) (n := 62) rfl)
theorem dX10_either_39 : decode cX10_either 39 = .ok (.iload_n 3, 1) := dq_29 (hz_wg wX10_either_0 (j := 39) (n := 29) rfl)
theorem dX10_either_40 : decode cX10_either 40 = .ok (.iconst 1, 1) := dq_4 (hz_wg wX10_either_0 (j := 40) (n := 4) rfl)
theorem dX10_either_41 : decode cX10_either 41 = .ok (.if_icmp .eq 7, 3) := dq_159 (hz_wg wX10_either_0 (j := 41) (n := 159) rfl) (hz_wg wX10_either_0 (j := 42) (n := 0) rfl) (hz_wg wX10_either_0 (j := 43) (n := 7) rfl) (by decide)
theorem dX10_either_44 : decode cX10_either 44 = .ok (.iload_n 3, 1) := dq_29 (hz_wg wX10_either_0 (j := 44) (n := 29) rfl)
theorem dX10_either_45 : decode cX10_either 45 = .ok (.ifCond .ne 46, 3) := dq_154 (hz_wg wX10_either_0 (j := 45) (n := 154) rfl) (hz_wg wX10_either_0 (j := 46) (n := 0) rfl) (hz_wg wX10_either_0 (j := 47) (n := 46) rfl) (by decide)
theorem dX10_either_48 : decode cX10_either 48 = .ok (.aload_n 0, 1) := dq_42 (hz_wg wX10_either_0 (j := 48) (n := 42) rfl)
theorem dX10_either_49 : decode cX10_either 49 = .ok (.iload_n 3, 1) := dq_29 (hz_wg wX10_either_0 (j := 49) (n := 29) rfl)
theorem dX10_either_50 : decode cX10_either 50 = .ok (.invokevirtual 303, 3) := dq_182 (hz_wg wX10_either_0 (j := 50) (n := 182) rfl) (hz_wg wX10_either_0 (j := 51) (n := 1) rfl) (hz_wg wX10_either_0 (j := 52) (n := 47) rfl) rfl
theorem dX10_either_53 : decode cX10_either 53 = .ok (.aload_n 0, 1) := dq_42 (hz_wg wX10_either_0 (j := 53) (n := 42) rfl)
theorem dX10_either_54 : decode cX10_either 54 = .ok (.getfield 32, 3) := dq_180 (hz_wg wX10_either_0 (j := 54) (n := 180) rfl) (hz_wg wX10_either_0 (j := 55) (n := 0) rfl) (hz_wg wX10_either_0 (j := 56) (n := 32) rfl) rfl
theorem dX10_either_57 : decode cX10_either 57 = .ok (.aload_n 0, 1) := dq_42 (hz_wg wX10_either_0 (j := 57) (n := 42) rfl)
theorem dX10_either_58 : decode cX10_either 58 = .ok (.getfield 265, 3) := dq_180 (hz_wg wX10_either_0 (j := 58) (n := 180) rfl) (hz_wg wX10_either_0 (j := 59) (n := 1) rfl) (hz_wg wX10_either_0 (j := 60) (n := 9) rfl) rfl
theorem dX10_either_61 : decode cX10_either 61 = .ok (.iload_n 3, 1) := dq_29 (hz_wg wX10_either_0 (j := 61) (n := 29) rfl)
theorem dX10_either_62 : decode cX10_either 62 = .ok (.iastore, 1) := dq_79 (hz_wg wX10_either_0 (j := 62) (n := 79) rfl)
theorem dX10_either_63 : decode cX10_either 63 = .ok (.aload_n 0, 1) := dq_42 (hz_wg wX10_either_0 (j := 63) (n := 42) rfl)
theorem dX10_either_64 : decode cX10_either 64 = .ok (.dup, 1) := dq_89 (hz_wg wX10_either_1 (j := 0) (n := 89) rfl)
theorem dX10_either_65 : decode cX10_either 65 = .ok (.getfield 265, 3) := dq_180 (hz_wg wX10_either_1 (j := 1) (n := 180) rfl) (hz_wg wX10_either_1 (j := 2) (n := 1) rfl) (hz_wg wX10_either_1 (j := 3) (n := 9) rfl) rfl
theorem dX10_either_68 : decode cX10_either 68 = .ok (.iconst 1, 1) := dq_4 (hz_wg wX10_either_1 (j := 4) (n := 4) rfl)
theorem dX10_either_69 : decode cX10_either 69 = .ok (.iadd, 1) := dq_96 (hz_wg wX10_either_1 (j := 5) (n := 96) rfl)
theorem dX10_either_70 : decode cX10_either 70 = .ok (.putfield 265, 3) := dq_181 (hz_wg wX10_either_1 (j := 6) (n := 181) rfl) (hz_wg wX10_either_1 (j := 7) (n := 1) rfl) (hz_wg wX10_either_1 (j := 8) (n := 9) rfl) rfl
theorem dX10_either_73 : decode cX10_either 73 = .ok (.aload_n 0, 1) := dq_42 (hz_wg wX10_either_1 (j := 9) (n := 42) rfl)
theorem dX10_either_74 : decode cX10_either 74 = .ok (.dup, 1) := dq_89 (hz_wg wX10_either_1 (j := 10) (n := 89) rfl)
theorem dX10_either_75 : decode cX10_either 75 = .ok (.getfield 245, 3) := dq_180 (hz_wg wX10_either_1 (j := 11) (n := 180) rfl) (hz_wg wX10_either_1 (j := 12) (n := 0) rfl) (hz_wg wX10_either_1 (j := 13) (n := 245) rfl) rfl
theorem dX10_either_78 : decode cX10_either 78 = .ok (.aload_n 0, 1) := dq_42 (hz_wg wX10_either_1 (j := 14) (n := 42) rfl)
theorem dX10_either_79 : decode cX10_either 79 = .ok (.getfield 252, 3) := dq_180 (hz_wg wX10_either_1 (j := 15) (n := 180) rfl) (hz_wg wX10_either_1 (j := 16) (n := 0) rfl) (hz_wg wX10_either_1 (j := 17) (n := 252) rfl) rfl
theorem dX10_either_82 : decode cX10_either 82 = .ok (.iadd, 1) := dq_96 (hz_wg wX10_either_1 (j := 18) (n := 96) rfl)
theorem dX10_either_83 : decode cX10_either 83 = .ok (.putfield 245, 3) := dq_181 (hz_wg wX10_either_1 (j := 19) (n := 181) rfl) (hz_wg wX10_either_1 (j := 20) (n := 0) rfl) (hz_wg wX10_either_1 (j := 21) (n := 245) rfl) rfl
theorem dX10_either_86 : decode cX10_either 86 = .ok (.iconst 1, 1) := dq_4 (hz_wg wX10_either_1 (j := 22) (n := 4) rfl)
theorem dX10_either_87 : decode cX10_either 87 = .ok (.istore_n 1, 1) := dq_60 (hz_wg wX10_either_1 (j := 23) (n := 60) rfl)
theorem dX10_either_88 : decode cX10_either 88 = .ok (.goto 88, 3) := dq_167 (hz_wg wX10_either_1 (j := 24) (n := 167) rfl) (hz_wg wX10_either_1 (j := 25) (n := 0) rfl) (hz_wg wX10_either_1 (j := 26) (n := 88) rfl) (by decide)
theorem dX10_either_91 : decode cX10_either 91 = .ok (.iload_n 2, 1) := dq_28 (hz_wg wX10_either_1 (j := 27) (n := 28) rfl)
theorem dX10_either_92 : decode cX10_either 92 = .ok (.bipush 41, 2) := dq_16 (hz_wg wX10_either_1 (j := 28) (n := 16) rfl) (hz_wg wX10_either_1 (j := 29) (n := 41) rfl) (by decide)
theorem dX10_either_94 : decode cX10_either 94 = .ok (.if_icmp .ne 52, 3) := dq_160 (hz_wg wX10_either_1 (j := 30) (n := 160) rfl) (hz_wg wX10_either_1 (j := 31) (n := 0) rfl) (hz_wg wX10_either_1 (j := 32) (n := 52) rfl) (by decide)
theorem dX10_either_97 : decode cX10_either 97 = .ok (.aload_n 0, 1) := dq_42 (hz_wg wX10_either_1 (j := 33) (n := 42) rfl)
theorem dX10_either_98 : decode cX10_either 98 = .ok (.iconst 0, 1) := dq_3 (hz_wg wX10_either_1 (j := 34) (n := 3) rfl)
theorem dX10_either_99 : decode cX10_either 99 = .ok (.invokevirtual 303, 3) := dq_182 (hz_wg wX10_either_1 (j := 35) (n := 182) rfl) (hz_wg wX10_either_1 (j := 36) (n := 1) rfl) (hz_wg wX10_either_1 (j := 37) (n := 47) rfl) rfl
theorem dX10_either_102 : decode cX10_either 102 = .ok (.aload_n 0, 1) := dq_42 (hz_wg wX10_either_1 (j := 38) (n := 42) rfl)
theorem dX10_either_103 : decode cX10_either 103 = .ok (.getfield 265, 3) := dq_180 (hz_wg wX10_either_1 (j := 39) (n := 180) rfl) (hz_wg wX10_either_1 (j := 40) (n := 1) rfl) (hz_wg wX10_either_1 (j := 41) (n := 9) rfl) rfl
theorem dX10_either_106 : decode cX10_either 106 = .ok (.ifCond .ne 13, 3) := dq_154 (hz_wg wX10_either_1 (j := 42) (n := 154) rfl) (hz_wg wX10_either_1 (j := 43) (n := 0) rfl) (hz_wg wX10_either_1 (j := 44) (n := 13) rfl) (by decide)
theorem dX10_either_109 : decode cX10_either 109 = .ok (.aload_n 0, 1) := dq_42 (hz_wg wX10_either_1 (j := 45) (n := 42) rfl)
theorem dX10_either_110 : decode cX10_either 110 = .ok (.iconst 0, 1) := dq_3 (hz_wg wX10_either_1 (j := 46) (n := 3) rfl)
theorem dX10_either_111 : decode cX10_either 111 = .ok (.aload_n 0, 1) := dq_42 (hz_wg wX10_either_1 (j := 47) (n := 42) rfl)
theorem dX10_either_112 : decode cX10_either 112 = .ok (.getfield 245, 3) := dq_180 (hz_wg wX10_either_1 (j := 48) (n := 180) rfl) (hz_wg wX10_either_1 (j := 49) (n := 0) rfl) (hz_wg wX10_either_1 (j := 50) (n := 245) rfl) rfl
theorem dX10_either_115 : decode cX10_either 115 = .ok (.invokevirtual 255, 3) := dq_182 (hz_wg wX10_either_1 (j := 51) (n := 182) rfl) (hz_wg wX10_either_1 (j := 52) (n := 0) rfl) (hz_wg wX10_either_1 (j := 53) (n := 255) rfl) rfl
theorem dX10_either_118 : decode cX10_either 118 = .ok (.ireturn, 1) := dq_172 (hz_wg wX10_either_1 (j := 54) (n := 172) rfl)
theorem dX10_either_119 : decode cX10_either 119 = .ok (.aload_n 0, 1) := dq_42 (hz_wg wX10_either_1 (j := 55) (n := 42) rfl)
theorem dX10_either_120 : decode cX10_either 120 = .ok (.dup, 1) := dq_89 (hz_wg wX10_either_1 (j := 56) (n := 89) rfl)
theorem dX10_either_121 : decode cX10_either 121 = .ok (.getfield 265, 3) := dq_180 (hz_wg wX10_either_1 (j := 57) (n := 180) rfl) (hz_wg wX10_either_1 (j := 58) (n := 1) rfl) (hz_wg wX10_either_1 (j := 59) (n := 9) rfl) rfl
theorem dX10_either_124 : decode cX10_either 124 = .ok (.iconst 1, 1) := dq_4 (hz_wg wX10_either_1 (j := 60) (n := 4) rfl)
theorem dX10_either_125 : decode cX10_either 125 = .ok (.isub, 1) := dq_100 (hz_wg wX10_either_1 (j := 61) (n := 100) rfl)
theorem dX10_either_126 : decode cX10_either 126 = .ok (.putfield 265, 3) := dq_181 (hz_wg wX10_either_1 (j := 62) (n := 181) rfl) (hz_wg wX10_either_1 (j := 63) (n := 1) rfl) (hz_wg wX10_either_2 (j := 0) (n := 9) rfl) rfl
theorem dX10_either_129 : decode cX10_either 129 = .ok (.aload_n 0, 1) := dq_42 (hz_wg wX10_either_2 (j := 1) (n := 42) rfl)
theorem dX10_either_130 : decode cX10_either 130 = .ok (.dup, 1) := dq_89 (hz_wg wX10_either_2 (j := 2) (n := 89) rfl)
theorem dX10_either_131 : decode cX10_either 131 = .ok (.getfield 245, 3) := dq_180 (hz_wg wX10_either_2 (j := 3) (n := 180) rfl) (hz_wg wX10_either_2 (j := 4) (n := 0) rfl) (hz_wg wX10_either_2 (j := 5) (n := 245) rfl) rfl
theorem dX10_either_134 : decode cX10_either 134 = .ok (.iconst 1, 1) := dq_4 (hz_wg wX10_either_2 (j := 6) (n := 4) rfl)
theorem dX10_either_135 : decode cX10_either 135 = .ok (.iadd, 1) := dq_96 (hz_wg wX10_either_2 (j := 7) (n := 96) rfl)
theorem dX10_either_136 : decode cX10_either 136 = .ok (.putfield 245, 3) := dq_181 (hz_wg wX10_either_2 (j := 8) (n := 181) rfl) (hz_wg wX10_either_2 (j := 9) (n := 0) rfl) (hz_wg wX10_either_2 (j := 10) (n := 245) rfl) rfl
theorem dX10_either_139 : decode cX10_either 139 = .ok (.aload_n 0, 1) := dq_42 (hz_wg wX10_either_2 (j := 11) (n := 42) rfl)
theorem dX10_either_140 : decode cX10_either 140 = .ok (.invokevirtual 300, 3) := dq_182 (hz_wg wX10_either_2 (j := 12) (n := 182) rfl) (hz_wg wX10_either_2 (j := 13) (n := 1) rfl) (hz_wg wX10_either_2 (j := 14) (n := 44) rfl) rfl
theorem dX10_either_143 : decode cX10_either 143 = .ok (.goto 33, 3) := dq_167 (hz_wg wX10_either_2 (j := 15) (n := 167) rfl) (hz_wg wX10_either_2 (j := 16) (n := 0) rfl) (hz_wg wX10_either_2 (j := 17) (n := 33) rfl) (by decide)
theorem dX10_either_146 : decode cX10_either 146 = .ok (.aload_n 0, 1) := dq_42 (hz_wg wX10_either_2 (j := 18) (n := 42) rfl)
theorem dX10_either_147 : decode cX10_either 147 = .ok (.iconst 0, 1) := dq_3 (hz_wg wX10_either_2 (j := 19) (n := 3) rfl)
theorem dX10_either_148 : decode cX10_either 148 = .ok (.invokevirtual 303, 3) := dq_182 (hz_wg wX10_either_2 (j := 20) (n := 182) rfl) (hz_wg wX10_either_2 (j := 21) (n := 1) rfl) (hz_wg wX10_either_2 (j := 22) (n := 47) rfl) rfl
theorem dX10_either_151 : decode cX10_either 151 = .ok (.aload_n 0, 1) := dq_42 (hz_wg wX10_either_2 (j := 23) (n := 42) rfl)
theorem dX10_either_152 : decode cX10_either 152 = .ok (.getfield 265, 3) := dq_180 (hz_wg wX10_either_2 (j := 24) (n := 180) rfl) (hz_wg wX10_either_2 (j := 25) (n := 1) rfl) (hz_wg wX10_either_2 (j := 26) (n := 9) rfl) rfl
theorem dX10_either_155 : decode cX10_either 155 = .ok (.ifCond .eq 15, 3) := dq_153 (hz_wg wX10_either_2 (j := 27) (n := 153) rfl) (hz_wg wX10_either_2 (j := 28) (n := 0) rfl) (hz_wg wX10_either_2 (j := 29) (n := 15) rfl) (by decide)
theorem dX10_either_158 : decode cX10_either 158 = .ok (.aload_n 0, 1) := dq_42 (hz_wg wX10_either_2 (j := 30) (n := 42) rfl)
theorem dX10_either_159 : decode cX10_either 159 = .ok (.iconst 0, 1) := dq_3 (hz_wg wX10_either_2 (j := 31) (n := 3) rfl)
theorem dX10_either_160 : decode cX10_either 160 = .ok (.aload_n 0, 1) := dq_42 (hz_wg wX10_either_2 (j := 32) (n := 42) rfl)
theorem dX10_either_161 : decode cX10_either 161 = .ok (.getfield 245, 3) := dq_180 (hz_wg wX10_either_2 (j := 33) (n := 180) rfl) (hz_wg wX10_either_2 (j := 34) (n := 0) rfl) (hz_wg wX10_either_2 (j := 35) (n := 245) rfl) rfl
theorem dX10_either_164 : decode cX10_either 164 = .ok (.invokevirtual 255, 3) := dq_182 (hz_wg wX10_either_2 (j := 36) (n := 182) rfl) (hz_wg wX10_either_2 (j := 37) (n := 0) rfl) (hz_wg wX10_either_2 (j := 38) (n := 255) rfl) rfl
theorem dX10_either_167 : decode cX10_either 167 = .ok (.ifCond .eq 7, 3) := dq_153 (hz_wg wX10_either_2 (j := 39) (n := 153) rfl) (hz_wg wX10_either_2 (j := 40) (n := 0) rfl) (hz_wg wX10_either_2 (j := 41) (n := 7) rfl) (by decide)
theorem dX10_either_170 : decode cX10_either 170 = .ok (.iconst 1, 1) := dq_4 (hz_wg wX10_either_2 (j := 42) (n := 4) rfl)
theorem dX10_either_171 : decode cX10_either 171 = .ok (.goto 4, 3) := dq_167 (hz_wg wX10_either_2 (j := 43) (n := 167) rfl) (hz_wg wX10_either_2 (j := 44) (n := 0) rfl) (hz_wg wX10_either_2 (j := 45) (n := 4) rfl) (by decide)
theorem dX10_either_174 : decode cX10_either 174 = .ok (.iconst 0, 1) := dq_3 (hz_wg wX10_either_2 (j := 46) (n := 3) rfl)
theorem dX10_either_175 : decode cX10_either 175 = .ok (.ireturn, 1) := dq_172 (hz_wg wX10_either_2 (j := 47) (n := 172) rfl)
theorem dX10_either_176 : decode cX10_either 176 = .ok (.goto (-170), 3) := dq_167 (hz_wg wX10_either_2 (j := 48) (n := 167) rfl) (hz_wg wX10_either_2 (j := 49) (n := 255) rfl) (hz_wg wX10_either_2 (j := 50) (n := 86) rfl) (by decide)
set_option maxHeartbeats 4000000 in
set_option maxRecDepth 100000 in
theorem t_X10_either (l : Launch) (dC : Nat → ClassId) (dI : Nat → Nat → Nat) (dA : Nat → ClassId) (L : List Nat) (h : hx_h) (sz : Nat) (x : Nat) (hT : hx_T T_tb L h) (gx : hx_g L h x 10) (qs : Nat) (gqs : hx_g L h qs 55) (f_x_15 : h.2.2 x 15 = some qs) (qo : Nat) (gqo : hx_g L h qo 56) (f_x_17 : h.2.2 x 17 = some qo) (qt : Nat) (gqt : hx_g L h qt 53) (f_x_6 : h.2.2 x 6 = some qt) (qw : Nat) (gqw : hx_g L h qw 57) (f_x_19 : h.2.2 x 19 = some qw) (sf : Nat → Int32) (af_qs : h.2.1 qs = sf) (of : Nat → Int32) (af_qo : h.2.1 qo = of) (tf : Nat → Int32) (af_qt : h.2.1 qt = tf) (wf : Nat → Int32) (af_qw : h.2.1 qw = wf) (nx0 : Int32) (f_x_8 : h.2.1 x 8 = nx0) (tp0 : Int32) (f_x_7 : h.2.1 x 7 = tp0) (hnx : 5 ≤ nx0.toInt) (hwd : hx_wd wf) : Met l yX10_either (Cond.code yX10_either cX10_either 4 (some .boolean) :: hx_all) ({ frames := 4, cells := 0, slots := 0, locals := 95 }) (va_Pc [.ref x] (hx_B T_tb (P_ty dA) (dC, dI) vwCl L h sz)) (va_Qi (fun (r : Int32) (u : List Nat × hx_h) => (∃ (nx1 : Int32) (st1 : Int32) (sf1 : Nat → Int32), u.2.2.1 x 8 = nx1 ∧ u.2.2.1 x 14 = st1 ∧ u.2.2.1 qs = sf1 ∧ ((r.toInt = 0 ∨ r.toInt = 1) ∧ nx0.toInt ≤ nx1.toInt ∧ (r.toInt = 1 → hx_rp sf1 st1.toInt.toNat = some 1))) ∧ hx_T T_tb u.1 u.2 ∧ hx_S T_tb [(10, 8), (10, 9), (10, 10), (10, 11), (10, 14), (10, 16), (10, 18), (55, 0), (56, 0)] L h u.1 u.2) (hx_E T_tb (P_ty dA) (dC, dI) vwCl (hx_A L sz)) (hx_A L sz)) 0 0 (hx_A L sz) := by
  refine hx_met (lv := [(0, .ref x)]) (by decide +kernel) rfl (Nat.le_of_ble_eq_true rfl) rfl ?_
  intro p e s m below meth c hx hb hml hr hlk hts0 hown hin hsz hW ls hl
  have hts : ∀ w ∈ hx_all, w.before _ s = true := fun w hw => hts0 w (List.mem_cons_of_mem _ hw)
  have hown : s.vm.findClass "SmallCourtModel" = some m.cls := hown
  have hM : hx_S T_tb [(10, 8), (10, 9), (10, 10), (10, 11), (10, 14), (10, 16), (10, 18), (55, 0), (56, 0)] L h L h := hx_S.rf
  have b_nx0 := hT.gi gx tt_10 (k := 8) rfl
  rw [f_x_8] at b_nx0
  have b_nx0 : 0 ≤ nx0.toInt ∧ nx0.toInt ≤ 402 := b_nx0
  have b_tp0 := hT.gi gx tt_10 (k := 7) rfl
  rw [f_x_7] at b_tp0
  have b_tp0 : 0 ≤ tp0.toInt ∧ tp0.toInt ≤ 400 := b_tp0
  refine lv_aload_n hx hb dX10_either_0 rfl (lv_at hl 0 rfl) ?_
  refine hx_gov (hx_runV (As := []) (rest := []) ⟨hx, hb, hml, hown, hts⟩ hW (gx.S hM) tt_10 (T := TX10) (N := 98) rfl (t_X10_clears l dC dI dA L h s.heap.size x hT (gx.S hM)) (cwV 0 hts (hx_gV kw_1125 kw_1122 kw_1124 kw_48 kw_103) rfl rfl rfl (by decide +kernel) ⟨Nat.le_of_ble_eq_true rfl, Nat.le_of_ble_eq_true rfl⟩) rfl hl.1 rfl (Nat.le_of_ble_eq_true rfl) dX10_either_1 ⟨Nat.le_of_ble_eq_true rfl, Nat.le_of_ble_eq_true rfl⟩) hW (fun L_1 h_2 H locs p_4 hW => ?_)
  obtain ⟨⟨w_6, w_7, w_8, fw_6, fw_7, fw_8, hr_5⟩, hT, hs⟩ := p_4
  replace hT : hx_T T_tb L_1 h_2 := hT
  replace hs : hx_S T_tb [(10, 14), (10, 16), (10, 18)] L h L_1 h_2 := hs
  replace f_x_8 := (hs.o (gx.S hM) trivial rfl).1.trans f_x_8
  replace af_qs : h_2.2.1 qs = sf := (funext fun j => (hs.a (gqs.S hM) rfl j).1).trans af_qs
  replace af_qo : h_2.2.1 qo = of := (funext fun j => (hs.a (gqo.S hM) rfl j).1).trans af_qo
  replace hM := hM.tr (hs.mono (by decide))
  have fw_6 : h_2.2.1 x 14 = w_6 := fw_6
  have bw_6 := hT.gi (gx.S hM) tt_10 (k := 14) rfl
  rw [fw_6] at bw_6
  have bw_6 : 0 ≤ w_6.toInt ∧ w_6.toInt ≤ 128 := bw_6
  have fw_7 : h_2.2.1 x 16 = w_7 := fw_7
  have bw_7 := hT.gi (gx.S hM) tt_10 (k := 16) rfl
  rw [fw_7] at bw_7
  have bw_7 : 0 ≤ w_7.toInt ∧ w_7.toInt ≤ 20 := bw_7
  have fw_8 : h_2.2.1 x 18 = w_8 := fw_8
  have bw_8 := hT.gi (gx.S hM) tt_10 (k := 18) rfl
  rw [fw_8] at bw_8
  have bw_8 : 0 ≤ w_8.toInt ∧ w_8.toInt ≤ 128 := bw_8
  refine lv_iconst (v := 1) hx hb dX10_either_4 (by decide) ?_
  refine lv_istore_n (lv' := [(1, .int (1 : Int32)), (0, .ref x)]) hx hb dX10_either_5 rfl hl (by decide) rfl (fun ls hl => ?_)
  have loop6 : ∀ (n6 : Nat) (iv6_1 fw6_x_16 fw6_x_14 fw6_x_18 fw6_x_8 : Int32) (ia6_qs ia6_qo : Nat → Int32) (H : Heap) (locs : List Loc) (hL1 : List Nat) (hl1 : hx_h), 0 ≤ iv6_1.toInt → iv6_1.toInt ≤ 1 → 0 ≤ fw6_x_16.toInt → fw6_x_16.toInt ≤ 20 → 0 ≤ fw6_x_14.toInt → fw6_x_14.toInt ≤ 128 → 0 ≤ fw6_x_18.toInt → fw6_x_18.toInt ≤ 128 → 0 ≤ fw6_x_8.toInt → fw6_x_8.toInt ≤ 402 → (nx0.toInt ≤ fw6_x_8.toInt) → (hx_QQ (1 - (iv6_1.toInt : Int)).toNat fw6_x_16.toInt fw6_x_8.toInt fw6_x_14.toInt fw6_x_18.toInt ia6_qs ia6_qo) → ∀ (ls : Array Slot), 402 - fw6_x_8.toInt < (n6 : Int) → hx_W T_tb (P_ty dA) (dC, dI) vwCl (hx_A L sz) s.heap hL1 hl1 s H locs → hx_T T_tb hL1 hl1 → hx_S T_tb [(10, 8), (10, 9), (10, 10), (10, 11), (10, 14), (10, 16), (10, 18), (55, 0), (56, 0)] L h hL1 hl1 → hl1.2.1 x 16 = fw6_x_16 → hl1.2.1 x 14 = fw6_x_14 → hl1.2.1 x 18 = fw6_x_18 → hl1.2.1 x 8 = fw6_x_8 → hl1.2.1 qs = ia6_qs → hl1.2.1 qo = ia6_qo → lv_has ls 4 [(1, .int iv6_1), (0, .ref x)] → W p l e ({ frames := 4, cells := 0, slots := 0, locals := 95 }) s m ([.ref x] : List Value).toArray below meth c H locs 0 0 (MQ below (va_Qi (fun (r : Int32) (u : List Nat × hx_h) => (∃ (nx1 : Int32) (st1 : Int32) (sf1 : Nat → Int32), u.2.2.1 x 8 = nx1 ∧ u.2.2.1 x 14 = st1 ∧ u.2.2.1 qs = sf1 ∧ ((r.toInt = 0 ∨ r.toInt = 1) ∧ nx0.toInt ≤ nx1.toInt ∧ (r.toInt = 1 → hx_rp sf1 st1.toInt.toNat = some 1))) ∧ hx_T T_tb u.1 u.2 ∧ hx_S T_tb [(10, 8), (10, 9), (10, 10), (10, 11), (10, 14), (10, 16), (10, 18), (55, 0), (56, 0)] L h u.1 u.2) (hx_E T_tb (P_ty dA) (dC, dI) vwCl (hx_A L sz)) (hx_A L sz)) ([.ref x] : List Value).toArray s 0 0 (hx_A L sz)) (F0 m 6 ls []) := by
    intro n6
    induction n6 with
    | zero => intro iv6_1 fw6_x_16 fw6_x_14 fw6_x_18 fw6_x_8 ia6_qs ia6_qo H locs hL1 hl1 bliv6_1 buiv6_1 blfw6_x_16 bufw6_x_16 blfw6_x_14 bufw6_x_14 blfw6_x_18 bufw6_x_18 blfw6_x_8 bufw6_x_8 vi6_0 vi6_1 ls hn6; exfalso; omega
    | succ n6 ih6 =>
      intro iv6_1 fw6_x_16 fw6_x_14 fw6_x_18 fw6_x_8 ia6_qs ia6_qo H locs hL1 hl1 bliv6_1 buiv6_1 blfw6_x_16 bufw6_x_16 blfw6_x_14 bufw6_x_14 blfw6_x_18 bufw6_x_18 blfw6_x_8 bufw6_x_8 vi6_0 vi6_1 ls hn6 hW hT hM ffw6_x_16 ffw6_x_14 ffw6_x_18 ffw6_x_8 nia6_qs nia6_qo hl
      refine lv_iload_n hx hb dX10_either_6 rfl (lv_at hl 0 rfl) ?_
      refine hb_if_eq (zx := iv6_1.toInt) (tgt := 19) hx hb rfl dX10_either_7 (by decide) (fun c_9 => ?_) (fun c_9 => ?_)
      · skip
        refine lv_iload_n hx hb dX10_either_19 rfl (lv_at hl 0 rfl) ?_
        refine hb_if_eq (zx := iv6_1.toInt) (tgt := 27) hx hb rfl dX10_either_20 (by decide) (fun c_10 => ?_) (fun c_10 => by exfalso; omega)
        have hq1 : hx_QQ 1 fw6_x_16.toInt fw6_x_8.toInt fw6_x_14.toInt fw6_x_18.toInt ia6_qs ia6_qo := hx_QQ_bE vi6_1 (by omega)
        refine lv_iconst (v := 0) hx hb dX10_either_27 (by decide) ?_
        refine lv_istore_n (lv' := [(1, .int (0 : Int32)), (0, .ref x)]) hx hb dX10_either_28 rfl hl (by decide) rfl (fun ls hl => ?_)
        refine lv_aload_n hx hb dX10_either_29 rfl (lv_at hl 1 rfl) ?_
        refine hx_goi (hx_runV (As := []) (rest := []) ⟨hx, hb, hml, hown, hts⟩ hW (gx.S hM) tt_10 (T := TX10) (N := 98) rfl (t_X10_see l dC dI dA hL1 hl1 H.size x hT (gx.S hM) qt (gqt.S hM) ((hM.o gx trivial rfl).2.trans f_x_6) tf (hx_afS hM gqt rfl af_qt) fw6_x_8 ffw6_x_8 tp0 ((hM.o gx trivial rfl).1.trans f_x_7)) (cwV 0 hts (hx_gV kw_1468 kw_1465 kw_1467 kw_53 kw_103) rfl rfl rfl (by decide +kernel) ⟨Nat.le_of_ble_eq_true rfl, Nat.le_of_ble_eq_true rfl⟩) rfl hl.1 rfl (Nat.le_of_ble_eq_true rfl) dX10_either_30 ⟨Nat.le_of_ble_eq_true rfl, Nat.le_of_ble_eq_true rfl⟩) hW (fun r_13 L_11 h_12 H locs p_14 hW => ?_)
        obtain ⟨⟨w_16, fw_16, hr_15⟩, hT, hs⟩ := p_14
        replace hT : hx_T T_tb L_11 h_12 := hT
        replace hs : hx_S T_tb [(10, 8)] hL1 hl1 L_11 h_12 := hs
        replace ffw6_x_16 := (hs.o (gx.S hM) trivial rfl).1.trans ffw6_x_16
        replace ffw6_x_14 := (hs.o (gx.S hM) trivial rfl).1.trans ffw6_x_14
        replace ffw6_x_18 := (hs.o (gx.S hM) trivial rfl).1.trans ffw6_x_18
        replace nia6_qs : h_12.2.1 qs = ia6_qs := (funext fun j => (hs.a (gqs.S hM) rfl j).1).trans nia6_qs
        replace nia6_qo : h_12.2.1 qo = ia6_qo := (funext fun j => (hs.a (gqo.S hM) rfl j).1).trans nia6_qo
        replace hM := hM.tr (hs.mono (by decide))
        have fw_16 : h_12.2.1 x 8 = w_16 := fw_16
        have bw_16 := hT.gi (gx.S hM) tt_10 (k := 8) rfl
        rw [fw_16] at bw_16
        have bw_16 : 0 ≤ w_16.toInt ∧ w_16.toInt ≤ 402 := bw_16
        refine lv_istore_n (lv' := [(2, .int r_13), (1, .int (0 : Int32)), (0, .ref x)]) hx hb dX10_either_33 rfl hl (by decide) rfl (fun ls hl => ?_)
        refine lv_aload_n hx hb dX10_either_34 rfl (lv_at hl 2 rfl) ?_
        refine hx_goi (hx_runV (As := []) (rest := []) ⟨hx, hb, hml, hown, hts⟩ hW (gx.S hM) tt_10 (T := TX10) (N := 98) rfl (t_X10_wordHere l dC dI dA L_11 h_12 H.size x hT (gx.S hM) qt (gqt.S hM) ((hM.o gx trivial rfl).2.trans f_x_6) qw (gqw.S hM) ((hM.o gx trivial rfl).2.trans f_x_19) tf (hx_afS hM gqt rfl af_qt) wf (hx_afS hM gqw rfl af_qw) w_16 fw_16 tp0 ((hM.o gx trivial rfl).1.trans f_x_7) hwd) (cwV 0 hts (hx_gV kw_1476 kw_1473 kw_1475 kw_55 kw_103) rfl rfl rfl (by decide +kernel) ⟨Nat.le_of_ble_eq_true rfl, Nat.le_of_ble_eq_true rfl⟩) rfl hl.1 rfl (Nat.le_of_ble_eq_true rfl) dX10_either_35 ⟨Nat.le_of_ble_eq_true rfl, Nat.le_of_ble_eq_true rfl⟩) hW (fun r_19 L_17 h_18 H locs p_20 hW => ?_)
        obtain ⟨⟨w_22, w_23, fw_22, fw_23, hr_21⟩, hT, hs⟩ := p_20
        replace hT : hx_T T_tb L_17 h_18 := hT
        replace hs : hx_S T_tb [(10, 8), (10, 11)] L_11 h_12 L_17 h_18 := hs
        replace ffw6_x_16 := (hs.o (gx.S hM) trivial rfl).1.trans ffw6_x_16
        replace ffw6_x_14 := (hs.o (gx.S hM) trivial rfl).1.trans ffw6_x_14
        replace ffw6_x_18 := (hs.o (gx.S hM) trivial rfl).1.trans ffw6_x_18
        replace nia6_qs : h_18.2.1 qs = ia6_qs := (funext fun j => (hs.a (gqs.S hM) rfl j).1).trans nia6_qs
        replace nia6_qo : h_18.2.1 qo = ia6_qo := (funext fun j => (hs.a (gqo.S hM) rfl j).1).trans nia6_qo
        replace hM := hM.tr (hs.mono (by decide))
        have fw_22 : h_18.2.1 x 8 = w_22 := fw_22
        have bw_22 := hT.gi (gx.S hM) tt_10 (k := 8) rfl
        rw [fw_22] at bw_22
        have bw_22 : 0 ≤ w_22.toInt ∧ w_22.toInt ≤ 402 := bw_22
        have fw_23 : h_18.2.1 x 11 = w_23 := fw_23
        have bw_23 := hT.gi (gx.S hM) tt_10 (k := 11) rfl
        rw [fw_23] at bw_23
        have bw_23 : 0 ≤ w_23.toInt ∧ w_23.toInt ≤ 400 := bw_23
        refine lv_istore_n (lv' := [(3, .int r_19), (2, .int r_13), (1, .int (0 : Int32)), (0, .ref x)]) hx hb dX10_either_38 rfl hl (by decide) rfl (fun ls hl => ?_)
        refine lv_iload_n hx hb dX10_either_39 rfl (lv_at hl 0 rfl) ?_
        refine lv_iconst (v := 1) hx hb dX10_either_40 (by decide) ?_
        refine hb_icmp_eq (zx := r_19.toInt) (zy := 1) (tgt := 48) hx hb rfl (by decide) dX10_either_41 (by decide) (fun c_24 => ?_) (fun c_24 => ?_)
        · skip
          refine lv_aload_n hx hb dX10_either_48 rfl (lv_at hl 3 rfl) ?_
          refine lv_iload_n hx hb dX10_either_49 rfl (lv_at hl 0 rfl) ?_
          refine hx_gov (hx_runV (As := [.int r_19]) (rest := []) ⟨hx, hb, hml, hown, hts⟩ hW (gx.S hM) tt_10 (T := TX10) (N := 98) rfl (t_X10_closesDown l dC dI dA L_17 h_18 H.size x r_19 hT (gx.S hM) qs (gqs.S hM) ((hM.o gx trivial rfl).2.trans f_x_15) qo (gqo.S hM) ((hM.o gx trivial rfl).2.trans f_x_17) ia6_qs nia6_qs ia6_qo nia6_qo fw6_x_16 ffw6_x_16 w_22 fw_22 fw6_x_14 ffw6_x_14 fw6_x_18 ffw6_x_18 (hx_QQ_next hq1 (by omega))) (cwV 1 hts (hx_gV kw_1515 kw_1512 kw_1514 kw_64 kw_103) rfl rfl rfl (by decide +kernel) ⟨Nat.le_of_ble_eq_true rfl, Nat.le_of_ble_eq_true rfl⟩) rfl hl.1 rfl (Nat.le_of_ble_eq_true rfl) dX10_either_50 ⟨Nat.le_of_ble_eq_true rfl, Nat.le_of_ble_eq_true rfl⟩) hW (fun L_25 h_26 H locs p_28 hW => ?_)
          obtain ⟨⟨w_30, w_31, w_32, fw_30, fw_31, fw_32, hr_29⟩, hT, hs⟩ := p_28
          replace hT : hx_T T_tb L_25 h_26 := hT
          replace hs : hx_S T_tb [(10, 14), (10, 18), (55, 0)] L_17 h_18 L_25 h_26 := hs
          replace ffw6_x_16 := (hs.o (gx.S hM) trivial rfl).1.trans ffw6_x_16
          replace fw_22 := (hs.o (gx.S hM) trivial rfl).1.trans fw_22
          replace fw_23 := (hs.o (gx.S hM) trivial rfl).1.trans fw_23
          replace nia6_qo : h_26.2.1 qo = ia6_qo := (funext fun j => (hs.a (gqo.S hM) rfl j).1).trans nia6_qo
          replace hM := hM.tr (hs.mono (by decide))
          have fw_30 : h_26.2.1 x 14 = w_30 := fw_30
          have bw_30 := hT.gi (gx.S hM) tt_10 (k := 14) rfl
          rw [fw_30] at bw_30
          have bw_30 : 0 ≤ w_30.toInt ∧ w_30.toInt ≤ 128 := bw_30
          have fw_31 : h_26.2.1 x 18 = w_31 := fw_31
          have bw_31 := hT.gi (gx.S hM) tt_10 (k := 18) rfl
          rw [fw_31] at bw_31
          have bw_31 : 0 ≤ w_31.toInt ∧ w_31.toInt ≤ 128 := bw_31
          have fw_32 : h_26.2.1 qs = w_32 := fw_32
          have hqb := hx_QQ_b hr_29.1
          refine lv_aload_n hx hb dX10_either_53 rfl (lv_at hl 3 rfl) ?_
          refine hk_getr hx hb hts hC_10 hown hW (gx.S hM) tt_10 17 (by decide) rfl kw_1160 ⟨rfl, rfl, rfl⟩ ((hM.o gx trivial rfl).2.trans f_x_17) dX10_either_54 ?_
          refine lv_aload_n hx hb dX10_either_57 rfl (lv_at hl 3 rfl) ?_
          refine hk_geti hx hb hts hC_10 hown hW (gx.S hM) tt_10 18 (by decide) rfl kw_1161 ⟨rfl, rfl, rfl⟩ fw_31 dX10_either_58 ?_
          refine lv_iload_n hx hb dX10_either_61 rfl (lv_at hl 0 rfl) ?_
          have nia6_qoO := nia6_qo
          refine hx_iast hx hb hW hT (hx_S.rf (M := [(56, 0)])) (gqo.S hM) tt_56 rfl ⟨by omega, by omega⟩ rfl ⟨by omega, by omega⟩ (List.mem_singleton.mpr rfl) dX10_either_62 (fun H locs h_33 eh_33 hW hT hs => ?_)
          replace ffw6_x_16 := (hs.o (gx.S hM) trivial rfl).1.trans ffw6_x_16
          replace fw_22 := (hs.o (gx.S hM) trivial rfl).1.trans fw_22
          replace fw_23 := (hs.o (gx.S hM) trivial rfl).1.trans fw_23
          replace fw_30 := (hs.o (gx.S hM) trivial rfl).1.trans fw_30
          replace fw_31 := (hs.o (gx.S hM) trivial rfl).1.trans fw_31
          replace fw_32 : h_33.2.1 qs = w_32 := (funext fun j => (hs.a (gqs.S hM) rfl j).1).trans fw_32
          replace hM := hM.tr (hs.mono (by decide))
          obtain ⟨fa_34, dfa_34⟩ : ∃ g : Nat → Int32, g = hx_up ia6_qo w_31.toNatClampNeg r_19 := ⟨_, rfl⟩
          have nfa_34 : h_33.2.1 qo = fa_34 := by rw [eh_33, dfa_34, ← nia6_qoO]; exact hx_pi_fun _ _ _ _
          refine lv_aload_n hx hb dX10_either_63 rfl (lv_at hl 3 rfl) ?_
          refine lv_dup hx hb dX10_either_64 rfl ?_
          refine hk_geti hx hb hts hC_10 hown hW (gx.S hM) tt_10 18 (by decide) rfl kw_1161 ⟨rfl, rfl, rfl⟩ fw_31 dX10_either_65 ?_
          refine lv_iconst (v := 1) hx hb dX10_either_68 (by decide) ?_
          refine lv_iadd hx hb dX10_either_69 ?_
          have rg_35 := i32_r w_31
          refine lv_topi (fun x_36 ex_36 => ?_)
          have zx_36 : x_36.toInt = w_31.toInt + 1 := by rw [ex_36]; exact i32_add rfl (by decide) (by omega) (by omega)
          refine hx_puti hx hb hts hC_10 hown hW hT (hx_S.rf (M := [(10, 18)])) (gx.S hM) tt_10 18 (by decide) rfl kw_1161 ⟨rfl, rfl, rfl⟩ rfl (x := x_36) ⟨by omega, by omega⟩ rfl rfl rfl (List.mem_singleton.mpr rfl) dX10_either_70 (fun H locs h_37 eh_37 hW hT hs => ?_)
          replace ffw6_x_16 := (hs.o (gx.S hM) trivial rfl).1.trans ffw6_x_16
          replace fw_22 := (hs.o (gx.S hM) trivial rfl).1.trans fw_22
          replace fw_23 := (hs.o (gx.S hM) trivial rfl).1.trans fw_23
          replace fw_30 := (hs.o (gx.S hM) trivial rfl).1.trans fw_30
          replace fw_32 : h_37.2.1 qs = w_32 := (funext fun j => (hs.a (gqs.S hM) rfl j).1).trans fw_32
          replace nfa_34 : h_37.2.1 qo = fa_34 := (funext fun j => (hs.a (gqo.S hM) rfl j).1).trans nfa_34
          replace hM := hM.tr (hs.mono (by decide))
          have f_38 : h_37.2.1 x 18 = x_36 := by rw [eh_37]; exact hx_pi_at _ _ _ _
          refine lv_aload_n hx hb dX10_either_73 rfl (lv_at hl 3 rfl) ?_
          refine lv_dup hx hb dX10_either_74 rfl ?_
          refine hk_geti hx hb hts hC_10 hown hW (gx.S hM) tt_10 8 (by decide) rfl kw_1151 ⟨rfl, rfl, rfl⟩ fw_22 dX10_either_75 ?_
          refine lv_aload_n hx hb dX10_either_78 rfl (lv_at hl 3 rfl) ?_
          refine hk_geti hx hb hts hC_10 hown hW (gx.S hM) tt_10 11 (by decide) rfl kw_1154 ⟨rfl, rfl, rfl⟩ fw_23 dX10_either_79 ?_
          refine lv_iadd hx hb dX10_either_82 ?_
          have rg_39 := i32_r w_22
          have rg_40 := i32_r w_23
          refine lv_topi (fun x_41 ex_41 => ?_)
          have zx_41 : x_41.toInt = w_22.toInt + w_23.toInt := by rw [ex_41]; exact i32_add rfl rfl (by omega) (by omega)
          refine hx_puti hx hb hts hC_10 hown hW hT (hx_S.rf (M := [(10, 8)])) (gx.S hM) tt_10 8 (by decide) rfl kw_1151 ⟨rfl, rfl, rfl⟩ rfl (x := x_41) ⟨by omega, by omega⟩ rfl rfl rfl (List.mem_singleton.mpr rfl) dX10_either_83 (fun H locs h_42 eh_42 hW hT hs => ?_)
          replace ffw6_x_16 := (hs.o (gx.S hM) trivial rfl).1.trans ffw6_x_16
          replace fw_23 := (hs.o (gx.S hM) trivial rfl).1.trans fw_23
          replace fw_30 := (hs.o (gx.S hM) trivial rfl).1.trans fw_30
          replace f_38 := (hs.o (gx.S hM) trivial rfl).1.trans f_38
          replace fw_32 : h_42.2.1 qs = w_32 := (funext fun j => (hs.a (gqs.S hM) rfl j).1).trans fw_32
          replace nfa_34 : h_42.2.1 qo = fa_34 := (funext fun j => (hs.a (gqo.S hM) rfl j).1).trans nfa_34
          replace hM := hM.tr (hs.mono (by decide))
          have f_43 : h_42.2.1 x 8 = x_41 := by rw [eh_42]; exact hx_pi_at _ _ _ _
          refine lv_iconst (v := 1) hx hb dX10_either_86 (by decide) ?_
          refine lv_istore_n (lv' := [(1, .int (1 : Int32)), (3, .int r_19), (2, .int r_13), (0, .ref x)]) hx hb dX10_either_87 rfl hl (by decide) rfl (fun ls hl => ?_)
          refine lv_goto (tgt := 176) hx hb dX10_either_88 (by decide) ?_
          refine lv_goto (tgt := 6) hx hb dX10_either_176 (by decide) ?_
          have zk_1 : (1 : Int32).toInt = 1 := by decide
          exact ih6 (1 : Int32) fw6_x_16 w_30 x_36 x_41 w_32 fa_34 _ _ L_25 h_42 (by decide) (by decide) (by omega) (by omega) (by omega) (by omega) (by omega) (by omega) (by omega) (by omega) (by omega) (hx_QQ_bE (hx_QQ_join hr_29.1 (by omega) (by omega) (by omega) (hx_cl (by omega)) (by omega) dfa_34) (by decide)) ls (by omega) hW hT hM ffw6_x_16 fw_30 f_38 f_43 fw_32 nfa_34 (lv_sub hl [0, 3] rfl)
        · skip
          refine lv_iload_n hx hb dX10_either_44 rfl (lv_at hl 0 rfl) ?_
          refine hb_if_ne (zx := r_19.toInt) (tgt := 91) hx hb rfl dX10_either_45 (by decide) (fun c_44 => ?_) (fun c_44 => ?_)
          · skip
            refine lv_iload_n hx hb dX10_either_91 rfl (lv_at hl 1 rfl) ?_
            refine lv_bipush (v := 41) hx hb dX10_either_92 (by decide) ?_
            refine hb_icmp_ne (zx := r_13.toInt) (zy := 41) (tgt := 146) hx hb rfl (by decide) dX10_either_94 (by decide) (fun c_45 => ?_) (fun c_45 => ?_)
            · skip
              refine lv_aload_n hx hb dX10_either_146 rfl (lv_at hl 3 rfl) ?_
              refine lv_iconst (v := 0) hx hb dX10_either_147 (by decide) ?_
              have zc_0 : (0 : Int32).toInt = 0 := by decide
              refine hx_gov (hx_runV (As := [.int (0 : Int32)]) (rest := []) ⟨hx, hb, hml, hown, hts⟩ hW (gx.S hM) tt_10 (T := TX10) (N := 98) rfl (t_X10_closesDown l dC dI dA L_17 h_18 H.size x (0 : Int32) hT (gx.S hM) qs (gqs.S hM) ((hM.o gx trivial rfl).2.trans f_x_15) qo (gqo.S hM) ((hM.o gx trivial rfl).2.trans f_x_17) ia6_qs nia6_qs ia6_qo nia6_qo fw6_x_16 ffw6_x_16 w_22 fw_22 fw6_x_14 ffw6_x_14 fw6_x_18 ffw6_x_18 (hx_QQ_next hq1 (by omega))) (cwV 1 hts (hx_gV kw_1515 kw_1512 kw_1514 kw_64 kw_103) rfl rfl rfl (by decide +kernel) ⟨Nat.le_of_ble_eq_true rfl, Nat.le_of_ble_eq_true rfl⟩) rfl hl.1 rfl (Nat.le_of_ble_eq_true rfl) dX10_either_148 ⟨Nat.le_of_ble_eq_true rfl, Nat.le_of_ble_eq_true rfl⟩) hW (fun L_46 h_47 H locs p_49 hW => ?_)
              obtain ⟨⟨w_51, w_52, w_53, fw_51, fw_52, fw_53, hr_50⟩, hT, hs⟩ := p_49
              replace hT : hx_T T_tb L_46 h_47 := hT
              replace hs : hx_S T_tb [(10, 14), (10, 18), (55, 0)] L_17 h_18 L_46 h_47 := hs
              replace ffw6_x_16 := (hs.o (gx.S hM) trivial rfl).1.trans ffw6_x_16
              replace fw_22 := (hs.o (gx.S hM) trivial rfl).1.trans fw_22
              replace fw_23 := (hs.o (gx.S hM) trivial rfl).1.trans fw_23
              replace nia6_qo : h_47.2.1 qo = ia6_qo := (funext fun j => (hs.a (gqo.S hM) rfl j).1).trans nia6_qo
              replace hM := hM.tr (hs.mono (by decide))
              have fw_51 : h_47.2.1 x 14 = w_51 := fw_51
              have bw_51 := hT.gi (gx.S hM) tt_10 (k := 14) rfl
              rw [fw_51] at bw_51
              have bw_51 : 0 ≤ w_51.toInt ∧ w_51.toInt ≤ 128 := bw_51
              have fw_52 : h_47.2.1 x 18 = w_52 := fw_52
              have bw_52 := hT.gi (gx.S hM) tt_10 (k := 18) rfl
              rw [fw_52] at bw_52
              have bw_52 : 0 ≤ w_52.toInt ∧ w_52.toInt ≤ 128 := bw_52
              have fw_53 : h_47.2.1 qs = w_53 := fw_53
              refine lv_aload_n hx hb dX10_either_151 rfl (lv_at hl 3 rfl) ?_
              refine hk_geti hx hb hts hC_10 hown hW (gx.S hM) tt_10 18 (by decide) rfl kw_1161 ⟨rfl, rfl, rfl⟩ fw_52 dX10_either_152 ?_
              refine hb_if_eq (zx := w_52.toInt) (tgt := 170) hx hb rfl dX10_either_155 (by decide) (fun c_54 => ?_) (fun c_54 => ?_)
              · skip
                refine lv_iconst (v := 1) hx hb dX10_either_170 (by decide) ?_
                refine lv_goto (tgt := 175) hx hb dX10_either_171 (by decide) ?_
                exact hx_retz hx hb hr rfl hlk hW ⟨⟨w_22, w_51, w_53, fw_22, fw_51, fw_53, ⟨by decide, by omega, fun _ => hx_QQ_endE hr_50.1 (by omega)⟩⟩, hT, hM⟩ dX10_either_175
              · skip
                refine lv_aload_n hx hb dX10_either_158 rfl (lv_at hl 3 rfl) ?_
                refine lv_iconst (v := 0) hx hb dX10_either_159 (by decide) ?_
                refine lv_aload_n hx hb dX10_either_160 rfl (lv_at hl 3 rfl) ?_
                refine hk_geti hx hb hts hC_10 hown hW (gx.S hM) tt_10 8 (by decide) rfl kw_1151 ⟨rfl, rfl, rfl⟩ fw_22 dX10_either_161 ?_
                refine hx_goi (hx_runV (As := [.int (0 : Int32), .int w_22]) (rest := []) ⟨hx, hb, hml, hown, hts⟩ hW (gx.S hM) tt_10 (T := TX10) (N := 98) rfl (t_X10_fails l dC dI dA L_46 h_47 H.size x (0 : Int32) w_22 hT (gx.S hM)) (cwV 2 hts (hx_gV kw_1480 kw_1477 kw_1479 kw_56 kw_103) rfl rfl rfl (by decide +kernel) ⟨Nat.le_of_ble_eq_true rfl, Nat.le_of_ble_eq_true rfl⟩) rfl hl.1 rfl (Nat.le_of_ble_eq_true rfl) dX10_either_164 ⟨Nat.le_of_ble_eq_true rfl, Nat.le_of_ble_eq_true rfl⟩) hW (fun r_57 L_55 h_56 H locs p_58 hW => ?_)
                obtain ⟨hr_59, hT, hs⟩ := p_58
                replace hT : hx_T T_tb L_55 h_56 := hT
                replace hs : hx_S T_tb [(10, 9)] L_46 h_47 L_55 h_56 := hs
                replace ffw6_x_16 := (hs.o (gx.S hM) trivial rfl).1.trans ffw6_x_16
                replace fw_22 := (hs.o (gx.S hM) trivial rfl).1.trans fw_22
                replace fw_23 := (hs.o (gx.S hM) trivial rfl).1.trans fw_23
                replace fw_51 := (hs.o (gx.S hM) trivial rfl).1.trans fw_51
                replace fw_52 := (hs.o (gx.S hM) trivial rfl).1.trans fw_52
                replace nia6_qo : h_56.2.1 qo = ia6_qo := (funext fun j => (hs.a (gqo.S hM) rfl j).1).trans nia6_qo
                replace fw_53 : h_56.2.1 qs = w_53 := (funext fun j => (hs.a (gqs.S hM) rfl j).1).trans fw_53
                replace hM := hM.tr (hs.mono (by decide))
                refine hb_if_eq (zx := r_57.toInt) (tgt := 174) hx hb rfl dX10_either_167 (by decide) (fun c_60 => ?_) (fun c_60 => by exfalso; omega)
                refine lv_iconst (v := 0) hx hb dX10_either_174 (by decide) ?_
                exact hx_retz hx hb hr rfl hlk hW ⟨⟨w_22, w_51, w_53, fw_22, fw_51, fw_53, ⟨by decide, by omega, fun z => absurd z (by decide)⟩⟩, hT, hM⟩ dX10_either_175
            · skip
              refine lv_aload_n hx hb dX10_either_97 rfl (lv_at hl 3 rfl) ?_
              refine lv_iconst (v := 0) hx hb dX10_either_98 (by decide) ?_
              have zc_0 : (0 : Int32).toInt = 0 := by decide
              refine hx_gov (hx_runV (As := [.int (0 : Int32)]) (rest := []) ⟨hx, hb, hml, hown, hts⟩ hW (gx.S hM) tt_10 (T := TX10) (N := 98) rfl (t_X10_closesDown l dC dI dA L_17 h_18 H.size x (0 : Int32) hT (gx.S hM) qs (gqs.S hM) ((hM.o gx trivial rfl).2.trans f_x_15) qo (gqo.S hM) ((hM.o gx trivial rfl).2.trans f_x_17) ia6_qs nia6_qs ia6_qo nia6_qo fw6_x_16 ffw6_x_16 w_22 fw_22 fw6_x_14 ffw6_x_14 fw6_x_18 ffw6_x_18 (hx_QQ_next hq1 (by omega))) (cwV 1 hts (hx_gV kw_1515 kw_1512 kw_1514 kw_64 kw_103) rfl rfl rfl (by decide +kernel) ⟨Nat.le_of_ble_eq_true rfl, Nat.le_of_ble_eq_true rfl⟩) rfl hl.1 rfl (Nat.le_of_ble_eq_true rfl) dX10_either_99 ⟨Nat.le_of_ble_eq_true rfl, Nat.le_of_ble_eq_true rfl⟩) hW (fun L_61 h_62 H locs p_64 hW => ?_)
              obtain ⟨⟨w_66, w_67, w_68, fw_66, fw_67, fw_68, hr_65⟩, hT, hs⟩ := p_64
              replace hT : hx_T T_tb L_61 h_62 := hT
              replace hs : hx_S T_tb [(10, 14), (10, 18), (55, 0)] L_17 h_18 L_61 h_62 := hs
              replace ffw6_x_16 := (hs.o (gx.S hM) trivial rfl).1.trans ffw6_x_16
              replace fw_22 := (hs.o (gx.S hM) trivial rfl).1.trans fw_22
              replace fw_23 := (hs.o (gx.S hM) trivial rfl).1.trans fw_23
              replace nia6_qo : h_62.2.1 qo = ia6_qo := (funext fun j => (hs.a (gqo.S hM) rfl j).1).trans nia6_qo
              replace hM := hM.tr (hs.mono (by decide))
              have fw_66 : h_62.2.1 x 14 = w_66 := fw_66
              have bw_66 := hT.gi (gx.S hM) tt_10 (k := 14) rfl
              rw [fw_66] at bw_66
              have bw_66 : 0 ≤ w_66.toInt ∧ w_66.toInt ≤ 128 := bw_66
              have fw_67 : h_62.2.1 x 18 = w_67 := fw_67
              have bw_67 := hT.gi (gx.S hM) tt_10 (k := 18) rfl
              rw [fw_67] at bw_67
              have bw_67 : 0 ≤ w_67.toInt ∧ w_67.toInt ≤ 128 := bw_67
              have fw_68 : h_62.2.1 qs = w_68 := fw_68
              refine lv_aload_n hx hb dX10_either_102 rfl (lv_at hl 3 rfl) ?_
              refine hk_geti hx hb hts hC_10 hown hW (gx.S hM) tt_10 18 (by decide) rfl kw_1161 ⟨rfl, rfl, rfl⟩ fw_67 dX10_either_103 ?_
              refine hb_if_ne (zx := w_67.toInt) (tgt := 119) hx hb rfl dX10_either_106 (by decide) (fun c_69 => ?_) (fun c_69 => ?_)
              · skip
                refine lv_aload_n hx hb dX10_either_119 rfl (lv_at hl 3 rfl) ?_
                refine lv_dup hx hb dX10_either_120 rfl ?_
                refine hk_geti hx hb hts hC_10 hown hW (gx.S hM) tt_10 18 (by decide) rfl kw_1161 ⟨rfl, rfl, rfl⟩ fw_67 dX10_either_121 ?_
                refine lv_iconst (v := 1) hx hb dX10_either_124 (by decide) ?_
                refine lv_isub hx hb dX10_either_125 ?_
                have rg_70 := i32_r w_67
                refine lv_topi (fun x_71 ex_71 => ?_)
                have zx_71 : x_71.toInt = w_67.toInt - 1 := by rw [ex_71]; exact i32_sub rfl (by decide) (by omega) (by omega)
                refine hx_puti hx hb hts hC_10 hown hW hT (hx_S.rf (M := [(10, 18)])) (gx.S hM) tt_10 18 (by decide) rfl kw_1161 ⟨rfl, rfl, rfl⟩ rfl (x := x_71) ⟨by omega, by omega⟩ rfl rfl rfl (List.mem_singleton.mpr rfl) dX10_either_126 (fun H locs h_72 eh_72 hW hT hs => ?_)
                replace ffw6_x_16 := (hs.o (gx.S hM) trivial rfl).1.trans ffw6_x_16
                replace fw_22 := (hs.o (gx.S hM) trivial rfl).1.trans fw_22
                replace fw_23 := (hs.o (gx.S hM) trivial rfl).1.trans fw_23
                replace fw_66 := (hs.o (gx.S hM) trivial rfl).1.trans fw_66
                replace nia6_qo : h_72.2.1 qo = ia6_qo := (funext fun j => (hs.a (gqo.S hM) rfl j).1).trans nia6_qo
                replace fw_68 : h_72.2.1 qs = w_68 := (funext fun j => (hs.a (gqs.S hM) rfl j).1).trans fw_68
                replace hM := hM.tr (hs.mono (by decide))
                have f_73 : h_72.2.1 x 18 = x_71 := by rw [eh_72]; exact hx_pi_at _ _ _ _
                refine lv_aload_n hx hb dX10_either_129 rfl (lv_at hl 3 rfl) ?_
                refine lv_dup hx hb dX10_either_130 rfl ?_
                refine hk_geti hx hb hts hC_10 hown hW (gx.S hM) tt_10 8 (by decide) rfl kw_1151 ⟨rfl, rfl, rfl⟩ fw_22 dX10_either_131 ?_
                refine lv_iconst (v := 1) hx hb dX10_either_134 (by decide) ?_
                refine lv_iadd hx hb dX10_either_135 ?_
                have rg_74 := i32_r w_22
                refine lv_topi (fun x_75 ex_75 => ?_)
                have zx_75 : x_75.toInt = w_22.toInt + 1 := by rw [ex_75]; exact i32_add rfl (by decide) (by omega) (by omega)
                refine hx_puti hx hb hts hC_10 hown hW hT (hx_S.rf (M := [(10, 8)])) (gx.S hM) tt_10 8 (by decide) rfl kw_1151 ⟨rfl, rfl, rfl⟩ rfl (x := x_75) ⟨by omega, by omega⟩ rfl rfl rfl (List.mem_singleton.mpr rfl) dX10_either_136 (fun H locs h_76 eh_76 hW hT hs => ?_)
                replace ffw6_x_16 := (hs.o (gx.S hM) trivial rfl).1.trans ffw6_x_16
                replace fw_23 := (hs.o (gx.S hM) trivial rfl).1.trans fw_23
                replace fw_66 := (hs.o (gx.S hM) trivial rfl).1.trans fw_66
                replace f_73 := (hs.o (gx.S hM) trivial rfl).1.trans f_73
                replace nia6_qo : h_76.2.1 qo = ia6_qo := (funext fun j => (hs.a (gqo.S hM) rfl j).1).trans nia6_qo
                replace fw_68 : h_76.2.1 qs = w_68 := (funext fun j => (hs.a (gqs.S hM) rfl j).1).trans fw_68
                replace hM := hM.tr (hs.mono (by decide))
                have f_77 : h_76.2.1 x 8 = x_75 := by rw [eh_76]; exact hx_pi_at _ _ _ _
                refine lv_aload_n hx hb dX10_either_139 rfl (lv_at hl 3 rfl) ?_
                refine hx_gov (hx_runV (As := []) (rest := []) ⟨hx, hb, hml, hown, hts⟩ hW (gx.S hM) tt_10 (T := TX10) (N := 98) rfl (t_X10_closesNots l dC dI dA L_61 h_76 H.size x hT (gx.S hM) qs (gqs.S hM) ((hM.o gx trivial rfl).2.trans f_x_15) qo (gqo.S hM) ((hM.o gx trivial rfl).2.trans f_x_17) w_68 fw_68 ia6_qo nia6_qo fw6_x_16 ffw6_x_16 x_75 f_77 w_66 fw_66 x_71 f_73 (hx_QQ_shut hr_65.1 (by omega) (hx_QQ_t100 hr_65.1 (by omega) hr_65.2 (by decide)) (by omega) (by omega))) (cwV 0 hts (hx_gV kw_1511 kw_1508 kw_1510 kw_63 kw_103) rfl rfl rfl (by decide +kernel) ⟨Nat.le_of_ble_eq_true rfl, Nat.le_of_ble_eq_true rfl⟩) rfl hl.1 rfl (Nat.le_of_ble_eq_true rfl) dX10_either_140 ⟨Nat.le_of_ble_eq_true rfl, Nat.le_of_ble_eq_true rfl⟩) hW (fun L_78 h_79 H locs p_81 hW => ?_)
                obtain ⟨⟨w_83, w_84, w_85, fw_83, fw_84, fw_85, hr_82⟩, hT, hs⟩ := p_81
                replace hT : hx_T T_tb L_78 h_79 := hT
                replace hs : hx_S T_tb [(10, 14), (10, 18), (55, 0)] L_61 h_76 L_78 h_79 := hs
                replace ffw6_x_16 := (hs.o (gx.S hM) trivial rfl).1.trans ffw6_x_16
                replace fw_23 := (hs.o (gx.S hM) trivial rfl).1.trans fw_23
                replace f_77 := (hs.o (gx.S hM) trivial rfl).1.trans f_77
                replace nia6_qo : h_79.2.1 qo = ia6_qo := (funext fun j => (hs.a (gqo.S hM) rfl j).1).trans nia6_qo
                replace hM := hM.tr (hs.mono (by decide))
                have fw_83 : h_79.2.1 x 14 = w_83 := fw_83
                have bw_83 := hT.gi (gx.S hM) tt_10 (k := 14) rfl
                rw [fw_83] at bw_83
                have bw_83 : 0 ≤ w_83.toInt ∧ w_83.toInt ≤ 128 := bw_83
                have fw_84 : h_79.2.1 x 18 = w_84 := fw_84
                have bw_84 := hT.gi (gx.S hM) tt_10 (k := 18) rfl
                rw [fw_84] at bw_84
                have bw_84 : 0 ≤ w_84.toInt ∧ w_84.toInt ≤ 128 := bw_84
                have fw_85 : h_79.2.1 qs = w_85 := fw_85
                refine lv_goto (tgt := 176) hx hb dX10_either_143 (by decide) ?_
                refine lv_goto (tgt := 6) hx hb dX10_either_176 (by decide) ?_
                have zk_0 : (0 : Int32).toInt = 0 := by decide
                exact ih6 (0 : Int32) fw6_x_16 w_83 w_84 x_75 w_85 ia6_qo _ _ L_78 h_79 (by decide) (by decide) (by omega) (by omega) (by omega) (by omega) (by omega) (by omega) (by omega) (by omega) (by omega) (hx_QQ_bE hr_82 (by decide)) ls (by omega) hW hT hM ffw6_x_16 fw_83 fw_84 f_77 fw_85 nia6_qo (lv_sub hl [2, 3] rfl)
              · skip
                refine lv_aload_n hx hb dX10_either_109 rfl (lv_at hl 3 rfl) ?_
                refine lv_iconst (v := 0) hx hb dX10_either_110 (by decide) ?_
                refine lv_aload_n hx hb dX10_either_111 rfl (lv_at hl 3 rfl) ?_
                refine hk_geti hx hb hts hC_10 hown hW (gx.S hM) tt_10 8 (by decide) rfl kw_1151 ⟨rfl, rfl, rfl⟩ fw_22 dX10_either_112 ?_
                refine hx_goi (hx_runV (As := [.int (0 : Int32), .int w_22]) (rest := []) ⟨hx, hb, hml, hown, hts⟩ hW (gx.S hM) tt_10 (T := TX10) (N := 98) rfl (t_X10_fails l dC dI dA L_61 h_62 H.size x (0 : Int32) w_22 hT (gx.S hM)) (cwV 2 hts (hx_gV kw_1480 kw_1477 kw_1479 kw_56 kw_103) rfl rfl rfl (by decide +kernel) ⟨Nat.le_of_ble_eq_true rfl, Nat.le_of_ble_eq_true rfl⟩) rfl hl.1 rfl (Nat.le_of_ble_eq_true rfl) dX10_either_115 ⟨Nat.le_of_ble_eq_true rfl, Nat.le_of_ble_eq_true rfl⟩) hW (fun r_88 L_86 h_87 H locs p_89 hW => ?_)
                obtain ⟨hr_90, hT, hs⟩ := p_89
                replace hT : hx_T T_tb L_86 h_87 := hT
                replace hs : hx_S T_tb [(10, 9)] L_61 h_62 L_86 h_87 := hs
                replace ffw6_x_16 := (hs.o (gx.S hM) trivial rfl).1.trans ffw6_x_16
                replace fw_22 := (hs.o (gx.S hM) trivial rfl).1.trans fw_22
                replace fw_23 := (hs.o (gx.S hM) trivial rfl).1.trans fw_23
                replace fw_66 := (hs.o (gx.S hM) trivial rfl).1.trans fw_66
                replace fw_67 := (hs.o (gx.S hM) trivial rfl).1.trans fw_67
                replace nia6_qo : h_87.2.1 qo = ia6_qo := (funext fun j => (hs.a (gqo.S hM) rfl j).1).trans nia6_qo
                replace fw_68 : h_87.2.1 qs = w_68 := (funext fun j => (hs.a (gqs.S hM) rfl j).1).trans fw_68
                replace hM := hM.tr (hs.mono (by decide))
                exact hx_retz hx hb hr (hx_nar01 (by omega)) hlk hW ⟨⟨w_22, w_66, w_68, fw_22, fw_66, fw_68, ⟨by omega, by omega, fun z => by exfalso; omega⟩⟩, hT, hM⟩ dX10_either_118
          · skip
            refine lv_aload_n hx hb dX10_either_48 rfl (lv_at hl 3 rfl) ?_
            refine lv_iload_n hx hb dX10_either_49 rfl (lv_at hl 0 rfl) ?_
            refine hx_gov (hx_runV (As := [.int r_19]) (rest := []) ⟨hx, hb, hml, hown, hts⟩ hW (gx.S hM) tt_10 (T := TX10) (N := 98) rfl (t_X10_closesDown l dC dI dA L_17 h_18 H.size x r_19 hT (gx.S hM) qs (gqs.S hM) ((hM.o gx trivial rfl).2.trans f_x_15) qo (gqo.S hM) ((hM.o gx trivial rfl).2.trans f_x_17) ia6_qs nia6_qs ia6_qo nia6_qo fw6_x_16 ffw6_x_16 w_22 fw_22 fw6_x_14 ffw6_x_14 fw6_x_18 ffw6_x_18 (hx_QQ_next hq1 (by omega))) (cwV 1 hts (hx_gV kw_1515 kw_1512 kw_1514 kw_64 kw_103) rfl rfl rfl (by decide +kernel) ⟨Nat.le_of_ble_eq_true rfl, Nat.le_of_ble_eq_true rfl⟩) rfl hl.1 rfl (Nat.le_of_ble_eq_true rfl) dX10_either_50 ⟨Nat.le_of_ble_eq_true rfl, Nat.le_of_ble_eq_true rfl⟩) hW (fun L_91 h_92 H locs p_94 hW => ?_)
            obtain ⟨⟨w_96, w_97, w_98, fw_96, fw_97, fw_98, hr_95⟩, hT, hs⟩ := p_94
            replace hT : hx_T T_tb L_91 h_92 := hT
            replace hs : hx_S T_tb [(10, 14), (10, 18), (55, 0)] L_17 h_18 L_91 h_92 := hs
            replace ffw6_x_16 := (hs.o (gx.S hM) trivial rfl).1.trans ffw6_x_16
            replace fw_22 := (hs.o (gx.S hM) trivial rfl).1.trans fw_22
            replace fw_23 := (hs.o (gx.S hM) trivial rfl).1.trans fw_23
            replace nia6_qo : h_92.2.1 qo = ia6_qo := (funext fun j => (hs.a (gqo.S hM) rfl j).1).trans nia6_qo
            replace hM := hM.tr (hs.mono (by decide))
            have fw_96 : h_92.2.1 x 14 = w_96 := fw_96
            have bw_96 := hT.gi (gx.S hM) tt_10 (k := 14) rfl
            rw [fw_96] at bw_96
            have bw_96 : 0 ≤ w_96.toInt ∧ w_96.toInt ≤ 128 := bw_96
            have fw_97 : h_92.2.1 x 18 = w_97 := fw_97
            have bw_97 := hT.gi (gx.S hM) tt_10 (k := 18) rfl
            rw [fw_97] at bw_97
            have bw_97 : 0 ≤ w_97.toInt ∧ w_97.toInt ≤ 128 := bw_97
            have fw_98 : h_92.2.1 qs = w_98 := fw_98
            have hqb := hx_QQ_b hr_95.1
            refine lv_aload_n hx hb dX10_either_53 rfl (lv_at hl 3 rfl) ?_
            refine hk_getr hx hb hts hC_10 hown hW (gx.S hM) tt_10 17 (by decide) rfl kw_1160 ⟨rfl, rfl, rfl⟩ ((hM.o gx trivial rfl).2.trans f_x_17) dX10_either_54 ?_
            refine lv_aload_n hx hb dX10_either_57 rfl (lv_at hl 3 rfl) ?_
            refine hk_geti hx hb hts hC_10 hown hW (gx.S hM) tt_10 18 (by decide) rfl kw_1161 ⟨rfl, rfl, rfl⟩ fw_97 dX10_either_58 ?_
            refine lv_iload_n hx hb dX10_either_61 rfl (lv_at hl 0 rfl) ?_
            have nia6_qoO := nia6_qo
            refine hx_iast hx hb hW hT (hx_S.rf (M := [(56, 0)])) (gqo.S hM) tt_56 rfl ⟨by omega, by omega⟩ rfl ⟨by omega, by omega⟩ (List.mem_singleton.mpr rfl) dX10_either_62 (fun H locs h_99 eh_99 hW hT hs => ?_)
            replace ffw6_x_16 := (hs.o (gx.S hM) trivial rfl).1.trans ffw6_x_16
            replace fw_22 := (hs.o (gx.S hM) trivial rfl).1.trans fw_22
            replace fw_23 := (hs.o (gx.S hM) trivial rfl).1.trans fw_23
            replace fw_96 := (hs.o (gx.S hM) trivial rfl).1.trans fw_96
            replace fw_97 := (hs.o (gx.S hM) trivial rfl).1.trans fw_97
            replace fw_98 : h_99.2.1 qs = w_98 := (funext fun j => (hs.a (gqs.S hM) rfl j).1).trans fw_98
            replace hM := hM.tr (hs.mono (by decide))
            obtain ⟨fa_100, dfa_100⟩ : ∃ g : Nat → Int32, g = hx_up ia6_qo w_97.toNatClampNeg r_19 := ⟨_, rfl⟩
            have nfa_100 : h_99.2.1 qo = fa_100 := by rw [eh_99, dfa_100, ← nia6_qoO]; exact hx_pi_fun _ _ _ _
            refine lv_aload_n hx hb dX10_either_63 rfl (lv_at hl 3 rfl) ?_
            refine lv_dup hx hb dX10_either_64 rfl ?_
            refine hk_geti hx hb hts hC_10 hown hW (gx.S hM) tt_10 18 (by decide) rfl kw_1161 ⟨rfl, rfl, rfl⟩ fw_97 dX10_either_65 ?_
            refine lv_iconst (v := 1) hx hb dX10_either_68 (by decide) ?_
            refine lv_iadd hx hb dX10_either_69 ?_
            have rg_101 := i32_r w_97
            refine lv_topi (fun x_102 ex_102 => ?_)
            have zx_102 : x_102.toInt = w_97.toInt + 1 := by rw [ex_102]; exact i32_add rfl (by decide) (by omega) (by omega)
            refine hx_puti hx hb hts hC_10 hown hW hT (hx_S.rf (M := [(10, 18)])) (gx.S hM) tt_10 18 (by decide) rfl kw_1161 ⟨rfl, rfl, rfl⟩ rfl (x := x_102) ⟨by omega, by omega⟩ rfl rfl rfl (List.mem_singleton.mpr rfl) dX10_either_70 (fun H locs h_103 eh_103 hW hT hs => ?_)
            replace ffw6_x_16 := (hs.o (gx.S hM) trivial rfl).1.trans ffw6_x_16
            replace fw_22 := (hs.o (gx.S hM) trivial rfl).1.trans fw_22
            replace fw_23 := (hs.o (gx.S hM) trivial rfl).1.trans fw_23
            replace fw_96 := (hs.o (gx.S hM) trivial rfl).1.trans fw_96
            replace fw_98 : h_103.2.1 qs = w_98 := (funext fun j => (hs.a (gqs.S hM) rfl j).1).trans fw_98
            replace nfa_100 : h_103.2.1 qo = fa_100 := (funext fun j => (hs.a (gqo.S hM) rfl j).1).trans nfa_100
            replace hM := hM.tr (hs.mono (by decide))
            have f_104 : h_103.2.1 x 18 = x_102 := by rw [eh_103]; exact hx_pi_at _ _ _ _
            refine lv_aload_n hx hb dX10_either_73 rfl (lv_at hl 3 rfl) ?_
            refine lv_dup hx hb dX10_either_74 rfl ?_
            refine hk_geti hx hb hts hC_10 hown hW (gx.S hM) tt_10 8 (by decide) rfl kw_1151 ⟨rfl, rfl, rfl⟩ fw_22 dX10_either_75 ?_
            refine lv_aload_n hx hb dX10_either_78 rfl (lv_at hl 3 rfl) ?_
            refine hk_geti hx hb hts hC_10 hown hW (gx.S hM) tt_10 11 (by decide) rfl kw_1154 ⟨rfl, rfl, rfl⟩ fw_23 dX10_either_79 ?_
            refine lv_iadd hx hb dX10_either_82 ?_
            have rg_105 := i32_r w_22
            have rg_106 := i32_r w_23
            refine lv_topi (fun x_107 ex_107 => ?_)
            have zx_107 : x_107.toInt = w_22.toInt + w_23.toInt := by rw [ex_107]; exact i32_add rfl rfl (by omega) (by omega)
            refine hx_puti hx hb hts hC_10 hown hW hT (hx_S.rf (M := [(10, 8)])) (gx.S hM) tt_10 8 (by decide) rfl kw_1151 ⟨rfl, rfl, rfl⟩ rfl (x := x_107) ⟨by omega, by omega⟩ rfl rfl rfl (List.mem_singleton.mpr rfl) dX10_either_83 (fun H locs h_108 eh_108 hW hT hs => ?_)
            replace ffw6_x_16 := (hs.o (gx.S hM) trivial rfl).1.trans ffw6_x_16
            replace fw_23 := (hs.o (gx.S hM) trivial rfl).1.trans fw_23
            replace fw_96 := (hs.o (gx.S hM) trivial rfl).1.trans fw_96
            replace f_104 := (hs.o (gx.S hM) trivial rfl).1.trans f_104
            replace fw_98 : h_108.2.1 qs = w_98 := (funext fun j => (hs.a (gqs.S hM) rfl j).1).trans fw_98
            replace nfa_100 : h_108.2.1 qo = fa_100 := (funext fun j => (hs.a (gqo.S hM) rfl j).1).trans nfa_100
            replace hM := hM.tr (hs.mono (by decide))
            have f_109 : h_108.2.1 x 8 = x_107 := by rw [eh_108]; exact hx_pi_at _ _ _ _
            refine lv_iconst (v := 1) hx hb dX10_either_86 (by decide) ?_
            refine lv_istore_n (lv' := [(1, .int (1 : Int32)), (3, .int r_19), (2, .int r_13), (0, .ref x)]) hx hb dX10_either_87 rfl hl (by decide) rfl (fun ls hl => ?_)
            refine lv_goto (tgt := 176) hx hb dX10_either_88 (by decide) ?_
            refine lv_goto (tgt := 6) hx hb dX10_either_176 (by decide) ?_
            have zk_1 : (1 : Int32).toInt = 1 := by decide
            exact ih6 (1 : Int32) fw6_x_16 w_96 x_102 x_107 w_98 fa_100 _ _ L_91 h_108 (by decide) (by decide) (by omega) (by omega) (by omega) (by omega) (by omega) (by omega) (by omega) (by omega) (by omega) (hx_QQ_bE (hx_QQ_join hr_95.1 (by omega) (by omega) (by omega) (hx_cl (by omega)) (by omega) dfa_100) (by decide)) ls (by omega) hW hT hM ffw6_x_16 fw_96 f_104 f_109 fw_98 nfa_100 (lv_sub hl [0, 3] rfl)
      · skip
        refine lv_aload_n hx hb dX10_either_10 rfl (lv_at hl 1 rfl) ?_
        refine hx_goi (hx_runV (As := []) (rest := []) ⟨hx, hb, hml, hown, hts⟩ hW (gx.S hM) tt_10 (T := TX10) (N := 98) rfl (t_X10_begins l dC dI dA hL1 hl1 H.size x hT (gx.S hM) qs (gqs.S hM) ((hM.o gx trivial rfl).2.trans f_x_15) qo (gqo.S hM) ((hM.o gx trivial rfl).2.trans f_x_17) qt (gqt.S hM) ((hM.o gx trivial rfl).2.trans f_x_6) qw (gqw.S hM) ((hM.o gx trivial rfl).2.trans f_x_19) ia6_qs nia6_qs ia6_qo nia6_qo tf (hx_afS hM gqt rfl af_qt) wf (hx_afS hM gqw rfl af_qw) fw6_x_16 ffw6_x_16 fw6_x_8 ffw6_x_8 fw6_x_14 ffw6_x_14 fw6_x_18 ffw6_x_18 tp0 ((hM.o gx trivial rfl).1.trans f_x_7) (hx_QQ_bE vi6_1 (by omega)) hwd) (cwV 0 hts (hx_gV kw_1492 kw_1489 kw_1491 kw_59 kw_103) rfl rfl rfl (by decide +kernel) ⟨Nat.le_of_ble_eq_true rfl, Nat.le_of_ble_eq_true rfl⟩) rfl hl.1 rfl (Nat.le_of_ble_eq_true rfl) dX10_either_11 ⟨Nat.le_of_ble_eq_true rfl, Nat.le_of_ble_eq_true rfl⟩) hW (fun r_112 L_110 h_111 H locs p_113 hW => ?_)
        obtain ⟨⟨w_115, w_116, w_117, w_118, w_119, w_120, fw_115, fw_116, fw_117, fw_118, fw_119, fw_120, hr_114⟩, hT, hs⟩ := p_113
        replace hT : hx_T T_tb L_110 h_111 := hT
        replace hs : hx_S T_tb [(10, 8), (10, 9), (10, 10), (10, 11), (10, 14), (10, 16), (10, 18), (55, 0), (56, 0)] hL1 hl1 L_110 h_111 := hs
        replace hM := hM.tr (hs.mono (by decide))
        have fw_115 : h_111.2.1 x 16 = w_115 := fw_115
        have bw_115 := hT.gi (gx.S hM) tt_10 (k := 16) rfl
        rw [fw_115] at bw_115
        have bw_115 : 0 ≤ w_115.toInt ∧ w_115.toInt ≤ 20 := bw_115
        have fw_116 : h_111.2.1 x 8 = w_116 := fw_116
        have bw_116 := hT.gi (gx.S hM) tt_10 (k := 8) rfl
        rw [fw_116] at bw_116
        have bw_116 : 0 ≤ w_116.toInt ∧ w_116.toInt ≤ 402 := bw_116
        have fw_117 : h_111.2.1 x 14 = w_117 := fw_117
        have bw_117 := hT.gi (gx.S hM) tt_10 (k := 14) rfl
        rw [fw_117] at bw_117
        have bw_117 : 0 ≤ w_117.toInt ∧ w_117.toInt ≤ 128 := bw_117
        have fw_118 : h_111.2.1 x 18 = w_118 := fw_118
        have bw_118 := hT.gi (gx.S hM) tt_10 (k := 18) rfl
        rw [fw_118] at bw_118
        have bw_118 : 0 ≤ w_118.toInt ∧ w_118.toInt ≤ 128 := bw_118
        have fw_119 : h_111.2.1 qs = w_119 := fw_119
        have fw_120 : h_111.2.1 qo = w_120 := fw_120
        refine hb_if_ne (zx := r_112.toInt) (tgt := 19) hx hb rfl dX10_either_14 (by decide) (fun c_121 => ?_) (fun c_121 => ?_)
        · skip
          refine lv_iload_n hx hb dX10_either_19 rfl (lv_at hl 0 rfl) ?_
          refine hb_if_eq (zx := iv6_1.toInt) (tgt := 27) hx hb rfl dX10_either_20 (by decide) (fun c_122 => by exfalso; omega) (fun c_122 => ?_)
          refine lv_aload_n hx hb dX10_either_23 rfl (lv_at hl 1 rfl) ?_
          refine hx_gov (hx_runV (As := []) (rest := []) ⟨hx, hb, hml, hown, hts⟩ hW (gx.S hM) tt_10 (T := TX10) (N := 98) rfl (t_X10_closesNots l dC dI dA L_110 h_111 H.size x hT (gx.S hM) qs (gqs.S hM) ((hM.o gx trivial rfl).2.trans f_x_15) qo (gqo.S hM) ((hM.o gx trivial rfl).2.trans f_x_17) w_119 fw_119 w_120 fw_120 w_115 fw_115 w_116 fw_116 w_117 fw_117 w_118 fw_118 (by first | exact hr_114.2.2 (by omega) | (exfalso; omega))) (cwV 0 hts (hx_gV kw_1511 kw_1508 kw_1510 kw_63 kw_103) rfl rfl rfl (by decide +kernel) ⟨Nat.le_of_ble_eq_true rfl, Nat.le_of_ble_eq_true rfl⟩) rfl hl.1 rfl (Nat.le_of_ble_eq_true rfl) dX10_either_24 ⟨Nat.le_of_ble_eq_true rfl, Nat.le_of_ble_eq_true rfl⟩) hW (fun L_123 h_124 H locs p_126 hW => ?_)
          obtain ⟨⟨w_128, w_129, w_130, fw_128, fw_129, fw_130, hr_127⟩, hT, hs⟩ := p_126
          replace hT : hx_T T_tb L_123 h_124 := hT
          replace hs : hx_S T_tb [(10, 14), (10, 18), (55, 0)] L_110 h_111 L_123 h_124 := hs
          replace fw_115 := (hs.o (gx.S hM) trivial rfl).1.trans fw_115
          replace fw_116 := (hs.o (gx.S hM) trivial rfl).1.trans fw_116
          replace fw_120 : h_124.2.1 qo = w_120 := (funext fun j => (hs.a (gqo.S hM) rfl j).1).trans fw_120
          replace hM := hM.tr (hs.mono (by decide))
          have fw_128 : h_124.2.1 x 14 = w_128 := fw_128
          have bw_128 := hT.gi (gx.S hM) tt_10 (k := 14) rfl
          rw [fw_128] at bw_128
          have bw_128 : 0 ≤ w_128.toInt ∧ w_128.toInt ≤ 128 := bw_128
          have fw_129 : h_124.2.1 x 18 = w_129 := fw_129
          have bw_129 := hT.gi (gx.S hM) tt_10 (k := 18) rfl
          rw [fw_129] at bw_129
          have bw_129 : 0 ≤ w_129.toInt ∧ w_129.toInt ≤ 128 := bw_129
          have fw_130 : h_124.2.1 qs = w_130 := fw_130
          have hq1 : hx_QQ 1 w_115.toInt w_116.toInt w_128.toInt w_129.toInt w_130 w_120 := hr_127
          refine lv_iconst (v := 0) hx hb dX10_either_27 (by decide) ?_
          refine lv_istore_n (lv' := [(1, .int (0 : Int32)), (0, .ref x)]) hx hb dX10_either_28 rfl hl (by decide) rfl (fun ls hl => ?_)
          refine lv_aload_n hx hb dX10_either_29 rfl (lv_at hl 1 rfl) ?_
          refine hx_goi (hx_runV (As := []) (rest := []) ⟨hx, hb, hml, hown, hts⟩ hW (gx.S hM) tt_10 (T := TX10) (N := 98) rfl (t_X10_see l dC dI dA L_123 h_124 H.size x hT (gx.S hM) qt (gqt.S hM) ((hM.o gx trivial rfl).2.trans f_x_6) tf (hx_afS hM gqt rfl af_qt) w_116 fw_116 tp0 ((hM.o gx trivial rfl).1.trans f_x_7)) (cwV 0 hts (hx_gV kw_1468 kw_1465 kw_1467 kw_53 kw_103) rfl rfl rfl (by decide +kernel) ⟨Nat.le_of_ble_eq_true rfl, Nat.le_of_ble_eq_true rfl⟩) rfl hl.1 rfl (Nat.le_of_ble_eq_true rfl) dX10_either_30 ⟨Nat.le_of_ble_eq_true rfl, Nat.le_of_ble_eq_true rfl⟩) hW (fun r_133 L_131 h_132 H locs p_134 hW => ?_)
          obtain ⟨⟨w_136, fw_136, hr_135⟩, hT, hs⟩ := p_134
          replace hT : hx_T T_tb L_131 h_132 := hT
          replace hs : hx_S T_tb [(10, 8)] L_123 h_124 L_131 h_132 := hs
          replace fw_115 := (hs.o (gx.S hM) trivial rfl).1.trans fw_115
          replace fw_128 := (hs.o (gx.S hM) trivial rfl).1.trans fw_128
          replace fw_129 := (hs.o (gx.S hM) trivial rfl).1.trans fw_129
          replace fw_120 : h_132.2.1 qo = w_120 := (funext fun j => (hs.a (gqo.S hM) rfl j).1).trans fw_120
          replace fw_130 : h_132.2.1 qs = w_130 := (funext fun j => (hs.a (gqs.S hM) rfl j).1).trans fw_130
          replace hM := hM.tr (hs.mono (by decide))
          have fw_136 : h_132.2.1 x 8 = w_136 := fw_136
          have bw_136 := hT.gi (gx.S hM) tt_10 (k := 8) rfl
          rw [fw_136] at bw_136
          have bw_136 : 0 ≤ w_136.toInt ∧ w_136.toInt ≤ 402 := bw_136
          refine lv_istore_n (lv' := [(2, .int r_133), (1, .int (0 : Int32)), (0, .ref x)]) hx hb dX10_either_33 rfl hl (by decide) rfl (fun ls hl => ?_)
          refine lv_aload_n hx hb dX10_either_34 rfl (lv_at hl 2 rfl) ?_
          refine hx_goi (hx_runV (As := []) (rest := []) ⟨hx, hb, hml, hown, hts⟩ hW (gx.S hM) tt_10 (T := TX10) (N := 98) rfl (t_X10_wordHere l dC dI dA L_131 h_132 H.size x hT (gx.S hM) qt (gqt.S hM) ((hM.o gx trivial rfl).2.trans f_x_6) qw (gqw.S hM) ((hM.o gx trivial rfl).2.trans f_x_19) tf (hx_afS hM gqt rfl af_qt) wf (hx_afS hM gqw rfl af_qw) w_136 fw_136 tp0 ((hM.o gx trivial rfl).1.trans f_x_7) hwd) (cwV 0 hts (hx_gV kw_1476 kw_1473 kw_1475 kw_55 kw_103) rfl rfl rfl (by decide +kernel) ⟨Nat.le_of_ble_eq_true rfl, Nat.le_of_ble_eq_true rfl⟩) rfl hl.1 rfl (Nat.le_of_ble_eq_true rfl) dX10_either_35 ⟨Nat.le_of_ble_eq_true rfl, Nat.le_of_ble_eq_true rfl⟩) hW (fun r_139 L_137 h_138 H locs p_140 hW => ?_)
          obtain ⟨⟨w_142, w_143, fw_142, fw_143, hr_141⟩, hT, hs⟩ := p_140
          replace hT : hx_T T_tb L_137 h_138 := hT
          replace hs : hx_S T_tb [(10, 8), (10, 11)] L_131 h_132 L_137 h_138 := hs
          replace fw_115 := (hs.o (gx.S hM) trivial rfl).1.trans fw_115
          replace fw_128 := (hs.o (gx.S hM) trivial rfl).1.trans fw_128
          replace fw_129 := (hs.o (gx.S hM) trivial rfl).1.trans fw_129
          replace fw_120 : h_138.2.1 qo = w_120 := (funext fun j => (hs.a (gqo.S hM) rfl j).1).trans fw_120
          replace fw_130 : h_138.2.1 qs = w_130 := (funext fun j => (hs.a (gqs.S hM) rfl j).1).trans fw_130
          replace hM := hM.tr (hs.mono (by decide))
          have fw_142 : h_138.2.1 x 8 = w_142 := fw_142
          have bw_142 := hT.gi (gx.S hM) tt_10 (k := 8) rfl
          rw [fw_142] at bw_142
          have bw_142 : 0 ≤ w_142.toInt ∧ w_142.toInt ≤ 402 := bw_142
          have fw_143 : h_138.2.1 x 11 = w_143 := fw_143
          have bw_143 := hT.gi (gx.S hM) tt_10 (k := 11) rfl
          rw [fw_143] at bw_143
          have bw_143 : 0 ≤ w_143.toInt ∧ w_143.toInt ≤ 400 := bw_143
          refine lv_istore_n (lv' := [(3, .int r_139), (2, .int r_133), (1, .int (0 : Int32)), (0, .ref x)]) hx hb dX10_either_38 rfl hl (by decide) rfl (fun ls hl => ?_)
          refine lv_iload_n hx hb dX10_either_39 rfl (lv_at hl 0 rfl) ?_
          refine lv_iconst (v := 1) hx hb dX10_either_40 (by decide) ?_
          refine hb_icmp_eq (zx := r_139.toInt) (zy := 1) (tgt := 48) hx hb rfl (by decide) dX10_either_41 (by decide) (fun c_144 => ?_) (fun c_144 => ?_)
          · skip
            refine lv_aload_n hx hb dX10_either_48 rfl (lv_at hl 3 rfl) ?_
            refine lv_iload_n hx hb dX10_either_49 rfl (lv_at hl 0 rfl) ?_
            refine hx_gov (hx_runV (As := [.int r_139]) (rest := []) ⟨hx, hb, hml, hown, hts⟩ hW (gx.S hM) tt_10 (T := TX10) (N := 98) rfl (t_X10_closesDown l dC dI dA L_137 h_138 H.size x r_139 hT (gx.S hM) qs (gqs.S hM) ((hM.o gx trivial rfl).2.trans f_x_15) qo (gqo.S hM) ((hM.o gx trivial rfl).2.trans f_x_17) w_130 fw_130 w_120 fw_120 w_115 fw_115 w_142 fw_142 w_128 fw_128 w_129 fw_129 (hx_QQ_next hq1 (by omega))) (cwV 1 hts (hx_gV kw_1515 kw_1512 kw_1514 kw_64 kw_103) rfl rfl rfl (by decide +kernel) ⟨Nat.le_of_ble_eq_true rfl, Nat.le_of_ble_eq_true rfl⟩) rfl hl.1 rfl (Nat.le_of_ble_eq_true rfl) dX10_either_50 ⟨Nat.le_of_ble_eq_true rfl, Nat.le_of_ble_eq_true rfl⟩) hW (fun L_145 h_146 H locs p_148 hW => ?_)
            obtain ⟨⟨w_150, w_151, w_152, fw_150, fw_151, fw_152, hr_149⟩, hT, hs⟩ := p_148
            replace hT : hx_T T_tb L_145 h_146 := hT
            replace hs : hx_S T_tb [(10, 14), (10, 18), (55, 0)] L_137 h_138 L_145 h_146 := hs
            replace fw_115 := (hs.o (gx.S hM) trivial rfl).1.trans fw_115
            replace fw_142 := (hs.o (gx.S hM) trivial rfl).1.trans fw_142
            replace fw_143 := (hs.o (gx.S hM) trivial rfl).1.trans fw_143
            replace fw_120 : h_146.2.1 qo = w_120 := (funext fun j => (hs.a (gqo.S hM) rfl j).1).trans fw_120
            replace hM := hM.tr (hs.mono (by decide))
            have fw_150 : h_146.2.1 x 14 = w_150 := fw_150
            have bw_150 := hT.gi (gx.S hM) tt_10 (k := 14) rfl
            rw [fw_150] at bw_150
            have bw_150 : 0 ≤ w_150.toInt ∧ w_150.toInt ≤ 128 := bw_150
            have fw_151 : h_146.2.1 x 18 = w_151 := fw_151
            have bw_151 := hT.gi (gx.S hM) tt_10 (k := 18) rfl
            rw [fw_151] at bw_151
            have bw_151 : 0 ≤ w_151.toInt ∧ w_151.toInt ≤ 128 := bw_151
            have fw_152 : h_146.2.1 qs = w_152 := fw_152
            have hqb := hx_QQ_b hr_149.1
            refine lv_aload_n hx hb dX10_either_53 rfl (lv_at hl 3 rfl) ?_
            refine hk_getr hx hb hts hC_10 hown hW (gx.S hM) tt_10 17 (by decide) rfl kw_1160 ⟨rfl, rfl, rfl⟩ ((hM.o gx trivial rfl).2.trans f_x_17) dX10_either_54 ?_
            refine lv_aload_n hx hb dX10_either_57 rfl (lv_at hl 3 rfl) ?_
            refine hk_geti hx hb hts hC_10 hown hW (gx.S hM) tt_10 18 (by decide) rfl kw_1161 ⟨rfl, rfl, rfl⟩ fw_151 dX10_either_58 ?_
            refine lv_iload_n hx hb dX10_either_61 rfl (lv_at hl 0 rfl) ?_
            have fw_120O := fw_120
            refine hx_iast hx hb hW hT (hx_S.rf (M := [(56, 0)])) (gqo.S hM) tt_56 rfl ⟨by omega, by omega⟩ rfl ⟨by omega, by omega⟩ (List.mem_singleton.mpr rfl) dX10_either_62 (fun H locs h_153 eh_153 hW hT hs => ?_)
            replace fw_115 := (hs.o (gx.S hM) trivial rfl).1.trans fw_115
            replace fw_142 := (hs.o (gx.S hM) trivial rfl).1.trans fw_142
            replace fw_143 := (hs.o (gx.S hM) trivial rfl).1.trans fw_143
            replace fw_150 := (hs.o (gx.S hM) trivial rfl).1.trans fw_150
            replace fw_151 := (hs.o (gx.S hM) trivial rfl).1.trans fw_151
            replace fw_152 : h_153.2.1 qs = w_152 := (funext fun j => (hs.a (gqs.S hM) rfl j).1).trans fw_152
            replace hM := hM.tr (hs.mono (by decide))
            obtain ⟨fa_154, dfa_154⟩ : ∃ g : Nat → Int32, g = hx_up w_120 w_151.toNatClampNeg r_139 := ⟨_, rfl⟩
            have nfa_154 : h_153.2.1 qo = fa_154 := by rw [eh_153, dfa_154, ← fw_120O]; exact hx_pi_fun _ _ _ _
            refine lv_aload_n hx hb dX10_either_63 rfl (lv_at hl 3 rfl) ?_
            refine lv_dup hx hb dX10_either_64 rfl ?_
            refine hk_geti hx hb hts hC_10 hown hW (gx.S hM) tt_10 18 (by decide) rfl kw_1161 ⟨rfl, rfl, rfl⟩ fw_151 dX10_either_65 ?_
            refine lv_iconst (v := 1) hx hb dX10_either_68 (by decide) ?_
            refine lv_iadd hx hb dX10_either_69 ?_
            have rg_155 := i32_r w_151
            refine lv_topi (fun x_156 ex_156 => ?_)
            have zx_156 : x_156.toInt = w_151.toInt + 1 := by rw [ex_156]; exact i32_add rfl (by decide) (by omega) (by omega)
            refine hx_puti hx hb hts hC_10 hown hW hT (hx_S.rf (M := [(10, 18)])) (gx.S hM) tt_10 18 (by decide) rfl kw_1161 ⟨rfl, rfl, rfl⟩ rfl (x := x_156) ⟨by omega, by omega⟩ rfl rfl rfl (List.mem_singleton.mpr rfl) dX10_either_70 (fun H locs h_157 eh_157 hW hT hs => ?_)
            replace fw_115 := (hs.o (gx.S hM) trivial rfl).1.trans fw_115
            replace fw_142 := (hs.o (gx.S hM) trivial rfl).1.trans fw_142
            replace fw_143 := (hs.o (gx.S hM) trivial rfl).1.trans fw_143
            replace fw_150 := (hs.o (gx.S hM) trivial rfl).1.trans fw_150
            replace fw_152 : h_157.2.1 qs = w_152 := (funext fun j => (hs.a (gqs.S hM) rfl j).1).trans fw_152
            replace nfa_154 : h_157.2.1 qo = fa_154 := (funext fun j => (hs.a (gqo.S hM) rfl j).1).trans nfa_154
            replace hM := hM.tr (hs.mono (by decide))
            have f_158 : h_157.2.1 x 18 = x_156 := by rw [eh_157]; exact hx_pi_at _ _ _ _
            refine lv_aload_n hx hb dX10_either_73 rfl (lv_at hl 3 rfl) ?_
            refine lv_dup hx hb dX10_either_74 rfl ?_
            refine hk_geti hx hb hts hC_10 hown hW (gx.S hM) tt_10 8 (by decide) rfl kw_1151 ⟨rfl, rfl, rfl⟩ fw_142 dX10_either_75 ?_
            refine lv_aload_n hx hb dX10_either_78 rfl (lv_at hl 3 rfl) ?_
            refine hk_geti hx hb hts hC_10 hown hW (gx.S hM) tt_10 11 (by decide) rfl kw_1154 ⟨rfl, rfl, rfl⟩ fw_143 dX10_either_79 ?_
            refine lv_iadd hx hb dX10_either_82 ?_
            have rg_159 := i32_r w_142
            have rg_160 := i32_r w_143
            refine lv_topi (fun x_161 ex_161 => ?_)
            have zx_161 : x_161.toInt = w_142.toInt + w_143.toInt := by rw [ex_161]; exact i32_add rfl rfl (by omega) (by omega)
            refine hx_puti hx hb hts hC_10 hown hW hT (hx_S.rf (M := [(10, 8)])) (gx.S hM) tt_10 8 (by decide) rfl kw_1151 ⟨rfl, rfl, rfl⟩ rfl (x := x_161) ⟨by omega, by omega⟩ rfl rfl rfl (List.mem_singleton.mpr rfl) dX10_either_83 (fun H locs h_162 eh_162 hW hT hs => ?_)
            replace fw_115 := (hs.o (gx.S hM) trivial rfl).1.trans fw_115
            replace fw_143 := (hs.o (gx.S hM) trivial rfl).1.trans fw_143
            replace fw_150 := (hs.o (gx.S hM) trivial rfl).1.trans fw_150
            replace f_158 := (hs.o (gx.S hM) trivial rfl).1.trans f_158
            replace fw_152 : h_162.2.1 qs = w_152 := (funext fun j => (hs.a (gqs.S hM) rfl j).1).trans fw_152
            replace nfa_154 : h_162.2.1 qo = fa_154 := (funext fun j => (hs.a (gqo.S hM) rfl j).1).trans nfa_154
            replace hM := hM.tr (hs.mono (by decide))
            have f_163 : h_162.2.1 x 8 = x_161 := by rw [eh_162]; exact hx_pi_at _ _ _ _
            refine lv_iconst (v := 1) hx hb dX10_either_86 (by decide) ?_
            refine lv_istore_n (lv' := [(1, .int (1 : Int32)), (3, .int r_139), (2, .int r_133), (0, .ref x)]) hx hb dX10_either_87 rfl hl (by decide) rfl (fun ls hl => ?_)
            refine lv_goto (tgt := 176) hx hb dX10_either_88 (by decide) ?_
            refine lv_goto (tgt := 6) hx hb dX10_either_176 (by decide) ?_
            have zk_1 : (1 : Int32).toInt = 1 := by decide
            exact ih6 (1 : Int32) w_115 w_150 x_156 x_161 w_152 fa_154 _ _ L_145 h_162 (by decide) (by decide) (by omega) (by omega) (by omega) (by omega) (by omega) (by omega) (by omega) (by omega) (by omega) (hx_QQ_bE (hx_QQ_join hr_149.1 (by omega) (by omega) (by omega) (hx_cl (by omega)) (by omega) dfa_154) (by decide)) ls (by omega) hW hT hM fw_115 fw_150 f_158 f_163 fw_152 nfa_154 (lv_sub hl [0, 3] rfl)
          · skip
            refine lv_iload_n hx hb dX10_either_44 rfl (lv_at hl 0 rfl) ?_
            refine hb_if_ne (zx := r_139.toInt) (tgt := 91) hx hb rfl dX10_either_45 (by decide) (fun c_164 => ?_) (fun c_164 => ?_)
            · skip
              refine lv_iload_n hx hb dX10_either_91 rfl (lv_at hl 1 rfl) ?_
              refine lv_bipush (v := 41) hx hb dX10_either_92 (by decide) ?_
              refine hb_icmp_ne (zx := r_133.toInt) (zy := 41) (tgt := 146) hx hb rfl (by decide) dX10_either_94 (by decide) (fun c_165 => ?_) (fun c_165 => ?_)
              · skip
                refine lv_aload_n hx hb dX10_either_146 rfl (lv_at hl 3 rfl) ?_
                refine lv_iconst (v := 0) hx hb dX10_either_147 (by decide) ?_
                have zc_0 : (0 : Int32).toInt = 0 := by decide
                refine hx_gov (hx_runV (As := [.int (0 : Int32)]) (rest := []) ⟨hx, hb, hml, hown, hts⟩ hW (gx.S hM) tt_10 (T := TX10) (N := 98) rfl (t_X10_closesDown l dC dI dA L_137 h_138 H.size x (0 : Int32) hT (gx.S hM) qs (gqs.S hM) ((hM.o gx trivial rfl).2.trans f_x_15) qo (gqo.S hM) ((hM.o gx trivial rfl).2.trans f_x_17) w_130 fw_130 w_120 fw_120 w_115 fw_115 w_142 fw_142 w_128 fw_128 w_129 fw_129 (hx_QQ_next hq1 (by omega))) (cwV 1 hts (hx_gV kw_1515 kw_1512 kw_1514 kw_64 kw_103) rfl rfl rfl (by decide +kernel) ⟨Nat.le_of_ble_eq_true rfl, Nat.le_of_ble_eq_true rfl⟩) rfl hl.1 rfl (Nat.le_of_ble_eq_true rfl) dX10_either_148 ⟨Nat.le_of_ble_eq_true rfl, Nat.le_of_ble_eq_true rfl⟩) hW (fun L_166 h_167 H locs p_169 hW => ?_)
                obtain ⟨⟨w_171, w_172, w_173, fw_171, fw_172, fw_173, hr_170⟩, hT, hs⟩ := p_169
                replace hT : hx_T T_tb L_166 h_167 := hT
                replace hs : hx_S T_tb [(10, 14), (10, 18), (55, 0)] L_137 h_138 L_166 h_167 := hs
                replace fw_115 := (hs.o (gx.S hM) trivial rfl).1.trans fw_115
                replace fw_142 := (hs.o (gx.S hM) trivial rfl).1.trans fw_142
                replace fw_143 := (hs.o (gx.S hM) trivial rfl).1.trans fw_143
                replace fw_120 : h_167.2.1 qo = w_120 := (funext fun j => (hs.a (gqo.S hM) rfl j).1).trans fw_120
                replace hM := hM.tr (hs.mono (by decide))
                have fw_171 : h_167.2.1 x 14 = w_171 := fw_171
                have bw_171 := hT.gi (gx.S hM) tt_10 (k := 14) rfl
                rw [fw_171] at bw_171
                have bw_171 : 0 ≤ w_171.toInt ∧ w_171.toInt ≤ 128 := bw_171
                have fw_172 : h_167.2.1 x 18 = w_172 := fw_172
                have bw_172 := hT.gi (gx.S hM) tt_10 (k := 18) rfl
                rw [fw_172] at bw_172
                have bw_172 : 0 ≤ w_172.toInt ∧ w_172.toInt ≤ 128 := bw_172
                have fw_173 : h_167.2.1 qs = w_173 := fw_173
                refine lv_aload_n hx hb dX10_either_151 rfl (lv_at hl 3 rfl) ?_
                refine hk_geti hx hb hts hC_10 hown hW (gx.S hM) tt_10 18 (by decide) rfl kw_1161 ⟨rfl, rfl, rfl⟩ fw_172 dX10_either_152 ?_
                refine hb_if_eq (zx := w_172.toInt) (tgt := 170) hx hb rfl dX10_either_155 (by decide) (fun c_174 => ?_) (fun c_174 => ?_)
                · skip
                  refine lv_iconst (v := 1) hx hb dX10_either_170 (by decide) ?_
                  refine lv_goto (tgt := 175) hx hb dX10_either_171 (by decide) ?_
                  exact hx_retz hx hb hr rfl hlk hW ⟨⟨w_142, w_171, w_173, fw_142, fw_171, fw_173, ⟨by decide, by omega, fun _ => hx_QQ_endE hr_170.1 (by omega)⟩⟩, hT, hM⟩ dX10_either_175
                · skip
                  refine lv_aload_n hx hb dX10_either_158 rfl (lv_at hl 3 rfl) ?_
                  refine lv_iconst (v := 0) hx hb dX10_either_159 (by decide) ?_
                  refine lv_aload_n hx hb dX10_either_160 rfl (lv_at hl 3 rfl) ?_
                  refine hk_geti hx hb hts hC_10 hown hW (gx.S hM) tt_10 8 (by decide) rfl kw_1151 ⟨rfl, rfl, rfl⟩ fw_142 dX10_either_161 ?_
                  refine hx_goi (hx_runV (As := [.int (0 : Int32), .int w_142]) (rest := []) ⟨hx, hb, hml, hown, hts⟩ hW (gx.S hM) tt_10 (T := TX10) (N := 98) rfl (t_X10_fails l dC dI dA L_166 h_167 H.size x (0 : Int32) w_142 hT (gx.S hM)) (cwV 2 hts (hx_gV kw_1480 kw_1477 kw_1479 kw_56 kw_103) rfl rfl rfl (by decide +kernel) ⟨Nat.le_of_ble_eq_true rfl, Nat.le_of_ble_eq_true rfl⟩) rfl hl.1 rfl (Nat.le_of_ble_eq_true rfl) dX10_either_164 ⟨Nat.le_of_ble_eq_true rfl, Nat.le_of_ble_eq_true rfl⟩) hW (fun r_177 L_175 h_176 H locs p_178 hW => ?_)
                  obtain ⟨hr_179, hT, hs⟩ := p_178
                  replace hT : hx_T T_tb L_175 h_176 := hT
                  replace hs : hx_S T_tb [(10, 9)] L_166 h_167 L_175 h_176 := hs
                  replace fw_115 := (hs.o (gx.S hM) trivial rfl).1.trans fw_115
                  replace fw_142 := (hs.o (gx.S hM) trivial rfl).1.trans fw_142
                  replace fw_143 := (hs.o (gx.S hM) trivial rfl).1.trans fw_143
                  replace fw_171 := (hs.o (gx.S hM) trivial rfl).1.trans fw_171
                  replace fw_172 := (hs.o (gx.S hM) trivial rfl).1.trans fw_172
                  replace fw_120 : h_176.2.1 qo = w_120 := (funext fun j => (hs.a (gqo.S hM) rfl j).1).trans fw_120
                  replace fw_173 : h_176.2.1 qs = w_173 := (funext fun j => (hs.a (gqs.S hM) rfl j).1).trans fw_173
                  replace hM := hM.tr (hs.mono (by decide))
                  refine hb_if_eq (zx := r_177.toInt) (tgt := 174) hx hb rfl dX10_either_167 (by decide) (fun c_180 => ?_) (fun c_180 => by exfalso; omega)
                  refine lv_iconst (v := 0) hx hb dX10_either_174 (by decide) ?_
                  exact hx_retz hx hb hr rfl hlk hW ⟨⟨w_142, w_171, w_173, fw_142, fw_171, fw_173, ⟨by decide, by omega, fun z => absurd z (by decide)⟩⟩, hT, hM⟩ dX10_either_175
              · skip
                refine lv_aload_n hx hb dX10_either_97 rfl (lv_at hl 3 rfl) ?_
                refine lv_iconst (v := 0) hx hb dX10_either_98 (by decide) ?_
                have zc_0 : (0 : Int32).toInt = 0 := by decide
                refine hx_gov (hx_runV (As := [.int (0 : Int32)]) (rest := []) ⟨hx, hb, hml, hown, hts⟩ hW (gx.S hM) tt_10 (T := TX10) (N := 98) rfl (t_X10_closesDown l dC dI dA L_137 h_138 H.size x (0 : Int32) hT (gx.S hM) qs (gqs.S hM) ((hM.o gx trivial rfl).2.trans f_x_15) qo (gqo.S hM) ((hM.o gx trivial rfl).2.trans f_x_17) w_130 fw_130 w_120 fw_120 w_115 fw_115 w_142 fw_142 w_128 fw_128 w_129 fw_129 (hx_QQ_next hq1 (by omega))) (cwV 1 hts (hx_gV kw_1515 kw_1512 kw_1514 kw_64 kw_103) rfl rfl rfl (by decide +kernel) ⟨Nat.le_of_ble_eq_true rfl, Nat.le_of_ble_eq_true rfl⟩) rfl hl.1 rfl (Nat.le_of_ble_eq_true rfl) dX10_either_99 ⟨Nat.le_of_ble_eq_true rfl, Nat.le_of_ble_eq_true rfl⟩) hW (fun L_181 h_182 H locs p_184 hW => ?_)
                obtain ⟨⟨w_186, w_187, w_188, fw_186, fw_187, fw_188, hr_185⟩, hT, hs⟩ := p_184
                replace hT : hx_T T_tb L_181 h_182 := hT
                replace hs : hx_S T_tb [(10, 14), (10, 18), (55, 0)] L_137 h_138 L_181 h_182 := hs
                replace fw_115 := (hs.o (gx.S hM) trivial rfl).1.trans fw_115
                replace fw_142 := (hs.o (gx.S hM) trivial rfl).1.trans fw_142
                replace fw_143 := (hs.o (gx.S hM) trivial rfl).1.trans fw_143
                replace fw_120 : h_182.2.1 qo = w_120 := (funext fun j => (hs.a (gqo.S hM) rfl j).1).trans fw_120
                replace hM := hM.tr (hs.mono (by decide))
                have fw_186 : h_182.2.1 x 14 = w_186 := fw_186
                have bw_186 := hT.gi (gx.S hM) tt_10 (k := 14) rfl
                rw [fw_186] at bw_186
                have bw_186 : 0 ≤ w_186.toInt ∧ w_186.toInt ≤ 128 := bw_186
                have fw_187 : h_182.2.1 x 18 = w_187 := fw_187
                have bw_187 := hT.gi (gx.S hM) tt_10 (k := 18) rfl
                rw [fw_187] at bw_187
                have bw_187 : 0 ≤ w_187.toInt ∧ w_187.toInt ≤ 128 := bw_187
                have fw_188 : h_182.2.1 qs = w_188 := fw_188
                refine lv_aload_n hx hb dX10_either_102 rfl (lv_at hl 3 rfl) ?_
                refine hk_geti hx hb hts hC_10 hown hW (gx.S hM) tt_10 18 (by decide) rfl kw_1161 ⟨rfl, rfl, rfl⟩ fw_187 dX10_either_103 ?_
                refine hb_if_ne (zx := w_187.toInt) (tgt := 119) hx hb rfl dX10_either_106 (by decide) (fun c_189 => ?_) (fun c_189 => ?_)
                · skip
                  refine lv_aload_n hx hb dX10_either_119 rfl (lv_at hl 3 rfl) ?_
                  refine lv_dup hx hb dX10_either_120 rfl ?_
                  refine hk_geti hx hb hts hC_10 hown hW (gx.S hM) tt_10 18 (by decide) rfl kw_1161 ⟨rfl, rfl, rfl⟩ fw_187 dX10_either_121 ?_
                  refine lv_iconst (v := 1) hx hb dX10_either_124 (by decide) ?_
                  refine lv_isub hx hb dX10_either_125 ?_
                  have rg_190 := i32_r w_187
                  refine lv_topi (fun x_191 ex_191 => ?_)
                  have zx_191 : x_191.toInt = w_187.toInt - 1 := by rw [ex_191]; exact i32_sub rfl (by decide) (by omega) (by omega)
                  refine hx_puti hx hb hts hC_10 hown hW hT (hx_S.rf (M := [(10, 18)])) (gx.S hM) tt_10 18 (by decide) rfl kw_1161 ⟨rfl, rfl, rfl⟩ rfl (x := x_191) ⟨by omega, by omega⟩ rfl rfl rfl (List.mem_singleton.mpr rfl) dX10_either_126 (fun H locs h_192 eh_192 hW hT hs => ?_)
                  replace fw_115 := (hs.o (gx.S hM) trivial rfl).1.trans fw_115
                  replace fw_142 := (hs.o (gx.S hM) trivial rfl).1.trans fw_142
                  replace fw_143 := (hs.o (gx.S hM) trivial rfl).1.trans fw_143
                  replace fw_186 := (hs.o (gx.S hM) trivial rfl).1.trans fw_186
                  replace fw_120 : h_192.2.1 qo = w_120 := (funext fun j => (hs.a (gqo.S hM) rfl j).1).trans fw_120
                  replace fw_188 : h_192.2.1 qs = w_188 := (funext fun j => (hs.a (gqs.S hM) rfl j).1).trans fw_188
                  replace hM := hM.tr (hs.mono (by decide))
                  have f_193 : h_192.2.1 x 18 = x_191 := by rw [eh_192]; exact hx_pi_at _ _ _ _
                  refine lv_aload_n hx hb dX10_either_129 rfl (lv_at hl 3 rfl) ?_
                  refine lv_dup hx hb dX10_either_130 rfl ?_
                  refine hk_geti hx hb hts hC_10 hown hW (gx.S hM) tt_10 8 (by decide) rfl kw_1151 ⟨rfl, rfl, rfl⟩ fw_142 dX10_either_131 ?_
                  refine lv_iconst (v := 1) hx hb dX10_either_134 (by decide) ?_
                  refine lv_iadd hx hb dX10_either_135 ?_
                  have rg_194 := i32_r w_142
                  refine lv_topi (fun x_195 ex_195 => ?_)
                  have zx_195 : x_195.toInt = w_142.toInt + 1 := by rw [ex_195]; exact i32_add rfl (by decide) (by omega) (by omega)
                  refine hx_puti hx hb hts hC_10 hown hW hT (hx_S.rf (M := [(10, 8)])) (gx.S hM) tt_10 8 (by decide) rfl kw_1151 ⟨rfl, rfl, rfl⟩ rfl (x := x_195) ⟨by omega, by omega⟩ rfl rfl rfl (List.mem_singleton.mpr rfl) dX10_either_136 (fun H locs h_196 eh_196 hW hT hs => ?_)
                  replace fw_115 := (hs.o (gx.S hM) trivial rfl).1.trans fw_115
                  replace fw_143 := (hs.o (gx.S hM) trivial rfl).1.trans fw_143
                  replace fw_186 := (hs.o (gx.S hM) trivial rfl).1.trans fw_186
                  replace f_193 := (hs.o (gx.S hM) trivial rfl).1.trans f_193
                  replace fw_120 : h_196.2.1 qo = w_120 := (funext fun j => (hs.a (gqo.S hM) rfl j).1).trans fw_120
                  replace fw_188 : h_196.2.1 qs = w_188 := (funext fun j => (hs.a (gqs.S hM) rfl j).1).trans fw_188
                  replace hM := hM.tr (hs.mono (by decide))
                  have f_197 : h_196.2.1 x 8 = x_195 := by rw [eh_196]; exact hx_pi_at _ _ _ _
                  refine lv_aload_n hx hb dX10_either_139 rfl (lv_at hl 3 rfl) ?_
                  refine hx_gov (hx_runV (As := []) (rest := []) ⟨hx, hb, hml, hown, hts⟩ hW (gx.S hM) tt_10 (T := TX10) (N := 98) rfl (t_X10_closesNots l dC dI dA L_181 h_196 H.size x hT (gx.S hM) qs (gqs.S hM) ((hM.o gx trivial rfl).2.trans f_x_15) qo (gqo.S hM) ((hM.o gx trivial rfl).2.trans f_x_17) w_188 fw_188 w_120 fw_120 w_115 fw_115 x_195 f_197 w_186 fw_186 x_191 f_193 (hx_QQ_shut hr_185.1 (by omega) (hx_QQ_t100 hr_185.1 (by omega) hr_185.2 (by decide)) (by omega) (by omega))) (cwV 0 hts (hx_gV kw_1511 kw_1508 kw_1510 kw_63 kw_103) rfl rfl rfl (by decide +kernel) ⟨Nat.le_of_ble_eq_true rfl, Nat.le_of_ble_eq_true rfl⟩) rfl hl.1 rfl (Nat.le_of_ble_eq_true rfl) dX10_either_140 ⟨Nat.le_of_ble_eq_true rfl, Nat.le_of_ble_eq_true rfl⟩) hW (fun L_198 h_199 H locs p_201 hW => ?_)
                  obtain ⟨⟨w_203, w_204, w_205, fw_203, fw_204, fw_205, hr_202⟩, hT, hs⟩ := p_201
                  replace hT : hx_T T_tb L_198 h_199 := hT
                  replace hs : hx_S T_tb [(10, 14), (10, 18), (55, 0)] L_181 h_196 L_198 h_199 := hs
                  replace fw_115 := (hs.o (gx.S hM) trivial rfl).1.trans fw_115
                  replace fw_143 := (hs.o (gx.S hM) trivial rfl).1.trans fw_143
                  replace f_197 := (hs.o (gx.S hM) trivial rfl).1.trans f_197
                  replace fw_120 : h_199.2.1 qo = w_120 := (funext fun j => (hs.a (gqo.S hM) rfl j).1).trans fw_120
                  replace hM := hM.tr (hs.mono (by decide))
                  have fw_203 : h_199.2.1 x 14 = w_203 := fw_203
                  have bw_203 := hT.gi (gx.S hM) tt_10 (k := 14) rfl
                  rw [fw_203] at bw_203
                  have bw_203 : 0 ≤ w_203.toInt ∧ w_203.toInt ≤ 128 := bw_203
                  have fw_204 : h_199.2.1 x 18 = w_204 := fw_204
                  have bw_204 := hT.gi (gx.S hM) tt_10 (k := 18) rfl
                  rw [fw_204] at bw_204
                  have bw_204 : 0 ≤ w_204.toInt ∧ w_204.toInt ≤ 128 := bw_204
                  have fw_205 : h_199.2.1 qs = w_205 := fw_205
                  refine lv_goto (tgt := 176) hx hb dX10_either_143 (by decide) ?_
                  refine lv_goto (tgt := 6) hx hb dX10_either_176 (by decide) ?_
                  have zk_0 : (0 : Int32).toInt = 0 := by decide
                  exact ih6 (0 : Int32) w_115 w_203 w_204 x_195 w_205 w_120 _ _ L_198 h_199 (by decide) (by decide) (by omega) (by omega) (by omega) (by omega) (by omega) (by omega) (by omega) (by omega) (by omega) (hx_QQ_bE hr_202 (by decide)) ls (by omega) hW hT hM fw_115 fw_203 fw_204 f_197 fw_205 fw_120 (lv_sub hl [2, 3] rfl)
                · skip
                  refine lv_aload_n hx hb dX10_either_109 rfl (lv_at hl 3 rfl) ?_
                  refine lv_iconst (v := 0) hx hb dX10_either_110 (by decide) ?_
                  refine lv_aload_n hx hb dX10_either_111 rfl (lv_at hl 3 rfl) ?_
                  refine hk_geti hx hb hts hC_10 hown hW (gx.S hM) tt_10 8 (by decide) rfl kw_1151 ⟨rfl, rfl, rfl⟩ fw_142 dX10_either_112 ?_
                  refine hx_goi (hx_runV (As := [.int (0 : Int32), .int w_142]) (rest := []) ⟨hx, hb, hml, hown, hts⟩ hW (gx.S hM) tt_10 (T := TX10) (N := 98) rfl (t_X10_fails l dC dI dA L_181 h_182 H.size x (0 : Int32) w_142 hT (gx.S hM)) (cwV 2 hts (hx_gV kw_1480 kw_1477 kw_1479 kw_56 kw_103) rfl rfl rfl (by decide +kernel) ⟨Nat.le_of_ble_eq_true rfl, Nat.le_of_ble_eq_true rfl⟩) rfl hl.1 rfl (Nat.le_of_ble_eq_true rfl) dX10_either_115 ⟨Nat.le_of_ble_eq_true rfl, Nat.le_of_ble_eq_true rfl⟩) hW (fun r_208 L_206 h_207 H locs p_209 hW => ?_)
                  obtain ⟨hr_210, hT, hs⟩ := p_209
                  replace hT : hx_T T_tb L_206 h_207 := hT
                  replace hs : hx_S T_tb [(10, 9)] L_181 h_182 L_206 h_207 := hs
                  replace fw_115 := (hs.o (gx.S hM) trivial rfl).1.trans fw_115
                  replace fw_142 := (hs.o (gx.S hM) trivial rfl).1.trans fw_142
                  replace fw_143 := (hs.o (gx.S hM) trivial rfl).1.trans fw_143
                  replace fw_186 := (hs.o (gx.S hM) trivial rfl).1.trans fw_186
                  replace fw_187 := (hs.o (gx.S hM) trivial rfl).1.trans fw_187
                  replace fw_120 : h_207.2.1 qo = w_120 := (funext fun j => (hs.a (gqo.S hM) rfl j).1).trans fw_120
                  replace fw_188 : h_207.2.1 qs = w_188 := (funext fun j => (hs.a (gqs.S hM) rfl j).1).trans fw_188
                  replace hM := hM.tr (hs.mono (by decide))
                  exact hx_retz hx hb hr (hx_nar01 (by omega)) hlk hW ⟨⟨w_142, w_186, w_188, fw_142, fw_186, fw_188, ⟨by omega, by omega, fun z => by exfalso; omega⟩⟩, hT, hM⟩ dX10_either_118
            · skip
              refine lv_aload_n hx hb dX10_either_48 rfl (lv_at hl 3 rfl) ?_
              refine lv_iload_n hx hb dX10_either_49 rfl (lv_at hl 0 rfl) ?_
              refine hx_gov (hx_runV (As := [.int r_139]) (rest := []) ⟨hx, hb, hml, hown, hts⟩ hW (gx.S hM) tt_10 (T := TX10) (N := 98) rfl (t_X10_closesDown l dC dI dA L_137 h_138 H.size x r_139 hT (gx.S hM) qs (gqs.S hM) ((hM.o gx trivial rfl).2.trans f_x_15) qo (gqo.S hM) ((hM.o gx trivial rfl).2.trans f_x_17) w_130 fw_130 w_120 fw_120 w_115 fw_115 w_142 fw_142 w_128 fw_128 w_129 fw_129 (hx_QQ_next hq1 (by omega))) (cwV 1 hts (hx_gV kw_1515 kw_1512 kw_1514 kw_64 kw_103) rfl rfl rfl (by decide +kernel) ⟨Nat.le_of_ble_eq_true rfl, Nat.le_of_ble_eq_true rfl⟩) rfl hl.1 rfl (Nat.le_of_ble_eq_true rfl) dX10_either_50 ⟨Nat.le_of_ble_eq_true rfl, Nat.le_of_ble_eq_true rfl⟩) hW (fun L_211 h_212 H locs p_214 hW => ?_)
              obtain ⟨⟨w_216, w_217, w_218, fw_216, fw_217, fw_218, hr_215⟩, hT, hs⟩ := p_214
              replace hT : hx_T T_tb L_211 h_212 := hT
              replace hs : hx_S T_tb [(10, 14), (10, 18), (55, 0)] L_137 h_138 L_211 h_212 := hs
              replace fw_115 := (hs.o (gx.S hM) trivial rfl).1.trans fw_115
              replace fw_142 := (hs.o (gx.S hM) trivial rfl).1.trans fw_142
              replace fw_143 := (hs.o (gx.S hM) trivial rfl).1.trans fw_143
              replace fw_120 : h_212.2.1 qo = w_120 := (funext fun j => (hs.a (gqo.S hM) rfl j).1).trans fw_120
              replace hM := hM.tr (hs.mono (by decide))
              have fw_216 : h_212.2.1 x 14 = w_216 := fw_216
              have bw_216 := hT.gi (gx.S hM) tt_10 (k := 14) rfl
              rw [fw_216] at bw_216
              have bw_216 : 0 ≤ w_216.toInt ∧ w_216.toInt ≤ 128 := bw_216
              have fw_217 : h_212.2.1 x 18 = w_217 := fw_217
              have bw_217 := hT.gi (gx.S hM) tt_10 (k := 18) rfl
              rw [fw_217] at bw_217
              have bw_217 : 0 ≤ w_217.toInt ∧ w_217.toInt ≤ 128 := bw_217
              have fw_218 : h_212.2.1 qs = w_218 := fw_218
              have hqb := hx_QQ_b hr_215.1
              refine lv_aload_n hx hb dX10_either_53 rfl (lv_at hl 3 rfl) ?_
              refine hk_getr hx hb hts hC_10 hown hW (gx.S hM) tt_10 17 (by decide) rfl kw_1160 ⟨rfl, rfl, rfl⟩ ((hM.o gx trivial rfl).2.trans f_x_17) dX10_either_54 ?_
              refine lv_aload_n hx hb dX10_either_57 rfl (lv_at hl 3 rfl) ?_
              refine hk_geti hx hb hts hC_10 hown hW (gx.S hM) tt_10 18 (by decide) rfl kw_1161 ⟨rfl, rfl, rfl⟩ fw_217 dX10_either_58 ?_
              refine lv_iload_n hx hb dX10_either_61 rfl (lv_at hl 0 rfl) ?_
              have fw_120O := fw_120
              refine hx_iast hx hb hW hT (hx_S.rf (M := [(56, 0)])) (gqo.S hM) tt_56 rfl ⟨by omega, by omega⟩ rfl ⟨by omega, by omega⟩ (List.mem_singleton.mpr rfl) dX10_either_62 (fun H locs h_219 eh_219 hW hT hs => ?_)
              replace fw_115 := (hs.o (gx.S hM) trivial rfl).1.trans fw_115
              replace fw_142 := (hs.o (gx.S hM) trivial rfl).1.trans fw_142
              replace fw_143 := (hs.o (gx.S hM) trivial rfl).1.trans fw_143
              replace fw_216 := (hs.o (gx.S hM) trivial rfl).1.trans fw_216
              replace fw_217 := (hs.o (gx.S hM) trivial rfl).1.trans fw_217
              replace fw_218 : h_219.2.1 qs = w_218 := (funext fun j => (hs.a (gqs.S hM) rfl j).1).trans fw_218
              replace hM := hM.tr (hs.mono (by decide))
              obtain ⟨fa_220, dfa_220⟩ : ∃ g : Nat → Int32, g = hx_up w_120 w_217.toNatClampNeg r_139 := ⟨_, rfl⟩
              have nfa_220 : h_219.2.1 qo = fa_220 := by rw [eh_219, dfa_220, ← fw_120O]; exact hx_pi_fun _ _ _ _
              refine lv_aload_n hx hb dX10_either_63 rfl (lv_at hl 3 rfl) ?_
              refine lv_dup hx hb dX10_either_64 rfl ?_
              refine hk_geti hx hb hts hC_10 hown hW (gx.S hM) tt_10 18 (by decide) rfl kw_1161 ⟨rfl, rfl, rfl⟩ fw_217 dX10_either_65 ?_
              refine lv_iconst (v := 1) hx hb dX10_either_68 (by decide) ?_
              refine lv_iadd hx hb dX10_either_69 ?_
              have rg_221 := i32_r w_217
              refine lv_topi (fun x_222 ex_222 => ?_)
              have zx_222 : x_222.toInt = w_217.toInt + 1 := by rw [ex_222]; exact i32_add rfl (by decide) (by omega) (by omega)
              refine hx_puti hx hb hts hC_10 hown hW hT (hx_S.rf (M := [(10, 18)])) (gx.S hM) tt_10 18 (by decide) rfl kw_1161 ⟨rfl, rfl, rfl⟩ rfl (x := x_222) ⟨by omega, by omega⟩ rfl rfl rfl (List.mem_singleton.mpr rfl) dX10_either_70 (fun H locs h_223 eh_223 hW hT hs => ?_)
              replace fw_115 := (hs.o (gx.S hM) trivial rfl).1.trans fw_115
              replace fw_142 := (hs.o (gx.S hM) trivial rfl).1.trans fw_142
              replace fw_143 := (hs.o (gx.S hM) trivial rfl).1.trans fw_143
              replace fw_216 := (hs.o (gx.S hM) trivial rfl).1.trans fw_216
              replace fw_218 : h_223.2.1 qs = w_218 := (funext fun j => (hs.a (gqs.S hM) rfl j).1).trans fw_218
              replace nfa_220 : h_223.2.1 qo = fa_220 := (funext fun j => (hs.a (gqo.S hM) rfl j).1).trans nfa_220
              replace hM := hM.tr (hs.mono (by decide))
              have f_224 : h_223.2.1 x 18 = x_222 := by rw [eh_223]; exact hx_pi_at _ _ _ _
              refine lv_aload_n hx hb dX10_either_73 rfl (lv_at hl 3 rfl) ?_
              refine lv_dup hx hb dX10_either_74 rfl ?_
              refine hk_geti hx hb hts hC_10 hown hW (gx.S hM) tt_10 8 (by decide) rfl kw_1151 ⟨rfl, rfl, rfl⟩ fw_142 dX10_either_75 ?_
              refine lv_aload_n hx hb dX10_either_78 rfl (lv_at hl 3 rfl) ?_
              refine hk_geti hx hb hts hC_10 hown hW (gx.S hM) tt_10 11 (by decide) rfl kw_1154 ⟨rfl, rfl, rfl⟩ fw_143 dX10_either_79 ?_
              refine lv_iadd hx hb dX10_either_82 ?_
              have rg_225 := i32_r w_142
              have rg_226 := i32_r w_143
              refine lv_topi (fun x_227 ex_227 => ?_)
              have zx_227 : x_227.toInt = w_142.toInt + w_143.toInt := by rw [ex_227]; exact i32_add rfl rfl (by omega) (by omega)
              refine hx_puti hx hb hts hC_10 hown hW hT (hx_S.rf (M := [(10, 8)])) (gx.S hM) tt_10 8 (by decide) rfl kw_1151 ⟨rfl, rfl, rfl⟩ rfl (x := x_227) ⟨by omega, by omega⟩ rfl rfl rfl (List.mem_singleton.mpr rfl) dX10_either_83 (fun H locs h_228 eh_228 hW hT hs => ?_)
              replace fw_115 := (hs.o (gx.S hM) trivial rfl).1.trans fw_115
              replace fw_143 := (hs.o (gx.S hM) trivial rfl).1.trans fw_143
              replace fw_216 := (hs.o (gx.S hM) trivial rfl).1.trans fw_216
              replace f_224 := (hs.o (gx.S hM) trivial rfl).1.trans f_224
              replace fw_218 : h_228.2.1 qs = w_218 := (funext fun j => (hs.a (gqs.S hM) rfl j).1).trans fw_218
              replace nfa_220 : h_228.2.1 qo = fa_220 := (funext fun j => (hs.a (gqo.S hM) rfl j).1).trans nfa_220
              replace hM := hM.tr (hs.mono (by decide))
              have f_229 : h_228.2.1 x 8 = x_227 := by rw [eh_228]; exact hx_pi_at _ _ _ _
              refine lv_iconst (v := 1) hx hb dX10_either_86 (by decide) ?_
              refine lv_istore_n (lv' := [(1, .int (1 : Int32)), (3, .int r_139), (2, .int r_133), (0, .ref x)]) hx hb dX10_either_87 rfl hl (by decide) rfl (fun ls hl => ?_)
              refine lv_goto (tgt := 176) hx hb dX10_either_88 (by decide) ?_
              refine lv_goto (tgt := 6) hx hb dX10_either_176 (by decide) ?_
              have zk_1 : (1 : Int32).toInt = 1 := by decide
              exact ih6 (1 : Int32) w_115 w_216 x_222 x_227 w_218 fa_220 _ _ L_211 h_228 (by decide) (by decide) (by omega) (by omega) (by omega) (by omega) (by omega) (by omega) (by omega) (by omega) (by omega) (hx_QQ_bE (hx_QQ_join hr_215.1 (by omega) (by omega) (by omega) (hx_cl (by omega)) (by omega) dfa_220) (by decide)) ls (by omega) hW hT hM fw_115 fw_216 f_224 f_229 fw_218 nfa_220 (lv_sub hl [0, 3] rfl)
        · skip
          refine lv_iconst (v := 0) hx hb dX10_either_17 (by decide) ?_
          exact hx_retz hx hb hr rfl hlk hW ⟨⟨w_116, w_117, w_119, fw_116, fw_117, fw_119, ⟨by decide, by omega, fun z => absurd z (by decide)⟩⟩, hT, hM⟩ dX10_either_18
  have zk_1 : (1 : Int32).toInt = 1 := by decide
  exact loop6 403 (1 : Int32) w_7 w_6 w_8 nx0 sf of _ _ L_1 h_2 (by decide) (by decide) (by omega) (by omega) (by omega) (by omega) (by omega) (by omega) (by omega) (by omega) (by omega) (hx_QQ_startE rfl (by omega) (by omega) (by omega) (by omega)) ls (by omega) hW hT hM fw_7 fw_6 fw_8 f_x_8 af_qs af_qo hl
