def wLX6_readClause_0 : List Nat := [42, 182, 0, 35, 42, 180, 0, 19, 60, 42, 18, 49, 182, 0, 51, 61, 28, 156, 0, 10, 42, 27, 3, 182, 0, 45, 172, 28, 16, 10, 160, 0, 8, 42, 182, 0, 55, 172, 28, 16, 11, 160, 0, 35, 42, 180, 0, 31, 3, 181, 0, 58, 42, 16, 14, 27, 182, 0, 63, 153, 0, 15, 42, 3]
def wLX6_readClause_1 : List Nat := [182, 0, 66, 153, 0, 7, 4, 167, 0, 4, 3, 172, 42, 28, 27, 182, 0, 63, 153, 0, 30, 42, 28, 182, 0, 70, 153, 0, 22, 28, 16, 6, 160, 0, 12, 42, 16, 7, 182, 0, 70, 153, 0, 7, 4, 167, 0, 4, 3, 172]
theorem wX6_readClause_0 : (cX6_readClause.data.toList.map UInt8.toNat).drop 0 = wLX6_readClause_0 ++ (wLX6_readClause_1 ++ ([])) := by decide +kernel
theorem wX6_readClause_1 : (cX6_readClause.data.toList.map UInt8.toNat).drop 64 = wLX6_readClause_1 ++ ([]) := hz_wn wX6_readClause_0 rfl
theorem dX6_readClause_0 : decode cX6_readClause 0 = .ok (.aload_n 0, 1) := dq_42 (hz_wg wX6_readClause_0 (j := 0) (n := 42) rfl)
theorem dX6_readClause_1 : decode cX6_readClause 1 = .ok (.invokevirtual 35, 3) := dq_182 (hz_wg wX6_readClause_0 (j := 1) (n := 182) rfl) (hz_wg wX6_readClause_0 (j := 2) (n := 0) rfl) (hz_wg wX6_readClause_0 (j := 3) (n := 35) rfl) rfl
theorem dX6_readClause_4 : decode cX6_readClause 4 = .ok (.aload_n 0, 1) := dq_42 (hz_wg wX6_readClause_0 (j := 4) (n := 42) rfl)
theorem dX6_readClause_5 : decode cX6_readClause 5 = .ok (.getfield 19, 3) := dq_180 (hz_wg wX6_readClause_0 (j := 5) (n := 180) rfl) (hz_wg wX6_readClause_0 (j := 6) (n := 0) rfl) (hz_wg wX6_readClause_0 (j := 7) (n := 19) rfl) rfl
theorem dX6_readClause_8 : decode cX6_readClause 8 = .ok (.istore_n 1, 1) := dq_60 (hz_wg wX6_readClause_0 (j := 8) (n := 60) rfl)
theorem dX6_readClause_9 : decode cX6_readClause 9 = .ok (.aload_n 0, 1) := dq_42 (hz_wg wX6_readClause_0 (j := 9) (n := 42) rfl)
theorem dX6_readClause_10 : decode cX6_readClause 10 = .ok (.ldc 49, 2) := dq_18 (hz_wg wX6_readClause_0 (j := 10) (n := 18) rfl) (hz_wg wX6_readClause_0 (j := 11) (n := 49) rfl)
theorem dX6_readClause_12 : decode cX6_readClause 12 = .ok (.invokevirtual 51, 3) := dq_182 (hz_wg wX6_readClause_0 (j := 12) (n := 182) rfl) (hz_wg wX6_readClause_0 (j := 13) (n := 0) rfl) (hz_wg wX6_readClause_0 (j := 14) (n := 51) rfl) rfl
theorem dX6_readClause_15 : decode cX6_readClause 15 = .ok (.istore_n 2, 1) := dq_61 (hz_wg wX6_readClause_0 (j := 15) (n := 61) rfl)
theorem dX6_readClause_16 : decode cX6_readClause 16 = .ok (.iload_n 2, 1) := dq_28 (hz_wg wX6_readClause_0 (j := 16) (n := 28) rfl)
theorem dX6_readClause_17 : decode cX6_readClause 17 = .ok (.ifCond .ge 10, 3) := dq_156 (hz_wg wX6_readClause_0 (j := 17) (n := 156) rfl) (hz_wg wX6_readClause_0 (j := 18) (n := 0) rfl) (hz_wg wX6_readClause_0 (j := 19) (n := 10) rfl) (by decide)
theorem dX6_readClause_20 : decode cX6_readClause 20 = .ok (.aload_n 0, 1) := dq_42 (hz_wg wX6_readClause_0 (j := 20) (n := 42) rfl)
theorem dX6_readClause_21 : decode cX6_readClause 21 = .ok (.iload_n 1, 1) := dq_27 (hz_wg wX6_readClause_0 (j := 21) (n := 27) rfl)
theorem dX6_readClause_22 : decode cX6_readClause 22 = .ok (.iconst 0, 1) := dq_3 (hz_wg wX6_readClause_0 (j := 22) (n := 3) rfl)
theorem dX6_readClause_23 : decode cX6_readClause 23 = .ok (.invokevirtual 45, 3) := dq_182 (hz_wg wX6_readClause_0 (j := 23) (n := 182) rfl) (hz_wg wX6_readClause_0 (j := 24) (n := 0) rfl) (hz_wg wX6_readClause_0 (j := 25) (n := 45) rfl) rfl
theorem dX6_readClause_26 : decode cX6_readClause 26 = .ok (.ireturn, 1) := dq_172 (hz_wg wX6_readClause_0 (j := 26) (n := 172) rfl)
theorem dX6_readClause_27 : decode cX6_readClause 27 = .ok (.iload_n 2, 1) := dq_28 (hz_wg wX6_readClause_0 (j := 27) (n := 28) rfl)
theorem dX6_readClause_28 : decode cX6_readClause 28 = .ok (.bipush 10, 2) := dq_16 (hz_wg wX6_readClause_0 (j := 28) (n := 16) rfl) (hz_wg wX6_readClause_0 (j := 29) (n := 10) rfl) (by decide)
theorem dX6_readClause_30 : decode cX6_readClause 30 = .ok (.if_icmp .ne 8, 3) := dq_160 (hz_wg wX6_readClause_0 (j := 30) (n := 160) rfl) (hz_wg wX6_readClause_0 (j := 31) (n := 0) rfl) (hz_wg wX6_readClause_0 (j := 32) (n := 8) rfl) (by decide)
theorem dX6_readClause_33 : decode cX6_readClause 33 = .ok (.aload_n 0, 1) := dq_42 (hz_wg wX6_readClause_0 (j := 33) (n := 42) rfl)
theorem dX6_readClause_34 : decode cX6_readClause 34 = .ok (.invokevirtual 55, 3) := dq_182 (hz_wg wX6_readClause_0 (j := 34) (n := 182) rfl) (hz_wg wX6_readClause_0 (j := 35) (n := 0) rfl) (hz_wg wX6_readClause_0 (j := 36) (n := 55) rfl) rfl
theorem dX6_readClause_37 : decode cX6_readClause 37 = .ok (.ireturn, 1) := dq_172 (hz_wg wX6_readClause_0 (j := 37) (n := 172) rfl)
theorem dX6_readClause_38 : decode cX6_readClause 38 = .ok (.iload_n 2, 1) := dq_28 (hz_wg wX6_readClause_0 (j := 38) (n := 28) rfl)
theorem dX6_readClause_39 : decode cX6_readClause 39 = .ok (.bipush 11, 2) := dq_16 (hz_wg wX6_readClause_0 (j := 39) (n := 16) rfl) (hz_wg wX6_readClause_0 (j := 40) (n := 11) rfl) (by decide)
theorem dX6_readClause_41 : decode cX6_readClause 41 = .ok (.if_icmp .ne 35, 3) := dq_160 (hz_wg wX6_readClause_0 (j := 41) (n := 160) rfl) (hz_wg wX6_readClause_0 (j := 42) (n := 0) rfl) (hz_wg wX6_readClause_0 (j := 43) (n := 35) rfl) (by decide)
theorem dX6_readClause_44 : decode cX6_readClause 44 = .ok (.aload_n 0, 1) := dq_42 (hz_wg wX6_readClause_0 (j := 44) (n := 42) rfl)
theorem dX6_readClause_45 : decode cX6_readClause 45 = .ok (.getfield 31, 3) := dq_180 (hz_wg wX6_readClause_0 (j := 45) (n := 180) rfl) (hz_wg wX6_readClause_0 (j := 46) (n := 0) rfl) (hz_wg wX6_readClause_0 (j := 47) (n := 31) rfl) rfl
theorem dX6_readClause_48 : decode cX6_readClause 48 = .ok (.iconst 0, 1) := dq_3 (hz_wg wX6_readClause_0 (j := 48) (n := 3) rfl)
theorem dX6_readClause_49 : decode cX6_readClause 49 = .ok (.putfield 58, 3) := dq_181 (hz_wg wX6_readClause_0 (j := 49) (n := 181) rfl) (hz_wg wX6_readClause_0 (j := 50) (n := 0) rfl) (hz_wg wX6_readClause_0 (j := 51) (n := 58) rfl) rfl
theorem dX6_readClause_52 : decode cX6_readClause 52 = .ok (.aload_n 0, 1) := dq_42 (hz_wg wX6_readClause_0 (j := 52) (n := 42) rfl)
theorem dX6_readClause_53 : decode cX6_readClause 53 = .ok (.bipush 14, 2) := dq_16 (hz_wg wX6_readClause_0 (j := 53) (n := 16) rfl) (hz_wg wX6_readClause_0 (j := 54) (n := 14) rfl) (by decide)
theorem dX6_readClause_55 : decode cX6_readClause 55 = .ok (.iload_n 1, 1) := dq_27 (hz_wg wX6_readClause_0 (j := 55) (n := 27) rfl)
theorem dX6_readClause_56 : decode cX6_readClause 56 = .ok (.invokevirtual 63, 3) := dq_182 (hz_wg wX6_readClause_0 (j := 56) (n := 182) rfl) (hz_wg wX6_readClause_0 (j := 57) (n := 0) rfl) (hz_wg wX6_readClause_0 (j := 58) (n := 63) rfl) rfl
theorem dX6_readClause_59 : decode cX6_readClause 59 = .ok (.ifCond .eq 15, 3) := dq_153 (hz_wg wX6_readClause_0 (j := 59) (n := 153) rfl) (hz_wg wX6_readClause_0 (j := 60) (n := 0) rfl) (hz_wg wX6_readClause_0 (j := 61) (n := 15) rfl) (by decide)
theorem dX6_readClause_62 : decode cX6_readClause 62 = .ok (.aload_n 0, 1) := dq_42 (hz_wg wX6_readClause_0 (j := 62) (n := 42) rfl)
theorem dX6_readClause_63 : decode cX6_readClause 63 = .ok (.iconst 0, 1) := dq_3 (hz_wg wX6_readClause_0 (j := 63) (n := 3) rfl)
theorem dX6_readClause_64 : decode cX6_readClause 64 = .ok (.invokevirtual 66, 3) := dq_182 (hz_wg wX6_readClause_1 (j := 0) (n := 182) rfl) (hz_wg wX6_readClause_1 (j := 1) (n := 0) rfl) (hz_wg wX6_readClause_1 (j := 2) (n := 66) rfl) rfl
theorem dX6_readClause_67 : decode cX6_readClause 67 = .ok (.ifCond .eq 7, 3) := dq_153 (hz_wg wX6_readClause_1 (j := 3) (n := 153) rfl) (hz_wg wX6_readClause_1 (j := 4) (n := 0) rfl) (hz_wg wX6_readClause_1 (j := 5) (n := 7) rfl) (by decide)
theorem dX6_readClause_70 : decode cX6_readClause 70 = .ok (.iconst 1, 1) := dq_4 (hz_wg wX6_readClause_1 (j := 6) (n := 4) rfl)
theorem dX6_readClause_71 : decode cX6_readClause 71 = .ok (.goto 4, 3) := dq_167 (hz_wg wX6_readClause_1 (j := 7) (n := 167) rfl) (hz_wg wX6_readClause_1 (j := 8) (n := 0) rfl) (hz_wg wX6_readClause_1 (j := 9) (n := 4) rfl) (by decide)
theorem dX6_readClause_74 : decode cX6_readClause 74 = .ok (.iconst 0, 1) := dq_3 (hz_wg wX6_readClause_1 (j := 10) (n := 3) rfl)
theorem dX6_readClause_75 : decode cX6_readClause 75 = .ok (.ireturn, 1) := dq_172 (hz_wg wX6_readClause_1 (j := 11) (n := 172) rfl)
theorem dX6_readClause_76 : decode cX6_readClause 76 = .ok (.aload_n 0, 1) := dq_42 (hz_wg wX6_readClause_1 (j := 12) (n := 42) rfl)
theorem dX6_readClause_77 : decode cX6_readClause 77 = .ok (.iload_n 2, 1) := dq_28 (hz_wg wX6_readClause_1 (j := 13) (n := 28) rfl)
theorem dX6_readClause_78 : decode cX6_readClause 78 = .ok (.iload_n 1, 1) := dq_27 (hz_wg wX6_readClause_1 (j := 14) (n := 27) rfl)
theorem dX6_readClause_79 : decode cX6_readClause 79 = .ok (.invokevirtual 63, 3) := dq_182 (hz_wg wX6_readClause_1 (j := 15) (n := 182) rfl) (hz_wg wX6_readClause_1 (j := 16) (n := 0) rfl) (hz_wg wX6_readClause_1 (j := 17) (n := 63) rfl) rfl
theorem dX6_readClause_82 : decode cX6_readClause 82 = .ok (.ifCond .eq 30, 3) := dq_153 (hz_wg wX6_readClause_1 (j := 18) (n := 153) rfl) (hz_wg wX6_readClause_1 (j := 19) (n := 0) rfl) (hz_wg wX6_readClause_1 (j := 20) (n := 30) rfl) (by decide)
theorem dX6_readClause_85 : decode cX6_readClause 85 = .ok (.aload_n 0, 1) := dq_42 (hz_wg wX6_readClause_1 (j := 21) (n := 42) rfl)
theorem dX6_readClause_86 : decode cX6_readClause 86 = .ok (.iload_n 2, 1) := dq_28 (hz_wg wX6_readClause_1 (j := 22) (n := 28) rfl)
theorem dX6_readClause_87 : decode cX6_readClause 87 = .ok (.invokevirtual 70, 3) := dq_182 (hz_wg wX6_readClause_1 (j := 23) (n := 182) rfl) (hz_wg wX6_readClause_1 (j := 24) (n := 0) rfl) (hz_wg wX6_readClause_1 (j := 25) (n := 70) rfl) rfl
theorem dX6_readClause_90 : decode cX6_readClause 90 = .ok (.ifCond .eq 22, 3) := dq_153 (hz_wg wX6_readClause_1 (j := 26) (n := 153) rfl) (hz_wg wX6_readClause_1 (j := 27) (n := 0) rfl) (hz_wg wX6_readClause_1 (j := 28) (n := 22) rfl) (by decide)
theorem dX6_readClause_93 : decode cX6_readClause 93 = .ok (.iload_n 2, 1) := dq_28 (hz_wg wX6_readClause_1 (j := 29) (n := 28) rfl)
theorem dX6_readClause_94 : decode cX6_readClause 94 = .ok (.bipush 6, 2) := dq_16 (hz_wg wX6_readClause_1 (j := 30) (n := 16) rfl) (hz_wg wX6_readClause_1 (j := 31) (n := 6) rfl) (by decide)
theorem dX6_readClause_96 : decode cX6_readClause 96 = .ok (.if_icmp .ne 12, 3) := dq_160 (hz_wg wX6_readClause_1 (j := 32) (n := 160) rfl) (hz_wg wX6_readClause_1 (j := 33) (n := 0) rfl) (hz_wg wX6_readClause_1 (j := 34) (n := 12) rfl) (by decide)
theorem dX6_readClause_99 : decode cX6_readClause 99 = .ok (.aload_n 0, 1) := dq_42 (hz_wg wX6_readClause_1 (j := 35) (n := 42) rfl)
theorem dX6_readClause_100 : decode cX6_readClause 100 = .ok (.bipush 7, 2) := dq_16 (hz_wg wX6_readClause_1 (j := 36) (n := 16) rfl) (hz_wg wX6_readClause_1 (j := 37) (n := 7) rfl) (by decide)
theorem dX6_readClause_102 : decode cX6_readClause 102 = .ok (.invokevirtual 70, 3) := dq_182 (hz_wg wX6_readClause_1 (j := 38) (n := 182) rfl) (hz_wg wX6_readClause_1 (j := 39) (n := 0) rfl) (hz_wg wX6_readClause_1 (j := 40) (n := 70) rfl) rfl
theorem dX6_readClause_105 : decode cX6_readClause 105 = .ok (.ifCond .eq 7, 3) := dq_153 (hz_wg wX6_readClause_1 (j := 41) (n := 153) rfl) (hz_wg wX6_readClause_1 (j := 42) (n := 0) rfl) (hz_wg wX6_readClause_1 (j := 43) (n := 7) rfl) (by decide)
theorem dX6_readClause_108 : decode cX6_readClause 108 = .ok (.iconst 1, 1) := dq_4 (hz_wg wX6_readClause_1 (j := 44) (n := 4) rfl)
theorem dX6_readClause_109 : decode cX6_readClause 109 = .ok (.goto 4, 3) := dq_167 (hz_wg wX6_readClause_1 (j := 45) (n := 167) rfl) (hz_wg wX6_readClause_1 (j := 46) (n := 0) rfl) (hz_wg wX6_readClause_1 (j := 47) (n := 4) rfl) (by decide)
theorem dX6_readClause_112 : decode cX6_readClause 112 = .ok (.iconst 0, 1) := dq_3 (hz_wg wX6_readClause_1 (j := 48) (n := 3) rfl)
theorem dX6_readClause_113 : decode cX6_readClause 113 = .ok (.ireturn, 1) := dq_172 (hz_wg wX6_readClause_1 (j := 49) (n := 172) rfl)
set_option maxHeartbeats 4000000 in
set_option maxRecDepth 100000 in
theorem t_X6_readClause (l : Launch) (dC : Nat → ClassId) (dI : Nat → Nat → Nat) (dA : Nat → ClassId) (L : List Nat) (h : hx_h) (sz : Nat) (b0 : hx_z) (x : Nat) (hT : hx_T T_tb L h) (gx : hx_g L h x 6) (qt : Nat) (gqt : hx_g L h qt 42) (f_x_0 : h.2.2 x 0 = some qt) (qi : Nat) (gqi : hx_g L h qi 0) (f_x_6 : h.2.2 x 6 = some qi) : Met l yX6_readClause (Cond.code yX6_readClause cX6_readClause 3 (some .boolean) :: hx_all) ({ frames := 25, cells := 0, slots := 0, locals := 572 }) (va_Pc [.ref x] (hx_BX T_tb (P_ty dA) (dC, dI) vwCl L h sz b0)) (va_Qi (fun (r : Int32) (u : List Nat × hx_h) => (r.toInt = 0 ∨ r.toInt = 1) ∧ hx_T T_tb u.1 u.2 ∧ hx_S T_tb [(0, 4), (6, 2), (6, 3), (6, 4), (6, 5), (11, 0), (12, 0)] L h u.1 u.2) (hx_E T_tb (P_ty dA) (dC, dI) vwCl (hx_A L sz)) (hx_A L sz)) 0 0 (hx_A L sz) := by
  refine hx_metX (lv := [(0, .ref x)]) (by decide +kernel) rfl (Nat.le_of_ble_eq_true rfl) rfl ?_
  intro p e s m below meth c hx hb hml hr hlk hts0 hown hin hsz hW hZ ls hl
  have hts : ∀ w ∈ hx_all, w.before _ s = true := fun w hw => hts0 w (List.mem_cons_of_mem _ hw)
  have hown : s.vm.findClass "SmallCourt$Reader" = some m.cls := hown
  have hM : hx_S T_tb [(0, 4), (6, 2), (6, 3), (6, 4), (6, 5), (11, 0), (12, 0)] L h L h := hx_S.rf
  obtain ⟨zLT, zLA, zMT, zMA, zCS, zSF, zVS, zVR⟩ := hZ.2.2.2.2.2.2
  refine lv_aload_n hx hb dX6_readClause_0 rfl (lv_at hl 0 rfl) ?_
  refine hx_gov (hx_runV (As := []) (rest := []) ⟨hx, hb, hml, hown, hts⟩ hW (gx.S hM) tt_6 (T := TX6) (N := 7) rfl (t_X6_skipBlanks l dC dI dA L h s.heap.size x hT (gx.S hM) qt (gqt.S hM) ((hM.o gx trivial rfl).2.trans f_x_0)) (cwV 0 hts (hx_gV kw_458 kw_455 kw_457 kw_1 kw_95) rfl rfl rfl (by decide +kernel) ⟨Nat.le_of_ble_eq_true rfl, Nat.le_of_ble_eq_true rfl⟩) rfl hl.1 rfl (Nat.le_of_ble_eq_true rfl) dX6_readClause_1 ⟨Nat.le_of_ble_eq_true rfl, Nat.le_of_ble_eq_true rfl⟩) hW (fun L_1 h_2 H locs p_4 hW => ?_)
  obtain ⟨hT, hs⟩ := p_4
  replace hT : hx_T T_tb L_1 h_2 := hT
  replace hs : hx_S T_tb [(6, 2)] L h L_1 h_2 := hs
  replace hM := hM.tr (hs.mono (by decide))
  refine lv_aload_n hx hb dX6_readClause_4 rfl (lv_at hl 0 rfl) ?_
  refine hx_geti hx hb hts hC_6 hown hW hT (gx.S hM) tt_6 2 (by decide) rfl kw_127 ⟨rfl, rfl, rfl⟩ dX6_readClause_5 (fun x_6 ex_6 lx_6 ux_6 => ?_)
  have fx_6 := ex_6.symm
  refine lv_istore_n (lv' := [(1, .int x_6), (0, .ref x)]) hx hb dX6_readClause_8 rfl hl (by decide) rfl (fun ls hl => ?_)
  refine lv_aload_n hx hb dX6_readClause_9 rfl (lv_at hl 1 rfl) ?_
  refine va_ldcS (tx := P_st.getD 0 "") hx hb hown (zVR 0 (by decide)) dX6_readClause_10 ?_
  refine hx_goi (hx_runVX (As := [.ref (b0.2.2.2.1 0)]) (rest := []) ⟨hx, hb, hml, hown, hts⟩ hW (gx.S hM) tt_6 (T := TX6) (N := 7) rfl (t_X6_readWord l dC dI dA L_1 h_2 H.size b0 x 0 hT (gx.S hM) (by decide) qt (gqt.S hM) ((hM.o gx trivial rfl).2.trans f_x_0)) hZ (cwV 1 hts (hx_gV kw_467 kw_464 kw_466 kw_3 kw_95) rfl rfl rfl (by decide +kernel) ⟨Nat.le_of_ble_eq_true rfl, Nat.le_of_ble_eq_true rfl⟩) rfl hl.1 rfl (Nat.le_of_ble_eq_true rfl) dX6_readClause_12 ⟨Nat.le_of_ble_eq_true rfl, Nat.le_of_ble_eq_true rfl⟩) hW (fun r_9 L_7 h_8 H locs p_10 hW => ?_)
  obtain ⟨hr_11, hT, hs⟩ := p_10
  replace hT : hx_T T_tb L_7 h_8 := hT
  replace hs : hx_S T_tb [(6, 2)] L_1 h_2 L_7 h_8 := hs
  replace hM := hM.tr (hs.mono (by decide))
  have zl_r_9 : (Int32.ofNat (P_ln.getD 0 0)).toInt = 96 := by decide
  refine lv_istore_n (lv' := [(2, .int r_9), (1, .int x_6), (0, .ref x)]) hx hb dX6_readClause_15 rfl hl (by decide) rfl (fun ls hl => ?_)
  refine lv_iload_n hx hb dX6_readClause_16 rfl (lv_at hl 0 rfl) ?_
  refine hb_if_ge (zx := r_9.toInt) (tgt := 27) hx hb rfl dX6_readClause_17 (by decide) (fun c_12 => ?_) (fun c_12 => ?_)
  · skip
    refine lv_iload_n hx hb dX6_readClause_27 rfl (lv_at hl 0 rfl) ?_
    refine lv_bipush (v := 10) hx hb dX6_readClause_28 (by decide) ?_
    refine hb_icmp_ne (zx := r_9.toInt) (zy := 10) (tgt := 38) hx hb rfl (by decide) dX6_readClause_30 (by decide) (fun c_13 => ?_) (fun c_13 => ?_)
    · skip
      refine lv_iload_n hx hb dX6_readClause_38 rfl (lv_at hl 0 rfl) ?_
      refine lv_bipush (v := 11) hx hb dX6_readClause_39 (by decide) ?_
      refine hb_icmp_ne (zx := r_9.toInt) (zy := 11) (tgt := 76) hx hb rfl (by decide) dX6_readClause_41 (by decide) (fun c_14 => ?_) (fun c_14 => ?_)
      · skip
        refine lv_aload_n hx hb dX6_readClause_76 rfl (lv_at hl 2 rfl) ?_
        refine lv_iload_n hx hb dX6_readClause_77 rfl (lv_at hl 0 rfl) ?_
        refine lv_iload_n hx hb dX6_readClause_78 rfl (lv_at hl 1 rfl) ?_
        refine hx_goi (hx_runV (As := [.int r_9, .int x_6]) (rest := []) ⟨hx, hb, hml, hown, hts⟩ hW (gx.S hM) tt_6 (T := TX6) (N := 7) rfl (t_X6_tellOnce l dC dI dA L_7 h_8 H.size x r_9 x_6 hT (gx.S hM)) (cwV 2 hts (hx_gV kw_536 kw_533 kw_535 kw_8 kw_95) rfl rfl rfl (by decide +kernel) ⟨Nat.le_of_ble_eq_true rfl, Nat.le_of_ble_eq_true rfl⟩) rfl hl.1 rfl (Nat.le_of_ble_eq_true rfl) dX6_readClause_79 ⟨Nat.le_of_ble_eq_true rfl, Nat.le_of_ble_eq_true rfl⟩) hW (fun r_17 L_15 h_16 H locs p_18 hW => ?_)
        obtain ⟨hr_19, hT, hs⟩ := p_18
        replace hT : hx_T T_tb L_15 h_16 := hT
        replace hs : hx_S T_tb [(6, 3), (6, 4)] L_7 h_8 L_15 h_16 := hs
        replace hM := hM.tr (hs.mono (by decide))
        refine hb_if_eq (zx := r_17.toInt) (tgt := 112) hx hb rfl dX6_readClause_82 (by decide) (fun c_20 => ?_) (fun c_20 => ?_)
        · skip
          refine lv_iconst (v := 0) hx hb dX6_readClause_112 (by decide) ?_
          exact hx_retz hx hb hr rfl hlk hW ⟨(by decide), hT, hM⟩ dX6_readClause_113
        · skip
          refine lv_aload_n hx hb dX6_readClause_85 rfl (lv_at hl 2 rfl) ?_
          refine lv_iload_n hx hb dX6_readClause_86 rfl (lv_at hl 0 rfl) ?_
          refine hx_goi (hx_runVX (As := [.int r_9]) (rest := []) ⟨hx, hb, hml, hown, hts⟩ hW (gx.S hM) tt_6 (T := TX6) (N := 7) rfl (t_X6_readTold l dC dI dA L_15 h_16 H.size b0 x r_9 hT (gx.S hM) ⟨by omega, by omega⟩ qt (gqt.S hM) ((hM.o gx trivial rfl).2.trans f_x_0) qi (gqi.S hM) ((hM.o gx trivial rfl).2.trans f_x_6)) hZ (cwV 1 hts (hx_gV kw_540 kw_537 kw_539 kw_9 kw_95) rfl rfl rfl (by decide +kernel) ⟨Nat.le_of_ble_eq_true rfl, Nat.le_of_ble_eq_true rfl⟩) rfl hl.1 rfl (Nat.le_of_ble_eq_true rfl) dX6_readClause_87 ⟨Nat.le_of_ble_eq_true rfl, Nat.le_of_ble_eq_true rfl⟩) hW (fun r_23 L_21 h_22 H locs p_24 hW => ?_)
          obtain ⟨hr_25, hT, hs⟩ := p_24
          replace hT : hx_T T_tb L_21 h_22 := hT
          replace hs : hx_S T_tb [(6, 2), (6, 3), (11, 0)] L_15 h_16 L_21 h_22 := hs
          replace hM := hM.tr (hs.mono (by decide))
          refine hb_if_eq (zx := r_23.toInt) (tgt := 112) hx hb rfl dX6_readClause_90 (by decide) (fun c_26 => ?_) (fun c_26 => ?_)
          · skip
            refine lv_iconst (v := 0) hx hb dX6_readClause_112 (by decide) ?_
            exact hx_retz hx hb hr rfl hlk hW ⟨(by decide), hT, hM⟩ dX6_readClause_113
          · skip
            refine lv_iload_n hx hb dX6_readClause_93 rfl (lv_at hl 0 rfl) ?_
            refine lv_bipush (v := 6) hx hb dX6_readClause_94 (by decide) ?_
            refine hb_icmp_ne (zx := r_9.toInt) (zy := 6) (tgt := 108) hx hb rfl (by decide) dX6_readClause_96 (by decide) (fun c_27 => ?_) (fun c_27 => ?_)
            · skip
              refine lv_iconst (v := 1) hx hb dX6_readClause_108 (by decide) ?_
              refine lv_goto (tgt := 113) hx hb dX6_readClause_109 (by decide) ?_
              exact hx_retz hx hb hr rfl hlk hW ⟨(by decide), hT, hM⟩ dX6_readClause_113
            · skip
              refine lv_aload_n hx hb dX6_readClause_99 rfl (lv_at hl 2 rfl) ?_
              refine lv_bipush (v := 7) hx hb dX6_readClause_100 (by decide) ?_
              have zc_7 : (7 : Int32).toInt = 7 := by decide
              refine hx_goi (hx_runVX (As := [.int (7 : Int32)]) (rest := []) ⟨hx, hb, hml, hown, hts⟩ hW (gx.S hM) tt_6 (T := TX6) (N := 7) rfl (t_X6_readTold l dC dI dA L_21 h_22 H.size b0 x (7 : Int32) hT (gx.S hM) (by decide) qt (gqt.S hM) ((hM.o gx trivial rfl).2.trans f_x_0) qi (gqi.S hM) ((hM.o gx trivial rfl).2.trans f_x_6)) hZ (cwV 1 hts (hx_gV kw_540 kw_537 kw_539 kw_9 kw_95) rfl rfl rfl (by decide +kernel) ⟨Nat.le_of_ble_eq_true rfl, Nat.le_of_ble_eq_true rfl⟩) rfl hl.1 rfl (Nat.le_of_ble_eq_true rfl) dX6_readClause_102 ⟨Nat.le_of_ble_eq_true rfl, Nat.le_of_ble_eq_true rfl⟩) hW (fun r_30 L_28 h_29 H locs p_31 hW => ?_)
              obtain ⟨hr_32, hT, hs⟩ := p_31
              replace hT : hx_T T_tb L_28 h_29 := hT
              replace hs : hx_S T_tb [(6, 2), (6, 3), (11, 0)] L_21 h_22 L_28 h_29 := hs
              replace hM := hM.tr (hs.mono (by decide))
              have jn_113 : ∀ (xj_33 : Int32) (ls : Array Slot), 0 ≤ xj_33.toInt → xj_33.toInt ≤ 1 → lv_has ls 3 [(2, .int r_9), (1, .int x_6), (0, .ref x)] → W p l e ({ frames := 25, cells := 0, slots := 0, locals := 572 }) s m ([.ref x] : List Value).toArray below meth c H locs 0 0 (MQ below (va_Qi (fun (r : Int32) (u : List Nat × hx_h) => (r.toInt = 0 ∨ r.toInt = 1) ∧ hx_T T_tb u.1 u.2 ∧ hx_S T_tb [(0, 4), (6, 2), (6, 3), (6, 4), (6, 5), (11, 0), (12, 0)] L h u.1 u.2) (hx_E T_tb (P_ty dA) (dC, dI) vwCl (hx_A L sz)) (hx_A L sz)) ([.ref x] : List Value).toArray s 0 0 (hx_A L sz)) (F0 m 113 ls [.int xj_33]) := by
                intro xj_33 ls blxj_33 buxj_33 hl
                exact hx_retz hx hb hr (hx_nar01 (by omega)) hlk hW ⟨(by omega), hT, hM⟩ dX6_readClause_113
              refine hb_if_eq (zx := r_30.toInt) (tgt := 112) hx hb rfl dX6_readClause_105 (by decide) (fun c_34 => ?_) (fun c_34 => ?_)
              · skip
                refine lv_iconst (v := 0) hx hb dX6_readClause_112 (by decide) ?_
                exact jn_113 (0 : Int32) ls (by decide) (by decide) hl
              · skip
                refine lv_iconst (v := 1) hx hb dX6_readClause_108 (by decide) ?_
                refine lv_goto (tgt := 113) hx hb dX6_readClause_109 (by decide) ?_
                exact jn_113 (1 : Int32) ls (by decide) (by decide) hl
      · skip
        refine lv_aload_n hx hb dX6_readClause_44 rfl (lv_at hl 2 rfl) ?_
        refine hk_getr hx hb hts hC_6 hown hW (gx.S hM) tt_6 6 (by decide) rfl kw_131 ⟨rfl, rfl, rfl⟩ ((hM.o gx trivial rfl).2.trans f_x_6) dX6_readClause_45 ?_
        refine lv_iconst (v := 0) hx hb dX6_readClause_48 (by decide) ?_
        refine hx_puti hx hb hts hC_0 hown hW hT (hx_S.rf (M := [(0, 4)])) (gqi.S hM) tt_0 4 (by decide) rfl kw_174 ⟨rfl, rfl, rfl⟩ rfl (x := (0 : Int32)) (by decide) rfl rfl rfl (List.mem_singleton.mpr rfl) dX6_readClause_49 (fun H locs h_35 eh_35 hW hT hs => ?_)
        replace hM := hM.tr (hs.mono (by decide))
        have f_36 : h_35.2.1 qi 4 = (0 : Int32) := by rw [eh_35]; exact hx_pi_at _ _ _ _
        refine lv_aload_n hx hb dX6_readClause_52 rfl (lv_at hl 2 rfl) ?_
        refine lv_bipush (v := 14) hx hb dX6_readClause_53 (by decide) ?_
        refine lv_iload_n hx hb dX6_readClause_55 rfl (lv_at hl 1 rfl) ?_
        have zc_14 : (14 : Int32).toInt = 14 := by decide
        refine hx_goi (hx_runV (As := [.int (14 : Int32), .int x_6]) (rest := []) ⟨hx, hb, hml, hown, hts⟩ hW (gx.S hM) tt_6 (T := TX6) (N := 7) rfl (t_X6_tellOnce l dC dI dA L_7 h_35 H.size x (14 : Int32) x_6 hT (gx.S hM)) (cwV 2 hts (hx_gV kw_536 kw_533 kw_535 kw_8 kw_95) rfl rfl rfl (by decide +kernel) ⟨Nat.le_of_ble_eq_true rfl, Nat.le_of_ble_eq_true rfl⟩) rfl hl.1 rfl (Nat.le_of_ble_eq_true rfl) dX6_readClause_56 ⟨Nat.le_of_ble_eq_true rfl, Nat.le_of_ble_eq_true rfl⟩) hW (fun r_39 L_37 h_38 H locs p_40 hW => ?_)
        obtain ⟨hr_41, hT, hs⟩ := p_40
        replace hT : hx_T T_tb L_37 h_38 := hT
        replace hs : hx_S T_tb [(6, 3), (6, 4)] L_7 h_35 L_37 h_38 := hs
        replace f_36 := (hs.o (gqi.S hM) trivial rfl).1.trans f_36
        replace hM := hM.tr (hs.mono (by decide))
        refine hb_if_eq (zx := r_39.toInt) (tgt := 74) hx hb rfl dX6_readClause_59 (by decide) (fun c_42 => ?_) (fun c_42 => ?_)
        · skip
          refine lv_iconst (v := 0) hx hb dX6_readClause_74 (by decide) ?_
          exact hx_retz hx hb hr rfl hlk hW ⟨(by decide), hT, hM⟩ dX6_readClause_75
        · skip
          refine lv_aload_n hx hb dX6_readClause_62 rfl (lv_at hl 2 rfl) ?_
          refine lv_iconst (v := 0) hx hb dX6_readClause_63 (by decide) ?_
          have zc_0 : (0 : Int32).toInt = 0 := by decide
          refine hx_goi (hx_runVX (As := [.int (0 : Int32)]) (rest := []) ⟨hx, hb, hml, hown, hts⟩ hW (gx.S hM) tt_6 (T := TX6) (N := 7) rfl (t_X6_readEither_0 l dC dI dA L_37 h_38 H.size b0 x hT (gx.S hM) qt (gqt.S hM) ((hM.o gx trivial rfl).2.trans f_x_0) qi (gqi.S hM) ((hM.o gx trivial rfl).2.trans f_x_6)) hZ (cwV 1 hts (hx_gV kw_556 kw_553 kw_555 kw_12 kw_95) rfl rfl rfl (by decide +kernel) ⟨Nat.le_of_ble_eq_true rfl, Nat.le_of_ble_eq_true rfl⟩) rfl hl.1 rfl (Nat.le_of_ble_eq_true rfl) dX6_readClause_64 ⟨Nat.le_of_ble_eq_true rfl, Nat.le_of_ble_eq_true rfl⟩) hW (fun r_45 L_43 h_44 H locs p_46 hW => ?_)
          obtain ⟨hr_47, hT, hs⟩ := p_46
          replace hT : hx_T T_tb L_43 h_44 := hT
          replace hs : hx_S T_tb [(0, 4), (6, 2), (6, 3), (6, 5), (12, 0)] L_37 h_38 L_43 h_44 := hs
          replace hM := hM.tr (hs.mono (by decide))
          have jn_75 : ∀ (xj_48 : Int32) (ls : Array Slot), 0 ≤ xj_48.toInt → xj_48.toInt ≤ 1 → lv_has ls 3 [(2, .int r_9), (1, .int x_6), (0, .ref x)] → W p l e ({ frames := 25, cells := 0, slots := 0, locals := 572 }) s m ([.ref x] : List Value).toArray below meth c H locs 0 0 (MQ below (va_Qi (fun (r : Int32) (u : List Nat × hx_h) => (r.toInt = 0 ∨ r.toInt = 1) ∧ hx_T T_tb u.1 u.2 ∧ hx_S T_tb [(0, 4), (6, 2), (6, 3), (6, 4), (6, 5), (11, 0), (12, 0)] L h u.1 u.2) (hx_E T_tb (P_ty dA) (dC, dI) vwCl (hx_A L sz)) (hx_A L sz)) ([.ref x] : List Value).toArray s 0 0 (hx_A L sz)) (F0 m 75 ls [.int xj_48]) := by
            intro xj_48 ls blxj_48 buxj_48 hl
            exact hx_retz hx hb hr (hx_nar01 (by omega)) hlk hW ⟨(by omega), hT, hM⟩ dX6_readClause_75
          refine hb_if_eq (zx := r_45.toInt) (tgt := 74) hx hb rfl dX6_readClause_67 (by decide) (fun c_49 => ?_) (fun c_49 => ?_)
          · skip
            refine lv_iconst (v := 0) hx hb dX6_readClause_74 (by decide) ?_
            exact jn_75 (0 : Int32) ls (by decide) (by decide) hl
          · skip
            refine lv_iconst (v := 1) hx hb dX6_readClause_70 (by decide) ?_
            refine lv_goto (tgt := 75) hx hb dX6_readClause_71 (by decide) ?_
            exact jn_75 (1 : Int32) ls (by decide) (by decide) hl
    · skip
      refine lv_aload_n hx hb dX6_readClause_33 rfl (lv_at hl 2 rfl) ?_
      refine hx_goi (hx_runVX (As := []) (rest := []) ⟨hx, hb, hml, hown, hts⟩ hW (gx.S hM) tt_6 (T := TX6) (N := 7) rfl (t_X6_readCost l dC dI dA L_7 h_8 H.size b0 x hT (gx.S hM) qt (gqt.S hM) ((hM.o gx trivial rfl).2.trans f_x_0) qi (gqi.S hM) ((hM.o gx trivial rfl).2.trans f_x_6)) hZ (cwV 0 hts (hx_gV kw_531 kw_528 kw_530 kw_7 kw_95) rfl rfl rfl (by decide +kernel) ⟨Nat.le_of_ble_eq_true rfl, Nat.le_of_ble_eq_true rfl⟩) rfl hl.1 rfl (Nat.le_of_ble_eq_true rfl) dX6_readClause_34 ⟨Nat.le_of_ble_eq_true rfl, Nat.le_of_ble_eq_true rfl⟩) hW (fun r_52 L_50 h_51 H locs p_53 hW => ?_)
      obtain ⟨hr_54, hT, hs⟩ := p_53
      replace hT : hx_T T_tb L_50 h_51 := hT
      replace hs : hx_S T_tb [(6, 2), (6, 3), (6, 4), (11, 0)] L_7 h_8 L_50 h_51 := hs
      replace hM := hM.tr (hs.mono (by decide))
      exact hx_retz hx hb hr (hx_nar01 (by omega)) hlk hW ⟨(by omega), hT, hM⟩ dX6_readClause_37
  · skip
    refine lv_aload_n hx hb dX6_readClause_20 rfl (lv_at hl 2 rfl) ?_
    refine lv_iload_n hx hb dX6_readClause_21 rfl (lv_at hl 1 rfl) ?_
    refine lv_iconst (v := 0) hx hb dX6_readClause_22 (by decide) ?_
    have zc_0 : (0 : Int32).toInt = 0 := by decide
    refine hx_goi (hx_runV (As := [.int x_6, .int (0 : Int32)]) (rest := []) ⟨hx, hb, hml, hown, hts⟩ hW (gx.S hM) tt_6 (T := TX6) (N := 7) rfl (t_X6_refuse l dC dI dA L_7 h_8 H.size x x_6 (0 : Int32) hT (gx.S hM)) (cwV 2 hts (hx_gV kw_527 kw_524 kw_526 kw_6 kw_95) rfl rfl rfl (by decide +kernel) ⟨Nat.le_of_ble_eq_true rfl, Nat.le_of_ble_eq_true rfl⟩) rfl hl.1 rfl (Nat.le_of_ble_eq_true rfl) dX6_readClause_23 ⟨Nat.le_of_ble_eq_true rfl, Nat.le_of_ble_eq_true rfl⟩) hW (fun r_57 L_55 h_56 H locs p_58 hW => ?_)
    obtain ⟨hr_59, hT, hs⟩ := p_58
    replace hT : hx_T T_tb L_55 h_56 := hT
    replace hs : hx_S T_tb [(6, 3)] L_7 h_8 L_55 h_56 := hs
    replace hM := hM.tr (hs.mono (by decide))
    exact hx_retz hx hb hr (hx_nar01 (by omega)) hlk hW ⟨(by omega), hT, hM⟩ dX6_readClause_26

def wLX6_isAnotherClause_0 : List Nat := [42, 182, 0, 35, 42, 180, 0, 19, 42, 180, 0, 15, 161, 0, 5, 3, 172, 42, 180, 0, 9, 42, 180, 0, 19, 51, 16, 59, 159, 0, 13, 42, 42, 180, 0, 19, 3, 182, 0, 45, 172, 42, 89, 180, 0, 19, 4, 96, 181, 0, 19, 4, 172]
theorem wX6_isAnotherClause_0 : (cX6_isAnotherClause.data.toList.map UInt8.toNat).drop 0 = wLX6_isAnotherClause_0 ++ ([]) := by decide +kernel
theorem dX6_isAnotherClause_0 : decode cX6_isAnotherClause 0 = .ok (.aload_n 0, 1) := dq_42 (hz_wg wX6_isAnotherClause_0 (j := 0) (n := 42) rfl)
theorem dX6_isAnotherClause_1 : decode cX6_isAnotherClause 1 = .ok (.invokevirtual 35, 3) := dq_182 (hz_wg wX6_isAnotherClause_0 (j := 1) (n := 182) rfl) (hz_wg wX6_isAnotherClause_0 (j := 2) (n := 0) rfl) (hz_wg wX6_isAnotherClause_0 (j := 3) (n := 35) rfl) rfl
theorem dX6_isAnotherClause_4 : decode cX6_isAnotherClause 4 = .ok (.aload_n 0, 1) := dq_42 (hz_wg wX6_isAnotherClause_0 (j := 4) (n := 42) rfl)
theorem dX6_isAnotherClause_5 : decode cX6_isAnotherClause 5 = .ok (.getfield 19, 3) := dq_180 (hz_wg wX6_isAnotherClause_0 (j := 5) (n := 180) rfl) (hz_wg wX6_isAnotherClause_0 (j := 6) (n := 0) rfl) (hz_wg wX6_isAnotherClause_0 (j := 7) (n := 19) rfl) rfl
theorem dX6_isAnotherClause_8 : decode cX6_isAnotherClause 8 = .ok (.aload_n 0, 1) := dq_42 (hz_wg wX6_isAnotherClause_0 (j := 8) (n := 42) rfl)
theorem dX6_isAnotherClause_9 : decode cX6_isAnotherClause 9 = .ok (.getfield 15, 3) := dq_180 (hz_wg wX6_isAnotherClause_0 (j := 9) (n := 180) rfl) (hz_wg wX6_isAnotherClause_0 (j := 10) (n := 0) rfl) (hz_wg wX6_isAnotherClause_0 (j := 11) (n := 15) rfl) rfl
theorem dX6_isAnotherClause_12 : decode cX6_isAnotherClause 12 = .ok (.if_icmp .lt 5, 3) := dq_161 (hz_wg wX6_isAnotherClause_0 (j := 12) (n := 161) rfl) (hz_wg wX6_isAnotherClause_0 (j := 13) (n := 0) rfl) (hz_wg wX6_isAnotherClause_0 (j := 14) (n := 5) rfl) (by decide)
theorem dX6_isAnotherClause_15 : decode cX6_isAnotherClause 15 = .ok (.iconst 0, 1) := dq_3 (hz_wg wX6_isAnotherClause_0 (j := 15) (n := 3) rfl)
theorem dX6_isAnotherClause_16 : decode cX6_isAnotherClause 16 = .ok (.ireturn, 1) := dq_172 (hz_wg wX6_isAnotherClause_0 (j := 16) (n := 172) rfl)
theorem dX6_isAnotherClause_17 : decode cX6_isAnotherClause 17 = .ok (.aload_n 0, 1) := dq_42 (hz_wg wX6_isAnotherClause_0 (j := 17) (n := 42) rfl)
theorem dX6_isAnotherClause_18 : decode cX6_isAnotherClause 18 = .ok (.getfield 9, 3) := dq_180 (hz_wg wX6_isAnotherClause_0 (j := 18) (n := 180) rfl) (hz_wg wX6_isAnotherClause_0 (j := 19) (n := 0) rfl) (hz_wg wX6_isAnotherClause_0 (j := 20) (n := 9) rfl) rfl
theorem dX6_isAnotherClause_21 : decode cX6_isAnotherClause 21 = .ok (.aload_n 0, 1) := dq_42 (hz_wg wX6_isAnotherClause_0 (j := 21) (n := 42) rfl)
theorem dX6_isAnotherClause_22 : decode cX6_isAnotherClause 22 = .ok (.getfield 19, 3) := dq_180 (hz_wg wX6_isAnotherClause_0 (j := 22) (n := 180) rfl) (hz_wg wX6_isAnotherClause_0 (j := 23) (n := 0) rfl) (hz_wg wX6_isAnotherClause_0 (j := 24) (n := 19) rfl) rfl
theorem dX6_isAnotherClause_25 : decode cX6_isAnotherClause 25 = .ok (.baload, 1) := dq_51 (hz_wg wX6_isAnotherClause_0 (j := 25) (n := 51) rfl)
theorem dX6_isAnotherClause_26 : decode cX6_isAnotherClause 26 = .ok (.bipush 59, 2) := dq_16 (hz_wg wX6_isAnotherClause_0 (j := 26) (n := 16) rfl) (hz_wg wX6_isAnotherClause_0 (j := 27) (n := 59) rfl) (by decide)
theorem dX6_isAnotherClause_28 : decode cX6_isAnotherClause 28 = .ok (.if_icmp .eq 13, 3) := dq_159 (hz_wg wX6_isAnotherClause_0 (j := 28) (n := 159) rfl) (hz_wg wX6_isAnotherClause_0 (j := 29) (n := 0) rfl) (hz_wg wX6_isAnotherClause_0 (j := 30) (n := 13) rfl) (by decide)
theorem dX6_isAnotherClause_31 : decode cX6_isAnotherClause 31 = .ok (.aload_n 0, 1) := dq_42 (hz_wg wX6_isAnotherClause_0 (j := 31) (n := 42) rfl)
theorem dX6_isAnotherClause_32 : decode cX6_isAnotherClause 32 = .ok (.aload_n 0, 1) := dq_42 (hz_wg wX6_isAnotherClause_0 (j := 32) (n := 42) rfl)
theorem dX6_isAnotherClause_33 : decode cX6_isAnotherClause 33 = .ok (.getfield 19, 3) := dq_180 (hz_wg wX6_isAnotherClause_0 (j := 33) (n := 180) rfl) (hz_wg wX6_isAnotherClause_0 (j := 34) (n := 0) rfl) (hz_wg wX6_isAnotherClause_0 (j := 35) (n := 19) rfl) rfl
theorem dX6_isAnotherClause_36 : decode cX6_isAnotherClause 36 = .ok (.iconst 0, 1) := dq_3 (hz_wg wX6_isAnotherClause_0 (j := 36) (n := 3) rfl)
theorem dX6_isAnotherClause_37 : decode cX6_isAnotherClause 37 = .ok (.invokevirtual 45, 3) := dq_182 (hz_wg wX6_isAnotherClause_0 (j := 37) (n := 182) rfl) (hz_wg wX6_isAnotherClause_0 (j := 38) (n := 0) rfl) (hz_wg wX6_isAnotherClause_0 (j := 39) (n := 45) rfl) rfl
theorem dX6_isAnotherClause_40 : decode cX6_isAnotherClause 40 = .ok (.ireturn, 1) := dq_172 (hz_wg wX6_isAnotherClause_0 (j := 40) (n := 172) rfl)
theorem dX6_isAnotherClause_41 : decode cX6_isAnotherClause 41 = .ok (.aload_n 0, 1) := dq_42 (hz_wg wX6_isAnotherClause_0 (j := 41) (n := 42) rfl)
theorem dX6_isAnotherClause_42 : decode cX6_isAnotherClause 42 = .ok (.dup, 1) := dq_89 (hz_wg wX6_isAnotherClause_0 (j := 42) (n := 89) rfl)
theorem dX6_isAnotherClause_43 : decode cX6_isAnotherClause 43 = .ok (.getfield 19, 3) := dq_180 (hz_wg wX6_isAnotherClause_0 (j := 43) (n := 180) rfl) (hz_wg wX6_isAnotherClause_0 (j := 44) (n := 0) rfl) (hz_wg wX6_isAnotherClause_0 (j := 45) (n := 19) rfl) rfl
theorem dX6_isAnotherClause_46 : decode cX6_isAnotherClause 46 = .ok (.iconst 1, 1) := dq_4 (hz_wg wX6_isAnotherClause_0 (j := 46) (n := 4) rfl)
theorem dX6_isAnotherClause_47 : decode cX6_isAnotherClause 47 = .ok (.iadd, 1) := dq_96 (hz_wg wX6_isAnotherClause_0 (j := 47) (n := 96) rfl)
theorem dX6_isAnotherClause_48 : decode cX6_isAnotherClause 48 = .ok (.putfield 19, 3) := dq_181 (hz_wg wX6_isAnotherClause_0 (j := 48) (n := 181) rfl) (hz_wg wX6_isAnotherClause_0 (j := 49) (n := 0) rfl) (hz_wg wX6_isAnotherClause_0 (j := 50) (n := 19) rfl) rfl
theorem dX6_isAnotherClause_51 : decode cX6_isAnotherClause 51 = .ok (.iconst 1, 1) := dq_4 (hz_wg wX6_isAnotherClause_0 (j := 51) (n := 4) rfl)
theorem dX6_isAnotherClause_52 : decode cX6_isAnotherClause 52 = .ok (.ireturn, 1) := dq_172 (hz_wg wX6_isAnotherClause_0 (j := 52) (n := 172) rfl)
set_option maxHeartbeats 4000000 in
set_option maxRecDepth 100000 in
theorem t_X6_isAnotherClause (l : Launch) (dC : Nat → ClassId) (dI : Nat → Nat → Nat) (dA : Nat → ClassId) (L : List Nat) (h : hx_h) (sz : Nat) (x : Nat) (hT : hx_T T_tb L h) (gx : hx_g L h x 6) (qt : Nat) (gqt : hx_g L h qt 42) (f_x_0 : h.2.2 x 0 = some qt) (qi : Nat) (gqi : hx_g L h qi 0) (f_x_6 : h.2.2 x 6 = some qi) : Met l yX6_isAnotherClause (Cond.code yX6_isAnotherClause cX6_isAnotherClause 1 (some .boolean) :: hx_all) ({ frames := 1, cells := 0, slots := 0, locals := 22 }) (va_Pc [.ref x] (hx_B T_tb (P_ty dA) (dC, dI) vwCl L h sz)) (va_Qi (fun (r : Int32) (u : List Nat × hx_h) => (r.toInt = 0 ∨ r.toInt = 1) ∧ hx_T T_tb u.1 u.2 ∧ hx_S T_tb [(6, 2), (6, 3)] L h u.1 u.2) (hx_E T_tb (P_ty dA) (dC, dI) vwCl (hx_A L sz)) (hx_A L sz)) 0 0 (hx_A L sz) := by
  refine hx_met (lv := [(0, .ref x)]) (by decide +kernel) rfl (Nat.le_of_ble_eq_true rfl) rfl ?_
  intro p e s m below meth c hx hb hml hr hlk hts0 hown hin hsz hW ls hl
  have hts : ∀ w ∈ hx_all, w.before _ s = true := fun w hw => hts0 w (List.mem_cons_of_mem _ hw)
  have hown : s.vm.findClass "SmallCourt$Reader" = some m.cls := hown
  have hM : hx_S T_tb [(6, 2), (6, 3)] L h L h := hx_S.rf
  refine lv_aload_n hx hb dX6_isAnotherClause_0 rfl (lv_at hl 0 rfl) ?_
  refine hx_gov (hx_runV (As := []) (rest := []) ⟨hx, hb, hml, hown, hts⟩ hW (gx.S hM) tt_6 (T := TX6) (N := 7) rfl (t_X6_skipBlanks l dC dI dA L h s.heap.size x hT (gx.S hM) qt (gqt.S hM) ((hM.o gx trivial rfl).2.trans f_x_0)) (cwV 0 hts (hx_gV kw_458 kw_455 kw_457 kw_1 kw_95) rfl rfl rfl (by decide +kernel) ⟨Nat.le_of_ble_eq_true rfl, Nat.le_of_ble_eq_true rfl⟩) rfl hl.1 rfl (Nat.le_of_ble_eq_true rfl) dX6_isAnotherClause_1 ⟨Nat.le_of_ble_eq_true rfl, Nat.le_of_ble_eq_true rfl⟩) hW (fun L_1 h_2 H locs p_4 hW => ?_)
  obtain ⟨hT, hs⟩ := p_4
  replace hT : hx_T T_tb L_1 h_2 := hT
  replace hs : hx_S T_tb [(6, 2)] L h L_1 h_2 := hs
  replace hM := hM.tr (hs.mono (by decide))
  refine lv_aload_n hx hb dX6_isAnotherClause_4 rfl (lv_at hl 0 rfl) ?_
  refine hx_geti hx hb hts hC_6 hown hW hT (gx.S hM) tt_6 2 (by decide) rfl kw_127 ⟨rfl, rfl, rfl⟩ dX6_isAnotherClause_5 (fun x_6 ex_6 lx_6 ux_6 => ?_)
  have fx_6 := ex_6.symm
  refine lv_aload_n hx hb dX6_isAnotherClause_8 rfl (lv_at hl 0 rfl) ?_
  refine hx_geti hx hb hts hC_6 hown hW hT (gx.S hM) tt_6 1 (by decide) rfl kw_126 ⟨rfl, rfl, rfl⟩ dX6_isAnotherClause_9 (fun x_7 ex_7 lx_7 ux_7 => ?_)
  have fx_7 := ex_7.symm
  refine hb_icmp_lt (zx := x_6.toInt) (zy := x_7.toInt) (tgt := 17) hx hb rfl rfl dX6_isAnotherClause_12 (by decide) (fun c_8 => ?_) (fun c_8 => ?_)
  · skip
    refine lv_aload_n hx hb dX6_isAnotherClause_17 rfl (lv_at hl 0 rfl) ?_
    refine hk_getr hx hb hts hC_6 hown hW (gx.S hM) tt_6 0 (by decide) rfl kw_125 ⟨rfl, rfl, rfl⟩ ((hM.o gx trivial rfl).2.trans f_x_0) dX6_isAnotherClause_18 ?_
    refine lv_aload_n hx hb dX6_isAnotherClause_21 rfl (lv_at hl 0 rfl) ?_
    refine hk_geti hx hb hts hC_6 hown hW (gx.S hM) tt_6 2 (by decide) rfl kw_127 ⟨rfl, rfl, rfl⟩ fx_6 dX6_isAnotherClause_22 ?_
    refine hx_bald hx hb hW hT (gqt.S hM) tt_42 rfl ⟨by omega, by omega⟩ dX6_isAnotherClause_25 (fun x_9 ex_9 lx_9 ux_9 => ?_)
    refine lv_bipush (v := 59) hx hb dX6_isAnotherClause_26 (by decide) ?_
    refine hb_icmp_eq (zx := x_9.toInt) (zy := 59) (tgt := 41) hx hb rfl (by decide) dX6_isAnotherClause_28 (by decide) (fun c_10 => ?_) (fun c_10 => ?_)
    · skip
      refine lv_aload_n hx hb dX6_isAnotherClause_41 rfl (lv_at hl 0 rfl) ?_
      refine lv_dup hx hb dX6_isAnotherClause_42 rfl ?_
      refine hk_geti hx hb hts hC_6 hown hW (gx.S hM) tt_6 2 (by decide) rfl kw_127 ⟨rfl, rfl, rfl⟩ fx_6 dX6_isAnotherClause_43 ?_
      refine lv_iconst (v := 1) hx hb dX6_isAnotherClause_46 (by decide) ?_
      refine lv_iadd hx hb dX6_isAnotherClause_47 ?_
      have rg_11 := i32_r x_6
      refine lv_topi (fun x_12 ex_12 => ?_)
      have zx_12 : x_12.toInt = x_6.toInt + 1 := by rw [ex_12]; exact i32_add rfl (by decide) (by omega) (by omega)
      refine hx_puti hx hb hts hC_6 hown hW hT (hx_S.rf (M := [(6, 2)])) (gx.S hM) tt_6 2 (by decide) rfl kw_127 ⟨rfl, rfl, rfl⟩ rfl (x := x_12) ⟨by omega, by omega⟩ rfl rfl rfl (List.mem_singleton.mpr rfl) dX6_isAnotherClause_48 (fun H locs h_13 eh_13 hW hT hs => ?_)
      replace fx_7 := (hs.o (gx.S hM) trivial rfl).1.trans fx_7
      replace ex_9 := ex_9.trans (hs.a (gqt.S hM) rfl _).1.symm
      replace hM := hM.tr (hs.mono (by decide))
      have f_14 : h_13.2.1 x 2 = x_12 := by rw [eh_13]; exact hx_pi_at _ _ _ _
      refine lv_iconst (v := 1) hx hb dX6_isAnotherClause_51 (by decide) ?_
      exact hx_retz hx hb hr rfl hlk hW ⟨(by decide), hT, hM⟩ dX6_isAnotherClause_52
    · skip
      refine lv_aload_n hx hb dX6_isAnotherClause_31 rfl (lv_at hl 0 rfl) ?_
      refine lv_aload_n hx hb dX6_isAnotherClause_32 rfl (lv_at hl 0 rfl) ?_
      refine hk_geti hx hb hts hC_6 hown hW (gx.S hM) tt_6 2 (by decide) rfl kw_127 ⟨rfl, rfl, rfl⟩ fx_6 dX6_isAnotherClause_33 ?_
      refine lv_iconst (v := 0) hx hb dX6_isAnotherClause_36 (by decide) ?_
      have zc_0 : (0 : Int32).toInt = 0 := by decide
      refine hx_goi (hx_runV (As := [.int x_6, .int (0 : Int32)]) (rest := []) ⟨hx, hb, hml, hown, hts⟩ hW (gx.S hM) tt_6 (T := TX6) (N := 7) rfl (t_X6_refuse l dC dI dA L_1 h_2 H.size x x_6 (0 : Int32) hT (gx.S hM)) (cwV 2 hts (hx_gV kw_527 kw_524 kw_526 kw_6 kw_95) rfl rfl rfl (by decide +kernel) ⟨Nat.le_of_ble_eq_true rfl, Nat.le_of_ble_eq_true rfl⟩) rfl hl.1 rfl (Nat.le_of_ble_eq_true rfl) dX6_isAnotherClause_37 ⟨Nat.le_of_ble_eq_true rfl, Nat.le_of_ble_eq_true rfl⟩) hW (fun r_17 L_15 h_16 H locs p_18 hW => ?_)
      obtain ⟨hr_19, hT, hs⟩ := p_18
      replace hT : hx_T T_tb L_15 h_16 := hT
      replace hs : hx_S T_tb [(6, 3)] L_1 h_2 L_15 h_16 := hs
      replace fx_6 := (hs.o (gx.S hM) trivial rfl).1.trans fx_6
      replace fx_7 := (hs.o (gx.S hM) trivial rfl).1.trans fx_7
      replace ex_9 := ex_9.trans (hs.a (gqt.S hM) rfl _).1.symm
      replace hM := hM.tr (hs.mono (by decide))
      exact hx_retz hx hb hr (hx_nar01 (by omega)) hlk hW ⟨(by omega), hT, hM⟩ dX6_isAnotherClause_40
  · skip
    refine lv_iconst (v := 0) hx hb dX6_isAnotherClause_15 (by decide) ?_
    exact hx_retz hx hb hr rfl hlk hW ⟨(by decide), hT, hM⟩ dX6_isAnotherClause_16

def wLX6_readAct_0 : List Nat := [42, 43, 181, 0, 9, 42, 28, 155, 0, 9, 28, 43, 190, 164, 0, 7, 3, 167, 0, 4, 28, 181, 0, 15, 42, 3, 181, 0, 19, 42, 3, 181, 0, 22, 42, 3, 181, 0, 25, 42, 3, 181, 0, 28, 42, 45, 181, 0, 31, 42, 182, 0, 35, 42, 180, 0, 19, 42, 180, 0, 15, 162, 0, 7]
def wLX6_readAct_1 : List Nat := [4, 167, 0, 4, 3, 54, 4, 3, 54, 5, 21, 5, 42, 180, 0, 15, 163, 0, 35, 21, 4, 153, 0, 30, 42, 182, 0, 38, 153, 0, 14, 42, 182, 0, 42, 153, 0, 7, 4, 167, 0, 4, 3, 54, 4, 132, 5, 1, 167, 255, 218, 42, 180, 0, 22, 172]
theorem wX6_readAct_0 : (cX6_readAct.data.toList.map UInt8.toNat).drop 0 = wLX6_readAct_0 ++ (wLX6_readAct_1 ++ ([])) := by decide +kernel
theorem wX6_readAct_1 : (cX6_readAct.data.toList.map UInt8.toNat).drop 64 = wLX6_readAct_1 ++ ([]) := hz_wn wX6_readAct_0 rfl
theorem dX6_readAct_0 : decode cX6_readAct 0 = .ok (.aload_n 0, 1) := dq_42 (hz_wg wX6_readAct_0 (j := 0) (n := 42) rfl)
theorem dX6_readAct_1 : decode cX6_readAct 1 = .ok (.aload_n 1, 1) := dq_43 (hz_wg wX6_readAct_0 (j := 1) (n := 43) rfl)
theorem dX6_readAct_2 : decode cX6_readAct 2 = .ok (.putfield 9, 3) := dq_181 (hz_wg wX6_readAct_0 (j := 2) (n := 181) rfl) (hz_wg wX6_readAct_0 (j := 3) (n := 0) rfl) (hz_wg wX6_readAct_0 (j := 4) (n := 9) rfl) rfl
theorem dX6_readAct_5 : decode cX6_readAct 5 = .ok (.aload_n 0, 1) := dq_42 (hz_wg wX6_readAct_0 (j := 5) (n := 42) rfl)
theorem dX6_readAct_6 : decode cX6_readAct 6 = .ok (.iload_n 2, 1) := dq_28 (hz_wg wX6_readAct_0 (j := 6) (n := 28) rfl)
theorem dX6_readAct_7 : decode cX6_readAct 7 = .ok (.ifCond .lt 9, 3) := dq_155 (hz_wg wX6_readAct_0 (j := 7) (n := 155) rfl) (hz_wg wX6_readAct_0 (j := 8) (n := 0) rfl) (hz_wg wX6_readAct_0 (j := 9) (n := 9) rfl) (by decide)
theorem dX6_readAct_10 : decode cX6_readAct 10 = .ok (.iload_n 2, 1) := dq_28 (hz_wg wX6_readAct_0 (j := 10) (n := 28) rfl)
theorem dX6_readAct_11 : decode cX6_readAct 11 = .ok (.aload_n 1, 1) := dq_43 (hz_wg wX6_readAct_0 (j := 11) (n := 43) rfl)
theorem dX6_readAct_12 : decode cX6_readAct 12 = .ok (.arraylength, 1) := dq_190 (hz_wg wX6_readAct_0 (j := 12) (n := 190) rfl)
theorem dX6_readAct_13 : decode cX6_readAct 13 = .ok (.if_icmp .le 7, 3) := dq_164 (hz_wg wX6_readAct_0 (j := 13) (n := 164) rfl) (hz_wg wX6_readAct_0 (j := 14) (n := 0) rfl) (hz_wg wX6_readAct_0 (j := 15) (n := 7) rfl) (by decide)
theorem dX6_readAct_16 : decode cX6_readAct 16 = .ok (.iconst 0, 1) := dq_3 (hz_wg wX6_readAct_0 (j := 16) (n := 3) rfl)
theorem dX6_readAct_17 : decode cX6_readAct 17 = .ok (.goto 4, 3) := dq_167 (hz_wg wX6_readAct_0 (j := 17) (n := 167) rfl) (hz_wg wX6_readAct_0 (j := 18) (n := 0) rfl) (hz_wg wX6_readAct_0 (j := 19) (n := 4) rfl) (by decide)
theorem dX6_readAct_20 : decode cX6_readAct 20 = .ok (.iload_n 2, 1) := dq_28 (hz_wg wX6_readAct_0 (j := 20) (n := 28) rfl)
theorem dX6_readAct_21 : decode cX6_readAct 21 = .ok (.putfield 15, 3) := dq_181 (hz_wg wX6_readAct_0 (j := 21) (n := 181) rfl) (hz_wg wX6_readAct_0 (j := 22) (n := 0) rfl) (hz_wg wX6_readAct_0 (j := 23) (n := 15) rfl) rfl
theorem dX6_readAct_24 : decode cX6_readAct 24 = .ok (.aload_n 0, 1) := dq_42 (hz_wg wX6_readAct_0 (j := 24) (n := 42) rfl)
theorem dX6_readAct_25 : decode cX6_readAct 25 = .ok (.iconst 0, 1) := dq_3 (hz_wg wX6_readAct_0 (j := 25) (n := 3) rfl)
theorem dX6_readAct_26 : decode cX6_readAct 26 = .ok (.putfield 19, 3) := dq_181 (hz_wg wX6_readAct_0 (j := 26) (n := 181) rfl) (hz_wg wX6_readAct_0 (j := 27) (n := 0) rfl) (hz_wg wX6_readAct_0 (j := 28) (n := 19) rfl) rfl
theorem dX6_readAct_29 : decode cX6_readAct 29 = .ok (.aload_n 0, 1) := dq_42 (hz_wg wX6_readAct_0 (j := 29) (n := 42) rfl)
theorem dX6_readAct_30 : decode cX6_readAct 30 = .ok (.iconst 0, 1) := dq_3 (hz_wg wX6_readAct_0 (j := 30) (n := 3) rfl)
theorem dX6_readAct_31 : decode cX6_readAct 31 = .ok (.putfield 22, 3) := dq_181 (hz_wg wX6_readAct_0 (j := 31) (n := 181) rfl) (hz_wg wX6_readAct_0 (j := 32) (n := 0) rfl) (hz_wg wX6_readAct_0 (j := 33) (n := 22) rfl) rfl
theorem dX6_readAct_34 : decode cX6_readAct 34 = .ok (.aload_n 0, 1) := dq_42 (hz_wg wX6_readAct_0 (j := 34) (n := 42) rfl)
theorem dX6_readAct_35 : decode cX6_readAct 35 = .ok (.iconst 0, 1) := dq_3 (hz_wg wX6_readAct_0 (j := 35) (n := 3) rfl)
theorem dX6_readAct_36 : decode cX6_readAct 36 = .ok (.putfield 25, 3) := dq_181 (hz_wg wX6_readAct_0 (j := 36) (n := 181) rfl) (hz_wg wX6_readAct_0 (j := 37) (n := 0) rfl) (hz_wg wX6_readAct_0 (j := 38) (n := 25) rfl) rfl
theorem dX6_readAct_39 : decode cX6_readAct 39 = .ok (.aload_n 0, 1) := dq_42 (hz_wg wX6_readAct_0 (j := 39) (n := 42) rfl)
theorem dX6_readAct_40 : decode cX6_readAct 40 = .ok (.iconst 0, 1) := dq_3 (hz_wg wX6_readAct_0 (j := 40) (n := 3) rfl)
theorem dX6_readAct_41 : decode cX6_readAct 41 = .ok (.putfield 28, 3) := dq_181 (hz_wg wX6_readAct_0 (j := 41) (n := 181) rfl) (hz_wg wX6_readAct_0 (j := 42) (n := 0) rfl) (hz_wg wX6_readAct_0 (j := 43) (n := 28) rfl) rfl
theorem dX6_readAct_44 : decode cX6_readAct 44 = .ok (.aload_n 0, 1) := dq_42 (hz_wg wX6_readAct_0 (j := 44) (n := 42) rfl)
theorem dX6_readAct_45 : decode cX6_readAct 45 = .ok (.aload_n 3, 1) := dq_45 (hz_wg wX6_readAct_0 (j := 45) (n := 45) rfl)
theorem dX6_readAct_46 : decode cX6_readAct 46 = .ok (.putfield 31, 3) := dq_181 (hz_wg wX6_readAct_0 (j := 46) (n := 181) rfl) (hz_wg wX6_readAct_0 (j := 47) (n := 0) rfl) (hz_wg wX6_readAct_0 (j := 48) (n := 31) rfl) rfl
theorem dX6_readAct_49 : decode cX6_readAct 49 = .ok (.aload_n 0, 1) := dq_42 (hz_wg wX6_readAct_0 (j := 49) (n := 42) rfl)
theorem dX6_readAct_50 : decode cX6_readAct 50 = .ok (.invokevirtual 35, 3) := dq_182 (hz_wg wX6_readAct_0 (j := 50) (n := 182) rfl) (hz_wg wX6_readAct_0 (j := 51) (n := 0) rfl) (hz_wg wX6_readAct_0 (j := 52) (n := 35) rfl) rfl
theorem dX6_readAct_53 : decode cX6_readAct 53 = .ok (.aload_n 0, 1) := dq_42 (hz_wg wX6_readAct_0 (j := 53) (n := 42) rfl)
theorem dX6_readAct_54 : decode cX6_readAct 54 = .ok (.getfield 19, 3) := dq_180 (hz_wg wX6_readAct_0 (j := 54) (n := 180) rfl) (hz_wg wX6_readAct_0 (j := 55) (n := 0) rfl) (hz_wg wX6_readAct_0 (j := 56) (n := 19) rfl) rfl
theorem dX6_readAct_57 : decode cX6_readAct 57 = .ok (.aload_n 0, 1) := dq_42 (hz_wg wX6_readAct_0 (j := 57) (n := 42) rfl)
theorem dX6_readAct_58 : decode cX6_readAct 58 = .ok (.getfield 15, 3) := dq_180 (hz_wg wX6_readAct_0 (j := 58) (n := 180) rfl) (hz_wg wX6_readAct_0 (j := 59) (n := 0) rfl) (hz_wg wX6_readAct_0 (j := 60) (n := 15) rfl) rfl
theorem dX6_readAct_61 : decode cX6_readAct 61 = .ok (.if_icmp .ge 7, 3) := dq_162 (hz_wg wX6_readAct_0 (j := 61) (n := 162) rfl) (hz_wg wX6_readAct_0 (j := 62) (n := 0) rfl) (hz_wg wX6_readAct_0 (j := 63) (n := 7) rfl) (by decide)
theorem dX6_readAct_64 : decode cX6_readAct 64 = .ok (.iconst 1, 1) := dq_4 (hz_wg wX6_readAct_1 (j := 0) (n := 4) rfl)
theorem dX6_readAct_65 : decode cX6_readAct 65 = .ok (.goto 4, 3) := dq_167 (hz_wg wX6_readAct_1 (j := 1) (n := 167) rfl) (hz_wg wX6_readAct_1 (j := 2) (n := 0) rfl) (hz_wg wX6_readAct_1 (j := 3) (n := 4) rfl) (by decide)
theorem dX6_readAct_68 : decode cX6_readAct 68 = .ok (.iconst 0, 1) := dq_3 (hz_wg wX6_readAct_1 (j := 4) (n := 3) rfl)
theorem dX6_readAct_69 : decode cX6_readAct 69 = .ok (.istore 4, 2) := dq_54 (hz_wg wX6_readAct_1 (j := 5) (n := 54) rfl) (hz_wg wX6_readAct_1 (j := 6) (n := 4) rfl)
theorem dX6_readAct_71 : decode cX6_readAct 71 = .ok (.iconst 0, 1) := dq_3 (hz_wg wX6_readAct_1 (j := 7) (n := 3) rfl)
theorem dX6_readAct_72 : decode cX6_readAct 72 = .ok (.istore 5, 2) := dq_54 (hz_wg wX6_readAct_1 (j := 8) (n := 54) rfl) (hz_wg wX6_readAct_1 (j := 9) (n := 5) rfl)
theorem dX6_readAct_74 : decode cX6_readAct 74 = .ok (.iload 5, 2) := dq_21 (hz_wg wX6_readAct_1 (j := 10) (n := 21) rfl) (hz_wg wX6_readAct_1 (j := 11) (n := 5) rfl)
theorem dX6_readAct_76 : decode cX6_readAct 76 = .ok (.aload_n 0, 1) := dq_42 (hz_wg wX6_readAct_1 (j := 12) (n := 42) rfl)
theorem dX6_readAct_77 : decode cX6_readAct 77 = .ok (.getfield 15, 3) := dq_180 (hz_wg wX6_readAct_1 (j := 13) (n := 180) rfl) (hz_wg wX6_readAct_1 (j := 14) (n := 0) rfl) (hz_wg wX6_readAct_1 (j := 15) (n := 15) rfl) rfl
theorem dX6_readAct_80 : decode cX6_readAct 80 = .ok (.if_icmp .gt 35, 3) := dq_163 (hz_wg wX6_readAct_1 (j := 16) (n := 163) rfl) (hz_wg wX6_readAct_1 (j := 17) (n := 0) rfl) (hz_wg wX6_readAct_1 (j := 18) (n := 35) rfl) (by decide)
theorem dX6_readAct_83 : decode cX6_readAct 83 = .ok (.iload 4, 2) := dq_21 (hz_wg wX6_readAct_1 (j := 19) (n := 21) rfl) (hz_wg wX6_readAct_1 (j := 20) (n := 4) rfl)
theorem dX6_readAct_85 : decode cX6_readAct 85 = .ok (.ifCond .eq 30, 3) := dq_153 (hz_wg wX6_readAct_1 (j := 21) (n := 153) rfl) (hz_wg wX6_readAct_1 (j := 22) (n := 0) rfl) (hz_wg wX6_readAct_1 (j := 23) (n := 30) rfl) (by decide)
theorem dX6_readAct_88 : decode cX6_readAct 88 = .ok (.aload_n 0, 1) := dq_42 (hz_wg wX6_readAct_1 (j := 24) (n := 42) rfl)
theorem dX6_readAct_89 : decode cX6_readAct 89 = .ok (.invokevirtual 38, 3) := dq_182 (hz_wg wX6_readAct_1 (j := 25) (n := 182) rfl) (hz_wg wX6_readAct_1 (j := 26) (n := 0) rfl) (hz_wg wX6_readAct_1 (j := 27) (n := 38) rfl) rfl
theorem dX6_readAct_92 : decode cX6_readAct 92 = .ok (.ifCond .eq 14, 3) := dq_153 (hz_wg wX6_readAct_1 (j := 28) (n := 153) rfl) (hz_wg wX6_readAct_1 (j := 29) (n := 0) rfl) (hz_wg wX6_readAct_1 (j := 30) (n := 14) rfl) (by decide)
theorem dX6_readAct_95 : decode cX6_readAct 95 = .ok (.aload_n 0, 1) := dq_42 (hz_wg wX6_readAct_1 (j := 31) (n := 42) rfl)
theorem dX6_readAct_96 : decode cX6_readAct 96 = .ok (.invokevirtual 42, 3) := dq_182 (hz_wg wX6_readAct_1 (j := 32) (n := 182) rfl) (hz_wg wX6_readAct_1 (j := 33) (n := 0) rfl) (hz_wg wX6_readAct_1 (j := 34) (n := 42) rfl) rfl
theorem dX6_readAct_99 : decode cX6_readAct 99 = .ok (.ifCond .eq 7, 3) := dq_153 (hz_wg wX6_readAct_1 (j := 35) (n := 153) rfl) (hz_wg wX6_readAct_1 (j := 36) (n := 0) rfl) (hz_wg wX6_readAct_1 (j := 37) (n := 7) rfl) (by decide)
theorem dX6_readAct_102 : decode cX6_readAct 102 = .ok (.iconst 1, 1) := dq_4 (hz_wg wX6_readAct_1 (j := 38) (n := 4) rfl)
theorem dX6_readAct_103 : decode cX6_readAct 103 = .ok (.goto 4, 3) := dq_167 (hz_wg wX6_readAct_1 (j := 39) (n := 167) rfl) (hz_wg wX6_readAct_1 (j := 40) (n := 0) rfl) (hz_wg wX6_readAct_1 (j := 41) (n := 4) rfl) (by decide)
theorem dX6_readAct_106 : decode cX6_readAct 106 = .ok (.iconst 0, 1) := dq_3 (hz_wg wX6_readAct_1 (j := 42) (n := 3) rfl)
theorem dX6_readAct_107 : decode cX6_readAct 107 = .ok (.istore 4, 2) := dq_54 (hz_wg wX6_readAct_1 (j := 43) (n := 54) rfl) (hz_wg wX6_readAct_1 (j := 44) (n := 4) rfl)
theorem dX6_readAct_109 : decode cX6_readAct 109 = .ok (.iinc 5 1, 3) := dq_132 (hz_wg wX6_readAct_1 (j := 45) (n := 132) rfl) (hz_wg wX6_readAct_1 (j := 46) (n := 5) rfl) (hz_wg wX6_readAct_1 (j := 47) (n := 1) rfl) (by decide)
theorem dX6_readAct_112 : decode cX6_readAct 112 = .ok (.goto (-38), 3) := dq_167 (hz_wg wX6_readAct_1 (j := 48) (n := 167) rfl) (hz_wg wX6_readAct_1 (j := 49) (n := 255) rfl) (hz_wg wX6_readAct_1 (j := 50) (n := 218) rfl) (by decide)
theorem dX6_readAct_115 : decode cX6_readAct 115 = .ok (.aload_n 0, 1) := dq_42 (hz_wg wX6_readAct_1 (j := 51) (n := 42) rfl)
theorem dX6_readAct_116 : decode cX6_readAct 116 = .ok (.getfield 22, 3) := dq_180 (hz_wg wX6_readAct_1 (j := 52) (n := 180) rfl) (hz_wg wX6_readAct_1 (j := 53) (n := 0) rfl) (hz_wg wX6_readAct_1 (j := 54) (n := 22) rfl) rfl
theorem dX6_readAct_119 : decode cX6_readAct 119 = .ok (.ireturn, 1) := dq_172 (hz_wg wX6_readAct_1 (j := 55) (n := 172) rfl)
set_option maxHeartbeats 4000000 in
set_option maxRecDepth 100000 in
theorem t_X6_readAct (l : Launch) (dC : Nat → ClassId) (dI : Nat → Nat → Nat) (dA : Nat → ClassId) (L : List Nat) (h : hx_h) (sz : Nat) (b0 : hx_z) (x : Nat) (v1 : Nat) (i2 : Int32) (v3 : Nat) (hT : hx_T T_tb L h) (gx : hx_g L h x 6) (gv1 : hx_g L h v1 42) (gv3 : hx_g L h v3 0)  : Met l yX6_readAct (Cond.code yX6_readAct cX6_readAct 6 (some .int) :: hx_all) ({ frames := 26, cells := 0, slots := 0, locals := 594 }) (va_Pc [.ref x, .ref v1, .int i2, .ref v3] (hx_BX T_tb (P_ty dA) (dC, dI) vwCl L h sz b0)) (va_Qi (fun (r : Int32) (u : List Nat × hx_h) => (True) ∧ hx_T T_tb u.1 u.2 ∧ hx_S T_tb [(0, 4), (6, 0), (6, 1), (6, 2), (6, 3), (6, 4), (6, 5), (6, 6), (11, 0), (12, 0)] L h u.1 u.2) (hx_E T_tb (P_ty dA) (dC, dI) vwCl (hx_A L sz)) (hx_A L sz)) 0 0 (hx_A L sz) := by
  refine hx_metX (lv := [(0, .ref x), (1, .ref v1), (2, .int i2), (3, .ref v3)]) (by decide +kernel) rfl (Nat.le_of_ble_eq_true rfl) rfl ?_
  intro p e s m below meth c hx hb hml hr hlk hts0 hown hin hsz hW hZ ls hl
  have hts : ∀ w ∈ hx_all, w.before _ s = true := fun w hw => hts0 w (List.mem_cons_of_mem _ hw)
  have hown : s.vm.findClass "SmallCourt$Reader" = some m.cls := hown
  have hM : hx_S T_tb [(0, 4), (6, 0), (6, 1), (6, 2), (6, 3), (6, 4), (6, 5), (6, 6), (11, 0), (12, 0)] L h L h := hx_S.rf
  obtain ⟨zLT, zLA, zMT, zMA, zCS, zSF, zVS, zVR⟩ := hZ.2.2.2.2.2.2
  refine lv_aload_n hx hb dX6_readAct_0 rfl (lv_at hl 0 rfl) ?_
  refine lv_aload_n hx hb dX6_readAct_1 rfl (lv_at hl 1 rfl) ?_
  refine hx_putr hx hb hts hC_6 hown hW hT (hx_S.rf (M := [(6, 0)])) (gx.S hM) tt_6 0 (by decide) rfl kw_125 ⟨rfl, rfl, rfl⟩ rfl (x := (some v1)) ⟨fun _ z => (by cases z), fun q hq => (by cases hq; exact ⟨(gv1.S hM).1, by rw [(gv1.S hM).2]; decide⟩)⟩ rfl rfl rfl (List.mem_singleton.mpr rfl) dX6_readAct_2 (fun H locs h_1 eh_1 hW hT hs => ?_)
  replace hM := hM.tr (hs.mono (by decide))
  have f_2 : h_1.2.2 x 0 = (some v1) := by rw [eh_1]; exact hx_pr_at _ _ _ _
  refine lv_aload_n hx hb dX6_readAct_5 rfl (lv_at hl 0 rfl) ?_
  refine lv_iload_n hx hb dX6_readAct_6 rfl (lv_at hl 2 rfl) ?_
  refine hb_if_lt (zx := i2.toInt) (tgt := 16) hx hb rfl dX6_readAct_7 (by decide) (fun c_3 => ?_) (fun c_3 => ?_)
  · skip
    refine lv_iconst (v := 0) hx hb dX6_readAct_16 (by decide) ?_
    refine lv_goto (tgt := 21) hx hb dX6_readAct_17 (by decide) ?_
    refine hx_puti hx hb hts hC_6 hown hW hT (hx_S.rf (M := [(6, 1)])) (gx.S hM) tt_6 1 (by decide) rfl kw_126 ⟨rfl, rfl, rfl⟩ rfl (x := (0 : Int32)) (by decide) rfl rfl rfl (List.mem_singleton.mpr rfl) dX6_readAct_21 (fun H locs h_4 eh_4 hW hT hs => ?_)
    replace f_2 := (hs.o (gx.S hM) trivial rfl).2.trans f_2
    replace hM := hM.tr (hs.mono (by decide))
    have f_5 : h_4.2.1 x 1 = (0 : Int32) := by rw [eh_4]; exact hx_pi_at _ _ _ _
    refine lv_aload_n hx hb dX6_readAct_24 rfl (lv_at hl 0 rfl) ?_
    refine lv_iconst (v := 0) hx hb dX6_readAct_25 (by decide) ?_
    refine hx_puti hx hb hts hC_6 hown hW hT (hx_S.rf (M := [(6, 2)])) (gx.S hM) tt_6 2 (by decide) rfl kw_127 ⟨rfl, rfl, rfl⟩ rfl (x := (0 : Int32)) (by decide) rfl rfl rfl (List.mem_singleton.mpr rfl) dX6_readAct_26 (fun H locs h_6 eh_6 hW hT hs => ?_)
    replace f_2 := (hs.o (gx.S hM) trivial rfl).2.trans f_2
    replace f_5 := (hs.o (gx.S hM) trivial rfl).1.trans f_5
    replace hM := hM.tr (hs.mono (by decide))
    have f_7 : h_6.2.1 x 2 = (0 : Int32) := by rw [eh_6]; exact hx_pi_at _ _ _ _
    refine lv_aload_n hx hb dX6_readAct_29 rfl (lv_at hl 0 rfl) ?_
    refine lv_iconst (v := 0) hx hb dX6_readAct_30 (by decide) ?_
    refine hx_puti hx hb hts hC_6 hown hW hT (hx_S.rf (M := [(6, 3)])) (gx.S hM) tt_6 3 (by decide) rfl kw_128 ⟨rfl, rfl, rfl⟩ rfl (x := (0 : Int32)) (by decide) rfl rfl rfl (List.mem_singleton.mpr rfl) dX6_readAct_31 (fun H locs h_8 eh_8 hW hT hs => ?_)
    replace f_2 := (hs.o (gx.S hM) trivial rfl).2.trans f_2
    replace f_5 := (hs.o (gx.S hM) trivial rfl).1.trans f_5
    replace f_7 := (hs.o (gx.S hM) trivial rfl).1.trans f_7
    replace hM := hM.tr (hs.mono (by decide))
    have f_9 : h_8.2.1 x 3 = (0 : Int32) := by rw [eh_8]; exact hx_pi_at _ _ _ _
    refine lv_aload_n hx hb dX6_readAct_34 rfl (lv_at hl 0 rfl) ?_
    refine lv_iconst (v := 0) hx hb dX6_readAct_35 (by decide) ?_
    refine hx_puti hx hb hts hC_6 hown hW hT (hx_S.rf (M := [(6, 4)])) (gx.S hM) tt_6 4 (by decide) rfl kw_129 ⟨rfl, rfl, rfl⟩ rfl (x := (0 : Int32)) (by decide) rfl rfl rfl (List.mem_singleton.mpr rfl) dX6_readAct_36 (fun H locs h_10 eh_10 hW hT hs => ?_)
    replace f_2 := (hs.o (gx.S hM) trivial rfl).2.trans f_2
    replace f_5 := (hs.o (gx.S hM) trivial rfl).1.trans f_5
    replace f_7 := (hs.o (gx.S hM) trivial rfl).1.trans f_7
    replace f_9 := (hs.o (gx.S hM) trivial rfl).1.trans f_9
    replace hM := hM.tr (hs.mono (by decide))
    have f_11 : h_10.2.1 x 4 = (0 : Int32) := by rw [eh_10]; exact hx_pi_at _ _ _ _
    refine lv_aload_n hx hb dX6_readAct_39 rfl (lv_at hl 0 rfl) ?_
    refine lv_iconst (v := 0) hx hb dX6_readAct_40 (by decide) ?_
    refine hx_puti hx hb hts hC_6 hown hW hT (hx_S.rf (M := [(6, 5)])) (gx.S hM) tt_6 5 (by decide) rfl kw_130 ⟨rfl, rfl, rfl⟩ rfl (x := (0 : Int32)) (by decide) rfl rfl rfl (List.mem_singleton.mpr rfl) dX6_readAct_41 (fun H locs h_12 eh_12 hW hT hs => ?_)
    replace f_2 := (hs.o (gx.S hM) trivial rfl).2.trans f_2
    replace f_5 := (hs.o (gx.S hM) trivial rfl).1.trans f_5
    replace f_7 := (hs.o (gx.S hM) trivial rfl).1.trans f_7
    replace f_9 := (hs.o (gx.S hM) trivial rfl).1.trans f_9
    replace f_11 := (hs.o (gx.S hM) trivial rfl).1.trans f_11
    replace hM := hM.tr (hs.mono (by decide))
    have f_13 : h_12.2.1 x 5 = (0 : Int32) := by rw [eh_12]; exact hx_pi_at _ _ _ _
    refine lv_aload_n hx hb dX6_readAct_44 rfl (lv_at hl 0 rfl) ?_
    refine lv_aload_n hx hb dX6_readAct_45 rfl (lv_at hl 3 rfl) ?_
    refine hx_putr hx hb hts hC_6 hown hW hT (hx_S.rf (M := [(6, 6)])) (gx.S hM) tt_6 6 (by decide) rfl kw_131 ⟨rfl, rfl, rfl⟩ rfl (x := (some v3)) ⟨fun _ z => (by cases z), fun q hq => (by cases hq; exact ⟨(gv3.S hM).1, by rw [(gv3.S hM).2]; decide⟩)⟩ rfl rfl rfl (List.mem_singleton.mpr rfl) dX6_readAct_46 (fun H locs h_14 eh_14 hW hT hs => ?_)
    replace f_2 := (hs.o (gx.S hM) trivial rfl).2.trans f_2
    replace f_5 := (hs.o (gx.S hM) trivial rfl).1.trans f_5
    replace f_7 := (hs.o (gx.S hM) trivial rfl).1.trans f_7
    replace f_9 := (hs.o (gx.S hM) trivial rfl).1.trans f_9
    replace f_11 := (hs.o (gx.S hM) trivial rfl).1.trans f_11
    replace f_13 := (hs.o (gx.S hM) trivial rfl).1.trans f_13
    replace hM := hM.tr (hs.mono (by decide))
    have f_15 : h_14.2.2 x 6 = (some v3) := by rw [eh_14]; exact hx_pr_at _ _ _ _
    refine lv_aload_n hx hb dX6_readAct_49 rfl (lv_at hl 0 rfl) ?_
    refine hx_gov (hx_runV (As := []) (rest := []) ⟨hx, hb, hml, hown, hts⟩ hW (gx.S hM) tt_6 (T := TX6) (N := 7) rfl (t_X6_skipBlanks l dC dI dA L h_14 H.size x hT (gx.S hM) v1 (gv1.S hM) f_2) (cwV 0 hts (hx_gV kw_458 kw_455 kw_457 kw_1 kw_95) rfl rfl rfl (by decide +kernel) ⟨Nat.le_of_ble_eq_true rfl, Nat.le_of_ble_eq_true rfl⟩) rfl hl.1 rfl (Nat.le_of_ble_eq_true rfl) dX6_readAct_50 ⟨Nat.le_of_ble_eq_true rfl, Nat.le_of_ble_eq_true rfl⟩) hW (fun L_16 h_17 H locs p_19 hW => ?_)
    obtain ⟨hT, hs⟩ := p_19
    replace hT : hx_T T_tb L_16 h_17 := hT
    replace hs : hx_S T_tb [(6, 2)] L h_14 L_16 h_17 := hs
    replace f_2 := (hs.o (gx.S hM) trivial rfl).2.trans f_2
    replace f_5 := (hs.o (gx.S hM) trivial rfl).1.trans f_5
    replace f_9 := (hs.o (gx.S hM) trivial rfl).1.trans f_9
    replace f_11 := (hs.o (gx.S hM) trivial rfl).1.trans f_11
    replace f_13 := (hs.o (gx.S hM) trivial rfl).1.trans f_13
    replace f_15 := (hs.o (gx.S hM) trivial rfl).2.trans f_15
    replace hM := hM.tr (hs.mono (by decide))
    refine lv_aload_n hx hb dX6_readAct_53 rfl (lv_at hl 0 rfl) ?_
    refine hx_geti hx hb hts hC_6 hown hW hT (gx.S hM) tt_6 2 (by decide) rfl kw_127 ⟨rfl, rfl, rfl⟩ dX6_readAct_54 (fun x_21 ex_21 lx_21 ux_21 => ?_)
    have fx_21 := ex_21.symm
    refine lv_aload_n hx hb dX6_readAct_57 rfl (lv_at hl 0 rfl) ?_
    refine hk_geti hx hb hts hC_6 hown hW (gx.S hM) tt_6 1 (by decide) rfl kw_126 ⟨rfl, rfl, rfl⟩ f_5 dX6_readAct_58 ?_
    have jn_69 : ∀ (xj_22 : Int32) (ls : Array Slot), 0 ≤ xj_22.toInt → xj_22.toInt ≤ 1 → lv_has ls 6 [(0, .ref x), (1, .ref v1), (2, .int i2), (3, .ref v3)] → W p l e ({ frames := 26, cells := 0, slots := 0, locals := 594 }) s m ([.ref x, .ref v1, .int i2, .ref v3] : List Value).toArray below meth c H locs 0 0 (MQ below (va_Qi (fun (r : Int32) (u : List Nat × hx_h) => (True) ∧ hx_T T_tb u.1 u.2 ∧ hx_S T_tb [(0, 4), (6, 0), (6, 1), (6, 2), (6, 3), (6, 4), (6, 5), (6, 6), (11, 0), (12, 0)] L h u.1 u.2) (hx_E T_tb (P_ty dA) (dC, dI) vwCl (hx_A L sz)) (hx_A L sz)) ([.ref x, .ref v1, .int i2, .ref v3] : List Value).toArray s 0 0 (hx_A L sz)) (F0 m 69 ls [.int xj_22]) := by
      intro xj_22 ls blxj_22 buxj_22 hl
      refine lv_istore (lv' := [(4, .int xj_22), (0, .ref x), (1, .ref v1), (2, .int i2), (3, .ref v3)]) hx hb dX6_readAct_69 hl (by decide) rfl (fun ls hl => ?_)
      refine lv_iconst (v := 0) hx hb dX6_readAct_71 (by decide) ?_
      refine lv_istore (lv' := [(5, .int (0 : Int32)), (4, .int xj_22), (0, .ref x), (1, .ref v1), (2, .int i2), (3, .ref v3)]) hx hb dX6_readAct_72 hl (by decide) rfl (fun ls hl => ?_)
      have loop74 : ∀ (n74 : Nat) (iv74_4 iv74_5 : Int32) (H : Heap) (locs : List Loc) (hL1 : List Nat) (hl1 : hx_h), 0 ≤ iv74_4.toInt → iv74_4.toInt ≤ 1 → 0 ≤ iv74_5.toInt → iv74_5.toInt ≤ 401 → ∀ (ls : Array Slot), 401 - iv74_5.toInt < (n74 : Int) → hx_W T_tb (P_ty dA) (dC, dI) vwCl (hx_A L sz) s.heap hL1 hl1 s H locs → hx_T T_tb hL1 hl1 → hx_S T_tb [(0, 4), (6, 0), (6, 1), (6, 2), (6, 3), (6, 4), (6, 5), (6, 6), (11, 0), (12, 0)] L h hL1 hl1 → hl1.2.2 x 0 = some v1 → hl1.2.1 x 1 = (0 : Int32) → hl1.2.2 x 6 = some v3 → lv_has ls 6 [(5, .int iv74_5), (4, .int iv74_4), (0, .ref x), (1, .ref v1), (2, .int i2), (3, .ref v3)] → W p l e ({ frames := 26, cells := 0, slots := 0, locals := 594 }) s m ([.ref x, .ref v1, .int i2, .ref v3] : List Value).toArray below meth c H locs 0 0 (MQ below (va_Qi (fun (r : Int32) (u : List Nat × hx_h) => (True) ∧ hx_T T_tb u.1 u.2 ∧ hx_S T_tb [(0, 4), (6, 0), (6, 1), (6, 2), (6, 3), (6, 4), (6, 5), (6, 6), (11, 0), (12, 0)] L h u.1 u.2) (hx_E T_tb (P_ty dA) (dC, dI) vwCl (hx_A L sz)) (hx_A L sz)) ([.ref x, .ref v1, .int i2, .ref v3] : List Value).toArray s 0 0 (hx_A L sz)) (F0 m 74 ls []) := by
        intro n74
        induction n74 with
        | zero => intro iv74_4 iv74_5 H locs hL1 hl1 bliv74_4 buiv74_4 bliv74_5 buiv74_5  ls hn74; exfalso; omega
        | succ n74 ih74 =>
          intro iv74_4 iv74_5 H locs hL1 hl1 bliv74_4 buiv74_4 bliv74_5 buiv74_5  ls hn74 hW hT hM f_2 f_5 f_15  hl
          refine lv_iload hx hb dX6_readAct_74 (lv_at hl 0 rfl) ?_
          refine lv_aload_n hx hb dX6_readAct_76 rfl (lv_at hl 2 rfl) ?_
          refine hk_geti hx hb hts hC_6 hown hW (gx.S hM) tt_6 1 (by decide) rfl kw_126 ⟨rfl, rfl, rfl⟩ f_5 dX6_readAct_77 ?_
          refine hb_icmp_gt (zx := iv74_5.toInt) (zy := 0) (tgt := 115) hx hb rfl (by decide) dX6_readAct_80 (by decide) (fun c_23 => ?_) (fun c_23 => ?_)
          · skip
            refine lv_aload_n hx hb dX6_readAct_115 rfl (lv_at hl 2 rfl) ?_
            refine hx_geti hx hb hts hC_6 hown hW hT (gx.S hM) tt_6 3 (by decide) rfl kw_128 ⟨rfl, rfl, rfl⟩ dX6_readAct_116 (fun x_24 ex_24 lx_24 ux_24 => ?_)
            have fx_24 := ex_24.symm
            exact hx_reti hx hb hr hlk hW ⟨trivial, hT, hM⟩ dX6_readAct_119
          · skip
            refine lv_iload hx hb dX6_readAct_83 (lv_at hl 1 rfl) ?_
            refine hb_if_eq (zx := iv74_4.toInt) (tgt := 115) hx hb rfl dX6_readAct_85 (by decide) (fun c_25 => ?_) (fun c_25 => ?_)
            · skip
              refine lv_aload_n hx hb dX6_readAct_115 rfl (lv_at hl 2 rfl) ?_
              refine hx_geti hx hb hts hC_6 hown hW hT (gx.S hM) tt_6 3 (by decide) rfl kw_128 ⟨rfl, rfl, rfl⟩ dX6_readAct_116 (fun x_26 ex_26 lx_26 ux_26 => ?_)
              have fx_26 := ex_26.symm
              exact hx_reti hx hb hr hlk hW ⟨trivial, hT, hM⟩ dX6_readAct_119
            · skip
              refine lv_aload_n hx hb dX6_readAct_88 rfl (lv_at hl 2 rfl) ?_
              refine hx_goi (hx_runVX (As := []) (rest := []) ⟨hx, hb, hml, hown, hts⟩ hW (gx.S hM) tt_6 (T := TX6) (N := 7) rfl (t_X6_readClause l dC dI dA hL1 hl1 H.size b0 x hT (gx.S hM) v1 (gv1.S hM) f_2 v3 (gv3.S hM) f_15) hZ (cwV 0 hts (hx_gV kw_462 kw_459 kw_461 kw_2 kw_95) rfl rfl rfl (by decide +kernel) ⟨Nat.le_of_ble_eq_true rfl, Nat.le_of_ble_eq_true rfl⟩) rfl hl.1 rfl (Nat.le_of_ble_eq_true rfl) dX6_readAct_89 ⟨Nat.le_of_ble_eq_true rfl, Nat.le_of_ble_eq_true rfl⟩) hW (fun r_29 L_27 h_28 H locs p_30 hW => ?_)
              obtain ⟨hr_31, hT, hs⟩ := p_30
              replace hT : hx_T T_tb L_27 h_28 := hT
              replace hs : hx_S T_tb [(0, 4), (6, 2), (6, 3), (6, 4), (6, 5), (11, 0), (12, 0)] hL1 hl1 L_27 h_28 := hs
              replace f_2 := (hs.o (gx.S hM) trivial rfl).2.trans f_2
              replace f_5 := (hs.o (gx.S hM) trivial rfl).1.trans f_5
              replace f_15 := (hs.o (gx.S hM) trivial rfl).2.trans f_15
              replace hM := hM.tr (hs.mono (by decide))
              refine hb_if_eq (zx := r_29.toInt) (tgt := 106) hx hb rfl dX6_readAct_92 (by decide) (fun c_32 => ?_) (fun c_32 => ?_)
              · skip
                refine lv_iconst (v := 0) hx hb dX6_readAct_106 (by decide) ?_
                refine lv_istore (lv' := [(4, .int (0 : Int32)), (5, .int iv74_5), (0, .ref x), (1, .ref v1), (2, .int i2), (3, .ref v3)]) hx hb dX6_readAct_107 hl (by decide) rfl (fun ls hl => ?_)
                obtain ⟨x_33, ex_33⟩ : ∃ y : Int32, y = iv74_5 + Int32.ofInt 1 := ⟨_, rfl⟩
                have rg_34 := i32_r iv74_5
                have zx_33 : x_33.toInt = iv74_5.toInt + (1) := by rw [ex_33]; exact i32_add rfl (by decide) (by omega) (by omega)
                refine lv_iinc (v := x_33) (lv' := [(5, .int x_33), (4, .int (0 : Int32)), (0, .ref x), (1, .ref v1), (2, .int i2), (3, .ref v3)]) hx hb dX6_readAct_109 hl (k := 1) rfl ex_33.symm (by decide) rfl (fun ls hl => ?_)
                refine lv_goto (tgt := 74) hx hb dX6_readAct_112 (by decide) ?_
                have zk_0 : (0 : Int32).toInt = 0 := by decide
                exact ih74 (0 : Int32) x_33 _ _ L_27 h_28 (by decide) (by decide) (by omega) (by omega)  ls (by omega) hW hT hM f_2 f_5 f_15  (lv_sub hl [0, 1, 2, 3, 4, 5] rfl)
              · skip
                refine lv_aload_n hx hb dX6_readAct_95 rfl (lv_at hl 2 rfl) ?_
                refine hx_goi (hx_runV (As := []) (rest := []) ⟨hx, hb, hml, hown, hts⟩ hW (gx.S hM) tt_6 (T := TX6) (N := 7) rfl (t_X6_isAnotherClause l dC dI dA L_27 h_28 H.size x hT (gx.S hM) v1 (gv1.S hM) f_2 v3 (gv3.S hM) f_15) (cwV 0 hts (hx_gV kw_589 kw_586 kw_588 kw_18 kw_95) rfl rfl rfl (by decide +kernel) ⟨Nat.le_of_ble_eq_true rfl, Nat.le_of_ble_eq_true rfl⟩) rfl hl.1 rfl (Nat.le_of_ble_eq_true rfl) dX6_readAct_96 ⟨Nat.le_of_ble_eq_true rfl, Nat.le_of_ble_eq_true rfl⟩) hW (fun r_37 L_35 h_36 H locs p_38 hW => ?_)
                obtain ⟨hr_39, hT, hs⟩ := p_38
                replace hT : hx_T T_tb L_35 h_36 := hT
                replace hs : hx_S T_tb [(6, 2), (6, 3)] L_27 h_28 L_35 h_36 := hs
                replace f_2 := (hs.o (gx.S hM) trivial rfl).2.trans f_2
                replace f_5 := (hs.o (gx.S hM) trivial rfl).1.trans f_5
                replace f_15 := (hs.o (gx.S hM) trivial rfl).2.trans f_15
                replace hM := hM.tr (hs.mono (by decide))
                have jn_107 : ∀ (xj_40 : Int32) (ls : Array Slot), 0 ≤ xj_40.toInt → xj_40.toInt ≤ 1 → lv_has ls 6 [(5, .int iv74_5), (4, .int iv74_4), (0, .ref x), (1, .ref v1), (2, .int i2), (3, .ref v3)] → W p l e ({ frames := 26, cells := 0, slots := 0, locals := 594 }) s m ([.ref x, .ref v1, .int i2, .ref v3] : List Value).toArray below meth c H locs 0 0 (MQ below (va_Qi (fun (r : Int32) (u : List Nat × hx_h) => (True) ∧ hx_T T_tb u.1 u.2 ∧ hx_S T_tb [(0, 4), (6, 0), (6, 1), (6, 2), (6, 3), (6, 4), (6, 5), (6, 6), (11, 0), (12, 0)] L h u.1 u.2) (hx_E T_tb (P_ty dA) (dC, dI) vwCl (hx_A L sz)) (hx_A L sz)) ([.ref x, .ref v1, .int i2, .ref v3] : List Value).toArray s 0 0 (hx_A L sz)) (F0 m 107 ls [.int xj_40]) := by
                  intro xj_40 ls blxj_40 buxj_40 hl
                  refine lv_istore (lv' := [(4, .int xj_40), (5, .int iv74_5), (0, .ref x), (1, .ref v1), (2, .int i2), (3, .ref v3)]) hx hb dX6_readAct_107 hl (by decide) rfl (fun ls hl => ?_)
                  obtain ⟨x_41, ex_41⟩ : ∃ y : Int32, y = iv74_5 + Int32.ofInt 1 := ⟨_, rfl⟩
                  have rg_42 := i32_r iv74_5
                  have zx_41 : x_41.toInt = iv74_5.toInt + (1) := by rw [ex_41]; exact i32_add rfl (by decide) (by omega) (by omega)
                  refine lv_iinc (v := x_41) (lv' := [(5, .int x_41), (4, .int xj_40), (0, .ref x), (1, .ref v1), (2, .int i2), (3, .ref v3)]) hx hb dX6_readAct_109 hl (k := 1) rfl ex_41.symm (by decide) rfl (fun ls hl => ?_)
                  refine lv_goto (tgt := 74) hx hb dX6_readAct_112 (by decide) ?_
                  exact ih74 xj_40 x_41 _ _ L_35 h_36 (by omega) (by omega) (by omega) (by omega)  ls (by omega) hW hT hM f_2 f_5 f_15  (lv_sub hl [0, 1, 2, 3, 4, 5] rfl)
                refine hb_if_eq (zx := r_37.toInt) (tgt := 106) hx hb rfl dX6_readAct_99 (by decide) (fun c_43 => ?_) (fun c_43 => ?_)
                · skip
                  refine lv_iconst (v := 0) hx hb dX6_readAct_106 (by decide) ?_
                  exact jn_107 (0 : Int32) ls (by decide) (by decide) hl
                · skip
                  refine lv_iconst (v := 1) hx hb dX6_readAct_102 (by decide) ?_
                  refine lv_goto (tgt := 107) hx hb dX6_readAct_103 (by decide) ?_
                  exact jn_107 (1 : Int32) ls (by decide) (by decide) hl
      have zk_0 : (0 : Int32).toInt = 0 := by decide
      exact loop74 402 xj_22 (0 : Int32) _ _ L_16 h_17 (by omega) (by omega) (by decide) (by decide)  ls (by omega) hW hT hM f_2 f_5 f_15  hl
    refine hb_icmp_ge (zx := x_21.toInt) (zy := 0) (tgt := 68) hx hb rfl (by decide) dX6_readAct_61 (by decide) (fun c_44 => ?_) (fun c_44 => by exfalso; omega)
    refine lv_iconst (v := 0) hx hb dX6_readAct_68 (by decide) ?_
    exact jn_69 (0 : Int32) ls (by decide) (by decide) hl
  · skip
    refine lv_iload_n hx hb dX6_readAct_10 rfl (lv_at hl 2 rfl) ?_
    refine lv_aload_n hx hb dX6_readAct_11 rfl (lv_at hl 1 rfl) ?_
    refine hx_alen hx hb hW (gv1.S hM) tt_42 rfl dX6_readAct_12 ?_
    refine lv_topi (fun x_45 ex_45 => ?_)
    obtain rfl : x_45 = (400 : Int32) := ex_45.trans (by decide)
    refine hb_icmp_le (zx := i2.toInt) (zy := 400) (tgt := 20) hx hb rfl (by decide) dX6_readAct_13 (by decide) (fun c_46 => ?_) (fun c_46 => ?_)
    · skip
      refine lv_iload_n hx hb dX6_readAct_20 rfl (lv_at hl 2 rfl) ?_
      refine hx_puti hx hb hts hC_6 hown hW hT (hx_S.rf (M := [(6, 1)])) (gx.S hM) tt_6 1 (by decide) rfl kw_126 ⟨rfl, rfl, rfl⟩ rfl (x := i2) ⟨by omega, by omega⟩ rfl rfl rfl (List.mem_singleton.mpr rfl) dX6_readAct_21 (fun H locs h_47 eh_47 hW hT hs => ?_)
      replace f_2 := (hs.o (gx.S hM) trivial rfl).2.trans f_2
      replace hM := hM.tr (hs.mono (by decide))
      have f_48 : h_47.2.1 x 1 = i2 := by rw [eh_47]; exact hx_pi_at _ _ _ _
      refine lv_aload_n hx hb dX6_readAct_24 rfl (lv_at hl 0 rfl) ?_
      refine lv_iconst (v := 0) hx hb dX6_readAct_25 (by decide) ?_
      refine hx_puti hx hb hts hC_6 hown hW hT (hx_S.rf (M := [(6, 2)])) (gx.S hM) tt_6 2 (by decide) rfl kw_127 ⟨rfl, rfl, rfl⟩ rfl (x := (0 : Int32)) (by decide) rfl rfl rfl (List.mem_singleton.mpr rfl) dX6_readAct_26 (fun H locs h_49 eh_49 hW hT hs => ?_)
      replace f_2 := (hs.o (gx.S hM) trivial rfl).2.trans f_2
      replace f_48 := (hs.o (gx.S hM) trivial rfl).1.trans f_48
      replace hM := hM.tr (hs.mono (by decide))
      have f_50 : h_49.2.1 x 2 = (0 : Int32) := by rw [eh_49]; exact hx_pi_at _ _ _ _
      refine lv_aload_n hx hb dX6_readAct_29 rfl (lv_at hl 0 rfl) ?_
      refine lv_iconst (v := 0) hx hb dX6_readAct_30 (by decide) ?_
      refine hx_puti hx hb hts hC_6 hown hW hT (hx_S.rf (M := [(6, 3)])) (gx.S hM) tt_6 3 (by decide) rfl kw_128 ⟨rfl, rfl, rfl⟩ rfl (x := (0 : Int32)) (by decide) rfl rfl rfl (List.mem_singleton.mpr rfl) dX6_readAct_31 (fun H locs h_51 eh_51 hW hT hs => ?_)
      replace f_2 := (hs.o (gx.S hM) trivial rfl).2.trans f_2
      replace f_48 := (hs.o (gx.S hM) trivial rfl).1.trans f_48
      replace f_50 := (hs.o (gx.S hM) trivial rfl).1.trans f_50
      replace hM := hM.tr (hs.mono (by decide))
      have f_52 : h_51.2.1 x 3 = (0 : Int32) := by rw [eh_51]; exact hx_pi_at _ _ _ _
      refine lv_aload_n hx hb dX6_readAct_34 rfl (lv_at hl 0 rfl) ?_
      refine lv_iconst (v := 0) hx hb dX6_readAct_35 (by decide) ?_
      refine hx_puti hx hb hts hC_6 hown hW hT (hx_S.rf (M := [(6, 4)])) (gx.S hM) tt_6 4 (by decide) rfl kw_129 ⟨rfl, rfl, rfl⟩ rfl (x := (0 : Int32)) (by decide) rfl rfl rfl (List.mem_singleton.mpr rfl) dX6_readAct_36 (fun H locs h_53 eh_53 hW hT hs => ?_)
      replace f_2 := (hs.o (gx.S hM) trivial rfl).2.trans f_2
      replace f_48 := (hs.o (gx.S hM) trivial rfl).1.trans f_48
      replace f_50 := (hs.o (gx.S hM) trivial rfl).1.trans f_50
      replace f_52 := (hs.o (gx.S hM) trivial rfl).1.trans f_52
      replace hM := hM.tr (hs.mono (by decide))
      have f_54 : h_53.2.1 x 4 = (0 : Int32) := by rw [eh_53]; exact hx_pi_at _ _ _ _
      refine lv_aload_n hx hb dX6_readAct_39 rfl (lv_at hl 0 rfl) ?_
      refine lv_iconst (v := 0) hx hb dX6_readAct_40 (by decide) ?_
      refine hx_puti hx hb hts hC_6 hown hW hT (hx_S.rf (M := [(6, 5)])) (gx.S hM) tt_6 5 (by decide) rfl kw_130 ⟨rfl, rfl, rfl⟩ rfl (x := (0 : Int32)) (by decide) rfl rfl rfl (List.mem_singleton.mpr rfl) dX6_readAct_41 (fun H locs h_55 eh_55 hW hT hs => ?_)
      replace f_2 := (hs.o (gx.S hM) trivial rfl).2.trans f_2
      replace f_48 := (hs.o (gx.S hM) trivial rfl).1.trans f_48
      replace f_50 := (hs.o (gx.S hM) trivial rfl).1.trans f_50
      replace f_52 := (hs.o (gx.S hM) trivial rfl).1.trans f_52
      replace f_54 := (hs.o (gx.S hM) trivial rfl).1.trans f_54
      replace hM := hM.tr (hs.mono (by decide))
      have f_56 : h_55.2.1 x 5 = (0 : Int32) := by rw [eh_55]; exact hx_pi_at _ _ _ _
      refine lv_aload_n hx hb dX6_readAct_44 rfl (lv_at hl 0 rfl) ?_
      refine lv_aload_n hx hb dX6_readAct_45 rfl (lv_at hl 3 rfl) ?_
      refine hx_putr hx hb hts hC_6 hown hW hT (hx_S.rf (M := [(6, 6)])) (gx.S hM) tt_6 6 (by decide) rfl kw_131 ⟨rfl, rfl, rfl⟩ rfl (x := (some v3)) ⟨fun _ z => (by cases z), fun q hq => (by cases hq; exact ⟨(gv3.S hM).1, by rw [(gv3.S hM).2]; decide⟩)⟩ rfl rfl rfl (List.mem_singleton.mpr rfl) dX6_readAct_46 (fun H locs h_57 eh_57 hW hT hs => ?_)
      replace f_2 := (hs.o (gx.S hM) trivial rfl).2.trans f_2
      replace f_48 := (hs.o (gx.S hM) trivial rfl).1.trans f_48
      replace f_50 := (hs.o (gx.S hM) trivial rfl).1.trans f_50
      replace f_52 := (hs.o (gx.S hM) trivial rfl).1.trans f_52
      replace f_54 := (hs.o (gx.S hM) trivial rfl).1.trans f_54
      replace f_56 := (hs.o (gx.S hM) trivial rfl).1.trans f_56
      replace hM := hM.tr (hs.mono (by decide))
      have f_58 : h_57.2.2 x 6 = (some v3) := by rw [eh_57]; exact hx_pr_at _ _ _ _
      refine lv_aload_n hx hb dX6_readAct_49 rfl (lv_at hl 0 rfl) ?_
      refine hx_gov (hx_runV (As := []) (rest := []) ⟨hx, hb, hml, hown, hts⟩ hW (gx.S hM) tt_6 (T := TX6) (N := 7) rfl (t_X6_skipBlanks l dC dI dA L h_57 H.size x hT (gx.S hM) v1 (gv1.S hM) f_2) (cwV 0 hts (hx_gV kw_458 kw_455 kw_457 kw_1 kw_95) rfl rfl rfl (by decide +kernel) ⟨Nat.le_of_ble_eq_true rfl, Nat.le_of_ble_eq_true rfl⟩) rfl hl.1 rfl (Nat.le_of_ble_eq_true rfl) dX6_readAct_50 ⟨Nat.le_of_ble_eq_true rfl, Nat.le_of_ble_eq_true rfl⟩) hW (fun L_59 h_60 H locs p_62 hW => ?_)
      obtain ⟨hT, hs⟩ := p_62
      replace hT : hx_T T_tb L_59 h_60 := hT
      replace hs : hx_S T_tb [(6, 2)] L h_57 L_59 h_60 := hs
      replace f_2 := (hs.o (gx.S hM) trivial rfl).2.trans f_2
      replace f_48 := (hs.o (gx.S hM) trivial rfl).1.trans f_48
      replace f_52 := (hs.o (gx.S hM) trivial rfl).1.trans f_52
      replace f_54 := (hs.o (gx.S hM) trivial rfl).1.trans f_54
      replace f_56 := (hs.o (gx.S hM) trivial rfl).1.trans f_56
      replace f_58 := (hs.o (gx.S hM) trivial rfl).2.trans f_58
      replace hM := hM.tr (hs.mono (by decide))
      refine lv_aload_n hx hb dX6_readAct_53 rfl (lv_at hl 0 rfl) ?_
      refine hx_geti hx hb hts hC_6 hown hW hT (gx.S hM) tt_6 2 (by decide) rfl kw_127 ⟨rfl, rfl, rfl⟩ dX6_readAct_54 (fun x_64 ex_64 lx_64 ux_64 => ?_)
      have fx_64 := ex_64.symm
      refine lv_aload_n hx hb dX6_readAct_57 rfl (lv_at hl 0 rfl) ?_
      refine hk_geti hx hb hts hC_6 hown hW (gx.S hM) tt_6 1 (by decide) rfl kw_126 ⟨rfl, rfl, rfl⟩ f_48 dX6_readAct_58 ?_
      have jn_69 : ∀ (xj_65 : Int32) (ls : Array Slot), 0 ≤ xj_65.toInt → xj_65.toInt ≤ 1 → lv_has ls 6 [(0, .ref x), (1, .ref v1), (2, .int i2), (3, .ref v3)] → W p l e ({ frames := 26, cells := 0, slots := 0, locals := 594 }) s m ([.ref x, .ref v1, .int i2, .ref v3] : List Value).toArray below meth c H locs 0 0 (MQ below (va_Qi (fun (r : Int32) (u : List Nat × hx_h) => (True) ∧ hx_T T_tb u.1 u.2 ∧ hx_S T_tb [(0, 4), (6, 0), (6, 1), (6, 2), (6, 3), (6, 4), (6, 5), (6, 6), (11, 0), (12, 0)] L h u.1 u.2) (hx_E T_tb (P_ty dA) (dC, dI) vwCl (hx_A L sz)) (hx_A L sz)) ([.ref x, .ref v1, .int i2, .ref v3] : List Value).toArray s 0 0 (hx_A L sz)) (F0 m 69 ls [.int xj_65]) := by
        intro xj_65 ls blxj_65 buxj_65 hl
        refine lv_istore (lv' := [(4, .int xj_65), (0, .ref x), (1, .ref v1), (2, .int i2), (3, .ref v3)]) hx hb dX6_readAct_69 hl (by decide) rfl (fun ls hl => ?_)
        refine lv_iconst (v := 0) hx hb dX6_readAct_71 (by decide) ?_
        refine lv_istore (lv' := [(5, .int (0 : Int32)), (4, .int xj_65), (0, .ref x), (1, .ref v1), (2, .int i2), (3, .ref v3)]) hx hb dX6_readAct_72 hl (by decide) rfl (fun ls hl => ?_)
        have loop74 : ∀ (n74 : Nat) (iv74_4 iv74_5 : Int32) (H : Heap) (locs : List Loc) (hL1 : List Nat) (hl1 : hx_h), 0 ≤ iv74_4.toInt → iv74_4.toInt ≤ 1 → 0 ≤ iv74_5.toInt → iv74_5.toInt ≤ 401 → ∀ (ls : Array Slot), 401 - iv74_5.toInt < (n74 : Int) → hx_W T_tb (P_ty dA) (dC, dI) vwCl (hx_A L sz) s.heap hL1 hl1 s H locs → hx_T T_tb hL1 hl1 → hx_S T_tb [(0, 4), (6, 0), (6, 1), (6, 2), (6, 3), (6, 4), (6, 5), (6, 6), (11, 0), (12, 0)] L h hL1 hl1 → hl1.2.2 x 0 = some v1 → hl1.2.1 x 1 = i2 → hl1.2.2 x 6 = some v3 → lv_has ls 6 [(5, .int iv74_5), (4, .int iv74_4), (0, .ref x), (1, .ref v1), (2, .int i2), (3, .ref v3)] → W p l e ({ frames := 26, cells := 0, slots := 0, locals := 594 }) s m ([.ref x, .ref v1, .int i2, .ref v3] : List Value).toArray below meth c H locs 0 0 (MQ below (va_Qi (fun (r : Int32) (u : List Nat × hx_h) => (True) ∧ hx_T T_tb u.1 u.2 ∧ hx_S T_tb [(0, 4), (6, 0), (6, 1), (6, 2), (6, 3), (6, 4), (6, 5), (6, 6), (11, 0), (12, 0)] L h u.1 u.2) (hx_E T_tb (P_ty dA) (dC, dI) vwCl (hx_A L sz)) (hx_A L sz)) ([.ref x, .ref v1, .int i2, .ref v3] : List Value).toArray s 0 0 (hx_A L sz)) (F0 m 74 ls []) := by
          intro n74
          induction n74 with
          | zero => intro iv74_4 iv74_5 H locs hL1 hl1 bliv74_4 buiv74_4 bliv74_5 buiv74_5  ls hn74; exfalso; omega
          | succ n74 ih74 =>
            intro iv74_4 iv74_5 H locs hL1 hl1 bliv74_4 buiv74_4 bliv74_5 buiv74_5  ls hn74 hW hT hM f_2 f_48 f_58  hl
            refine lv_iload hx hb dX6_readAct_74 (lv_at hl 0 rfl) ?_
            refine lv_aload_n hx hb dX6_readAct_76 rfl (lv_at hl 2 rfl) ?_
            refine hk_geti hx hb hts hC_6 hown hW (gx.S hM) tt_6 1 (by decide) rfl kw_126 ⟨rfl, rfl, rfl⟩ f_48 dX6_readAct_77 ?_
            refine hb_icmp_gt (zx := iv74_5.toInt) (zy := i2.toInt) (tgt := 115) hx hb rfl rfl dX6_readAct_80 (by decide) (fun c_66 => ?_) (fun c_66 => ?_)
            · skip
              refine lv_aload_n hx hb dX6_readAct_115 rfl (lv_at hl 2 rfl) ?_
              refine hx_geti hx hb hts hC_6 hown hW hT (gx.S hM) tt_6 3 (by decide) rfl kw_128 ⟨rfl, rfl, rfl⟩ dX6_readAct_116 (fun x_67 ex_67 lx_67 ux_67 => ?_)
              have fx_67 := ex_67.symm
              exact hx_reti hx hb hr hlk hW ⟨trivial, hT, hM⟩ dX6_readAct_119
            · skip
              refine lv_iload hx hb dX6_readAct_83 (lv_at hl 1 rfl) ?_
              refine hb_if_eq (zx := iv74_4.toInt) (tgt := 115) hx hb rfl dX6_readAct_85 (by decide) (fun c_68 => ?_) (fun c_68 => ?_)
              · skip
                refine lv_aload_n hx hb dX6_readAct_115 rfl (lv_at hl 2 rfl) ?_
                refine hx_geti hx hb hts hC_6 hown hW hT (gx.S hM) tt_6 3 (by decide) rfl kw_128 ⟨rfl, rfl, rfl⟩ dX6_readAct_116 (fun x_69 ex_69 lx_69 ux_69 => ?_)
                have fx_69 := ex_69.symm
                exact hx_reti hx hb hr hlk hW ⟨trivial, hT, hM⟩ dX6_readAct_119
              · skip
                refine lv_aload_n hx hb dX6_readAct_88 rfl (lv_at hl 2 rfl) ?_
                refine hx_goi (hx_runVX (As := []) (rest := []) ⟨hx, hb, hml, hown, hts⟩ hW (gx.S hM) tt_6 (T := TX6) (N := 7) rfl (t_X6_readClause l dC dI dA hL1 hl1 H.size b0 x hT (gx.S hM) v1 (gv1.S hM) f_2 v3 (gv3.S hM) f_58) hZ (cwV 0 hts (hx_gV kw_462 kw_459 kw_461 kw_2 kw_95) rfl rfl rfl (by decide +kernel) ⟨Nat.le_of_ble_eq_true rfl, Nat.le_of_ble_eq_true rfl⟩) rfl hl.1 rfl (Nat.le_of_ble_eq_true rfl) dX6_readAct_89 ⟨Nat.le_of_ble_eq_true rfl, Nat.le_of_ble_eq_true rfl⟩) hW (fun r_72 L_70 h_71 H locs p_73 hW => ?_)
                obtain ⟨hr_74, hT, hs⟩ := p_73
                replace hT : hx_T T_tb L_70 h_71 := hT
                replace hs : hx_S T_tb [(0, 4), (6, 2), (6, 3), (6, 4), (6, 5), (11, 0), (12, 0)] hL1 hl1 L_70 h_71 := hs
                replace f_2 := (hs.o (gx.S hM) trivial rfl).2.trans f_2
                replace f_48 := (hs.o (gx.S hM) trivial rfl).1.trans f_48
                replace f_58 := (hs.o (gx.S hM) trivial rfl).2.trans f_58
                replace hM := hM.tr (hs.mono (by decide))
                refine hb_if_eq (zx := r_72.toInt) (tgt := 106) hx hb rfl dX6_readAct_92 (by decide) (fun c_75 => ?_) (fun c_75 => ?_)
                · skip
                  refine lv_iconst (v := 0) hx hb dX6_readAct_106 (by decide) ?_
                  refine lv_istore (lv' := [(4, .int (0 : Int32)), (5, .int iv74_5), (0, .ref x), (1, .ref v1), (2, .int i2), (3, .ref v3)]) hx hb dX6_readAct_107 hl (by decide) rfl (fun ls hl => ?_)
                  obtain ⟨x_76, ex_76⟩ : ∃ y : Int32, y = iv74_5 + Int32.ofInt 1 := ⟨_, rfl⟩
                  have rg_77 := i32_r iv74_5
                  have zx_76 : x_76.toInt = iv74_5.toInt + (1) := by rw [ex_76]; exact i32_add rfl (by decide) (by omega) (by omega)
                  refine lv_iinc (v := x_76) (lv' := [(5, .int x_76), (4, .int (0 : Int32)), (0, .ref x), (1, .ref v1), (2, .int i2), (3, .ref v3)]) hx hb dX6_readAct_109 hl (k := 1) rfl ex_76.symm (by decide) rfl (fun ls hl => ?_)
                  refine lv_goto (tgt := 74) hx hb dX6_readAct_112 (by decide) ?_
                  have zk_0 : (0 : Int32).toInt = 0 := by decide
                  exact ih74 (0 : Int32) x_76 _ _ L_70 h_71 (by decide) (by decide) (by omega) (by omega)  ls (by omega) hW hT hM f_2 f_48 f_58  (lv_sub hl [0, 1, 2, 3, 4, 5] rfl)
                · skip
                  refine lv_aload_n hx hb dX6_readAct_95 rfl (lv_at hl 2 rfl) ?_
                  refine hx_goi (hx_runV (As := []) (rest := []) ⟨hx, hb, hml, hown, hts⟩ hW (gx.S hM) tt_6 (T := TX6) (N := 7) rfl (t_X6_isAnotherClause l dC dI dA L_70 h_71 H.size x hT (gx.S hM) v1 (gv1.S hM) f_2 v3 (gv3.S hM) f_58) (cwV 0 hts (hx_gV kw_589 kw_586 kw_588 kw_18 kw_95) rfl rfl rfl (by decide +kernel) ⟨Nat.le_of_ble_eq_true rfl, Nat.le_of_ble_eq_true rfl⟩) rfl hl.1 rfl (Nat.le_of_ble_eq_true rfl) dX6_readAct_96 ⟨Nat.le_of_ble_eq_true rfl, Nat.le_of_ble_eq_true rfl⟩) hW (fun r_80 L_78 h_79 H locs p_81 hW => ?_)
                  obtain ⟨hr_82, hT, hs⟩ := p_81
                  replace hT : hx_T T_tb L_78 h_79 := hT
                  replace hs : hx_S T_tb [(6, 2), (6, 3)] L_70 h_71 L_78 h_79 := hs
                  replace f_2 := (hs.o (gx.S hM) trivial rfl).2.trans f_2
                  replace f_48 := (hs.o (gx.S hM) trivial rfl).1.trans f_48
                  replace f_58 := (hs.o (gx.S hM) trivial rfl).2.trans f_58
                  replace hM := hM.tr (hs.mono (by decide))
                  have jn_107 : ∀ (xj_83 : Int32) (ls : Array Slot), 0 ≤ xj_83.toInt → xj_83.toInt ≤ 1 → lv_has ls 6 [(5, .int iv74_5), (4, .int iv74_4), (0, .ref x), (1, .ref v1), (2, .int i2), (3, .ref v3)] → W p l e ({ frames := 26, cells := 0, slots := 0, locals := 594 }) s m ([.ref x, .ref v1, .int i2, .ref v3] : List Value).toArray below meth c H locs 0 0 (MQ below (va_Qi (fun (r : Int32) (u : List Nat × hx_h) => (True) ∧ hx_T T_tb u.1 u.2 ∧ hx_S T_tb [(0, 4), (6, 0), (6, 1), (6, 2), (6, 3), (6, 4), (6, 5), (6, 6), (11, 0), (12, 0)] L h u.1 u.2) (hx_E T_tb (P_ty dA) (dC, dI) vwCl (hx_A L sz)) (hx_A L sz)) ([.ref x, .ref v1, .int i2, .ref v3] : List Value).toArray s 0 0 (hx_A L sz)) (F0 m 107 ls [.int xj_83]) := by
                    intro xj_83 ls blxj_83 buxj_83 hl
                    refine lv_istore (lv' := [(4, .int xj_83), (5, .int iv74_5), (0, .ref x), (1, .ref v1), (2, .int i2), (3, .ref v3)]) hx hb dX6_readAct_107 hl (by decide) rfl (fun ls hl => ?_)
                    obtain ⟨x_84, ex_84⟩ : ∃ y : Int32, y = iv74_5 + Int32.ofInt 1 := ⟨_, rfl⟩
                    have rg_85 := i32_r iv74_5
                    have zx_84 : x_84.toInt = iv74_5.toInt + (1) := by rw [ex_84]; exact i32_add rfl (by decide) (by omega) (by omega)
                    refine lv_iinc (v := x_84) (lv' := [(5, .int x_84), (4, .int xj_83), (0, .ref x), (1, .ref v1), (2, .int i2), (3, .ref v3)]) hx hb dX6_readAct_109 hl (k := 1) rfl ex_84.symm (by decide) rfl (fun ls hl => ?_)
                    refine lv_goto (tgt := 74) hx hb dX6_readAct_112 (by decide) ?_
                    exact ih74 xj_83 x_84 _ _ L_78 h_79 (by omega) (by omega) (by omega) (by omega)  ls (by omega) hW hT hM f_2 f_48 f_58  (lv_sub hl [0, 1, 2, 3, 4, 5] rfl)
                  refine hb_if_eq (zx := r_80.toInt) (tgt := 106) hx hb rfl dX6_readAct_99 (by decide) (fun c_86 => ?_) (fun c_86 => ?_)
                  · skip
                    refine lv_iconst (v := 0) hx hb dX6_readAct_106 (by decide) ?_
                    exact jn_107 (0 : Int32) ls (by decide) (by decide) hl
                  · skip
                    refine lv_iconst (v := 1) hx hb dX6_readAct_102 (by decide) ?_
                    refine lv_goto (tgt := 107) hx hb dX6_readAct_103 (by decide) ?_
                    exact jn_107 (1 : Int32) ls (by decide) (by decide) hl
        have zk_0 : (0 : Int32).toInt = 0 := by decide
        exact loop74 402 xj_65 (0 : Int32) _ _ L_59 h_60 (by omega) (by omega) (by decide) (by decide)  ls (by omega) hW hT hM f_2 f_48 f_58  hl
      refine hb_icmp_ge (zx := x_64.toInt) (zy := i2.toInt) (tgt := 68) hx hb rfl rfl dX6_readAct_61 (by decide) (fun c_87 => ?_) (fun c_87 => ?_)
      · skip
        refine lv_iconst (v := 0) hx hb dX6_readAct_68 (by decide) ?_
        exact jn_69 (0 : Int32) ls (by decide) (by decide) hl
      · skip
        refine lv_iconst (v := 1) hx hb dX6_readAct_64 (by decide) ?_
        refine lv_goto (tgt := 69) hx hb dX6_readAct_65 (by decide) ?_
        exact jn_69 (1 : Int32) ls (by decide) (by decide) hl
    · skip
      refine lv_iconst (v := 0) hx hb dX6_readAct_16 (by decide) ?_
      refine lv_goto (tgt := 21) hx hb dX6_readAct_17 (by decide) ?_
      refine hx_puti hx hb hts hC_6 hown hW hT (hx_S.rf (M := [(6, 1)])) (gx.S hM) tt_6 1 (by decide) rfl kw_126 ⟨rfl, rfl, rfl⟩ rfl (x := (0 : Int32)) (by decide) rfl rfl rfl (List.mem_singleton.mpr rfl) dX6_readAct_21 (fun H locs h_88 eh_88 hW hT hs => ?_)
      replace f_2 := (hs.o (gx.S hM) trivial rfl).2.trans f_2
      replace hM := hM.tr (hs.mono (by decide))
      have f_89 : h_88.2.1 x 1 = (0 : Int32) := by rw [eh_88]; exact hx_pi_at _ _ _ _
      refine lv_aload_n hx hb dX6_readAct_24 rfl (lv_at hl 0 rfl) ?_
      refine lv_iconst (v := 0) hx hb dX6_readAct_25 (by decide) ?_
      refine hx_puti hx hb hts hC_6 hown hW hT (hx_S.rf (M := [(6, 2)])) (gx.S hM) tt_6 2 (by decide) rfl kw_127 ⟨rfl, rfl, rfl⟩ rfl (x := (0 : Int32)) (by decide) rfl rfl rfl (List.mem_singleton.mpr rfl) dX6_readAct_26 (fun H locs h_90 eh_90 hW hT hs => ?_)
      replace f_2 := (hs.o (gx.S hM) trivial rfl).2.trans f_2
      replace f_89 := (hs.o (gx.S hM) trivial rfl).1.trans f_89
      replace hM := hM.tr (hs.mono (by decide))
      have f_91 : h_90.2.1 x 2 = (0 : Int32) := by rw [eh_90]; exact hx_pi_at _ _ _ _
      refine lv_aload_n hx hb dX6_readAct_29 rfl (lv_at hl 0 rfl) ?_
      refine lv_iconst (v := 0) hx hb dX6_readAct_30 (by decide) ?_
      refine hx_puti hx hb hts hC_6 hown hW hT (hx_S.rf (M := [(6, 3)])) (gx.S hM) tt_6 3 (by decide) rfl kw_128 ⟨rfl, rfl, rfl⟩ rfl (x := (0 : Int32)) (by decide) rfl rfl rfl (List.mem_singleton.mpr rfl) dX6_readAct_31 (fun H locs h_92 eh_92 hW hT hs => ?_)
      replace f_2 := (hs.o (gx.S hM) trivial rfl).2.trans f_2
      replace f_89 := (hs.o (gx.S hM) trivial rfl).1.trans f_89
      replace f_91 := (hs.o (gx.S hM) trivial rfl).1.trans f_91
      replace hM := hM.tr (hs.mono (by decide))
      have f_93 : h_92.2.1 x 3 = (0 : Int32) := by rw [eh_92]; exact hx_pi_at _ _ _ _
      refine lv_aload_n hx hb dX6_readAct_34 rfl (lv_at hl 0 rfl) ?_
      refine lv_iconst (v := 0) hx hb dX6_readAct_35 (by decide) ?_
      refine hx_puti hx hb hts hC_6 hown hW hT (hx_S.rf (M := [(6, 4)])) (gx.S hM) tt_6 4 (by decide) rfl kw_129 ⟨rfl, rfl, rfl⟩ rfl (x := (0 : Int32)) (by decide) rfl rfl rfl (List.mem_singleton.mpr rfl) dX6_readAct_36 (fun H locs h_94 eh_94 hW hT hs => ?_)
      replace f_2 := (hs.o (gx.S hM) trivial rfl).2.trans f_2
      replace f_89 := (hs.o (gx.S hM) trivial rfl).1.trans f_89
      replace f_91 := (hs.o (gx.S hM) trivial rfl).1.trans f_91
      replace f_93 := (hs.o (gx.S hM) trivial rfl).1.trans f_93
      replace hM := hM.tr (hs.mono (by decide))
      have f_95 : h_94.2.1 x 4 = (0 : Int32) := by rw [eh_94]; exact hx_pi_at _ _ _ _
      refine lv_aload_n hx hb dX6_readAct_39 rfl (lv_at hl 0 rfl) ?_
      refine lv_iconst (v := 0) hx hb dX6_readAct_40 (by decide) ?_
      refine hx_puti hx hb hts hC_6 hown hW hT (hx_S.rf (M := [(6, 5)])) (gx.S hM) tt_6 5 (by decide) rfl kw_130 ⟨rfl, rfl, rfl⟩ rfl (x := (0 : Int32)) (by decide) rfl rfl rfl (List.mem_singleton.mpr rfl) dX6_readAct_41 (fun H locs h_96 eh_96 hW hT hs => ?_)
      replace f_2 := (hs.o (gx.S hM) trivial rfl).2.trans f_2
      replace f_89 := (hs.o (gx.S hM) trivial rfl).1.trans f_89
      replace f_91 := (hs.o (gx.S hM) trivial rfl).1.trans f_91
      replace f_93 := (hs.o (gx.S hM) trivial rfl).1.trans f_93
      replace f_95 := (hs.o (gx.S hM) trivial rfl).1.trans f_95
      replace hM := hM.tr (hs.mono (by decide))
      have f_97 : h_96.2.1 x 5 = (0 : Int32) := by rw [eh_96]; exact hx_pi_at _ _ _ _
      refine lv_aload_n hx hb dX6_readAct_44 rfl (lv_at hl 0 rfl) ?_
      refine lv_aload_n hx hb dX6_readAct_45 rfl (lv_at hl 3 rfl) ?_
      refine hx_putr hx hb hts hC_6 hown hW hT (hx_S.rf (M := [(6, 6)])) (gx.S hM) tt_6 6 (by decide) rfl kw_131 ⟨rfl, rfl, rfl⟩ rfl (x := (some v3)) ⟨fun _ z => (by cases z), fun q hq => (by cases hq; exact ⟨(gv3.S hM).1, by rw [(gv3.S hM).2]; decide⟩)⟩ rfl rfl rfl (List.mem_singleton.mpr rfl) dX6_readAct_46 (fun H locs h_98 eh_98 hW hT hs => ?_)
      replace f_2 := (hs.o (gx.S hM) trivial rfl).2.trans f_2
      replace f_89 := (hs.o (gx.S hM) trivial rfl).1.trans f_89
      replace f_91 := (hs.o (gx.S hM) trivial rfl).1.trans f_91
      replace f_93 := (hs.o (gx.S hM) trivial rfl).1.trans f_93
      replace f_95 := (hs.o (gx.S hM) trivial rfl).1.trans f_95
      replace f_97 := (hs.o (gx.S hM) trivial rfl).1.trans f_97
      replace hM := hM.tr (hs.mono (by decide))
      have f_99 : h_98.2.2 x 6 = (some v3) := by rw [eh_98]; exact hx_pr_at _ _ _ _
      refine lv_aload_n hx hb dX6_readAct_49 rfl (lv_at hl 0 rfl) ?_
      refine hx_gov (hx_runV (As := []) (rest := []) ⟨hx, hb, hml, hown, hts⟩ hW (gx.S hM) tt_6 (T := TX6) (N := 7) rfl (t_X6_skipBlanks l dC dI dA L h_98 H.size x hT (gx.S hM) v1 (gv1.S hM) f_2) (cwV 0 hts (hx_gV kw_458 kw_455 kw_457 kw_1 kw_95) rfl rfl rfl (by decide +kernel) ⟨Nat.le_of_ble_eq_true rfl, Nat.le_of_ble_eq_true rfl⟩) rfl hl.1 rfl (Nat.le_of_ble_eq_true rfl) dX6_readAct_50 ⟨Nat.le_of_ble_eq_true rfl, Nat.le_of_ble_eq_true rfl⟩) hW (fun L_100 h_101 H locs p_103 hW => ?_)
      obtain ⟨hT, hs⟩ := p_103
      replace hT : hx_T T_tb L_100 h_101 := hT
      replace hs : hx_S T_tb [(6, 2)] L h_98 L_100 h_101 := hs
      replace f_2 := (hs.o (gx.S hM) trivial rfl).2.trans f_2
      replace f_89 := (hs.o (gx.S hM) trivial rfl).1.trans f_89
      replace f_93 := (hs.o (gx.S hM) trivial rfl).1.trans f_93
      replace f_95 := (hs.o (gx.S hM) trivial rfl).1.trans f_95
      replace f_97 := (hs.o (gx.S hM) trivial rfl).1.trans f_97
      replace f_99 := (hs.o (gx.S hM) trivial rfl).2.trans f_99
      replace hM := hM.tr (hs.mono (by decide))
      refine lv_aload_n hx hb dX6_readAct_53 rfl (lv_at hl 0 rfl) ?_
      refine hx_geti hx hb hts hC_6 hown hW hT (gx.S hM) tt_6 2 (by decide) rfl kw_127 ⟨rfl, rfl, rfl⟩ dX6_readAct_54 (fun x_105 ex_105 lx_105 ux_105 => ?_)
      have fx_105 := ex_105.symm
      refine lv_aload_n hx hb dX6_readAct_57 rfl (lv_at hl 0 rfl) ?_
      refine hk_geti hx hb hts hC_6 hown hW (gx.S hM) tt_6 1 (by decide) rfl kw_126 ⟨rfl, rfl, rfl⟩ f_89 dX6_readAct_58 ?_
      have jn_69 : ∀ (xj_106 : Int32) (ls : Array Slot), 0 ≤ xj_106.toInt → xj_106.toInt ≤ 1 → lv_has ls 6 [(0, .ref x), (1, .ref v1), (2, .int i2), (3, .ref v3)] → W p l e ({ frames := 26, cells := 0, slots := 0, locals := 594 }) s m ([.ref x, .ref v1, .int i2, .ref v3] : List Value).toArray below meth c H locs 0 0 (MQ below (va_Qi (fun (r : Int32) (u : List Nat × hx_h) => (True) ∧ hx_T T_tb u.1 u.2 ∧ hx_S T_tb [(0, 4), (6, 0), (6, 1), (6, 2), (6, 3), (6, 4), (6, 5), (6, 6), (11, 0), (12, 0)] L h u.1 u.2) (hx_E T_tb (P_ty dA) (dC, dI) vwCl (hx_A L sz)) (hx_A L sz)) ([.ref x, .ref v1, .int i2, .ref v3] : List Value).toArray s 0 0 (hx_A L sz)) (F0 m 69 ls [.int xj_106]) := by
        intro xj_106 ls blxj_106 buxj_106 hl
        refine lv_istore (lv' := [(4, .int xj_106), (0, .ref x), (1, .ref v1), (2, .int i2), (3, .ref v3)]) hx hb dX6_readAct_69 hl (by decide) rfl (fun ls hl => ?_)
        refine lv_iconst (v := 0) hx hb dX6_readAct_71 (by decide) ?_
        refine lv_istore (lv' := [(5, .int (0 : Int32)), (4, .int xj_106), (0, .ref x), (1, .ref v1), (2, .int i2), (3, .ref v3)]) hx hb dX6_readAct_72 hl (by decide) rfl (fun ls hl => ?_)
        have loop74 : ∀ (n74 : Nat) (iv74_4 iv74_5 : Int32) (H : Heap) (locs : List Loc) (hL1 : List Nat) (hl1 : hx_h), 0 ≤ iv74_4.toInt → iv74_4.toInt ≤ 1 → 0 ≤ iv74_5.toInt → iv74_5.toInt ≤ 401 → ∀ (ls : Array Slot), 401 - iv74_5.toInt < (n74 : Int) → hx_W T_tb (P_ty dA) (dC, dI) vwCl (hx_A L sz) s.heap hL1 hl1 s H locs → hx_T T_tb hL1 hl1 → hx_S T_tb [(0, 4), (6, 0), (6, 1), (6, 2), (6, 3), (6, 4), (6, 5), (6, 6), (11, 0), (12, 0)] L h hL1 hl1 → hl1.2.2 x 0 = some v1 → hl1.2.1 x 1 = (0 : Int32) → hl1.2.2 x 6 = some v3 → lv_has ls 6 [(5, .int iv74_5), (4, .int iv74_4), (0, .ref x), (1, .ref v1), (2, .int i2), (3, .ref v3)] → W p l e ({ frames := 26, cells := 0, slots := 0, locals := 594 }) s m ([.ref x, .ref v1, .int i2, .ref v3] : List Value).toArray below meth c H locs 0 0 (MQ below (va_Qi (fun (r : Int32) (u : List Nat × hx_h) => (True) ∧ hx_T T_tb u.1 u.2 ∧ hx_S T_tb [(0, 4), (6, 0), (6, 1), (6, 2), (6, 3), (6, 4), (6, 5), (6, 6), (11, 0), (12, 0)] L h u.1 u.2) (hx_E T_tb (P_ty dA) (dC, dI) vwCl (hx_A L sz)) (hx_A L sz)) ([.ref x, .ref v1, .int i2, .ref v3] : List Value).toArray s 0 0 (hx_A L sz)) (F0 m 74 ls []) := by
          intro n74
          induction n74 with
          | zero => intro iv74_4 iv74_5 H locs hL1 hl1 bliv74_4 buiv74_4 bliv74_5 buiv74_5  ls hn74; exfalso; omega
          | succ n74 ih74 =>
            intro iv74_4 iv74_5 H locs hL1 hl1 bliv74_4 buiv74_4 bliv74_5 buiv74_5  ls hn74 hW hT hM f_2 f_89 f_99  hl
            refine lv_iload hx hb dX6_readAct_74 (lv_at hl 0 rfl) ?_
            refine lv_aload_n hx hb dX6_readAct_76 rfl (lv_at hl 2 rfl) ?_
            refine hk_geti hx hb hts hC_6 hown hW (gx.S hM) tt_6 1 (by decide) rfl kw_126 ⟨rfl, rfl, rfl⟩ f_89 dX6_readAct_77 ?_
            refine hb_icmp_gt (zx := iv74_5.toInt) (zy := 0) (tgt := 115) hx hb rfl (by decide) dX6_readAct_80 (by decide) (fun c_107 => ?_) (fun c_107 => ?_)
            · skip
              refine lv_aload_n hx hb dX6_readAct_115 rfl (lv_at hl 2 rfl) ?_
              refine hx_geti hx hb hts hC_6 hown hW hT (gx.S hM) tt_6 3 (by decide) rfl kw_128 ⟨rfl, rfl, rfl⟩ dX6_readAct_116 (fun x_108 ex_108 lx_108 ux_108 => ?_)
              have fx_108 := ex_108.symm
              exact hx_reti hx hb hr hlk hW ⟨trivial, hT, hM⟩ dX6_readAct_119
            · skip
              refine lv_iload hx hb dX6_readAct_83 (lv_at hl 1 rfl) ?_
              refine hb_if_eq (zx := iv74_4.toInt) (tgt := 115) hx hb rfl dX6_readAct_85 (by decide) (fun c_109 => ?_) (fun c_109 => ?_)
              · skip
                refine lv_aload_n hx hb dX6_readAct_115 rfl (lv_at hl 2 rfl) ?_
                refine hx_geti hx hb hts hC_6 hown hW hT (gx.S hM) tt_6 3 (by decide) rfl kw_128 ⟨rfl, rfl, rfl⟩ dX6_readAct_116 (fun x_110 ex_110 lx_110 ux_110 => ?_)
                have fx_110 := ex_110.symm
                exact hx_reti hx hb hr hlk hW ⟨trivial, hT, hM⟩ dX6_readAct_119
              · skip
                refine lv_aload_n hx hb dX6_readAct_88 rfl (lv_at hl 2 rfl) ?_
                refine hx_goi (hx_runVX (As := []) (rest := []) ⟨hx, hb, hml, hown, hts⟩ hW (gx.S hM) tt_6 (T := TX6) (N := 7) rfl (t_X6_readClause l dC dI dA hL1 hl1 H.size b0 x hT (gx.S hM) v1 (gv1.S hM) f_2 v3 (gv3.S hM) f_99) hZ (cwV 0 hts (hx_gV kw_462 kw_459 kw_461 kw_2 kw_95) rfl rfl rfl (by decide +kernel) ⟨Nat.le_of_ble_eq_true rfl, Nat.le_of_ble_eq_true rfl⟩) rfl hl.1 rfl (Nat.le_of_ble_eq_true rfl) dX6_readAct_89 ⟨Nat.le_of_ble_eq_true rfl, Nat.le_of_ble_eq_true rfl⟩) hW (fun r_113 L_111 h_112 H locs p_114 hW => ?_)
                obtain ⟨hr_115, hT, hs⟩ := p_114
                replace hT : hx_T T_tb L_111 h_112 := hT
                replace hs : hx_S T_tb [(0, 4), (6, 2), (6, 3), (6, 4), (6, 5), (11, 0), (12, 0)] hL1 hl1 L_111 h_112 := hs
                replace f_2 := (hs.o (gx.S hM) trivial rfl).2.trans f_2
                replace f_89 := (hs.o (gx.S hM) trivial rfl).1.trans f_89
                replace f_99 := (hs.o (gx.S hM) trivial rfl).2.trans f_99
                replace hM := hM.tr (hs.mono (by decide))
                refine hb_if_eq (zx := r_113.toInt) (tgt := 106) hx hb rfl dX6_readAct_92 (by decide) (fun c_116 => ?_) (fun c_116 => ?_)
                · skip
                  refine lv_iconst (v := 0) hx hb dX6_readAct_106 (by decide) ?_
                  refine lv_istore (lv' := [(4, .int (0 : Int32)), (5, .int iv74_5), (0, .ref x), (1, .ref v1), (2, .int i2), (3, .ref v3)]) hx hb dX6_readAct_107 hl (by decide) rfl (fun ls hl => ?_)
                  obtain ⟨x_117, ex_117⟩ : ∃ y : Int32, y = iv74_5 + Int32.ofInt 1 := ⟨_, rfl⟩
                  have rg_118 := i32_r iv74_5
                  have zx_117 : x_117.toInt = iv74_5.toInt + (1) := by rw [ex_117]; exact i32_add rfl (by decide) (by omega) (by omega)
                  refine lv_iinc (v := x_117) (lv' := [(5, .int x_117), (4, .int (0 : Int32)), (0, .ref x), (1, .ref v1), (2, .int i2), (3, .ref v3)]) hx hb dX6_readAct_109 hl (k := 1) rfl ex_117.symm (by decide) rfl (fun ls hl => ?_)
                  refine lv_goto (tgt := 74) hx hb dX6_readAct_112 (by decide) ?_
                  have zk_0 : (0 : Int32).toInt = 0 := by decide
                  exact ih74 (0 : Int32) x_117 _ _ L_111 h_112 (by decide) (by decide) (by omega) (by omega)  ls (by omega) hW hT hM f_2 f_89 f_99  (lv_sub hl [0, 1, 2, 3, 4, 5] rfl)
                · skip
                  refine lv_aload_n hx hb dX6_readAct_95 rfl (lv_at hl 2 rfl) ?_
                  refine hx_goi (hx_runV (As := []) (rest := []) ⟨hx, hb, hml, hown, hts⟩ hW (gx.S hM) tt_6 (T := TX6) (N := 7) rfl (t_X6_isAnotherClause l dC dI dA L_111 h_112 H.size x hT (gx.S hM) v1 (gv1.S hM) f_2 v3 (gv3.S hM) f_99) (cwV 0 hts (hx_gV kw_589 kw_586 kw_588 kw_18 kw_95) rfl rfl rfl (by decide +kernel) ⟨Nat.le_of_ble_eq_true rfl, Nat.le_of_ble_eq_true rfl⟩) rfl hl.1 rfl (Nat.le_of_ble_eq_true rfl) dX6_readAct_96 ⟨Nat.le_of_ble_eq_true rfl, Nat.le_of_ble_eq_true rfl⟩) hW (fun r_121 L_119 h_120 H locs p_122 hW => ?_)
                  obtain ⟨hr_123, hT, hs⟩ := p_122
                  replace hT : hx_T T_tb L_119 h_120 := hT
                  replace hs : hx_S T_tb [(6, 2), (6, 3)] L_111 h_112 L_119 h_120 := hs
                  replace f_2 := (hs.o (gx.S hM) trivial rfl).2.trans f_2
                  replace f_89 := (hs.o (gx.S hM) trivial rfl).1.trans f_89
                  replace f_99 := (hs.o (gx.S hM) trivial rfl).2.trans f_99
                  replace hM := hM.tr (hs.mono (by decide))
                  have jn_107 : ∀ (xj_124 : Int32) (ls : Array Slot), 0 ≤ xj_124.toInt → xj_124.toInt ≤ 1 → lv_has ls 6 [(5, .int iv74_5), (4, .int iv74_4), (0, .ref x), (1, .ref v1), (2, .int i2), (3, .ref v3)] → W p l e ({ frames := 26, cells := 0, slots := 0, locals := 594 }) s m ([.ref x, .ref v1, .int i2, .ref v3] : List Value).toArray below meth c H locs 0 0 (MQ below (va_Qi (fun (r : Int32) (u : List Nat × hx_h) => (True) ∧ hx_T T_tb u.1 u.2 ∧ hx_S T_tb [(0, 4), (6, 0), (6, 1), (6, 2), (6, 3), (6, 4), (6, 5), (6, 6), (11, 0), (12, 0)] L h u.1 u.2) (hx_E T_tb (P_ty dA) (dC, dI) vwCl (hx_A L sz)) (hx_A L sz)) ([.ref x, .ref v1, .int i2, .ref v3] : List Value).toArray s 0 0 (hx_A L sz)) (F0 m 107 ls [.int xj_124]) := by
                    intro xj_124 ls blxj_124 buxj_124 hl
                    refine lv_istore (lv' := [(4, .int xj_124), (5, .int iv74_5), (0, .ref x), (1, .ref v1), (2, .int i2), (3, .ref v3)]) hx hb dX6_readAct_107 hl (by decide) rfl (fun ls hl => ?_)
                    obtain ⟨x_125, ex_125⟩ : ∃ y : Int32, y = iv74_5 + Int32.ofInt 1 := ⟨_, rfl⟩
                    have rg_126 := i32_r iv74_5
                    have zx_125 : x_125.toInt = iv74_5.toInt + (1) := by rw [ex_125]; exact i32_add rfl (by decide) (by omega) (by omega)
                    refine lv_iinc (v := x_125) (lv' := [(5, .int x_125), (4, .int xj_124), (0, .ref x), (1, .ref v1), (2, .int i2), (3, .ref v3)]) hx hb dX6_readAct_109 hl (k := 1) rfl ex_125.symm (by decide) rfl (fun ls hl => ?_)
                    refine lv_goto (tgt := 74) hx hb dX6_readAct_112 (by decide) ?_
                    exact ih74 xj_124 x_125 _ _ L_119 h_120 (by omega) (by omega) (by omega) (by omega)  ls (by omega) hW hT hM f_2 f_89 f_99  (lv_sub hl [0, 1, 2, 3, 4, 5] rfl)
                  refine hb_if_eq (zx := r_121.toInt) (tgt := 106) hx hb rfl dX6_readAct_99 (by decide) (fun c_127 => ?_) (fun c_127 => ?_)
                  · skip
                    refine lv_iconst (v := 0) hx hb dX6_readAct_106 (by decide) ?_
                    exact jn_107 (0 : Int32) ls (by decide) (by decide) hl
                  · skip
                    refine lv_iconst (v := 1) hx hb dX6_readAct_102 (by decide) ?_
                    refine lv_goto (tgt := 107) hx hb dX6_readAct_103 (by decide) ?_
                    exact jn_107 (1 : Int32) ls (by decide) (by decide) hl
        have zk_0 : (0 : Int32).toInt = 0 := by decide
        exact loop74 402 xj_106 (0 : Int32) _ _ L_100 h_101 (by omega) (by omega) (by decide) (by decide)  ls (by omega) hW hT hM f_2 f_89 f_99  hl
      refine hb_icmp_ge (zx := x_105.toInt) (zy := 0) (tgt := 68) hx hb rfl (by decide) dX6_readAct_61 (by decide) (fun c_128 => ?_) (fun c_128 => by exfalso; omega)
      refine lv_iconst (v := 0) hx hb dX6_readAct_68 (by decide) ?_
      exact jn_69 (0 : Int32) ls (by decide) (by decide) hl
