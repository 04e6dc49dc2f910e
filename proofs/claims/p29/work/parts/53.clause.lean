theorem dX10_withoutProof_0 : decode cX10_withoutProof 0 = .ok (.aload_n 0, 1) := by decide +kernel
theorem dX10_withoutProof_1 : decode cX10_withoutProof 1 = .ok (.iconst 0, 1) := by decide +kernel
theorem dX10_withoutProof_2 : decode cX10_withoutProof 2 = .ok (.iconst 2, 1) := by decide +kernel
theorem dX10_withoutProof_3 : decode cX10_withoutProof 3 = .ok (.iconst 1, 1) := by decide +kernel
theorem dX10_withoutProof_4 : decode cX10_withoutProof 4 = .ok (.invokestatic 280, 3) := by decide +kernel
theorem dX10_withoutProof_7 : decode cX10_withoutProof 7 = .ok (.invokevirtual 284, 3) := by decide +kernel
theorem dX10_withoutProof_10 : decode cX10_withoutProof 10 = .ok (.aload_n 0, 1) := by decide +kernel
theorem dX10_withoutProof_11 : decode cX10_withoutProof 11 = .ok (.iconst 1, 1) := by decide +kernel
theorem dX10_withoutProof_12 : decode cX10_withoutProof 12 = .ok (.iconst 2, 1) := by decide +kernel
theorem dX10_withoutProof_13 : decode cX10_withoutProof 13 = .ok (.iconst 0, 1) := by decide +kernel
theorem dX10_withoutProof_14 : decode cX10_withoutProof 14 = .ok (.invokestatic 280, 3) := by decide +kernel
theorem dX10_withoutProof_17 : decode cX10_withoutProof 17 = .ok (.invokevirtual 284, 3) := by decide +kernel
theorem dX10_withoutProof_20 : decode cX10_withoutProof 20 = .ok (.aload_n 0, 1) := by decide +kernel
theorem dX10_withoutProof_21 : decode cX10_withoutProof 21 = .ok (.iconst 1, 1) := by decide +kernel
theorem dX10_withoutProof_22 : decode cX10_withoutProof 22 = .ok (.invokevirtual 284, 3) := by decide +kernel
theorem dX10_withoutProof_25 : decode cX10_withoutProof 25 = .ok (.return_, 1) := by decide +kernel
set_option maxHeartbeats 4000000 in
set_option maxRecDepth 100000 in
theorem t_X10_withoutProof (l : Launch) (dC : Nat → ClassId) (dI : Nat → Nat → Nat) (dA : Nat → ClassId) (L : List Nat) (h : hx_h) (sz : Nat) (x : Nat) (hT : hx_T T_tb L h) (gx : hx_g L h x 10) (qs : Nat) (gqs : hx_g L h qs 55) (f_x_15 : h.2.2 x 15 = some qs) (sf : Nat → Int32) (af_qs : h.2.1 qs = sf) (st0 : Int32) (f_x_14 : h.2.1 x 14 = st0) (hst : st0.toInt = 0) : Met l yX10_withoutProof (Cond.code yX10_withoutProof cX10_withoutProof 1 none :: hx_all) ({ frames := 1, cells := 0, slots := 0, locals := 22 }) (va_Pc [.ref x] (hx_B T_tb (P_ty dA) (dC, dI) vwCl L h sz)) (va_Qv (fun (u : List Nat × hx_h) => (∃ (st1 : Int32) (sf1 : Nat → Int32), u.2.2.1 x 14 = st1 ∧ u.2.2.1 qs = sf1 ∧ (hx_rp sf1 st1.toInt.toNat = some 1)) ∧ hx_T T_tb u.1 u.2 ∧ hx_S T_tb [(10, 14), (55, 0)] L h u.1 u.2) (hx_E T_tb (P_ty dA) (dC, dI) vwCl (hx_A L sz)) (hx_A L sz)) 0 0 (hx_A L sz) := by
  refine hx_met (lv := [(0, .ref x)]) (by decide +kernel) rfl (Nat.le_of_ble_eq_true rfl) rfl ?_
  intro p e s m below meth c hx hb hml hr hlk hts0 hown hin hsz hW ls hl
  have hts : ∀ w ∈ hx_all, w.before _ s = true := fun w hw => hts0 w (List.mem_cons_of_mem _ hw)
  have hown : s.vm.findClass "SmallCourtModel" = some m.cls := hown
  have hM : hx_S T_tb [(10, 14), (55, 0)] L h L h := hx_S.rf
  have b_st0 := hT.gi gx tt_10 (k := 14) rfl
  rw [f_x_14] at b_st0
  have b_st0 : 0 ≤ st0.toInt ∧ st0.toInt ≤ 128 := b_st0
  refine lv_aload_n hx hb dX10_withoutProof_0 rfl (lv_at hl 0 rfl) ?_
  refine lv_iconst (v := 0) hx hb dX10_withoutProof_1 (by decide) ?_
  refine lv_iconst (v := 2) hx hb dX10_withoutProof_2 (by decide) ?_
  refine lv_iconst (v := 1) hx hb dX10_withoutProof_3 (by decide) ?_
  have zc_1 : (1 : Int32).toInt = 1 := by decide
  have zc_2 : (2 : Int32).toInt = 2 := by decide
  have zc_0 : (0 : Int32).toInt = 0 := by decide
  refine hx_goi (hx_runS (As := [.int (0 : Int32), .int (2 : Int32), .int (1 : Int32)]) (rest := [.ref x]) ⟨hx, hb, hml, hown, hts⟩ hW (t_X10_compareOf l dC dI dA L h s.heap.size (0 : Int32) (2 : Int32) (1 : Int32) hT (by decide) (by decide) (by decide)) (va_cwS 3 hts (hx_gS kw_1132 kw_1130 kw_1131 kw_103) rfl rfl rfl (by decide +kernel) ⟨Nat.le_of_ble_eq_true rfl, Nat.le_of_ble_eq_true rfl⟩) rfl hl.1 rfl (Nat.le_of_ble_eq_true rfl) dX10_withoutProof_4 ⟨Nat.le_of_ble_eq_true rfl, Nat.le_of_ble_eq_true rfl⟩) hW (fun r_3 L_1 h_2 H locs p_4 hW => ?_)
  obtain ⟨hr_5, hT, hs⟩ := p_4
  replace hT : hx_T T_tb L_1 h_2 := hT
  replace hs : hx_S T_tb [] L h L_1 h_2 := hs
  replace f_x_14 := (hs.o (gx.S hM) trivial rfl).1.trans f_x_14
  replace af_qs : h_2.2.1 qs = sf := (funext fun j => (hs.a (gqs.S hM) rfl j).1).trans af_qs
  replace hM := hM.tr (hs.mono (by decide))
  refine hx_gov (hx_runV (As := [.int r_3]) (rest := []) ⟨hx, hb, hml, hown, hts⟩ hW (gx.S hM) tt_10 (T := TX10) (N := 98) rfl (t_X10_writes l dC dI dA L_1 h_2 H.size x r_3 hT (gx.S hM) qs (gqs.S hM) ((hM.o gx trivial rfl).2.trans f_x_15) sf af_qs st0 f_x_14 (by omega)) (cwV 1 hts (hx_gV kw_1138 kw_1135 kw_1137 kw_50 kw_103) rfl rfl rfl (by decide +kernel) ⟨Nat.le_of_ble_eq_true rfl, Nat.le_of_ble_eq_true rfl⟩) rfl hl.1 rfl (Nat.le_of_ble_eq_true rfl) dX10_withoutProof_7 ⟨Nat.le_of_ble_eq_true rfl, Nat.le_of_ble_eq_true rfl⟩) hW (fun L_6 h_7 H locs p_9 hW => ?_)
  obtain ⟨⟨w_11, w_12, fw_11, fw_12, hr_10⟩, hT, hs⟩ := p_9
  replace hT : hx_T T_tb L_6 h_7 := hT
  replace hs : hx_S T_tb [(10, 14), (55, 0)] L_1 h_2 L_6 h_7 := hs
  replace hM := hM.tr (hs.mono (by decide))
  have fw_11 : h_7.2.1 x 14 = w_11 := fw_11
  have bw_11 := hT.gi (gx.S hM) tt_10 (k := 14) rfl
  rw [fw_11] at bw_11
  have bw_11 : 0 ≤ w_11.toInt ∧ w_11.toInt ≤ 128 := bw_11
  have fw_12 : h_7.2.1 qs = w_12 := fw_12
  refine lv_aload_n hx hb dX10_withoutProof_10 rfl (lv_at hl 0 rfl) ?_
  refine lv_iconst (v := 1) hx hb dX10_withoutProof_11 (by decide) ?_
  refine lv_iconst (v := 2) hx hb dX10_withoutProof_12 (by decide) ?_
  refine lv_iconst (v := 0) hx hb dX10_withoutProof_13 (by decide) ?_
  refine hx_goi (hx_runS (As := [.int (1 : Int32), .int (2 : Int32), .int (0 : Int32)]) (rest := [.ref x]) ⟨hx, hb, hml, hown, hts⟩ hW (t_X10_compareOf l dC dI dA L_6 h_7 H.size (1 : Int32) (2 : Int32) (0 : Int32) hT (by decide) (by decide) (by decide)) (va_cwS 3 hts (hx_gS kw_1132 kw_1130 kw_1131 kw_103) rfl rfl rfl (by decide +kernel) ⟨Nat.le_of_ble_eq_true rfl, Nat.le_of_ble_eq_true rfl⟩) rfl hl.1 rfl (Nat.le_of_ble_eq_true rfl) dX10_withoutProof_14 ⟨Nat.le_of_ble_eq_true rfl, Nat.le_of_ble_eq_true rfl⟩) hW (fun r_15 L_13 h_14 H locs p_16 hW => ?_)
  obtain ⟨hr_17, hT, hs⟩ := p_16
  replace hT : hx_T T_tb L_13 h_14 := hT
  replace hs : hx_S T_tb [] L_6 h_7 L_13 h_14 := hs
  replace fw_11 := (hs.o (gx.S hM) trivial rfl).1.trans fw_11
  replace fw_12 : h_14.2.1 qs = w_12 := (funext fun j => (hs.a (gqs.S hM) rfl j).1).trans fw_12
  replace hM := hM.tr (hs.mono (by decide))
  refine hx_gov (hx_runV (As := [.int r_15]) (rest := []) ⟨hx, hb, hml, hown, hts⟩ hW (gx.S hM) tt_10 (T := TX10) (N := 98) rfl (t_X10_writes l dC dI dA L_13 h_14 H.size x r_15 hT (gx.S hM) qs (gqs.S hM) ((hM.o gx trivial rfl).2.trans f_x_15) w_12 fw_12 w_11 fw_11 (by omega)) (cwV 1 hts (hx_gV kw_1138 kw_1135 kw_1137 kw_50 kw_103) rfl rfl rfl (by decide +kernel) ⟨Nat.le_of_ble_eq_true rfl, Nat.le_of_ble_eq_true rfl⟩) rfl hl.1 rfl (Nat.le_of_ble_eq_true rfl) dX10_withoutProof_17 ⟨Nat.le_of_ble_eq_true rfl, Nat.le_of_ble_eq_true rfl⟩) hW (fun L_18 h_19 H locs p_21 hW => ?_)
  obtain ⟨⟨w_23, w_24, fw_23, fw_24, hr_22⟩, hT, hs⟩ := p_21
  replace hT : hx_T T_tb L_18 h_19 := hT
  replace hs : hx_S T_tb [(10, 14), (55, 0)] L_13 h_14 L_18 h_19 := hs
  replace hM := hM.tr (hs.mono (by decide))
  have fw_23 : h_19.2.1 x 14 = w_23 := fw_23
  have bw_23 := hT.gi (gx.S hM) tt_10 (k := 14) rfl
  rw [fw_23] at bw_23
  have bw_23 : 0 ≤ w_23.toInt ∧ w_23.toInt ≤ 128 := bw_23
  have fw_24 : h_19.2.1 qs = w_24 := fw_24
  refine lv_aload_n hx hb dX10_withoutProof_20 rfl (lv_at hl 0 rfl) ?_
  refine lv_iconst (v := 1) hx hb dX10_withoutProof_21 (by decide) ?_
  refine hx_gov (hx_runV (As := [.int (1 : Int32)]) (rest := []) ⟨hx, hb, hml, hown, hts⟩ hW (gx.S hM) tt_10 (T := TX10) (N := 98) rfl (t_X10_writes l dC dI dA L_18 h_19 H.size x (1 : Int32) hT (gx.S hM) qs (gqs.S hM) ((hM.o gx trivial rfl).2.trans f_x_15) w_24 fw_24 w_23 fw_23 (by omega)) (cwV 1 hts (hx_gV kw_1138 kw_1135 kw_1137 kw_50 kw_103) rfl rfl rfl (by decide +kernel) ⟨Nat.le_of_ble_eq_true rfl, Nat.le_of_ble_eq_true rfl⟩) rfl hl.1 rfl (Nat.le_of_ble_eq_true rfl) dX10_withoutProof_22 ⟨Nat.le_of_ble_eq_true rfl, Nat.le_of_ble_eq_true rfl⟩) hW (fun L_25 h_26 H locs p_28 hW => ?_)
  obtain ⟨⟨w_30, w_31, fw_30, fw_31, hr_29⟩, hT, hs⟩ := p_28
  replace hT : hx_T T_tb L_25 h_26 := hT
  replace hs : hx_S T_tb [(10, 14), (55, 0)] L_18 h_19 L_25 h_26 := hs
  replace hM := hM.tr (hs.mono (by decide))
  have fw_30 : h_26.2.1 x 14 = w_30 := fw_30
  have bw_30 := hT.gi (gx.S hM) tt_10 (k := 14) rfl
  rw [fw_30] at bw_30
  have bw_30 : 0 ≤ w_30.toInt ∧ w_30.toInt ≤ 128 := bw_30
  have fw_31 : h_26.2.1 qs = w_31 := fw_31
  exact hx_retv hx hb hr hlk hW ⟨⟨w_30, w_31, fw_30, fw_31, (hx_rp_wo hst hr_10 hr_22 hr_29 hr_5 hr_17 (by decide))⟩, hT, hM⟩ dX10_withoutProof_25

def wLX10_keepsProof_0 : List Nat := [42, 180, 0, 16, 27, 42, 180, 1, 6, 79, 3, 61, 28, 42, 180, 1, 6, 162, 0, 27, 42, 180, 0, 19, 17, 0, 128, 27, 104, 28, 96, 42, 180, 0, 29, 28, 46, 79, 132, 2, 1, 167, 255, 227, 177]
theorem wX10_keepsProof_0 : (cX10_keepsProof.data.toList.map UInt8.toNat).drop 0 = wLX10_keepsProof_0 ++ ([]) := by decide +kernel
theorem dX10_keepsProof_0 : decode cX10_keepsProof 0 = .ok (.aload_n 0, 1) := dq_42 (hz_wg wX10_keepsProof_0 (j := 0) (n := 42) rfl)
theorem dX10_keepsProof_1 : decode cX10_keepsProof 1 = .ok (.getfield 16, 3) := dq_180 (hz_wg wX10_keepsProof_0 (j := 1) (n := 180) rfl) (hz_wg wX10_keepsProof_0 (j := 2) (n := 0) rfl) (hz_wg wX10_keepsProof_0 (j := 3) (n := 16) rfl) rfl
theorem dX10_keepsProof_4 : decode cX10_keepsProof 4 = .ok (.iload_n 1, 1) := dq_27 (hz_wg wX10_keepsProof_0 (j := 4) (n := 27) rfl)
theorem dX10_keepsProof_5 : decode cX10_keepsProof 5 = .ok (.aload_n 0, 1) := dq_42 (hz_wg wX10_keepsProof_0 (j := 5) (n := 42) rfl)
theorem dX10_keepsProof_6 : decode cX10_keepsProof 6 = .ok (.getfield 262, 3) := dq_180 (hz_wg wX10_keepsProof_0 (j := 6) (n := 180) rfl) (hz_wg wX10_keepsProof_0 (j := 7) (n := 1) rfl) (hz_wg wX10_keepsProof_0 (j := 8) (n := 6) rfl) rfl
theorem dX10_keepsProof_9 : decode cX10_keepsProof 9 = .ok (.iastore, 1) := dq_79 (hz_wg wX10_keepsProof_0 (j := 9) (n := 79) rfl)
theorem dX10_keepsProof_10 : decode cX10_keepsProof 10 = .ok (.iconst 0, 1) := dq_3 (hz_wg wX10_keepsProof_0 (j := 10) (n := 3) rfl)
theorem dX10_keepsProof_11 : decode cX10_keepsProof 11 = .ok (.istore_n 2, 1) := dq_61 (hz_wg wX10_keepsProof_0 (j := 11) (n := 61) rfl)
theorem dX10_keepsProof_12 : decode cX10_keepsProof 12 = .ok (.iload_n 2, 1) := dq_28 (hz_wg wX10_keepsProof_0 (j := 12) (n := 28) rfl)
theorem dX10_keepsProof_13 : decode cX10_keepsProof 13 = .ok (.aload_n 0, 1) := dq_42 (hz_wg wX10_keepsProof_0 (j := 13) (n := 42) rfl)
theorem dX10_keepsProof_14 : decode cX10_keepsProof 14 = .ok (.getfield 262, 3) := dq_180 (hz_wg wX10_keepsProof_0 (j := 14) (n := 180) rfl) (hz_wg wX10_keepsProof_0 (j := 15) (n := 1) rfl) (hz_wg wX10_keepsProof_0 (j := 16) (n := 6) rfl) rfl
theorem dX10_keepsProof_17 : decode cX10_keepsProof 17 = .ok (.if_icmp .ge 27, 3) := dq_162 (hz_wg wX10_keepsProof_0 (j := 17) (n := 162) rfl) (hz_wg wX10_keepsProof_0 (j := 18) (n := 0) rfl) (hz_wg wX10_keepsProof_0 (j := 19) (n := 27) rfl) (by decide)
theorem dX10_keepsProof_20 : decode cX10_keepsProof 20 = .ok (.aload_n 0, 1) := dq_42 (hz_wg wX10_keepsProof_0 (j := 20) (n := 42) rfl)
theorem dX10_keepsProof_21 : decode cX10_keepsProof 21 = .ok (.getfield 19, 3) := dq_180 (hz_wg wX10_keepsProof_0 (j := 21) (n := 180) rfl) (hz_wg wX10_keepsProof_0 (j := 22) (n := 0) rfl) (hz_wg wX10_keepsProof_0 (j := 23) (n := 19) rfl) rfl
theorem dX10_keepsProof_24 : decode cX10_keepsProof 24 = .ok (.sipush 128, 3) := dq_17 (hz_wg wX10_keepsProof_0 (j := 24) (n := 17) rfl) (hz_wg wX10_keepsProof_0 (j := 25) (n := 0) rfl) (hz_wg wX10_keepsProof_0 (j := 26) (n := 128) rfl) (by decide)
theorem dX10_keepsProof_27 : decode cX10_keepsProof 27 = .ok (.iload_n 1, 1) := dq_27 (hz_wg wX10_keepsProof_0 (j := 27) (n := 27) rfl)
theorem dX10_keepsProof_28 : decode cX10_keepsProof 28 = .ok (.imul, 1) := dq_104 (hz_wg wX10_keepsProof_0 (j := 28) (n := 104) rfl)
theorem dX10_keepsProof_29 : decode cX10_keepsProof 29 = .ok (.iload_n 2, 1) := dq_28 (hz_wg wX10_keepsProof_0 (j := 29) (n := 28) rfl)
theorem dX10_keepsProof_30 : decode cX10_keepsProof 30 = .ok (.iadd, 1) := dq_96 (hz_wg wX10_keepsProof_0 (j := 30) (n := 96) rfl)
theorem dX10_keepsProof_31 : decode cX10_keepsProof 31 = .ok (.aload_n 0, 1) := dq_42 (hz_wg wX10_keepsProof_0 (j := 31) (n := 42) rfl)
theorem dX10_keepsProof_32 : decode cX10_keepsProof 32 = .ok (.getfield 29, 3) := dq_180 (hz_wg wX10_keepsProof_0 (j := 32) (n := 180) rfl) (hz_wg wX10_keepsProof_0 (j := 33) (n := 0) rfl) (hz_wg wX10_keepsProof_0 (j := 34) (n := 29) rfl) rfl
theorem dX10_keepsProof_35 : decode cX10_keepsProof 35 = .ok (.iload_n 2, 1) := dq_28 (hz_wg wX10_keepsProof_0 (j := 35) (n := 28) rfl)
theorem dX10_keepsProof_36 : decode cX10_keepsProof 36 = .ok (.iaload, 1) := dq_46 (hz_wg wX10_keepsProof_0 (j := 36) (n := 46) rfl)
theorem dX10_keepsProof_37 : decode cX10_keepsProof 37 = .ok (.iastore, 1) := dq_79 (hz_wg wX10_keepsProof_0 (j := 37) (n := 79) rfl)
theorem dX10_keepsProof_38 : decode cX10_keepsProof 38 = .ok (.iinc 2 1, 3) := dq_132 (hz_wg wX10_keepsProof_0 (j := 38) (n := 132) rfl) (hz_wg wX10_keepsProof_0 (j := 39) (n := 2) rfl) (hz_wg wX10_keepsProof_0 (j := 40) (n := 1) rfl) (by decide)
theorem dX10_keepsProof_41 : decode cX10_keepsProof 41 = .ok (.goto (-29), 3) := dq_167 (hz_wg wX10_keepsProof_0 (j := 41) (n := 167) rfl) (hz_wg wX10_keepsProof_0 (j := 42) (n := 255) rfl) (hz_wg wX10_keepsProof_0 (j := 43) (n := 227) rfl) (by decide)
theorem dX10_keepsProof_44 : decode cX10_keepsProof 44 = .ok (.return_, 1) := dq_177 (hz_wg wX10_keepsProof_0 (j := 44) (n := 177) rfl)
set_option maxHeartbeats 4000000 in
set_option maxRecDepth 100000 in
theorem t_X10_keepsProof (l : Launch) (dC : Nat → ClassId) (dI : Nat → Nat → Nat) (dA : Nat → ClassId) (L : List Nat) (h : hx_h) (sz : Nat) (x : Nat) (i1 : Int32) (hT : hx_T T_tb L h) (gx : hx_g L h x 10) (qs : Nat) (gqs : hx_g L h qs 55) (f_x_15 : h.2.2 x 15 = some qs) (qn : Nat) (gqn : hx_g L h qn 51) (f_x_4 : h.2.2 x 4 = some qn) (qp : Nat) (gqp : hx_g L h qp 52) (f_x_5 : h.2.2 x 5 = some qp) (sf : Nat → Int32) (af_qs : h.2.1 qs = sf) (psf : Nat → Int32) (af_qn : h.2.1 qn = psf) (prf : Nat → Int32) (af_qp : h.2.1 qp = prf) (st0 : Int32) (f_x_14 : h.2.1 x 14 = st0) (hi1 : 0 ≤ i1.toInt ∧ i1.toInt ≤ 8) : Met l yX10_keepsProof (Cond.code yX10_keepsProof cX10_keepsProof 3 none :: hx_all) ({ frames := 0, cells := 0, slots := 0, locals := 0 }) (va_Pc [.ref x, .int i1] (hx_B T_tb (P_ty dA) (dC, dI) vwCl L h sz)) (va_Qv (fun (u : List Nat × hx_h) => (∃ (psf1 : Nat → Int32) (prf1 : Nat → Int32), u.2.2.1 qn = psf1 ∧ u.2.2.1 qp = prf1 ∧ (psf1 = hx_up psf i1.toNatClampNeg st0 ∧ hx_kp sf prf prf1 i1.toInt st0.toInt)) ∧ hx_T T_tb u.1 u.2 ∧ hx_S T_tb [(51, 0), (52, 0)] L h u.1 u.2) (hx_E T_tb (P_ty dA) (dC, dI) vwCl (hx_A L sz)) (hx_A L sz)) 0 0 (hx_A L sz) := by
  refine hx_met (lv := [(0, .ref x), (1, .int i1)]) (by decide +kernel) rfl (Nat.le_of_ble_eq_true rfl) rfl ?_
  intro p e s m below meth c hx hb hml hr hlk hts0 hown hin hsz hW ls hl
  have hts : ∀ w ∈ hx_all, w.before _ s = true := fun w hw => hts0 w (List.mem_cons_of_mem _ hw)
  have hown : s.vm.findClass "SmallCourtModel" = some m.cls := hown
  have hM : hx_S T_tb [(51, 0), (52, 0)] L h L h := hx_S.rf
  have b_st0 := hT.gi gx tt_10 (k := 14) rfl
  rw [f_x_14] at b_st0
  have b_st0 : 0 ≤ st0.toInt ∧ st0.toInt ≤ 128 := b_st0
  refine lv_aload_n hx hb dX10_keepsProof_0 rfl (lv_at hl 0 rfl) ?_
  refine hk_getr hx hb hts hC_10 hown hW (gx.S hM) tt_10 4 (by decide) rfl kw_1147 ⟨rfl, rfl, rfl⟩ ((hM.o gx trivial rfl).2.trans f_x_4) dX10_keepsProof_1 ?_
  refine lv_iload_n hx hb dX10_keepsProof_4 rfl (lv_at hl 1 rfl) ?_
  refine lv_aload_n hx hb dX10_keepsProof_5 rfl (lv_at hl 0 rfl) ?_
  refine hk_geti hx hb hts hC_10 hown hW (gx.S hM) tt_10 14 (by decide) rfl kw_1157 ⟨rfl, rfl, rfl⟩ ((hM.o gx trivial rfl).1.trans f_x_14) dX10_keepsProof_6 ?_
  have af_qnO := af_qn
  refine hx_iast hx hb hW hT (hx_S.rf (M := [(51, 0)])) (gqn.S hM) tt_51 rfl ⟨by omega, by omega⟩ rfl ⟨by omega, by omega⟩ (List.mem_singleton.mpr rfl) dX10_keepsProof_9 (fun H locs h_1 eh_1 hW hT hs => ?_)
  replace af_qp : h_1.2.1 qp = prf := (funext fun j => (hs.a (gqp.S hM) rfl j).1).trans af_qp
  replace hM := hM.tr (hs.mono (by decide))
  obtain ⟨fa_2, dfa_2⟩ : ∃ g : Nat → Int32, g = hx_up psf i1.toNatClampNeg st0 := ⟨_, rfl⟩
  have nfa_2 : h_1.2.1 qn = fa_2 := by rw [eh_1, dfa_2, ← af_qnO]; exact hx_pi_fun _ _ _ _
  refine lv_iconst (v := 0) hx hb dX10_keepsProof_10 (by decide) ?_
  refine lv_istore_n (lv' := [(2, .int (0 : Int32)), (0, .ref x), (1, .int i1)]) hx hb dX10_keepsProof_11 rfl hl (by decide) rfl (fun ls hl => ?_)
  have loop12 : ∀ (n12 : Nat) (iv12_2 : Int32) (ia12_qp : Nat → Int32) (H : Heap) (locs : List Loc) (hL1 : List Nat) (hl1 : hx_h), 0 ≤ iv12_2.toInt → iv12_2.toInt ≤ 128 → (hx_kp sf prf ia12_qp i1.toInt iv12_2.toInt) → (iv12_2.toInt ≤ st0.toInt) → ∀ (ls : Array Slot), 128 - iv12_2.toInt < (n12 : Int) → hx_W T_tb (P_ty dA) (dC, dI) vwCl (hx_A L sz) s.heap hL1 hl1 s H locs → hx_T T_tb hL1 hl1 → hx_S T_tb [(51, 0), (52, 0)] L h hL1 hl1 → hl1.2.1 qp = ia12_qp → hl1.2.1 qn = fa_2 → lv_has ls 3 [(2, .int iv12_2), (0, .ref x), (1, .int i1)] → W p l e ({ frames := 0, cells := 0, slots := 0, locals := 0 }) s m ([.ref x, .int i1] : List Value).toArray below meth c H locs 0 0 (MQ below (va_Qv (fun (u : List Nat × hx_h) => (∃ (psf1 : Nat → Int32) (prf1 : Nat → Int32), u.2.2.1 qn = psf1 ∧ u.2.2.1 qp = prf1 ∧ (psf1 = hx_up psf i1.toNatClampNeg st0 ∧ hx_kp sf prf prf1 i1.toInt st0.toInt)) ∧ hx_T T_tb u.1 u.2 ∧ hx_S T_tb [(51, 0), (52, 0)] L h u.1 u.2) (hx_E T_tb (P_ty dA) (dC, dI) vwCl (hx_A L sz)) (hx_A L sz)) ([.ref x, .int i1] : List Value).toArray s 0 0 (hx_A L sz)) (F0 m 12 ls []) := by
    intro n12
    induction n12 with
    | zero => intro iv12_2 ia12_qp H locs hL1 hl1 bliv12_2 buiv12_2 vi12_0 vi12_1 ls hn12; exfalso; omega
    | succ n12 ih12 =>
      intro iv12_2 ia12_qp H locs hL1 hl1 bliv12_2 buiv12_2 vi12_0 vi12_1 ls hn12 hW hT hM  nia12_qp nfa_2 hl
      refine lv_iload_n hx hb dX10_keepsProof_12 rfl (lv_at hl 0 rfl) ?_
      refine lv_aload_n hx hb dX10_keepsProof_13 rfl (lv_at hl 1 rfl) ?_
      refine hk_geti hx hb hts hC_10 hown hW (gx.S hM) tt_10 14 (by decide) rfl kw_1157 ⟨rfl, rfl, rfl⟩ ((hM.o gx trivial rfl).1.trans f_x_14) dX10_keepsProof_14 ?_
      refine hb_icmp_ge (zx := iv12_2.toInt) (zy := st0.toInt) (tgt := 44) hx hb rfl rfl dX10_keepsProof_17 (by decide) (fun c_3 => ?_) (fun c_3 => ?_)
      · skip
        exact hx_retv hx hb hr hlk hW ⟨⟨fa_2, ia12_qp, nfa_2, nia12_qp, ⟨dfa_2, (by have e0 : iv12_2.toInt = st0.toInt := (by omega); rw [← e0]; exact vi12_0)⟩⟩, hT, hM⟩ dX10_keepsProof_44
      · skip
        refine lv_aload_n hx hb dX10_keepsProof_20 rfl (lv_at hl 1 rfl) ?_
        refine hk_getr hx hb hts hC_10 hown hW (gx.S hM) tt_10 5 (by decide) rfl kw_1148 ⟨rfl, rfl, rfl⟩ ((hM.o gx trivial rfl).2.trans f_x_5) dX10_keepsProof_21 ?_
        refine lv_sipush (v := 128) hx hb dX10_keepsProof_24 (by decide) ?_
        refine lv_iload_n hx hb dX10_keepsProof_27 rfl (lv_at hl 2 rfl) ?_
        refine lv_imul hx hb dX10_keepsProof_28 ?_
        refine lv_topi (fun x_4 ex_4 => ?_)
        have zx_4 : x_4.toInt = 128 * i1.toInt := by rw [ex_4]; exact i32_mul (by decide) rfl rfl (by omega) (by omega)
        refine lv_iload_n hx hb dX10_keepsProof_29 rfl (lv_at hl 0 rfl) ?_
        refine lv_iadd hx hb dX10_keepsProof_30 ?_
        have rg_5 := i32_r x_4
        have rg_6 := i32_r iv12_2
        refine lv_topi (fun x_7 ex_7 => ?_)
        have zx_7 : x_7.toInt = x_4.toInt + iv12_2.toInt := by rw [ex_7]; exact i32_add rfl rfl (by omega) (by omega)
        refine lv_aload_n hx hb dX10_keepsProof_31 rfl (lv_at hl 1 rfl) ?_
        refine hk_getr hx hb hts hC_10 hown hW (gx.S hM) tt_10 15 (by decide) rfl kw_1158 ⟨rfl, rfl, rfl⟩ ((hM.o gx trivial rfl).2.trans f_x_15) dX10_keepsProof_32 ?_
        refine lv_iload_n hx hb dX10_keepsProof_35 rfl (lv_at hl 0 rfl) ?_
        refine hx_iald hx hb hW hT (gqs.S hM) tt_55 rfl ⟨by omega, by omega⟩ dX10_keepsProof_36 (fun x_8 ex_8 lx_8 ux_8 => ?_)
        have ax_8 : x_8 = sf iv12_2.toNatClampNeg := ex_8.trans (congrFun (hx_afS hM gqs rfl af_qs) _)
        have nia12_qpO := nia12_qp
        refine hx_iast hx hb hW hT (hx_S.rf (M := [(52, 0)])) (gqp.S hM) tt_52 rfl ⟨by omega, by omega⟩ rfl (i32_r _) (List.mem_singleton.mpr rfl) dX10_keepsProof_37 (fun H locs h_9 eh_9 hW hT hs => ?_)
        replace nfa_2 : h_9.2.1 qn = fa_2 := (funext fun j => (hs.a (gqn.S hM) rfl j).1).trans nfa_2
        replace ex_8 := ex_8.trans (hs.a (gqs.S hM) rfl _).1.symm
        replace hM := hM.tr (hs.mono (by decide))
        obtain ⟨fa_10, dfa_10⟩ : ∃ g : Nat → Int32, g = hx_up ia12_qp x_7.toNatClampNeg x_8 := ⟨_, rfl⟩
        have nfa_10 : h_9.2.1 qp = fa_10 := by rw [eh_9, dfa_10, ← nia12_qpO]; exact hx_pi_fun _ _ _ _
        obtain ⟨x_11, ex_11⟩ : ∃ y : Int32, y = iv12_2 + Int32.ofInt 1 := ⟨_, rfl⟩
        have zx_11 : x_11.toInt = iv12_2.toInt + (1) := by rw [ex_11]; exact i32_add rfl (by decide) (by omega) (by omega)
        refine lv_iinc (v := x_11) (lv' := [(2, .int x_11), (0, .ref x), (1, .int i1)]) hx hb dX10_keepsProof_38 hl (k := 0) rfl ex_11.symm (by decide) rfl (fun ls hl => ?_)
        refine lv_goto (tgt := 12) hx hb dX10_keepsProof_41 (by decide) ?_
        exact ih12 x_11 fa_10 _ _ hL1 h_9 (by omega) (by omega) (hx_kp_s vi12_0 (by omega) (by omega) (by omega) ax_8 rfl dfa_10 zx_11) (by omega) ls (by omega) hW hT hM  nfa_10 nfa_2 (lv_sub hl [0, 1, 2] rfl)
  have zk_0 : (0 : Int32).toInt = 0 := by decide
  exact loop12 129 (0 : Int32) prf _ _ L h_1 (by decide) (by decide) hx_kp0 (by omega) ls (by omega) hW hT hM  af_qp nfa_2 hl

def wLX10_clause_0 : List Nat := [42, 182, 1, 21, 60, 42, 180, 0, 245, 61, 27, 16, 11, 16, 20, 184, 0, 228, 154, 0, 10, 42, 3, 28, 182, 0, 255, 172, 27, 16, 20, 160, 0, 33, 42, 16, 20, 28, 182, 1, 53, 154, 0, 5, 3, 172, 42, 89, 180, 0, 245, 42, 180, 0, 252, 96, 181, 0, 245, 42, 182, 1, 56, 172]
def wLX10_clause_1 : List Nat := [27, 16, 19, 160, 0, 101, 42, 89, 180, 0, 245, 42, 180, 0, 252, 96, 181, 0, 245, 42, 182, 1, 21, 16, 21, 100, 62, 29, 3, 6, 184, 0, 228, 154, 0, 13, 42, 3, 42, 180, 0, 245, 182, 0, 255, 172, 42, 16, 9, 29, 96, 42, 180, 0, 245, 182, 1, 53, 154, 0, 5, 3, 172, 42]
def wLX10_clause_2 : List Nat := [89, 180, 0, 245, 42, 180, 0, 252, 96, 181, 0, 245, 42, 3, 17, 3, 231, 182, 1, 31, 154, 0, 5, 3, 172, 42, 180, 0, 26, 16, 9, 29, 96, 42, 180, 1, 3, 79, 4, 172, 27, 16, 11, 100, 62, 29, 8, 164, 0, 9, 29, 4, 96, 167, 0, 4, 29, 62, 42, 29, 28, 182, 1, 53]
def wLX10_clause_3 : List Nat := [154, 0, 5, 3, 172, 42, 89, 180, 0, 245, 42, 180, 0, 252, 96, 181, 0, 245, 42, 29, 184, 1, 59, 29, 184, 1, 62, 182, 1, 31, 154, 0, 5, 3, 172, 42, 180, 0, 26, 29, 42, 180, 1, 3, 79, 29, 8, 159, 0, 5, 4, 172, 42, 4, 16, 30, 182, 1, 31, 154, 0, 5, 3, 172]
def wLX10_clause_4 : List Nat := [42, 180, 0, 26, 16, 6, 42, 180, 1, 3, 79, 4, 172]
theorem wX10_clause_0 : (cX10_clause.data.toList.map UInt8.toNat).drop 0 = wLX10_clause_0 ++ (wLX10_clause_1 ++ (wLX10_clause_2 ++ (wLX10_clause_3 ++ (wLX10_clause_4 ++ ([]))))) := by decide +kernel
theorem wX10_clause_1 : (cX10_clause.data.toList.map UInt8.toNat).drop 64 = wLX10_clause_1 ++ (wLX10_clause_2 ++ (wLX10_clause_3 ++ (wLX10_clause_4 ++ ([])))) := hz_wn wX10_clause_0 rfl
theorem wX10_clause_2 : (cX10_clause.data.toList.map UInt8.toNat).drop 128 = wLX10_clause_2 ++ (wLX10_clause_3 ++ (wLX10_clause_4 ++ ([]))) := hz_wn wX10_clause_1 rfl
theorem wX10_clause_3 : (cX10_clause.data.toList.map UInt8.toNat).drop 192 = wLX10_clause_3 ++ (wLX10_clause_4 ++ ([])) := hz_wn wX10_clause_2 rfl
theorem wX10_clause_4 : (cX10_clause.data.toList.map UInt8.toNat).drop 256 = wLX10_clause_4 ++ ([]) := hz_wn wX10_clause_3 rfl
theorem dX10_clause_0 : decode cX10_clause 0 = .ok (.aload_n 0, 1) := dq_42 (hz_wg wX10_clause_0 (j := 0) (n := 42) rfl)
theorem dX10_clause_1 : decode cX10_clause 1 = .ok (.invokevirtual 277, 3) := dq_182 (hz_wg wX10_clause_0 (j := 1) (n := 182) rfl) (hz_wg wX10_clause_0 (j := 2) (n := 1) rfl) (hz_wg wX10_clause_0 (j := 3) (n := 21) rfl) rfl
theorem dX10_clause_4 : decode cX10_clause 4 = .ok (.istore_n 1, 1) := dq_60 (hz_wg wX10_clause_0 (j := 4) (n := 60) rfl)
theorem dX10_clause_5 : decode cX10_clause 5 = .ok (.aload_n 0, 1) := dq_42 (hz_wg wX10_clause_0 (j := 5) (n := 42) rfl)
theorem dX10_clause_6 : decode cX10_clause 6 = .ok (.getfield 245, 3) := dq_180 (hz_wg wX10_clause_0 (j := 6) (n := 180) rfl) (hz_wg wX10_clause_0 (j := 7) (n := 0) rfl) (hz_wg wX10_clause_0 (j := 8) (n := 245) rfl) rfl
theorem dX10_clause_9 : decode cX10_clause 9 = .ok (.istore_n 2, 1) := dq_61 (hz_wg wX10_clause_0 (j := 9) (n := 61) rfl)
theorem dX10_clause_10 : decode cX10_clause 10 = .ok (.iload_n 1, 1) := dq_27 (hz_wg wX10_clause_0 (j := 10) (n := 27) rfl)
theorem dX10_clause_11 : decode cX10_clause 11 = .ok (.bipush 11, 2) := dq_16 (hz_wg wX10_clause_0 (j := 11) (n := 16) rfl) (hz_wg wX10_clause_0 (j := 12) (n := 11) rfl) (by decide)
theorem dX10_clause_13 : decode cX10_clause 13 = .ok (.bipush 20, 2) := dq_16 (hz_wg wX10_clause_0 (j := 13) (n := 16) rfl) (hz_wg wX10_clause_0 (j := 14) (n := 20) rfl) (by decide)
theorem dX10_clause_15 : decode cX10_clause 15 = .ok (.invokestatic 228, 3) := dq_184 (hz_wg wX10_clause_0 (j := 15) (n := 184) rfl) (hz_wg wX10_clause_0 (j := 16) (n := 0) rfl) (hz_wg wX10_clause_0 (j := 17) (n := 228) rfl) rfl
theorem dX10_clause_18 : decode cX10_clause 18 = .ok (.ifCond .ne 10, 3) := dq_154 (hz_wg wX10_clause_0 (j := 18) (n := 154) rfl) (hz_wg wX10_clause_0 (j := 19) (n := 0) rfl) (hz_wg wX10_clause_0 (j := 20) (n := 10) rfl) (by decide)
theorem dX10_clause_21 : decode cX10_clause 21 = .ok (.aload_n 0, 1) := dq_42 (hz_wg wX10_clause_0 (j := 21) (n := 42) rfl)
theorem dX10_clause_22 : decode cX10_clause 22 = .ok (.iconst 0, 1) := dq_3 (hz_wg wX10_clause_0 (j := 22) (n := 3) rfl)
theorem dX10_clause_23 : decode cX10_clause 23 = .ok (.iload_n 2, 1) := dq_28 (hz_wg wX10_clause_0 (j := 23) (n := 28) rfl)
theorem dX10_clause_24 : decode cX10_clause 24 = .ok (.invokevirtual 255, 3) := dq_182 (hz_wg wX10_clause_0 (j := 24) (n := 182) rfl) (hz_wg wX10_clause_0 (j := 25) (n := 0) rfl) (hz_wg wX10_clause_0 (j := 26) (n := 255) rfl) rfl
theorem dX10_clause_27 : decode cX10_clause 27 = .ok (.ireturn, 1) := dq_172 (hz_wg wX10_clause_0 (j := 27) (n := 172) rfl)
theorem dX10_clause_28 : decode cX10_clause 28 = .ok (.iload_n 1, 1) := dq_27 (hz_wg wX10_clause_0 (j := 28) (n := 27) rfl)
theorem dX10_clause_29 : decode cX10_clause 29 = .ok (.bipush 20, 2) := dq_16 (hz_wg wX10_clause_0 (j := 29) (n := 16) rfl) (hz_wg wX10_clause_0 (j := 30) (n := 20) rfl) (by decide)
theorem dX10_clause_31 : decode cX10_clause 31 = .ok (.if_icmp .ne 33, 3) := dq_160 (hz_wg wX10_clause_0 (j := 31) (n := 160) rfl) (hz_wg wX10_clause_0 (j := 32) (n := 0) rfl) (hz_wg wX10_clause_0 (j := 33) (n := 33) rfl) (by decide)
theorem dX10_clause_34 : decode cX10_clause 34 = .ok (.aload_n 0, 1) := dq_42 (hz_wg wX10_clause_0 (j := 34) (n := 42) rfl)
theorem dX10_clause_35 : decode cX10_clause 35 = .ok (.bipush 20, 2) := dq_16 (hz_wg wX10_clause_0 (j := 35) (n := 16) rfl) (hz_wg wX10_clause_0 (j := 36) (n := 20) rfl) (by decide)
theorem dX10_clause_37 : decode cX10_clause 37 = .ok (.iload_n 2, 1) := dq_28 (hz_wg wX10_clause_0 (j := 37) (n := 28) rfl)
theorem dX10_clause_38 : decode cX10_clause 38 = .ok (.invokevirtual 309, 3) := dq_182 (hz_wg wX10_clause_0 (j := 38) (n := 182) rfl) (hz_wg wX10_clause_0 (j := 39) (n := 1) rfl) (hz_wg wX10_clause_0 (j := 40) (n := 53) rfl) rfl
theorem dX10_clause_41 : decode cX10_clause 41 = .ok (.ifCond .ne 5, 3) := dq_154 (hz_wg wX10_clause_0 (j := 41) (n := 154) rfl) (hz_wg wX10_clause_0 (j := 42) (n := 0) rfl) (hz_wg wX10_clause_0 (j := 43) (n := 5) rfl) (by decide)
theorem dX10_clause_44 : decode cX10_clause 44 = .ok (.iconst 0, 1) := dq_3 (hz_wg wX10_clause_0 (j := 44) (n := 3) rfl)
theorem dX10_clause_45 : decode cX10_clause 45 = .ok (.ireturn, 1) := dq_172 (hz_wg wX10_clause_0 (j := 45) (n := 172) rfl)
theorem dX10_clause_46 : decode cX10_clause 46 = .ok (.aload_n 0, 1) := dq_42 (hz_wg wX10_clause_0 (j := 46) (n := 42) rfl)
theorem dX10_clause_47 : decode cX10_clause 47 = .ok (.dup, 1) := dq_89 (hz_wg wX10_clause_0 (j := 47) (n := 89) rfl)
theorem dX10_clause_48 : decode cX10_clause 48 = .ok (.getfield 245, 3) := dq_180 (hz_wg wX10_clause_0 (j := 48) (n := 180) rfl) (hz_wg wX10_clause_0 (j := 49) (n := 0) rfl) (hz_wg wX10_clause_0 (j := 50) (n := 245) rfl) rfl
theorem dX10_clause_51 : decode cX10_clause 51 = .ok (.aload_n 0, 1) := dq_42 (hz_wg wX10_clause_0 (j := 51) (n := 42) rfl)
theorem dX10_clause_52 : decode cX10_clause 52 = .ok (.getfield 252, 3) := dq_180 (hz_wg wX10_clause_0 (j := 52) (n := 180) rfl) (hz_wg wX10_clause_0 (j := 53) (n := 0) rfl) (hz_wg wX10_clause_0 (j := 54) (n := 252) rfl) rfl
theorem dX10_clause_55 : decode cX10_clause 55 = .ok (.iadd, 1) := dq_96 (hz_wg wX10_clause_0 (j := 55) (n := 96) rfl)
theorem dX10_clause_56 : decode cX10_clause 56 = .ok (.putfield 245, 3) := dq_181 (hz_wg wX10_clause_0 (j := 56) (n := 181) rfl) (hz_wg wX10_clause_0 (j := 57) (n := 0) rfl) (hz_wg wX10_clause_0 (j := 58) (n := 245) rfl) rfl
theorem dX10_clause_59 : decode cX10_clause 59 = .ok (.aload_n 0, 1) := dq_42 (hz_wg wX10_clause_0 (j := 59) (n := 42) rfl)
theorem dX10_clause_60 : decode cX10_clause 60 = .ok (.invokevirtual 312, 3) := dq_182 (hz_wg wX10_clause_0 (j := 60) (n := 182) rfl) (hz_wg wX10_clause_0 (j := 61) (n := 1) rfl) (hz_wg wX10_clause_0 (j := 62) (n := 56) rfl) rfl
theorem dX10_clause_63 : decode cX10_clause 63 = .ok (.ireturn, 1) := dq_172 (hz_wg wX10_clause_0 (j := 63) (n := 172) rfl)
theorem dX10_clause_64 : decode cX10_clause 64 = .ok (.iload_n 1, 1) := dq_27 (hz_wg wX10_clause_1 (j := 0) (n := 27) rfl)
theorem dX10_clause_65 : decode cX10_clause 65 = .ok (.bipush 19, 2) := dq_16 (hz_wg wX10_clause_1 (j := 1) (n := 16) rfl) (hz_wg wX10_clause_1 (j := 2) (n := 19) rfl) (by decide)
theorem dX10_clause_67 : decode cX10_clause 67 = .ok (.if_icmp .ne 101, 3) := dq_160 (hz_wg wX10_clause_1 (j := 3) (n := 160) rfl) (hz_wg wX10_clause_1 (j := 4) (n := 0) rfl) (hz_wg wX10_clause_1 (j := 5) (n := 101) rfl) (by decide)
theorem dX10_clause_70 : decode cX10_clause 70 = .ok (.aload_n 0, 1) := dq_42 (hz_wg wX10_clause_1 (j := 6) (n := 42) rfl)
theorem dX10_clause_71 : decode cX10_clause 71 = .ok (.dup, 1) := dq_89 (hz_wg wX10_clause_1 (j := 7) (n := 89) rfl)
theorem dX10_clause_72 : decode cX10_clause 72 = .ok (.getfield 245, 3) := dq_180 (hz_wg wX10_clause_1 (j := 8) (n := 180) rfl) (hz_wg wX10_clause_1 (j := 9) (n := 0) rfl) (hz_wg wX10_clause_1 (j := 10) (n := 245) rfl) rfl
theorem dX10_clause_75 : decode cX10_clause 75 = .ok (.aload_n 0, 1) := dq_42 (hz_wg wX10_clause_1 (j := 11) (n := 42) rfl)
theorem dX10_clause_76 : decode cX10_clause 76 = .ok (.getfield 252, 3) := dq_180 (hz_wg wX10_clause_1 (j := 12) (n := 180) rfl) (hz_wg wX10_clause_1 (j := 13) (n := 0) rfl) (hz_wg wX10_clause_1 (j := 14) (n := 252) rfl) rfl
theorem dX10_clause_79 : decode cX10_clause 79 = .ok (.iadd, 1) := dq_96 (hz_wg wX10_clause_1 (j := 15) (n := 96) rfl)
theorem dX10_clause_80 : decode cX10_clause 80 = .ok (.putfield 245, 3) := dq_181 (hz_wg wX10_clause_1 (j := 16) (n := 181) rfl) (hz_wg wX10_clause_1 (j := 17) (n := 0) rfl) (hz_wg wX10_clause_1 (j := 18) (n := 245) rfl) rfl
theorem dX10_clause_83 : decode cX10_clause 83 = .ok (.aload_n 0, 1) := dq_42 (hz_wg wX10_clause_1 (j := 19) (n := 42) rfl)
theorem dX10_clause_84 : decode cX10_clause 84 = .ok (.invokevirtual 277, 3) := dq_182 (hz_wg wX10_clause_1 (j := 20) (n := 182) rfl) (hz_wg wX10_clause_1 (j := 21) (n := 1) rfl) (hz_wg wX10_clause_1 (j := 22) (n := 21) rfl) rfl
theorem dX10_clause_87 : decode cX10_clause 87 = .ok (.bipush 21, 2) := dq_16 (hz_wg wX10_clause_1 (j := 23) (n := 16) rfl) (hz_wg wX10_clause_1 (j := 24) (n := 21) rfl) (by decide)
theorem dX10_clause_89 : decode cX10_clause 89 = .ok (.isub, 1) := dq_100 (hz_wg wX10_clause_1 (j := 25) (n := 100) rfl)
theorem dX10_clause_90 : decode cX10_clause 90 = .ok (.istore_n 3, 1) := dq_62 (hz_wg wX10_clause_1 (j := 26) (n := 62) rfl)
theorem dX10_clause_91 : decode cX10_clause 91 = .ok (.iload_n 3, 1) := dq_29 (hz_wg wX10_clause_1 (j := 27) (n := 29) rfl)
theorem dX10_clause_92 : decode cX10_clause 92 = .ok (.iconst 0, 1) := dq_3 (hz_wg wX10_clause_1 (j := 28) (n := 3) rfl)
theorem dX10_clause_93 : decode cX10_clause 93 = .ok (.iconst 3, 1) := dq_6 (hz_wg wX10_clause_1 (j := 29) (n := 6) rfl)
theorem dX10_clause_94 : decode cX10_clause 94 = .ok (.invokestatic 228, 3) := dq_184 (hz_wg wX10_clause_1 (j := 30) (n := 184) rfl) (hz_wg wX10_clause_1 (j := 31) (n := 0) rfl) (hz_wg wX10_clause_1 (j := 32) (n := 228) rfl) rfl
theorem dX10_clause_97 : decode cX10_clause 97 = .ok (.ifCond .ne 13, 3) := dq_154 (hz_wg wX10_clause_1 (j := 33) (n := 154) rfl) (hz_wg wX10_clause_1 (j := 34) (n := 0) rfl) (hz_wg wX10_clause_1 (j := 35) (n := 13) rfl) (by decide)
theorem dX10_clause_100 : decode cX10_clause 100 = .ok (.aload_n 0, 1) := dq_42 (hz_wg wX10_clause_1 (j := 36) (n := 42) rfl)
theorem dX10_clause_101 : decode cX10_clause 101 = .ok (.iconst 0, 1) := dq_3 (hz_wg wX10_clause_1 (j := 37) (n := 3) rfl)
theorem dX10_clause_102 : decode cX10_clause 102 = .ok (.aload_n 0, 1) := dq_42 (hz_wg wX10_clause_1 (j := 38) (n := 42) rfl)
theorem dX10_clause_103 : decode cX10_clause 103 = .ok (.getfield 245, 3) := dq_180 (hz_wg wX10_clause_1 (j := 39) (n := 180) rfl) (hz_wg wX10_clause_1 (j := 40) (n := 0) rfl) (hz_wg wX10_clause_1 (j := 41) (n := 245) rfl) rfl
theorem dX10_clause_106 : decode cX10_clause 106 = .ok (.invokevirtual 255, 3) := dq_182 (hz_wg wX10_clause_1 (j := 42) (n := 182) rfl) (hz_wg wX10_clause_1 (j := 43) (n := 0) rfl) (hz_wg wX10_clause_1 (j := 44) (n := 255) rfl) rfl
theorem dX10_clause_109 : decode cX10_clause 109 = .ok (.ireturn, 1) := dq_172 (hz_wg wX10_clause_1 (j := 45) (n := 172) rfl)
theorem dX10_clause_110 : decode cX10_clause 110 = .ok (.aload_n 0, 1) := dq_42 (hz_wg wX10_clause_1 (j := 46) (n := 42) rfl)
theorem dX10_clause_111 : decode cX10_clause 111 = .ok (.bipush 9, 2) := dq_16 (hz_wg wX10_clause_1 (j := 47) (n := 16) rfl) (hz_wg wX10_clause_1 (j := 48) (n := 9) rfl) (by decide)
theorem dX10_clause_113 : decode cX10_clause 113 = .ok (.iload_n 3, 1) := dq_29 (hz_wg wX10_clause_1 (j := 49) (n := 29) rfl)
theorem dX10_clause_114 : decode cX10_clause 114 = .ok (.iadd, 1) := dq_96 (hz_wg wX10_clause_1 (j := 50) (n := 96) rfl)
theorem dX10_clause_115 : decode cX10_clause 115 = .ok (.aload_n 0, 1) := dq_42 (hz_wg wX10_clause_1 (j := 51) (n := 42) rfl)
theorem dX10_clause_116 : decode cX10_clause 116 = .ok (.getfield 245, 3) := dq_180 (hz_wg wX10_clause_1 (j := 52) (n := 180) rfl) (hz_wg wX10_clause_1 (j := 53) (n := 0) rfl) (hz_wg wX10_clause_1 (j := 54) (n := 245) rfl) rfl
theorem dX10_clause_119 : decode cX10_clause 119 = .ok (.invokevirtual 309, 3) := dq_182 (hz_wg wX10_clause_1 (j := 55) (n := 182) rfl) (hz_wg wX10_clause_1 (j := 56) (n := 1) rfl) (hz_wg wX10_clause_1 (j := 57) (n := 53) rfl) rfl
theorem dX10_clause_122 : decode cX10_clause 122 = .ok (.ifCond .ne 5, 3) := dq_154 (hz_wg wX10_clause_1 (j := 58) (n := 154) rfl) (hz_wg wX10_clause_1 (j := 59) (n := 0) rfl) (hz_wg wX10_clause_1 (j := 60) (n := 5) rfl) (by decide)
theorem dX10_clause_125 : decode cX10_clause 125 = .ok (.iconst 0, 1) := dq_3 (hz_wg wX10_clause_1 (j := 61) (n := 3) rfl)
theorem dX10_clause_126 : decode cX10_clause 126 = .ok (.ireturn, 1) := dq_172 (hz_wg wX10_clause_1 (j := 62) (n := 172) rfl)
theorem dX10_clause_127 : decode cX10_clause 127 = .ok (.aload_n 0, 1) := dq_42 (hz_wg wX10_clause_1 (j := 63) (n := 42) rfl)
theorem dX10_clause_128 : decode cX10_clause 128 = .ok (.dup, 1) := dq_89 (hz_wg wX10_clause_2 (j := 0) (n := 89) rfl)
theorem dX10_clause_129 : decode cX10_clause 129 = .ok (.getfield 245, 3) := dq_180 (hz_wg wX10_clause_2 (j := 1) (n := 180) rfl) (hz_wg wX10_clause_2 (j := 2) (n := 0) rfl) (hz_wg wX10_clause_2 (j := 3) (n := 245) rfl) rfl
theorem dX10_clause_132 : decode cX10_clause 132 = .ok (.aload_n 0, 1) := dq_42 (hz_wg wX10_clause_2 (j := 4) (n := 42) rfl)
theorem dX10_clause_133 : decode cX10_clause 133 = .ok (.getfield 252, 3) := dq_180 (hz_wg wX10_clause_2 (j := 5) (n := 180) rfl) (hz_wg wX10_clause_2 (j := 6) (n := 0) rfl) (hz_wg wX10_clause_2 (j := 7) (n := 252) rfl) rfl
theorem dX10_clause_136 : decode cX10_clause 136 = .ok (.iadd, 1) := dq_96 (hz_wg wX10_clause_2 (j := 8) (n := 96) rfl)
theorem dX10_clause_137 : decode cX10_clause 137 = .ok (.putfield 245, 3) := dq_181 (hz_wg wX10_clause_2 (j := 9) (n := 181) rfl) (hz_wg wX10_clause_2 (j := 10) (n := 0) rfl) (hz_wg wX10_clause_2 (j := 11) (n := 245) rfl) rfl
theorem dX10_clause_140 : decode cX10_clause 140 = .ok (.aload_n 0, 1) := dq_42 (hz_wg wX10_clause_2 (j := 12) (n := 42) rfl)
theorem dX10_clause_141 : decode cX10_clause 141 = .ok (.iconst 0, 1) := dq_3 (hz_wg wX10_clause_2 (j := 13) (n := 3) rfl)
theorem dX10_clause_142 : decode cX10_clause 142 = .ok (.sipush 999, 3) := dq_17 (hz_wg wX10_clause_2 (j := 14) (n := 17) rfl) (hz_wg wX10_clause_2 (j := 15) (n := 3) rfl) (hz_wg wX10_clause_2 (j := 16) (n := 231) rfl) (by decide)
theorem dX10_clause_145 : decode cX10_clause 145 = .ok (.invokevirtual 287, 3) := dq_182 (hz_wg wX10_clause_2 (j := 17) (n := 182) rfl) (hz_wg wX10_clause_2 (j := 18) (n := 1) rfl) (hz_wg wX10_clause_2 (j := 19) (n := 31) rfl) rfl
theorem dX10_clause_148 : decode cX10_clause 148 = .ok (.ifCond .ne 5, 3) := dq_154 (hz_wg wX10_clause_2 (j := 20) (n := 154) rfl) (hz_wg wX10_clause_2 (j := 21) (n := 0) rfl) (hz_wg wX10_clause_2 (j := 22) (n := 5) rfl) (by decide)
theorem dX10_clause_151 : decode cX10_clause 151 = .ok (.iconst 0, 1) := dq_3 (hz_wg wX10_clause_2 (j := 23) (n := 3) rfl)
theorem dX10_clause_152 : decode cX10_clause 152 = .ok (.ireturn, 1) := dq_172 (hz_wg wX10_clause_2 (j := 24) (n := 172) rfl)
theorem dX10_clause_153 : decode cX10_clause 153 = .ok (.aload_n 0, 1) := dq_42 (hz_wg wX10_clause_2 (j := 25) (n := 42) rfl)
theorem dX10_clause_154 : decode cX10_clause 154 = .ok (.getfield 26, 3) := dq_180 (hz_wg wX10_clause_2 (j := 26) (n := 180) rfl) (hz_wg wX10_clause_2 (j := 27) (n := 0) rfl) (hz_wg wX10_clause_2 (j := 28) (n := 26) rfl) rfl
theorem dX10_clause_157 : decode cX10_clause 157 = .ok (.bipush 9, 2) := dq_16 (hz_wg wX10_clause_2 (j := 29) (n := 16) rfl) (hz_wg wX10_clause_2 (j := 30) (n := 9) rfl) (by decide)
theorem dX10_clause_159 : decode cX10_clause 159 = .ok (.iload_n 3, 1) := dq_29 (hz_wg wX10_clause_2 (j := 31) (n := 29) rfl)
theorem dX10_clause_160 : decode cX10_clause 160 = .ok (.iadd, 1) := dq_96 (hz_wg wX10_clause_2 (j := 32) (n := 96) rfl)
theorem dX10_clause_161 : decode cX10_clause 161 = .ok (.aload_n 0, 1) := dq_42 (hz_wg wX10_clause_2 (j := 33) (n := 42) rfl)
theorem dX10_clause_162 : decode cX10_clause 162 = .ok (.getfield 259, 3) := dq_180 (hz_wg wX10_clause_2 (j := 34) (n := 180) rfl) (hz_wg wX10_clause_2 (j := 35) (n := 1) rfl) (hz_wg wX10_clause_2 (j := 36) (n := 3) rfl) rfl
theorem dX10_clause_165 : decode cX10_clause 165 = .ok (.iastore, 1) := dq_79 (hz_wg wX10_clause_2 (j := 37) (n := 79) rfl)
theorem dX10_clause_166 : decode cX10_clause 166 = .ok (.iconst 1, 1) := dq_4 (hz_wg wX10_clause_2 (j := 38) (n := 4) rfl)
theorem dX10_clause_167 : decode cX10_clause 167 = .ok (.ireturn, 1) := dq_172 (hz_wg wX10_clause_2 (j := 39) (n := 172) rfl)
theorem dX10_clause_168 : decode cX10_clause 168 = .ok (.iload_n 1, 1) := dq_27 (hz_wg wX10_clause_2 (j := 40) (n := 27) rfl)
theorem dX10_clause_169 : decode cX10_clause 169 = .ok (.bipush 11, 2) := dq_16 (hz_wg wX10_clause_2 (j := 41) (n := 16) rfl) (hz_wg wX10_clause_2 (j := 42) (n := 11) rfl) (by decide)
theorem dX10_clause_171 : decode cX10_clause 171 = .ok (.isub, 1) := dq_100 (hz_wg wX10_clause_2 (j := 43) (n := 100) rfl)
theorem dX10_clause_172 : decode cX10_clause 172 = .ok (.istore_n 3, 1) := dq_62 (hz_wg wX10_clause_2 (j := 44) (n := 62) rfl)
theorem dX10_clause_173 : decode cX10_clause 173 = .ok (.iload_n 3, 1) := dq_29 (hz_wg wX10_clause_2 (j := 45) (n := 29) rfl)
theorem dX10_clause_174 : decode cX10_clause 174 = .ok (.iconst 5, 1) := dq_8 (hz_wg wX10_clause_2 (j := 46) (n := 8) rfl)
theorem dX10_clause_175 : decode cX10_clause 175 = .ok (.if_icmp .le 9, 3) := dq_164 (hz_wg wX10_clause_2 (j := 47) (n := 164) rfl) (hz_wg wX10_clause_2 (j := 48) (n := 0) rfl) (hz_wg wX10_clause_2 (j := 49) (n := 9) rfl) (by decide)
theorem dX10_clause_178 : decode cX10_clause 178 = .ok (.iload_n 3, 1) := dq_29 (hz_wg wX10_clause_2 (j := 50) (n := 29) rfl)
theorem dX10_clause_179 : decode cX10_clause 179 = .ok (.iconst 1, 1) := dq_4 (hz_wg wX10_clause_2 (j := 51) (n := 4) rfl)
theorem dX10_clause_180 : decode cX10_clause 180 = .ok (.iadd, 1) := dq_96 (hz_wg wX10_clause_2 (j := 52) (n := 96) rfl)
theorem dX10_clause_181 : decode cX10_clause 181 = .ok (.goto 4, 3) := dq_167 (hz_wg wX10_clause_2 (j := 53) (n := 167) rfl) (hz_wg wX10_clause_2 (j := 54) (n := 0) rfl) (hz_wg wX10_clause_2 (j := 55) (n := 4) rfl) (by decide)
theorem dX10_clause_184 : decode cX10_clause 184 = .ok (.iload_n 3, 1) := dq_29 (hz_wg wX10_clause_2 (j := 56) (n := 29) rfl)
theorem dX10_clause_185 : decode cX10_clause 185 = .ok (.istore_n 3, 1) := dq_62 (hz_wg wX10_clause_2 (j := 57) (n := 62) rfl)
theorem dX10_clause_186 : decode cX10_clause 186 = .ok (.aload_n 0, 1) := dq_42 (hz_wg wX10_clause_2 (j := 58) (n := 42) rfl)
theorem dX10_clause_187 : decode cX10_clause 187 = .ok (.iload_n 3, 1) := dq_29 (hz_wg wX10_clause_2 (j := 59) (n := 29) rfl)
theorem dX10_clause_188 : decode cX10_clause 188 = .ok (.iload_n 2, 1) := dq_28 (hz_wg wX10_clause_2 (j := 60) (n := 28) rfl)
theorem dX10_clause_189 : decode cX10_clause 189 = .ok (.invokevirtual 309, 3) := dq_182 (hz_wg wX10_clause_2 (j := 61) (n := 182) rfl) (hz_wg wX10_clause_2 (j := 62) (n := 1) rfl) (hz_wg wX10_clause_2 (j := 63) (n := 53) rfl) rfl
theorem dX10_clause_192 : decode cX10_clause 192 = .ok (.ifCond .ne 5, 3) := dq_154 (hz_wg wX10_clause_3 (j := 0) (n := 154) rfl) (hz_wg wX10_clause_3 (j := 1) (n := 0) rfl) (hz_wg wX10_clause_3 (j := 2) (n := 5) rfl) (by decide)
theorem dX10_clause_195 : decode cX10_clause 195 = .ok (.iconst 0, 1) := dq_3 (hz_wg wX10_clause_3 (j := 3) (n := 3) rfl)
theorem dX10_clause_196 : decode cX10_clause 196 = .ok (.ireturn, 1) := dq_172 (hz_wg wX10_clause_3 (j := 4) (n := 172) rfl)
theorem dX10_clause_197 : decode cX10_clause 197 = .ok (.aload_n 0, 1) := dq_42 (hz_wg wX10_clause_3 (j := 5) (n := 42) rfl)
theorem dX10_clause_198 : decode cX10_clause 198 = .ok (.dup, 1) := dq_89 (hz_wg wX10_clause_3 (j := 6) (n := 89) rfl)
theorem dX10_clause_199 : decode cX10_clause 199 = .ok (.getfield 245, 3) := dq_180 (hz_wg wX10_clause_3 (j := 7) (n := 180) rfl) (hz_wg wX10_clause_3 (j := 8) (n := 0) rfl) (hz_wg wX10_clause_3 (j := 9) (n := 245) rfl) rfl
theorem dX10_clause_202 : decode cX10_clause 202 = .ok (.aload_n 0, 1) := dq_42 (hz_wg wX10_clause_3 (j := 10) (n := 42) rfl)
theorem dX10_clause_203 : decode cX10_clause 203 = .ok (.getfield 252, 3) := dq_180 (hz_wg wX10_clause_3 (j := 11) (n := 180) rfl) (hz_wg wX10_clause_3 (j := 12) (n := 0) rfl) (hz_wg wX10_clause_3 (j := 13) (n := 252) rfl) rfl
theorem dX10_clause_206 : decode cX10_clause 206 = .ok (.iadd, 1) := dq_96 (hz_wg wX10_clause_3 (j := 14) (n := 96) rfl)
theorem dX10_clause_207 : decode cX10_clause 207 = .ok (.putfield 245, 3) := dq_181 (hz_wg wX10_clause_3 (j := 15) (n := 181) rfl) (hz_wg wX10_clause_3 (j := 16) (n := 0) rfl) (hz_wg wX10_clause_3 (j := 17) (n := 245) rfl) rfl
theorem dX10_clause_210 : decode cX10_clause 210 = .ok (.aload_n 0, 1) := dq_42 (hz_wg wX10_clause_3 (j := 18) (n := 42) rfl)
theorem dX10_clause_211 : decode cX10_clause 211 = .ok (.iload_n 3, 1) := dq_29 (hz_wg wX10_clause_3 (j := 19) (n := 29) rfl)
theorem dX10_clause_212 : decode cX10_clause 212 = .ok (.invokestatic 315, 3) := dq_184 (hz_wg wX10_clause_3 (j := 20) (n := 184) rfl) (hz_wg wX10_clause_3 (j := 21) (n := 1) rfl) (hz_wg wX10_clause_3 (j := 22) (n := 59) rfl) rfl
theorem dX10_clause_215 : decode cX10_clause 215 = .ok (.iload_n 3, 1) := dq_29 (hz_wg wX10_clause_3 (j := 23) (n := 29) rfl)
theorem dX10_clause_216 : decode cX10_clause 216 = .ok (.invokestatic 318, 3) := dq_184 (hz_wg wX10_clause_3 (j := 24) (n := 184) rfl) (hz_wg wX10_clause_3 (j := 25) (n := 1) rfl) (hz_wg wX10_clause_3 (j := 26) (n := 62) rfl) rfl
theorem dX10_clause_219 : decode cX10_clause 219 = .ok (.invokevirtual 287, 3) := dq_182 (hz_wg wX10_clause_3 (j := 27) (n := 182) rfl) (hz_wg wX10_clause_3 (j := 28) (n := 1) rfl) (hz_wg wX10_clause_3 (j := 29) (n := 31) rfl) rfl
theorem dX10_clause_222 : decode cX10_clause 222 = .ok (.ifCond .ne 5, 3) := dq_154 (hz_wg wX10_clause_3 (j := 30) (n := 154) rfl) (hz_wg wX10_clause_3 (j := 31) (n := 0) rfl) (hz_wg wX10_clause_3 (j := 32) (n := 5) rfl) (by decide)
theorem dX10_clause_225 : decode cX10_clause 225 = .ok (.iconst 0, 1) := dq_3 (hz_wg wX10_clause_3 (j := 33) (n := 3) rfl)
theorem dX10_clause_226 : decode cX10_clause 226 = .ok (.ireturn, 1) := dq_172 (hz_wg wX10_clause_3 (j := 34) (n := 172) rfl)
theorem dX10_clause_227 : decode cX10_clause 227 = .ok (.aload_n 0, 1) := dq_42 (hz_wg wX10_clause_3 (j := 35) (n := 42) rfl)
theorem dX10_clause_228 : decode cX10_clause 228 = .ok (.getfield 26, 3) := dq_180 (hz_wg wX10_clause_3 (j := 36) (n := 180) rfl) (hz_wg wX10_clause_3 (j := 37) (n := 0) rfl) (hz_wg wX10_clause_3 (j := 38) (n := 26) rfl) rfl
theorem dX10_clause_231 : decode cX10_clause 231 = .ok (.iload_n 3, 1) := dq_29 (hz_wg wX10_clause_3 (j := 39) (n := 29) rfl)
theorem dX10_clause_232 : decode cX10_clause 232 = .ok (.aload_n 0, 1) := dq_42 (hz_wg wX10_clause_3 (j := 40) (n := 42) rfl)
theorem dX10_clause_233 : decode cX10_clause 233 = .ok (.getfield 259, 3) := dq_180 (hz_wg wX10_clause_3 (j := 41) (n := 180) rfl) (hz_wg wX10_clause_3 (j := 42) (n := 1) rfl) (hz_wg wX10_clause_3 (j := 43) (n := 3) rfl) rfl
theorem dX10_clause_236 : decode cX10_clause 236 = .ok (.iastore, 1) := dq_79 (hz_wg wX10_clause_3 (j := 44) (n := 79) rfl)
theorem dX10_clause_237 : decode cX10_clause 237 = .ok (.iload_n 3, 1) := dq_29 (hz_wg wX10_clause_3 (j := 45) (n := 29) rfl)
theorem dX10_clause_238 : decode cX10_clause 238 = .ok (.iconst 5, 1) := dq_8 (hz_wg wX10_clause_3 (j := 46) (n := 8) rfl)
theorem dX10_clause_239 : decode cX10_clause 239 = .ok (.if_icmp .eq 5, 3) := dq_159 (hz_wg wX10_clause_3 (j := 47) (n := 159) rfl) (hz_wg wX10_clause_3 (j := 48) (n := 0) rfl) (hz_wg wX10_clause_3 (j := 49) (n := 5) rfl) (by decide)
theorem dX10_clause_242 : decode cX10_clause 242 = .ok (.iconst 1, 1) := dq_4 (hz_wg wX10_clause_3 (j := 50) (n := 4) rfl)
theorem dX10_clause_243 : decode cX10_clause 243 = .ok (.ireturn, 1) := dq_172 (hz_wg wX10_clause_3 (j := 51) (n := 172) rfl)
theorem dX10_clause_244 : decode cX10_clause 244 = .ok (.aload_n 0, 1) := dq_42 (hz_wg wX10_clause_3 (j := 52) (n := 42) rfl)
theorem dX10_clause_245 : decode cX10_clause 245 = .ok (.iconst 1, 1) := dq_4 (hz_wg wX10_clause_3 (j := 53) (n := 4) rfl)
theorem dX10_clause_246 : decode cX10_clause 246 = .ok (.bipush 30, 2) := dq_16 (hz_wg wX10_clause_3 (j := 54) (n := 16) rfl) (hz_wg wX10_clause_3 (j := 55) (n := 30) rfl) (by decide)
theorem dX10_clause_248 : decode cX10_clause 248 = .ok (.invokevirtual 287, 3) := dq_182 (hz_wg wX10_clause_3 (j := 56) (n := 182) rfl) (hz_wg wX10_clause_3 (j := 57) (n := 1) rfl) (hz_wg wX10_clause_3 (j := 58) (n := 31) rfl) rfl
theorem dX10_clause_251 : decode cX10_clause 251 = .ok (.ifCond .ne 5, 3) := dq_154 (hz_wg wX10_clause_3 (j := 59) (n := 154) rfl) (hz_wg wX10_clause_3 (j := 60) (n := 0) rfl) (hz_wg wX10_clause_3 (j := 61) (n := 5) rfl) (by decide)
theorem dX10_clause_254 : decode cX10_clause 254 = .ok (.iconst 0, 1) := dq_3 (hz_wg wX10_clause_3 (j := 62) (n := 3) rfl)
theorem dX10_clause_255 : decode cX10_clause 255 = .ok (.ireturn, 1) := dq_172 (hz_wg wX10_clause_3 (j := 63) (n := 172) rfl)
theorem dX10_clause_256 : decode cX10_clause 256 = .ok (.aload_n 0, 1) := dq_42 (hz_wg wX10_clause_4 (j := 0) (n := 42) rfl)
theorem dX10_clause_257 : decode cX10_clause 257 = .ok (.getfield 26, 3) := dq_180 (hz_wg wX10_clause_4 (j := 1) (n := 180) rfl) (hz_wg wX10_clause_4 (j := 2) (n := 0) rfl) (hz_wg wX10_clause_4 (j := 3) (n := 26) rfl) rfl
theorem dX10_clause_260 : decode cX10_clause 260 = .ok (.bipush 6, 2) := dq_16 (hz_wg wX10_clause_4 (j := 4) (n := 16) rfl) (hz_wg wX10_clause_4 (j := 5) (n := 6) rfl) (by decide)
theorem dX10_clause_262 : decode cX10_clause 262 = .ok (.aload_n 0, 1) := dq_42 (hz_wg wX10_clause_4 (j := 6) (n := 42) rfl)
theorem dX10_clause_263 : decode cX10_clause 263 = .ok (.getfield 259, 3) := dq_180 (hz_wg wX10_clause_4 (j := 7) (n := 180) rfl) (hz_wg wX10_clause_4 (j := 8) (n := 1) rfl) (hz_wg wX10_clause_4 (j := 9) (n := 3) rfl) rfl
theorem dX10_clause_266 : decode cX10_clause 266 = .ok (.iastore, 1) := dq_79 (hz_wg wX10_clause_4 (j := 10) (n := 79) rfl)
theorem dX10_clause_267 : decode cX10_clause 267 = .ok (.iconst 1, 1) := dq_4 (hz_wg wX10_clause_4 (j := 11) (n := 4) rfl)
theorem dX10_clause_268 : decode cX10_clause 268 = .ok (.ireturn, 1) := dq_172 (hz_wg wX10_clause_4 (j := 12) (n := 172) rfl)
set_option maxHeartbeats 4000000 in
set_option maxRecDepth 100000 in
theorem t_X10_clause (l : Launch) (dC : Nat → ClassId) (dI : Nat → Nat → Nat) (dA : Nat → ClassId) (L : List Nat) (h : hx_h) (sz : Nat) (x : Nat) (hT : hx_T T_tb L h) (gx : hx_g L h x 10) (qs : Nat) (gqs : hx_g L h qs 55) (f_x_15 : h.2.2 x 15 = some qs) (qo : Nat) (gqo : hx_g L h qo 56) (f_x_17 : h.2.2 x 17 = some qo) (qt : Nat) (gqt : hx_g L h qt 53) (f_x_6 : h.2.2 x 6 = some qt) (qw : Nat) (gqw : hx_g L h qw 57) (f_x_19 : h.2.2 x 19 = some qw) (qr : Nat) (gqr : hx_g L h qr 54) (f_x_12 : h.2.2 x 12 = some qr) (sf : Nat → Int32) (af_qs : h.2.1 qs = sf) (of : Nat → Int32) (af_qo : h.2.1 qo = of) (tf : Nat → Int32) (af_qt : h.2.1 qt = tf) (wf : Nat → Int32) (af_qw : h.2.1 qw = wf) (rd : Nat → Int32) (af_qr : h.2.1 qr = rd) (nx0 : Int32) (f_x_8 : h.2.1 x 8 = nx0) (tp0 : Int32) (f_x_7 : h.2.1 x 7 = tp0) (st0 : Int32) (f_x_14 : h.2.1 x 14 = st0) (hrp : hx_rp sf st0.toInt.toNat = some 1) (hrd : hx_rk rd) (hwd : hx_wd wf) : Met l yX10_clause (Cond.code yX10_clause cX10_clause 4 (some .boolean) :: hx_all) ({ frames := 5, cells := 0, slots := 0, locals := 118 }) (va_Pc [.ref x] (hx_B T_tb (P_ty dA) (dC, dI) vwCl L h sz)) (va_Qi (fun (r : Int32) (u : List Nat × hx_h) => (∃ (nx1 : Int32) (st1 : Int32) (sf1 : Nat → Int32) (rd1 : Nat → Int32), u.2.2.1 x 8 = nx1 ∧ u.2.2.1 x 14 = st1 ∧ u.2.2.1 qs = sf1 ∧ u.2.2.1 qr = rd1 ∧ ((r.toInt = 0 ∨ r.toInt = 1) ∧ nx0.toInt ≤ nx1.toInt ∧ (r.toInt = 1 → nx0.toInt + 1 ≤ nx1.toInt ∧ hx_rp sf1 st1.toInt.toNat = some 1 ∧ hx_rk rd1))) ∧ hx_T T_tb u.1 u.2 ∧ hx_S T_tb [(10, 8), (10, 9), (10, 10), (10, 11), (10, 13), (10, 14), (10, 16), (10, 18), (54, 0), (55, 0), (56, 0)] L h u.1 u.2) (hx_E T_tb (P_ty dA) (dC, dI) vwCl (hx_A L sz)) (hx_A L sz)) 0 0 (hx_A L sz) := by
  refine hx_met (lv := [(0, .ref x)]) (by decide +kernel) rfl (Nat.le_of_ble_eq_true rfl) rfl ?_
  intro p e s m below meth c hx hb hml hr hlk hts0 hown hin hsz hW ls hl
  have hts : ∀ w ∈ hx_all, w.before _ s = true := fun w hw => hts0 w (List.mem_cons_of_mem _ hw)
  have hown : s.vm.findClass "SmallCourtModel" = some m.cls := hown
  have hM : hx_S T_tb [(10, 8), (10, 9), (10, 10), (10, 11), (10, 13), (10, 14), (10, 16), (10, 18), (54, 0), (55, 0), (56, 0)] L h L h := hx_S.rf
  have b_nx0 := hT.gi gx tt_10 (k := 8) rfl
  rw [f_x_8] at b_nx0
  have b_nx0 : 0 ≤ nx0.toInt ∧ nx0.toInt ≤ 402 := b_nx0
  have b_tp0 := hT.gi gx tt_10 (k := 7) rfl
  rw [f_x_7] at b_tp0
  have b_tp0 : 0 ≤ tp0.toInt ∧ tp0.toInt ≤ 400 := b_tp0
  have b_st0 := hT.gi gx tt_10 (k := 14) rfl
  rw [f_x_14] at b_st0
  have b_st0 : 0 ≤ st0.toInt ∧ st0.toInt ≤ 128 := b_st0
  refine lv_aload_n hx hb dX10_clause_0 rfl (lv_at hl 0 rfl) ?_
  refine hx_goi (hx_runV (As := []) (rest := []) ⟨hx, hb, hml, hown, hts⟩ hW (gx.S hM) tt_10 (T := TX10) (N := 98) rfl (t_X10_wordHere l dC dI dA L h s.heap.size x hT (gx.S hM) qt (gqt.S hM) ((hM.o gx trivial rfl).2.trans f_x_6) qw (gqw.S hM) ((hM.o gx trivial rfl).2.trans f_x_19) tf (hx_afS hM gqt rfl af_qt) wf (hx_afS hM gqw rfl af_qw) nx0 f_x_8 tp0 ((hM.o gx trivial rfl).1.trans f_x_7) hwd) (cwV 0 hts (hx_gV kw_1476 kw_1473 kw_1475 kw_55 kw_103) rfl rfl rfl (by decide +kernel) ⟨Nat.le_of_ble_eq_true rfl, Nat.le_of_ble_eq_true rfl⟩) rfl hl.1 rfl (Nat.le_of_ble_eq_true rfl) dX10_clause_1 ⟨Nat.le_of_ble_eq_true rfl, Nat.le_of_ble_eq_true rfl⟩) hW (fun r_3 L_1 h_2 H locs p_4 hW => ?_)
  obtain ⟨⟨w_6, w_7, fw_6, fw_7, hr_5⟩, hT, hs⟩ := p_4
  replace hT : hx_T T_tb L_1 h_2 := hT
  replace hs : hx_S T_tb [(10, 8), (10, 11)] L h L_1 h_2 := hs
  replace f_x_14 := (hs.o (gx.S hM) trivial rfl).1.trans f_x_14
  replace af_qs : h_2.2.1 qs = sf := (funext fun j => (hs.a (gqs.S hM) rfl j).1).trans af_qs
  replace af_qo : h_2.2.1 qo = of := (funext fun j => (hs.a (gqo.S hM) rfl j).1).trans af_qo
  replace af_qr : h_2.2.1 qr = rd := (funext fun j => (hs.a (gqr.S hM) rfl j).1).trans af_qr
  replace hM := hM.tr (hs.mono (by decide))
  have fw_6 : h_2.2.1 x 8 = w_6 := fw_6
  have bw_6 := hT.gi (gx.S hM) tt_10 (k := 8) rfl
  rw [fw_6] at bw_6
  have bw_6 : 0 ≤ w_6.toInt ∧ w_6.toInt ≤ 402 := bw_6
  have fw_7 : h_2.2.1 x 11 = w_7 := fw_7
  have bw_7 := hT.gi (gx.S hM) tt_10 (k := 11) rfl
  rw [fw_7] at bw_7
  have bw_7 : 0 ≤ w_7.toInt ∧ w_7.toInt ≤ 400 := bw_7
  refine lv_istore_n (lv' := [(1, .int r_3), (0, .ref x)]) hx hb dX10_clause_4 rfl hl (by decide) rfl (fun ls hl => ?_)
  refine lv_aload_n hx hb dX10_clause_5 rfl (lv_at hl 1 rfl) ?_
  refine hk_geti hx hb hts hC_10 hown hW (gx.S hM) tt_10 8 (by decide) rfl kw_1151 ⟨rfl, rfl, rfl⟩ fw_6 dX10_clause_6 ?_
  refine lv_istore_n (lv' := [(2, .int w_6), (1, .int r_3), (0, .ref x)]) hx hb dX10_clause_9 rfl hl (by decide) rfl (fun ls hl => ?_)
  refine lv_iload_n hx hb dX10_clause_10 rfl (lv_at hl 1 rfl) ?_
  refine lv_bipush (v := 11) hx hb dX10_clause_11 (by decide) ?_
  refine lv_bipush (v := 20) hx hb dX10_clause_13 (by decide) ?_
  have zc_20 : (20 : Int32).toInt = 20 := by decide
  have zc_11 : (11 : Int32).toInt = 11 := by decide
  refine hx_goi (hx_runS (As := [.int r_3, .int (11 : Int32), .int (20 : Int32)]) (rest := []) ⟨hx, hb, hml, hown, hts⟩ hW (t_X10_in l dC dI dA L_1 h_2 H.size r_3 (11 : Int32) (20 : Int32) hT) (va_cwS 3 hts (hx_gS kw_1445 kw_1443 kw_1444 kw_103) rfl rfl rfl (by decide +kernel) ⟨Nat.le_of_ble_eq_true rfl, Nat.le_of_ble_eq_true rfl⟩) rfl hl.1 rfl (Nat.le_of_ble_eq_true rfl) dX10_clause_15 ⟨Nat.le_of_ble_eq_true rfl, Nat.le_of_ble_eq_true rfl⟩) hW (fun r_10 L_8 h_9 H locs p_11 hW => ?_)
  obtain ⟨hr_12, hT, hs⟩ := p_11
  replace hT : hx_T T_tb L_8 h_9 := hT
  replace hs : hx_S T_tb [] L_1 h_2 L_8 h_9 := hs
  replace f_x_14 := (hs.o (gx.S hM) trivial rfl).1.trans f_x_14
  replace fw_6 := (hs.o (gx.S hM) trivial rfl).1.trans fw_6
  replace fw_7 := (hs.o (gx.S hM) trivial rfl).1.trans fw_7
  replace af_qs : h_9.2.1 qs = sf := (funext fun j => (hs.a (gqs.S hM) rfl j).1).trans af_qs
  replace af_qo : h_9.2.1 qo = of := (funext fun j => (hs.a (gqo.S hM) rfl j).1).trans af_qo
  replace af_qr : h_9.2.1 qr = rd := (funext fun j => (hs.a (gqr.S hM) rfl j).1).trans af_qr
  replace hM := hM.tr (hs.mono (by decide))
  refine hb_if_ne (zx := r_10.toInt) (tgt := 28) hx hb rfl dX10_clause_18 (by decide) (fun c_13 => ?_) (fun c_13 => ?_)
  · skip
    replace hr_12 := hr_12.resolve_left (fun z9 => c_13 z9.1)
    replace c_13 := hr_12.1
    replace hr_12 := hr_12.2
    refine lv_iload_n hx hb dX10_clause_28 rfl (lv_at hl 1 rfl) ?_
    refine lv_bipush (v := 20) hx hb dX10_clause_29 (by decide) ?_
    refine hb_icmp_ne (zx := r_3.toInt) (zy := 20) (tgt := 64) hx hb rfl (by decide) dX10_clause_31 (by decide) (fun c_14 => ?_) (fun c_14 => ?_)
    · skip
      refine lv_iload_n hx hb dX10_clause_64 rfl (lv_at hl 1 rfl) ?_
      refine lv_bipush (v := 19) hx hb dX10_clause_65 (by decide) ?_
      refine hb_icmp_ne (zx := r_3.toInt) (zy := 19) (tgt := 168) hx hb rfl (by decide) dX10_clause_67 (by decide) (fun c_15 => ?_) (fun c_15 => ?_)
      · skip
        refine lv_iload_n hx hb dX10_clause_168 rfl (lv_at hl 1 rfl) ?_
        refine lv_bipush (v := 11) hx hb dX10_clause_169 (by decide) ?_
        refine lv_isub hx hb dX10_clause_171 ?_
        have rg_16 := i32_r r_3
        refine lv_topi (fun x_17 ex_17 => ?_)
        have zx_17 : x_17.toInt = r_3.toInt - 11 := by rw [ex_17]; exact i32_sub rfl (by decide) (by omega) (by omega)
        refine lv_istore_n (lv' := [(3, .int x_17), (2, .int w_6), (1, .int r_3), (0, .ref x)]) hx hb dX10_clause_172 rfl hl (by decide) rfl (fun ls hl => ?_)
        refine lv_iload_n hx hb dX10_clause_173 rfl (lv_at hl 0 rfl) ?_
        refine lv_iconst (v := 5) hx hb dX10_clause_174 (by decide) ?_
        refine hb_icmp_le (zx := x_17.toInt) (zy := 5) (tgt := 184) hx hb rfl (by decide) dX10_clause_175 (by decide) (fun c_18 => ?_) (fun c_18 => ?_)
        · skip
          refine lv_iload_n hx hb dX10_clause_184 rfl (lv_at hl 0 rfl) ?_
          refine lv_istore_n (lv' := [(3, .int x_17), (2, .int w_6), (1, .int r_3), (0, .ref x)]) hx hb dX10_clause_185 rfl hl (by decide) rfl (fun ls hl => ?_)
          refine lv_aload_n hx hb dX10_clause_186 rfl (lv_at hl 3 rfl) ?_
          refine lv_iload_n hx hb dX10_clause_187 rfl (lv_at hl 0 rfl) ?_
          refine lv_iload_n hx hb dX10_clause_188 rfl (lv_at hl 1 rfl) ?_
          refine hx_goi (hx_runV (As := [.int x_17, .int w_6]) (rest := []) ⟨hx, hb, hml, hown, hts⟩ hW (gx.S hM) tt_10 (T := TX10) (N := 98) rfl (t_X10_isNew l dC dI dA L_8 h_9 H.size x x_17 w_6 hT (gx.S hM)) (cwV 2 hts (hx_gV kw_1484 kw_1481 kw_1483 kw_57 kw_103) rfl rfl rfl (by decide +kernel) ⟨Nat.le_of_ble_eq_true rfl, Nat.le_of_ble_eq_true rfl⟩) rfl hl.1 rfl (Nat.le_of_ble_eq_true rfl) dX10_clause_189 ⟨Nat.le_of_ble_eq_true rfl, Nat.le_of_ble_eq_true rfl⟩) hW (fun r_21 L_19 h_20 H locs p_22 hW => ?_)
          obtain ⟨hr_23, hT, hs⟩ := p_22
          replace hT : hx_T T_tb L_19 h_20 := hT
          replace hs : hx_S T_tb [(10, 9), (10, 13)] L_8 h_9 L_19 h_20 := hs
          replace f_x_14 := (hs.o (gx.S hM) trivial rfl).1.trans f_x_14
          replace fw_6 := (hs.o (gx.S hM) trivial rfl).1.trans fw_6
          replace fw_7 := (hs.o (gx.S hM) trivial rfl).1.trans fw_7
          replace af_qs : h_20.2.1 qs = sf := (funext fun j => (hs.a (gqs.S hM) rfl j).1).trans af_qs
          replace af_qo : h_20.2.1 qo = of := (funext fun j => (hs.a (gqo.S hM) rfl j).1).trans af_qo
          replace af_qr : h_20.2.1 qr = rd := (funext fun j => (hs.a (gqr.S hM) rfl j).1).trans af_qr
          replace hM := hM.tr (hs.mono (by decide))
          refine hb_if_ne (zx := r_21.toInt) (tgt := 197) hx hb rfl dX10_clause_192 (by decide) (fun c_24 => ?_) (fun c_24 => ?_)
          · skip
            refine lv_aload_n hx hb dX10_clause_197 rfl (lv_at hl 3 rfl) ?_
            refine lv_dup hx hb dX10_clause_198 rfl ?_
            refine hk_geti hx hb hts hC_10 hown hW (gx.S hM) tt_10 8 (by decide) rfl kw_1151 ⟨rfl, rfl, rfl⟩ fw_6 dX10_clause_199 ?_
            refine lv_aload_n hx hb dX10_clause_202 rfl (lv_at hl 3 rfl) ?_
            refine hk_geti hx hb hts hC_10 hown hW (gx.S hM) tt_10 11 (by decide) rfl kw_1154 ⟨rfl, rfl, rfl⟩ fw_7 dX10_clause_203 ?_
            refine lv_iadd hx hb dX10_clause_206 ?_
            have rg_25 := i32_r w_6
            have rg_26 := i32_r w_7
            refine lv_topi (fun x_27 ex_27 => ?_)
            have zx_27 : x_27.toInt = w_6.toInt + w_7.toInt := by rw [ex_27]; exact i32_add rfl rfl (by omega) (by omega)
            refine hx_puti hx hb hts hC_10 hown hW hT (hx_S.rf (M := [(10, 8)])) (gx.S hM) tt_10 8 (by decide) rfl kw_1151 ⟨rfl, rfl, rfl⟩ rfl (x := x_27) ⟨by omega, by omega⟩ rfl rfl rfl (List.mem_singleton.mpr rfl) dX10_clause_207 (fun H locs h_28 eh_28 hW hT hs => ?_)
            replace f_x_14 := (hs.o (gx.S hM) trivial rfl).1.trans f_x_14
            replace fw_7 := (hs.o (gx.S hM) trivial rfl).1.trans fw_7
            replace af_qs : h_28.2.1 qs = sf := (funext fun j => (hs.a (gqs.S hM) rfl j).1).trans af_qs
            replace af_qo : h_28.2.1 qo = of := (funext fun j => (hs.a (gqo.S hM) rfl j).1).trans af_qo
            replace af_qr : h_28.2.1 qr = rd := (funext fun j => (hs.a (gqr.S hM) rfl j).1).trans af_qr
            replace hM := hM.tr (hs.mono (by decide))
            have f_29 : h_28.2.1 x 8 = x_27 := by rw [eh_28]; exact hx_pi_at _ _ _ _
            refine lv_aload_n hx hb dX10_clause_210 rfl (lv_at hl 3 rfl) ?_
            refine lv_iload_n hx hb dX10_clause_211 rfl (lv_at hl 0 rfl) ?_
            refine hx_goi (hx_runS (As := [.int x_17]) (rest := [.ref x]) ⟨hx, hb, hml, hown, hts⟩ hW (t_X10_leastOf l dC dI dA L_19 h_28 H.size x_17 hT) (va_cwS 1 hts (hx_gS kw_1518 kw_1516 kw_1517 kw_103) rfl rfl rfl (by decide +kernel) ⟨Nat.le_of_ble_eq_true rfl, Nat.le_of_ble_eq_true rfl⟩) rfl hl.1 rfl (Nat.le_of_ble_eq_true rfl) dX10_clause_212 ⟨Nat.le_of_ble_eq_true rfl, Nat.le_of_ble_eq_true rfl⟩) hW (fun r_32 L_30 h_31 H locs p_33 hW => ?_)
            obtain ⟨hr_34, hT, hs⟩ := p_33
            replace hT : hx_T T_tb L_30 h_31 := hT
            replace hs : hx_S T_tb [] L_19 h_28 L_30 h_31 := hs
            replace f_x_14 := (hs.o (gx.S hM) trivial rfl).1.trans f_x_14
            replace fw_7 := (hs.o (gx.S hM) trivial rfl).1.trans fw_7
            replace f_29 := (hs.o (gx.S hM) trivial rfl).1.trans f_29
            replace af_qs : h_31.2.1 qs = sf := (funext fun j => (hs.a (gqs.S hM) rfl j).1).trans af_qs
            replace af_qo : h_31.2.1 qo = of := (funext fun j => (hs.a (gqo.S hM) rfl j).1).trans af_qo
            replace af_qr : h_31.2.1 qr = rd := (funext fun j => (hs.a (gqr.S hM) rfl j).1).trans af_qr
            replace hM := hM.tr (hs.mono (by decide))
            refine lv_iload_n hx hb dX10_clause_215 rfl (lv_at hl 0 rfl) ?_
            refine hx_goi (hx_runS (As := [.int x_17]) (rest := [.int r_32, .ref x]) ⟨hx, hb, hml, hown, hts⟩ hW (t_X10_mostOf l dC dI dA L_30 h_31 H.size x_17 hT) (va_cwS 1 hts (hx_gS kw_1521 kw_1519 kw_1520 kw_103) rfl rfl rfl (by decide +kernel) ⟨Nat.le_of_ble_eq_true rfl, Nat.le_of_ble_eq_true rfl⟩) rfl hl.1 rfl (Nat.le_of_ble_eq_true rfl) dX10_clause_216 ⟨Nat.le_of_ble_eq_true rfl, Nat.le_of_ble_eq_true rfl⟩) hW (fun r_37 L_35 h_36 H locs p_38 hW => ?_)
            obtain ⟨hr_39, hT, hs⟩ := p_38
            replace hT : hx_T T_tb L_35 h_36 := hT
            replace hs : hx_S T_tb [] L_30 h_31 L_35 h_36 := hs
            replace f_x_14 := (hs.o (gx.S hM) trivial rfl).1.trans f_x_14
            replace fw_7 := (hs.o (gx.S hM) trivial rfl).1.trans fw_7
            replace f_29 := (hs.o (gx.S hM) trivial rfl).1.trans f_29
            replace af_qs : h_36.2.1 qs = sf := (funext fun j => (hs.a (gqs.S hM) rfl j).1).trans af_qs
            replace af_qo : h_36.2.1 qo = of := (funext fun j => (hs.a (gqo.S hM) rfl j).1).trans af_qo
            replace af_qr : h_36.2.1 qr = rd := (funext fun j => (hs.a (gqr.S hM) rfl j).1).trans af_qr
            replace hM := hM.tr (hs.mono (by decide))
            refine hx_goi (hx_runV (As := [.int r_32, .int r_37]) (rest := []) ⟨hx, hb, hml, hown, hts⟩ hW (gx.S hM) tt_10 (T := TX10) (N := 98) rfl (t_X10_number l dC dI dA L_35 h_36 H.size x r_32 r_37 hT (gx.S hM) qt (gqt.S hM) ((hM.o gx trivial rfl).2.trans f_x_6) tf (hx_afS hM gqt rfl af_qt) x_27 f_29 tp0 ((hM.o gx trivial rfl).1.trans f_x_7)) (cwV 2 hts (hx_gV kw_1503 kw_1500 kw_1502 kw_61 kw_103) rfl rfl rfl (by decide +kernel) ⟨Nat.le_of_ble_eq_true rfl, Nat.le_of_ble_eq_true rfl⟩) rfl hl.1 rfl (Nat.le_of_ble_eq_true rfl) dX10_clause_219 ⟨Nat.le_of_ble_eq_true rfl, Nat.le_of_ble_eq_true rfl⟩) hW (fun r_42 L_40 h_41 H locs p_43 hW => ?_)
            obtain ⟨⟨w_45, w_46, fw_45, fw_46, hr_44⟩, hT, hs⟩ := p_43
            replace hT : hx_T T_tb L_40 h_41 := hT
            replace hs : hx_S T_tb [(10, 8), (10, 9), (10, 10)] L_35 h_36 L_40 h_41 := hs
            replace f_x_14 := (hs.o (gx.S hM) trivial rfl).1.trans f_x_14
            replace fw_7 := (hs.o (gx.S hM) trivial rfl).1.trans fw_7
            replace af_qs : h_41.2.1 qs = sf := (funext fun j => (hs.a (gqs.S hM) rfl j).1).trans af_qs
            replace af_qo : h_41.2.1 qo = of := (funext fun j => (hs.a (gqo.S hM) rfl j).1).trans af_qo
            replace af_qr : h_41.2.1 qr = rd := (funext fun j => (hs.a (gqr.S hM) rfl j).1).trans af_qr
            replace hM := hM.tr (hs.mono (by decide))
            have fw_45 : h_41.2.1 x 8 = w_45 := fw_45
            have bw_45 := hT.gi (gx.S hM) tt_10 (k := 8) rfl
            rw [fw_45] at bw_45
            have bw_45 : 0 ≤ w_45.toInt ∧ w_45.toInt ≤ 402 := bw_45
            have fw_46 : h_41.2.1 x 10 = w_46 := fw_46
            have bw_46 := hT.gi (gx.S hM) tt_10 (k := 10) rfl
            rw [fw_46] at bw_46
            have bw_46 : 0 ≤ w_46.toInt ∧ w_46.toInt ≤ 9999 := bw_46
            refine hb_if_ne (zx := r_42.toInt) (tgt := 227) hx hb rfl dX10_clause_222 (by decide) (fun c_47 => ?_) (fun c_47 => ?_)
            · skip
              refine lv_aload_n hx hb dX10_clause_227 rfl (lv_at hl 3 rfl) ?_
              refine hk_getr hx hb hts hC_10 hown hW (gx.S hM) tt_10 12 (by decide) rfl kw_1155 ⟨rfl, rfl, rfl⟩ ((hM.o gx trivial rfl).2.trans f_x_12) dX10_clause_228 ?_
              refine lv_iload_n hx hb dX10_clause_231 rfl (lv_at hl 0 rfl) ?_
              refine lv_aload_n hx hb dX10_clause_232 rfl (lv_at hl 3 rfl) ?_
              refine hk_geti hx hb hts hC_10 hown hW (gx.S hM) tt_10 10 (by decide) rfl kw_1153 ⟨rfl, rfl, rfl⟩ fw_46 dX10_clause_233 ?_
              have af_qrO := af_qr
              refine hx_iast hx hb hW hT (hx_S.rf (M := [(54, 0)])) (gqr.S hM) tt_54 rfl ⟨by omega, by omega⟩ rfl ⟨by omega, by omega⟩ (List.mem_singleton.mpr rfl) dX10_clause_236 (fun H locs h_48 eh_48 hW hT hs => ?_)
              replace f_x_14 := (hs.o (gx.S hM) trivial rfl).1.trans f_x_14
              replace fw_7 := (hs.o (gx.S hM) trivial rfl).1.trans fw_7
              replace fw_45 := (hs.o (gx.S hM) trivial rfl).1.trans fw_45
              replace fw_46 := (hs.o (gx.S hM) trivial rfl).1.trans fw_46
              replace af_qs : h_48.2.1 qs = sf := (funext fun j => (hs.a (gqs.S hM) rfl j).1).trans af_qs
              replace af_qo : h_48.2.1 qo = of := (funext fun j => (hs.a (gqo.S hM) rfl j).1).trans af_qo
              replace hM := hM.tr (hs.mono (by decide))
              obtain ⟨fa_49, dfa_49⟩ : ∃ g : Nat → Int32, g = hx_up rd x_17.toNatClampNeg w_46 := ⟨_, rfl⟩
              have nfa_49 : h_48.2.1 qr = fa_49 := by rw [eh_48, dfa_49, ← af_qrO]; exact hx_pi_fun _ _ _ _
              refine lv_iload_n hx hb dX10_clause_237 rfl (lv_at hl 0 rfl) ?_
              refine lv_iconst (v := 5) hx hb dX10_clause_238 (by decide) ?_
              refine hb_icmp_eq (zx := x_17.toInt) (zy := 5) (tgt := 244) hx hb rfl (by decide) dX10_clause_239 (by decide) (fun c_50 => ?_) (fun c_50 => ?_)
              · skip
                refine lv_aload_n hx hb dX10_clause_244 rfl (lv_at hl 3 rfl) ?_
                refine lv_iconst (v := 1) hx hb dX10_clause_245 (by decide) ?_
                refine lv_bipush (v := 30) hx hb dX10_clause_246 (by decide) ?_
                have zc_30 : (30 : Int32).toInt = 30 := by decide
                have zc_1 : (1 : Int32).toInt = 1 := by decide
                refine hx_goi (hx_runV (As := [.int (1 : Int32), .int (30 : Int32)]) (rest := []) ⟨hx, hb, hml, hown, hts⟩ hW (gx.S hM) tt_10 (T := TX10) (N := 98) rfl (t_X10_number l dC dI dA L_40 h_48 H.size x (1 : Int32) (30 : Int32) hT (gx.S hM) qt (gqt.S hM) ((hM.o gx trivial rfl).2.trans f_x_6) tf (hx_afS hM gqt rfl af_qt) w_45 fw_45 tp0 ((hM.o gx trivial rfl).1.trans f_x_7)) (cwV 2 hts (hx_gV kw_1503 kw_1500 kw_1502 kw_61 kw_103) rfl rfl rfl (by decide +kernel) ⟨Nat.le_of_ble_eq_true rfl, Nat.le_of_ble_eq_true rfl⟩) rfl hl.1 rfl (Nat.le_of_ble_eq_true rfl) dX10_clause_248 ⟨Nat.le_of_ble_eq_true rfl, Nat.le_of_ble_eq_true rfl⟩) hW (fun r_53 L_51 h_52 H locs p_54 hW => ?_)
                obtain ⟨⟨w_56, w_57, fw_56, fw_57, hr_55⟩, hT, hs⟩ := p_54
                replace hT : hx_T T_tb L_51 h_52 := hT
                replace hs : hx_S T_tb [(10, 8), (10, 9), (10, 10)] L_40 h_48 L_51 h_52 := hs
                replace f_x_14 := (hs.o (gx.S hM) trivial rfl).1.trans f_x_14
                replace fw_7 := (hs.o (gx.S hM) trivial rfl).1.trans fw_7
                replace af_qs : h_52.2.1 qs = sf := (funext fun j => (hs.a (gqs.S hM) rfl j).1).trans af_qs
                replace af_qo : h_52.2.1 qo = of := (funext fun j => (hs.a (gqo.S hM) rfl j).1).trans af_qo
                replace nfa_49 : h_52.2.1 qr = fa_49 := (funext fun j => (hs.a (gqr.S hM) rfl j).1).trans nfa_49
                replace hM := hM.tr (hs.mono (by decide))
                have fw_56 : h_52.2.1 x 8 = w_56 := fw_56
                have bw_56 := hT.gi (gx.S hM) tt_10 (k := 8) rfl
                rw [fw_56] at bw_56
                have bw_56 : 0 ≤ w_56.toInt ∧ w_56.toInt ≤ 402 := bw_56
                have fw_57 : h_52.2.1 x 10 = w_57 := fw_57
                have bw_57 := hT.gi (gx.S hM) tt_10 (k := 10) rfl
                rw [fw_57] at bw_57
                have bw_57 : 0 ≤ w_57.toInt ∧ w_57.toInt ≤ 9999 := bw_57
                refine hb_if_ne (zx := r_53.toInt) (tgt := 256) hx hb rfl dX10_clause_251 (by decide) (fun c_58 => ?_) (fun c_58 => ?_)
                · skip
                  refine lv_aload_n hx hb dX10_clause_256 rfl (lv_at hl 3 rfl) ?_
                  refine hk_getr hx hb hts hC_10 hown hW (gx.S hM) tt_10 12 (by decide) rfl kw_1155 ⟨rfl, rfl, rfl⟩ ((hM.o gx trivial rfl).2.trans f_x_12) dX10_clause_257 ?_
                  refine lv_bipush (v := 6) hx hb dX10_clause_260 (by decide) ?_
                  refine lv_aload_n hx hb dX10_clause_262 rfl (lv_at hl 3 rfl) ?_
                  refine hk_geti hx hb hts hC_10 hown hW (gx.S hM) tt_10 10 (by decide) rfl kw_1153 ⟨rfl, rfl, rfl⟩ fw_57 dX10_clause_263 ?_
                  have nfa_49O := nfa_49
                  refine hx_iast hx hb hW hT (hx_S.rf (M := [(54, 0)])) (gqr.S hM) tt_54 rfl (by decide) rfl ⟨by omega, by omega⟩ (List.mem_singleton.mpr rfl) dX10_clause_266 (fun H locs h_59 eh_59 hW hT hs => ?_)
                  replace f_x_14 := (hs.o (gx.S hM) trivial rfl).1.trans f_x_14
                  replace fw_7 := (hs.o (gx.S hM) trivial rfl).1.trans fw_7
                  replace fw_56 := (hs.o (gx.S hM) trivial rfl).1.trans fw_56
                  replace fw_57 := (hs.o (gx.S hM) trivial rfl).1.trans fw_57
                  replace af_qs : h_59.2.1 qs = sf := (funext fun j => (hs.a (gqs.S hM) rfl j).1).trans af_qs
                  replace af_qo : h_59.2.1 qo = of := (funext fun j => (hs.a (gqo.S hM) rfl j).1).trans af_qo
                  replace hM := hM.tr (hs.mono (by decide))
                  obtain ⟨fa_60, dfa_60⟩ : ∃ g : Nat → Int32, g = hx_up fa_49 (6 : Int32).toNatClampNeg w_57 := ⟨_, rfl⟩
                  have nfa_60 : h_59.2.1 qr = fa_60 := by rw [eh_59, dfa_60, ← nfa_49O]; exact hx_pi_fun _ _ _ _
                  refine lv_iconst (v := 1) hx hb dX10_clause_267 (by decide) ?_
                  exact hx_retz hx hb hr rfl hlk hW ⟨⟨w_56, st0, sf, fa_60, fw_56, f_x_14, af_qs, nfa_60, (by have zc6 : (6 : Int32).toInt = 6 := (by decide); exact ⟨by decide, by omega, fun _ => ⟨by omega, hrp, (hx_rd (hx_rd hrd dfa_49 (by omega) (by omega) (by omega)) dfa_60 (by omega) (by omega) (by omega))⟩⟩)⟩, hT, hM⟩ dX10_clause_268
                · skip
                  refine lv_iconst (v := 0) hx hb dX10_clause_254 (by decide) ?_
                  exact hx_retz hx hb hr rfl hlk hW ⟨⟨w_56, st0, sf, fa_49, fw_56, f_x_14, af_qs, nfa_49, ⟨by decide, by omega, fun z => absurd z (by decide)⟩⟩, hT, hM⟩ dX10_clause_255
              · skip
                refine lv_iconst (v := 1) hx hb dX10_clause_242 (by decide) ?_
                exact hx_retz hx hb hr rfl hlk hW ⟨⟨w_45, st0, sf, fa_49, fw_45, f_x_14, af_qs, nfa_49, (by have zc6 : (6 : Int32).toInt = 6 := (by decide); exact ⟨by decide, by omega, fun _ => ⟨by omega, hrp, (hx_rd hrd dfa_49 (by omega) (by omega) (by omega))⟩⟩)⟩, hT, hM⟩ dX10_clause_243
            · skip
              refine lv_iconst (v := 0) hx hb dX10_clause_225 (by decide) ?_
              exact hx_retz hx hb hr rfl hlk hW ⟨⟨w_45, st0, sf, rd, fw_45, f_x_14, af_qs, af_qr, ⟨by decide, by omega, fun z => absurd z (by decide)⟩⟩, hT, hM⟩ dX10_clause_226
          · skip
            refine lv_iconst (v := 0) hx hb dX10_clause_195 (by decide) ?_
            exact hx_retz hx hb hr rfl hlk hW ⟨⟨w_6, st0, sf, rd, fw_6, f_x_14, af_qs, af_qr, ⟨by decide, by omega, fun z => absurd z (by decide)⟩⟩, hT, hM⟩ dX10_clause_196
        · skip
          refine lv_iload_n hx hb dX10_clause_178 rfl (lv_at hl 0 rfl) ?_
          refine lv_iconst (v := 1) hx hb dX10_clause_179 (by decide) ?_
          refine lv_iadd hx hb dX10_clause_180 ?_
          have rg_61 := i32_r x_17
          refine lv_topi (fun x_62 ex_62 => ?_)
          have zx_62 : x_62.toInt = x_17.toInt + 1 := by rw [ex_62]; exact i32_add rfl (by decide) (by omega) (by omega)
          refine lv_goto (tgt := 185) hx hb dX10_clause_181 (by decide) ?_
          refine lv_istore_n (lv' := [(3, .int x_62), (2, .int w_6), (1, .int r_3), (0, .ref x)]) hx hb dX10_clause_185 rfl hl (by decide) rfl (fun ls hl => ?_)
          refine lv_aload_n hx hb dX10_clause_186 rfl (lv_at hl 3 rfl) ?_
          refine lv_iload_n hx hb dX10_clause_187 rfl (lv_at hl 0 rfl) ?_
          refine lv_iload_n hx hb dX10_clause_188 rfl (lv_at hl 1 rfl) ?_
          refine hx_goi (hx_runV (As := [.int x_62, .int w_6]) (rest := []) ⟨hx, hb, hml, hown, hts⟩ hW (gx.S hM) tt_10 (T := TX10) (N := 98) rfl (t_X10_isNew l dC dI dA L_8 h_9 H.size x x_62 w_6 hT (gx.S hM)) (cwV 2 hts (hx_gV kw_1484 kw_1481 kw_1483 kw_57 kw_103) rfl rfl rfl (by decide +kernel) ⟨Nat.le_of_ble_eq_true rfl, Nat.le_of_ble_eq_true rfl⟩) rfl hl.1 rfl (Nat.le_of_ble_eq_true rfl) dX10_clause_189 ⟨Nat.le_of_ble_eq_true rfl, Nat.le_of_ble_eq_true rfl⟩) hW (fun r_65 L_63 h_64 H locs p_66 hW => ?_)
          obtain ⟨hr_67, hT, hs⟩ := p_66
          replace hT : hx_T T_tb L_63 h_64 := hT
          replace hs : hx_S T_tb [(10, 9), (10, 13)] L_8 h_9 L_63 h_64 := hs
          replace f_x_14 := (hs.o (gx.S hM) trivial rfl).1.trans f_x_14
          replace fw_6 := (hs.o (gx.S hM) trivial rfl).1.trans fw_6
          replace fw_7 := (hs.o (gx.S hM) trivial rfl).1.trans fw_7
          replace af_qs : h_64.2.1 qs = sf := (funext fun j => (hs.a (gqs.S hM) rfl j).1).trans af_qs
          replace af_qo : h_64.2.1 qo = of := (funext fun j => (hs.a (gqo.S hM) rfl j).1).trans af_qo
          replace af_qr : h_64.2.1 qr = rd := (funext fun j => (hs.a (gqr.S hM) rfl j).1).trans af_qr
          replace hM := hM.tr (hs.mono (by decide))
          refine hb_if_ne (zx := r_65.toInt) (tgt := 197) hx hb rfl dX10_clause_192 (by decide) (fun c_68 => ?_) (fun c_68 => ?_)
          · skip
            refine lv_aload_n hx hb dX10_clause_197 rfl (lv_at hl 3 rfl) ?_
            refine lv_dup hx hb dX10_clause_198 rfl ?_
            refine hk_geti hx hb hts hC_10 hown hW (gx.S hM) tt_10 8 (by decide) rfl kw_1151 ⟨rfl, rfl, rfl⟩ fw_6 dX10_clause_199 ?_
            refine lv_aload_n hx hb dX10_clause_202 rfl (lv_at hl 3 rfl) ?_
            refine hk_geti hx hb hts hC_10 hown hW (gx.S hM) tt_10 11 (by decide) rfl kw_1154 ⟨rfl, rfl, rfl⟩ fw_7 dX10_clause_203 ?_
            refine lv_iadd hx hb dX10_clause_206 ?_
            have rg_69 := i32_r w_6
            have rg_70 := i32_r w_7
            refine lv_topi (fun x_71 ex_71 => ?_)
            have zx_71 : x_71.toInt = w_6.toInt + w_7.toInt := by rw [ex_71]; exact i32_add rfl rfl (by omega) (by omega)
            refine hx_puti hx hb hts hC_10 hown hW hT (hx_S.rf (M := [(10, 8)])) (gx.S hM) tt_10 8 (by decide) rfl kw_1151 ⟨rfl, rfl, rfl⟩ rfl (x := x_71) ⟨by omega, by omega⟩ rfl rfl rfl (List.mem_singleton.mpr rfl) dX10_clause_207 (fun H locs h_72 eh_72 hW hT hs => ?_)
            replace f_x_14 := (hs.o (gx.S hM) trivial rfl).1.trans f_x_14
            replace fw_7 := (hs.o (gx.S hM) trivial rfl).1.trans fw_7
            replace af_qs : h_72.2.1 qs = sf := (funext fun j => (hs.a (gqs.S hM) rfl j).1).trans af_qs
            replace af_qo : h_72.2.1 qo = of := (funext fun j => (hs.a (gqo.S hM) rfl j).1).trans af_qo
            replace af_qr : h_72.2.1 qr = rd := (funext fun j => (hs.a (gqr.S hM) rfl j).1).trans af_qr
            replace hM := hM.tr (hs.mono (by decide))
            have f_73 : h_72.2.1 x 8 = x_71 := by rw [eh_72]; exact hx_pi_at _ _ _ _
            refine lv_aload_n hx hb dX10_clause_210 rfl (lv_at hl 3 rfl) ?_
            refine lv_iload_n hx hb dX10_clause_211 rfl (lv_at hl 0 rfl) ?_
            refine hx_goi (hx_runS (As := [.int x_62]) (rest := [.ref x]) ⟨hx, hb, hml, hown, hts⟩ hW (t_X10_leastOf l dC dI dA L_63 h_72 H.size x_62 hT) (va_cwS 1 hts (hx_gS kw_1518 kw_1516 kw_1517 kw_103) rfl rfl rfl (by decide +kernel) ⟨Nat.le_of_ble_eq_true rfl, Nat.le_of_ble_eq_true rfl⟩) rfl hl.1 rfl (Nat.le_of_ble_eq_true rfl) dX10_clause_212 ⟨Nat.le_of_ble_eq_true rfl, Nat.le_of_ble_eq_true rfl⟩) hW (fun r_76 L_74 h_75 H locs p_77 hW => ?_)
            obtain ⟨hr_78, hT, hs⟩ := p_77
            replace hT : hx_T T_tb L_74 h_75 := hT
            replace hs : hx_S T_tb [] L_63 h_72 L_74 h_75 := hs
            replace f_x_14 := (hs.o (gx.S hM) trivial rfl).1.trans f_x_14
            replace fw_7 := (hs.o (gx.S hM) trivial rfl).1.trans fw_7
            replace f_73 := (hs.o (gx.S hM) trivial rfl).1.trans f_73
            replace af_qs : h_75.2.1 qs = sf := (funext fun j => (hs.a (gqs.S hM) rfl j).1).trans af_qs
            replace af_qo : h_75.2.1 qo = of := (funext fun j => (hs.a (gqo.S hM) rfl j).1).trans af_qo
            replace af_qr : h_75.2.1 qr = rd := (funext fun j => (hs.a (gqr.S hM) rfl j).1).trans af_qr
            replace hM := hM.tr (hs.mono (by decide))
            refine lv_iload_n hx hb dX10_clause_215 rfl (lv_at hl 0 rfl) ?_
            refine hx_goi (hx_runS (As := [.int x_62]) (rest := [.int r_76, .ref x]) ⟨hx, hb, hml, hown, hts⟩ hW (t_X10_mostOf l dC dI dA L_74 h_75 H.size x_62 hT) (va_cwS 1 hts (hx_gS kw_1521 kw_1519 kw_1520 kw_103) rfl rfl rfl (by decide +kernel) ⟨Nat.le_of_ble_eq_true rfl, Nat.le_of_ble_eq_true rfl⟩) rfl hl.1 rfl (Nat.le_of_ble_eq_true rfl) dX10_clause_216 ⟨Nat.le_of_ble_eq_true rfl, Nat.le_of_ble_eq_true rfl⟩) hW (fun r_81 L_79 h_80 H locs p_82 hW => ?_)
            obtain ⟨hr_83, hT, hs⟩ := p_82
            replace hT : hx_T T_tb L_79 h_80 := hT
            replace hs : hx_S T_tb [] L_74 h_75 L_79 h_80 := hs
            replace f_x_14 := (hs.o (gx.S hM) trivial rfl).1.trans f_x_14
            replace fw_7 := (hs.o (gx.S hM) trivial rfl).1.trans fw_7
            replace f_73 := (hs.o (gx.S hM) trivial rfl).1.trans f_73
            replace af_qs : h_80.2.1 qs = sf := (funext fun j => (hs.a (gqs.S hM) rfl j).1).trans af_qs
            replace af_qo : h_80.2.1 qo = of := (funext fun j => (hs.a (gqo.S hM) rfl j).1).trans af_qo
            replace af_qr : h_80.2.1 qr = rd := (funext fun j => (hs.a (gqr.S hM) rfl j).1).trans af_qr
            replace hM := hM.tr (hs.mono (by decide))
            refine hx_goi (hx_runV (As := [.int r_76, .int r_81]) (rest := []) ⟨hx, hb, hml, hown, hts⟩ hW (gx.S hM) tt_10 (T := TX10) (N := 98) rfl (t_X10_number l dC dI dA L_79 h_80 H.size x r_76 r_81 hT (gx.S hM) qt (gqt.S hM) ((hM.o gx trivial rfl).2.trans f_x_6) tf (hx_afS hM gqt rfl af_qt) x_71 f_73 tp0 ((hM.o gx trivial rfl).1.trans f_x_7)) (cwV 2 hts (hx_gV kw_1503 kw_1500 kw_1502 kw_61 kw_103) rfl rfl rfl (by decide +kernel) ⟨Nat.le_of_ble_eq_true rfl, Nat.le_of_ble_eq_true rfl⟩) rfl hl.1 rfl (Nat.le_of_ble_eq_true rfl) dX10_clause_219 ⟨Nat.le_of_ble_eq_true rfl, Nat.le_of_ble_eq_true rfl⟩) hW (fun r_86 L_84 h_85 H locs p_87 hW => ?_)
            obtain ⟨⟨w_89, w_90, fw_89, fw_90, hr_88⟩, hT, hs⟩ := p_87
            replace hT : hx_T T_tb L_84 h_85 := hT
            replace hs : hx_S T_tb [(10, 8), (10, 9), (10, 10)] L_79 h_80 L_84 h_85 := hs
            replace f_x_14 := (hs.o (gx.S hM) trivial rfl).1.trans f_x_14
            replace fw_7 := (hs.o (gx.S hM) trivial rfl).1.trans fw_7
            replace af_qs : h_85.2.1 qs = sf := (funext fun j => (hs.a (gqs.S hM) rfl j).1).trans af_qs
            replace af_qo : h_85.2.1 qo = of := (funext fun j => (hs.a (gqo.S hM) rfl j).1).trans af_qo
            replace af_qr : h_85.2.1 qr = rd := (funext fun j => (hs.a (gqr.S hM) rfl j).1).trans af_qr
            replace hM := hM.tr (hs.mono (by decide))
            have fw_89 : h_85.2.1 x 8 = w_89 := fw_89
            have bw_89 := hT.gi (gx.S hM) tt_10 (k := 8) rfl
            rw [fw_89] at bw_89
            have bw_89 : 0 ≤ w_89.toInt ∧ w_89.toInt ≤ 402 := bw_89
            have fw_90 : h_85.2.1 x 10 = w_90 := fw_90
            have bw_90 := hT.gi (gx.S hM) tt_10 (k := 10) rfl
            rw [fw_90] at bw_90
            have bw_90 : 0 ≤ w_90.toInt ∧ w_90.toInt ≤ 9999 := bw_90
            refine hb_if_ne (zx := r_86.toInt) (tgt := 227) hx hb rfl dX10_clause_222 (by decide) (fun c_91 => ?_) (fun c_91 => ?_)
            · skip
              refine lv_aload_n hx hb dX10_clause_227 rfl (lv_at hl 3 rfl) ?_
              refine hk_getr hx hb hts hC_10 hown hW (gx.S hM) tt_10 12 (by decide) rfl kw_1155 ⟨rfl, rfl, rfl⟩ ((hM.o gx trivial rfl).2.trans f_x_12) dX10_clause_228 ?_
              refine lv_iload_n hx hb dX10_clause_231 rfl (lv_at hl 0 rfl) ?_
              refine lv_aload_n hx hb dX10_clause_232 rfl (lv_at hl 3 rfl) ?_
              refine hk_geti hx hb hts hC_10 hown hW (gx.S hM) tt_10 10 (by decide) rfl kw_1153 ⟨rfl, rfl, rfl⟩ fw_90 dX10_clause_233 ?_
              have af_qrO := af_qr
              refine hx_iast hx hb hW hT (hx_S.rf (M := [(54, 0)])) (gqr.S hM) tt_54 rfl ⟨by omega, by omega⟩ rfl ⟨by omega, by omega⟩ (List.mem_singleton.mpr rfl) dX10_clause_236 (fun H locs h_92 eh_92 hW hT hs => ?_)
              replace f_x_14 := (hs.o (gx.S hM) trivial rfl).1.trans f_x_14
              replace fw_7 := (hs.o (gx.S hM) trivial rfl).1.trans fw_7
              replace fw_89 := (hs.o (gx.S hM) trivial rfl).1.trans fw_89
              replace fw_90 := (hs.o (gx.S hM) trivial rfl).1.trans fw_90
              replace af_qs : h_92.2.1 qs = sf := (funext fun j => (hs.a (gqs.S hM) rfl j).1).trans af_qs
              replace af_qo : h_92.2.1 qo = of := (funext fun j => (hs.a (gqo.S hM) rfl j).1).trans af_qo
              replace hM := hM.tr (hs.mono (by decide))
              obtain ⟨fa_93, dfa_93⟩ : ∃ g : Nat → Int32, g = hx_up rd x_62.toNatClampNeg w_90 := ⟨_, rfl⟩
              have nfa_93 : h_92.2.1 qr = fa_93 := by rw [eh_92, dfa_93, ← af_qrO]; exact hx_pi_fun _ _ _ _
              refine lv_iload_n hx hb dX10_clause_237 rfl (lv_at hl 0 rfl) ?_
              refine lv_iconst (v := 5) hx hb dX10_clause_238 (by decide) ?_
              refine hb_icmp_eq (zx := x_62.toInt) (zy := 5) (tgt := 244) hx hb rfl (by decide) dX10_clause_239 (by decide) (fun c_94 => by exfalso; omega) (fun c_94 => ?_)
              refine lv_iconst (v := 1) hx hb dX10_clause_242 (by decide) ?_
              exact hx_retz hx hb hr rfl hlk hW ⟨⟨w_89, st0, sf, fa_93, fw_89, f_x_14, af_qs, nfa_93, (by have zc6 : (6 : Int32).toInt = 6 := (by decide); exact ⟨by decide, by omega, fun _ => ⟨by omega, hrp, (hx_rd hrd dfa_93 (by omega) (by omega) (by omega))⟩⟩)⟩, hT, hM⟩ dX10_clause_243
            · skip
              refine lv_iconst (v := 0) hx hb dX10_clause_225 (by decide) ?_
              exact hx_retz hx hb hr rfl hlk hW ⟨⟨w_89, st0, sf, rd, fw_89, f_x_14, af_qs, af_qr, ⟨by decide, by omega, fun z => absurd z (by decide)⟩⟩, hT, hM⟩ dX10_clause_226
          · skip
            refine lv_iconst (v := 0) hx hb dX10_clause_195 (by decide) ?_
            exact hx_retz hx hb hr rfl hlk hW ⟨⟨w_6, st0, sf, rd, fw_6, f_x_14, af_qs, af_qr, ⟨by decide, by omega, fun z => absurd z (by decide)⟩⟩, hT, hM⟩ dX10_clause_196
      · skip
        refine lv_aload_n hx hb dX10_clause_70 rfl (lv_at hl 2 rfl) ?_
        refine lv_dup hx hb dX10_clause_71 rfl ?_
        refine hk_geti hx hb hts hC_10 hown hW (gx.S hM) tt_10 8 (by decide) rfl kw_1151 ⟨rfl, rfl, rfl⟩ fw_6 dX10_clause_72 ?_
        refine lv_aload_n hx hb dX10_clause_75 rfl (lv_at hl 2 rfl) ?_
        refine hk_geti hx hb hts hC_10 hown hW (gx.S hM) tt_10 11 (by decide) rfl kw_1154 ⟨rfl, rfl, rfl⟩ fw_7 dX10_clause_76 ?_
        refine lv_iadd hx hb dX10_clause_79 ?_
        have rg_95 := i32_r w_6
        have rg_96 := i32_r w_7
        refine lv_topi (fun x_97 ex_97 => ?_)
        have zx_97 : x_97.toInt = w_6.toInt + w_7.toInt := by rw [ex_97]; exact i32_add rfl rfl (by omega) (by omega)
        refine hx_puti hx hb hts hC_10 hown hW hT (hx_S.rf (M := [(10, 8)])) (gx.S hM) tt_10 8 (by decide) rfl kw_1151 ⟨rfl, rfl, rfl⟩ rfl (x := x_97) ⟨by omega, by omega⟩ rfl rfl rfl (List.mem_singleton.mpr rfl) dX10_clause_80 (fun H locs h_98 eh_98 hW hT hs => ?_)
        replace f_x_14 := (hs.o (gx.S hM) trivial rfl).1.trans f_x_14
        replace fw_7 := (hs.o (gx.S hM) trivial rfl).1.trans fw_7
        replace af_qs : h_98.2.1 qs = sf := (funext fun j => (hs.a (gqs.S hM) rfl j).1).trans af_qs
        replace af_qo : h_98.2.1 qo = of := (funext fun j => (hs.a (gqo.S hM) rfl j).1).trans af_qo
        replace af_qr : h_98.2.1 qr = rd := (funext fun j => (hs.a (gqr.S hM) rfl j).1).trans af_qr
        replace hM := hM.tr (hs.mono (by decide))
        have f_99 : h_98.2.1 x 8 = x_97 := by rw [eh_98]; exact hx_pi_at _ _ _ _
        refine lv_aload_n hx hb dX10_clause_83 rfl (lv_at hl 2 rfl) ?_
        refine hx_goi (hx_runV (As := []) (rest := []) ⟨hx, hb, hml, hown, hts⟩ hW (gx.S hM) tt_10 (T := TX10) (N := 98) rfl (t_X10_wordHere l dC dI dA L_8 h_98 H.size x hT (gx.S hM) qt (gqt.S hM) ((hM.o gx trivial rfl).2.trans f_x_6) qw (gqw.S hM) ((hM.o gx trivial rfl).2.trans f_x_19) tf (hx_afS hM gqt rfl af_qt) wf (hx_afS hM gqw rfl af_qw) x_97 f_99 tp0 ((hM.o gx trivial rfl).1.trans f_x_7) hwd) (cwV 0 hts (hx_gV kw_1476 kw_1473 kw_1475 kw_55 kw_103) rfl rfl rfl (by decide +kernel) ⟨Nat.le_of_ble_eq_true rfl, Nat.le_of_ble_eq_true rfl⟩) rfl hl.1 rfl (Nat.le_of_ble_eq_true rfl) dX10_clause_84 ⟨Nat.le_of_ble_eq_true rfl, Nat.le_of_ble_eq_true rfl⟩) hW (fun r_102 L_100 h_101 H locs p_103 hW => ?_)
        obtain ⟨⟨w_105, w_106, fw_105, fw_106, hr_104⟩, hT, hs⟩ := p_103
        replace hT : hx_T T_tb L_100 h_101 := hT
        replace hs : hx_S T_tb [(10, 8), (10, 11)] L_8 h_98 L_100 h_101 := hs
        replace f_x_14 := (hs.o (gx.S hM) trivial rfl).1.trans f_x_14
        replace af_qs : h_101.2.1 qs = sf := (funext fun j => (hs.a (gqs.S hM) rfl j).1).trans af_qs
        replace af_qo : h_101.2.1 qo = of := (funext fun j => (hs.a (gqo.S hM) rfl j).1).trans af_qo
        replace af_qr : h_101.2.1 qr = rd := (funext fun j => (hs.a (gqr.S hM) rfl j).1).trans af_qr
        replace hM := hM.tr (hs.mono (by decide))
        have fw_105 : h_101.2.1 x 8 = w_105 := fw_105
        have bw_105 := hT.gi (gx.S hM) tt_10 (k := 8) rfl
        rw [fw_105] at bw_105
        have bw_105 : 0 ≤ w_105.toInt ∧ w_105.toInt ≤ 402 := bw_105
        have fw_106 : h_101.2.1 x 11 = w_106 := fw_106
        have bw_106 := hT.gi (gx.S hM) tt_10 (k := 11) rfl
        rw [fw_106] at bw_106
        have bw_106 : 0 ≤ w_106.toInt ∧ w_106.toInt ≤ 400 := bw_106
        refine lv_bipush (v := 21) hx hb dX10_clause_87 (by decide) ?_
        refine lv_isub hx hb dX10_clause_89 ?_
        have rg_107 := i32_r r_102
        refine lv_topi (fun x_108 ex_108 => ?_)
        have zx_108 : x_108.toInt = r_102.toInt - 21 := by rw [ex_108]; exact i32_sub rfl (by decide) (by omega) (by omega)
        refine lv_istore_n (lv' := [(3, .int x_108), (2, .int w_6), (1, .int r_3), (0, .ref x)]) hx hb dX10_clause_90 rfl hl (by decide) rfl (fun ls hl => ?_)
        refine lv_iload_n hx hb dX10_clause_91 rfl (lv_at hl 0 rfl) ?_
        refine lv_iconst (v := 0) hx hb dX10_clause_92 (by decide) ?_
        refine lv_iconst (v := 3) hx hb dX10_clause_93 (by decide) ?_
        have zc_3 : (3 : Int32).toInt = 3 := by decide
        have zc_0 : (0 : Int32).toInt = 0 := by decide
        refine hx_goi (hx_runS (As := [.int x_108, .int (0 : Int32), .int (3 : Int32)]) (rest := []) ⟨hx, hb, hml, hown, hts⟩ hW (t_X10_in l dC dI dA L_100 h_101 H.size x_108 (0 : Int32) (3 : Int32) hT) (va_cwS 3 hts (hx_gS kw_1445 kw_1443 kw_1444 kw_103) rfl rfl rfl (by decide +kernel) ⟨Nat.le_of_ble_eq_true rfl, Nat.le_of_ble_eq_true rfl⟩) rfl hl.1 rfl (Nat.le_of_ble_eq_true rfl) dX10_clause_94 ⟨Nat.le_of_ble_eq_true rfl, Nat.le_of_ble_eq_true rfl⟩) hW (fun r_111 L_109 h_110 H locs p_112 hW => ?_)
        obtain ⟨hr_113, hT, hs⟩ := p_112
        replace hT : hx_T T_tb L_109 h_110 := hT
        replace hs : hx_S T_tb [] L_100 h_101 L_109 h_110 := hs
        replace f_x_14 := (hs.o (gx.S hM) trivial rfl).1.trans f_x_14
        replace fw_105 := (hs.o (gx.S hM) trivial rfl).1.trans fw_105
        replace fw_106 := (hs.o (gx.S hM) trivial rfl).1.trans fw_106
        replace af_qs : h_110.2.1 qs = sf := (funext fun j => (hs.a (gqs.S hM) rfl j).1).trans af_qs
        replace af_qo : h_110.2.1 qo = of := (funext fun j => (hs.a (gqo.S hM) rfl j).1).trans af_qo
        replace af_qr : h_110.2.1 qr = rd := (funext fun j => (hs.a (gqr.S hM) rfl j).1).trans af_qr
        replace hM := hM.tr (hs.mono (by decide))
        refine hb_if_ne (zx := r_111.toInt) (tgt := 110) hx hb rfl dX10_clause_97 (by decide) (fun c_114 => ?_) (fun c_114 => ?_)
        · skip
          replace hr_113 := hr_113.resolve_left (fun z9 => c_114 z9.1)
          replace c_114 := hr_113.1
          replace hr_113 := hr_113.2
          refine lv_aload_n hx hb dX10_clause_110 rfl (lv_at hl 3 rfl) ?_
          refine lv_bipush (v := 9) hx hb dX10_clause_111 (by decide) ?_
          refine lv_iload_n hx hb dX10_clause_113 rfl (lv_at hl 0 rfl) ?_
          refine lv_iadd hx hb dX10_clause_114 ?_
          have rg_115 := i32_r x_108
          refine lv_topi (fun x_116 ex_116 => ?_)
          have zx_116 : x_116.toInt = 9 + x_108.toInt := by rw [ex_116]; exact i32_add (by decide) rfl (by omega) (by omega)
          refine lv_aload_n hx hb dX10_clause_115 rfl (lv_at hl 3 rfl) ?_
          refine hk_geti hx hb hts hC_10 hown hW (gx.S hM) tt_10 8 (by decide) rfl kw_1151 ⟨rfl, rfl, rfl⟩ fw_105 dX10_clause_116 ?_
          refine hx_goi (hx_runV (As := [.int x_116, .int w_105]) (rest := []) ⟨hx, hb, hml, hown, hts⟩ hW (gx.S hM) tt_10 (T := TX10) (N := 98) rfl (t_X10_isNew l dC dI dA L_109 h_110 H.size x x_116 w_105 hT (gx.S hM)) (cwV 2 hts (hx_gV kw_1484 kw_1481 kw_1483 kw_57 kw_103) rfl rfl rfl (by decide +kernel) ⟨Nat.le_of_ble_eq_true rfl, Nat.le_of_ble_eq_true rfl⟩) rfl hl.1 rfl (Nat.le_of_ble_eq_true rfl) dX10_clause_119 ⟨Nat.le_of_ble_eq_true rfl, Nat.le_of_ble_eq_true rfl⟩) hW (fun r_119 L_117 h_118 H locs p_120 hW => ?_)
          obtain ⟨hr_121, hT, hs⟩ := p_120
          replace hT : hx_T T_tb L_117 h_118 := hT
          replace hs : hx_S T_tb [(10, 9), (10, 13)] L_109 h_110 L_117 h_118 := hs
          replace f_x_14 := (hs.o (gx.S hM) trivial rfl).1.trans f_x_14
          replace fw_105 := (hs.o (gx.S hM) trivial rfl).1.trans fw_105
          replace fw_106 := (hs.o (gx.S hM) trivial rfl).1.trans fw_106
          replace af_qs : h_118.2.1 qs = sf := (funext fun j => (hs.a (gqs.S hM) rfl j).1).trans af_qs
          replace af_qo : h_118.2.1 qo = of := (funext fun j => (hs.a (gqo.S hM) rfl j).1).trans af_qo
          replace af_qr : h_118.2.1 qr = rd := (funext fun j => (hs.a (gqr.S hM) rfl j).1).trans af_qr
          replace hM := hM.tr (hs.mono (by decide))
          refine hb_if_ne (zx := r_119.toInt) (tgt := 127) hx hb rfl dX10_clause_122 (by decide) (fun c_122 => ?_) (fun c_122 => ?_)
          · skip
            refine lv_aload_n hx hb dX10_clause_127 rfl (lv_at hl 3 rfl) ?_
            refine lv_dup hx hb dX10_clause_128 rfl ?_
            refine hk_geti hx hb hts hC_10 hown hW (gx.S hM) tt_10 8 (by decide) rfl kw_1151 ⟨rfl, rfl, rfl⟩ fw_105 dX10_clause_129 ?_
            refine lv_aload_n hx hb dX10_clause_132 rfl (lv_at hl 3 rfl) ?_
            refine hk_geti hx hb hts hC_10 hown hW (gx.S hM) tt_10 11 (by decide) rfl kw_1154 ⟨rfl, rfl, rfl⟩ fw_106 dX10_clause_133 ?_
            refine lv_iadd hx hb dX10_clause_136 ?_
            have rg_123 := i32_r w_105
            have rg_124 := i32_r w_106
            refine lv_topi (fun x_125 ex_125 => ?_)
            have zx_125 : x_125.toInt = w_105.toInt + w_106.toInt := by rw [ex_125]; exact i32_add rfl rfl (by omega) (by omega)
            refine hx_puti hx hb hts hC_10 hown hW hT (hx_S.rf (M := [(10, 8)])) (gx.S hM) tt_10 8 (by decide) rfl kw_1151 ⟨rfl, rfl, rfl⟩ rfl (x := x_125) ⟨by omega, by omega⟩ rfl rfl rfl (List.mem_singleton.mpr rfl) dX10_clause_137 (fun H locs h_126 eh_126 hW hT hs => ?_)
            replace f_x_14 := (hs.o (gx.S hM) trivial rfl).1.trans f_x_14
            replace fw_106 := (hs.o (gx.S hM) trivial rfl).1.trans fw_106
            replace af_qs : h_126.2.1 qs = sf := (funext fun j => (hs.a (gqs.S hM) rfl j).1).trans af_qs
            replace af_qo : h_126.2.1 qo = of := (funext fun j => (hs.a (gqo.S hM) rfl j).1).trans af_qo
            replace af_qr : h_126.2.1 qr = rd := (funext fun j => (hs.a (gqr.S hM) rfl j).1).trans af_qr
            replace hM := hM.tr (hs.mono (by decide))
            have f_127 : h_126.2.1 x 8 = x_125 := by rw [eh_126]; exact hx_pi_at _ _ _ _
            refine lv_aload_n hx hb dX10_clause_140 rfl (lv_at hl 3 rfl) ?_
            refine lv_iconst (v := 0) hx hb dX10_clause_141 (by decide) ?_
            refine lv_sipush (v := 999) hx hb dX10_clause_142 (by decide) ?_
            have zc_999 : (999 : Int32).toInt = 999 := by decide
            refine hx_goi (hx_runV (As := [.int (0 : Int32), .int (999 : Int32)]) (rest := []) ⟨hx, hb, hml, hown, hts⟩ hW (gx.S hM) tt_10 (T := TX10) (N := 98) rfl (t_X10_number l dC dI dA L_117 h_126 H.size x (0 : Int32) (999 : Int32) hT (gx.S hM) qt (gqt.S hM) ((hM.o gx trivial rfl).2.trans f_x_6) tf (hx_afS hM gqt rfl af_qt) x_125 f_127 tp0 ((hM.o gx trivial rfl).1.trans f_x_7)) (cwV 2 hts (hx_gV kw_1503 kw_1500 kw_1502 kw_61 kw_103) rfl rfl rfl (by decide +kernel) ⟨Nat.le_of_ble_eq_true rfl, Nat.le_of_ble_eq_true rfl⟩) rfl hl.1 rfl (Nat.le_of_ble_eq_true rfl) dX10_clause_145 ⟨Nat.le_of_ble_eq_true rfl, Nat.le_of_ble_eq_true rfl⟩) hW (fun r_130 L_128 h_129 H locs p_131 hW => ?_)
            obtain ⟨⟨w_133, w_134, fw_133, fw_134, hr_132⟩, hT, hs⟩ := p_131
            replace hT : hx_T T_tb L_128 h_129 := hT
            replace hs : hx_S T_tb [(10, 8), (10, 9), (10, 10)] L_117 h_126 L_128 h_129 := hs
            replace f_x_14 := (hs.o (gx.S hM) trivial rfl).1.trans f_x_14
            replace fw_106 := (hs.o (gx.S hM) trivial rfl).1.trans fw_106
            replace af_qs : h_129.2.1 qs = sf := (funext fun j => (hs.a (gqs.S hM) rfl j).1).trans af_qs
            replace af_qo : h_129.2.1 qo = of := (funext fun j => (hs.a (gqo.S hM) rfl j).1).trans af_qo
            replace af_qr : h_129.2.1 qr = rd := (funext fun j => (hs.a (gqr.S hM) rfl j).1).trans af_qr
            replace hM := hM.tr (hs.mono (by decide))
            have fw_133 : h_129.2.1 x 8 = w_133 := fw_133
            have bw_133 := hT.gi (gx.S hM) tt_10 (k := 8) rfl
            rw [fw_133] at bw_133
            have bw_133 : 0 ≤ w_133.toInt ∧ w_133.toInt ≤ 402 := bw_133
            have fw_134 : h_129.2.1 x 10 = w_134 := fw_134
            have bw_134 := hT.gi (gx.S hM) tt_10 (k := 10) rfl
            rw [fw_134] at bw_134
            have bw_134 : 0 ≤ w_134.toInt ∧ w_134.toInt ≤ 9999 := bw_134
            refine hb_if_ne (zx := r_130.toInt) (tgt := 153) hx hb rfl dX10_clause_148 (by decide) (fun c_135 => ?_) (fun c_135 => ?_)
            · skip
              refine lv_aload_n hx hb dX10_clause_153 rfl (lv_at hl 3 rfl) ?_
              refine hk_getr hx hb hts hC_10 hown hW (gx.S hM) tt_10 12 (by decide) rfl kw_1155 ⟨rfl, rfl, rfl⟩ ((hM.o gx trivial rfl).2.trans f_x_12) dX10_clause_154 ?_
              refine lv_bipush (v := 9) hx hb dX10_clause_157 (by decide) ?_
              refine lv_iload_n hx hb dX10_clause_159 rfl (lv_at hl 0 rfl) ?_
              refine lv_iadd hx hb dX10_clause_160 ?_
              refine lv_topi (fun x_136 ex_136 => ?_)
              have zx_136 : x_136.toInt = 9 + x_108.toInt := by rw [ex_136]; exact i32_add (by decide) rfl (by omega) (by omega)
              refine lv_aload_n hx hb dX10_clause_161 rfl (lv_at hl 3 rfl) ?_
              refine hk_geti hx hb hts hC_10 hown hW (gx.S hM) tt_10 10 (by decide) rfl kw_1153 ⟨rfl, rfl, rfl⟩ fw_134 dX10_clause_162 ?_
              have af_qrO := af_qr
              refine hx_iast hx hb hW hT (hx_S.rf (M := [(54, 0)])) (gqr.S hM) tt_54 rfl ⟨by omega, by omega⟩ rfl ⟨by omega, by omega⟩ (List.mem_singleton.mpr rfl) dX10_clause_165 (fun H locs h_137 eh_137 hW hT hs => ?_)
              replace f_x_14 := (hs.o (gx.S hM) trivial rfl).1.trans f_x_14
              replace fw_106 := (hs.o (gx.S hM) trivial rfl).1.trans fw_106
              replace fw_133 := (hs.o (gx.S hM) trivial rfl).1.trans fw_133
              replace fw_134 := (hs.o (gx.S hM) trivial rfl).1.trans fw_134
              replace af_qs : h_137.2.1 qs = sf := (funext fun j => (hs.a (gqs.S hM) rfl j).1).trans af_qs
              replace af_qo : h_137.2.1 qo = of := (funext fun j => (hs.a (gqo.S hM) rfl j).1).trans af_qo
              replace hM := hM.tr (hs.mono (by decide))
              obtain ⟨fa_138, dfa_138⟩ : ∃ g : Nat → Int32, g = hx_up rd x_136.toNatClampNeg w_134 := ⟨_, rfl⟩
              have nfa_138 : h_137.2.1 qr = fa_138 := by rw [eh_137, dfa_138, ← af_qrO]; exact hx_pi_fun _ _ _ _
              refine lv_iconst (v := 1) hx hb dX10_clause_166 (by decide) ?_
              exact hx_retz hx hb hr rfl hlk hW ⟨⟨w_133, st0, sf, fa_138, fw_133, f_x_14, af_qs, nfa_138, (by have zc6 : (6 : Int32).toInt = 6 := (by decide); exact ⟨by decide, by omega, fun _ => ⟨by omega, hrp, (hx_rd hrd dfa_138 (by omega) (by omega) (by omega))⟩⟩)⟩, hT, hM⟩ dX10_clause_167
            · skip
              refine lv_iconst (v := 0) hx hb dX10_clause_151 (by decide) ?_
              exact hx_retz hx hb hr rfl hlk hW ⟨⟨w_133, st0, sf, rd, fw_133, f_x_14, af_qs, af_qr, ⟨by decide, by omega, fun z => absurd z (by decide)⟩⟩, hT, hM⟩ dX10_clause_152
          · skip
            refine lv_iconst (v := 0) hx hb dX10_clause_125 (by decide) ?_
            exact hx_retz hx hb hr rfl hlk hW ⟨⟨w_105, st0, sf, rd, fw_105, f_x_14, af_qs, af_qr, ⟨by decide, by omega, fun z => absurd z (by decide)⟩⟩, hT, hM⟩ dX10_clause_126
        · skip
          replace hr_113 := hr_113.resolve_right (fun z9 => absurd (c_114.symm.trans z9.1) (by decide))
          replace hr_113 := hr_113.2
          refine lv_aload_n hx hb dX10_clause_100 rfl (lv_at hl 3 rfl) ?_
          refine lv_iconst (v := 0) hx hb dX10_clause_101 (by decide) ?_
          refine lv_aload_n hx hb dX10_clause_102 rfl (lv_at hl 3 rfl) ?_
          refine hk_geti hx hb hts hC_10 hown hW (gx.S hM) tt_10 8 (by decide) rfl kw_1151 ⟨rfl, rfl, rfl⟩ fw_105 dX10_clause_103 ?_
          refine hx_goi (hx_runV (As := [.int (0 : Int32), .int w_105]) (rest := []) ⟨hx, hb, hml, hown, hts⟩ hW (gx.S hM) tt_10 (T := TX10) (N := 98) rfl (t_X10_fails l dC dI dA L_109 h_110 H.size x (0 : Int32) w_105 hT (gx.S hM)) (cwV 2 hts (hx_gV kw_1480 kw_1477 kw_1479 kw_56 kw_103) rfl rfl rfl (by decide +kernel) ⟨Nat.le_of_ble_eq_true rfl, Nat.le_of_ble_eq_true rfl⟩) rfl hl.1 rfl (Nat.le_of_ble_eq_true rfl) dX10_clause_106 ⟨Nat.le_of_ble_eq_true rfl, Nat.le_of_ble_eq_true rfl⟩) hW (fun r_141 L_139 h_140 H locs p_142 hW => ?_)
          obtain ⟨hr_143, hT, hs⟩ := p_142
          replace hT : hx_T T_tb L_139 h_140 := hT
          replace hs : hx_S T_tb [(10, 9)] L_109 h_110 L_139 h_140 := hs
          replace f_x_14 := (hs.o (gx.S hM) trivial rfl).1.trans f_x_14
          replace fw_105 := (hs.o (gx.S hM) trivial rfl).1.trans fw_105
          replace fw_106 := (hs.o (gx.S hM) trivial rfl).1.trans fw_106
          replace af_qs : h_140.2.1 qs = sf := (funext fun j => (hs.a (gqs.S hM) rfl j).1).trans af_qs
          replace af_qo : h_140.2.1 qo = of := (funext fun j => (hs.a (gqo.S hM) rfl j).1).trans af_qo
          replace af_qr : h_140.2.1 qr = rd := (funext fun j => (hs.a (gqr.S hM) rfl j).1).trans af_qr
          replace hM := hM.tr (hs.mono (by decide))
          exact hx_retz hx hb hr (hx_nar01 (by omega)) hlk hW ⟨⟨w_105, st0, sf, rd, fw_105, f_x_14, af_qs, af_qr, ⟨by omega, by omega, fun z => by exfalso; omega⟩⟩, hT, hM⟩ dX10_clause_109
    · skip
      refine lv_aload_n hx hb dX10_clause_34 rfl (lv_at hl 2 rfl) ?_
      refine lv_bipush (v := 20) hx hb dX10_clause_35 (by decide) ?_
      refine lv_iload_n hx hb dX10_clause_37 rfl (lv_at hl 0 rfl) ?_
      refine hx_goi (hx_runV (As := [.int (20 : Int32), .int w_6]) (rest := []) ⟨hx, hb, hml, hown, hts⟩ hW (gx.S hM) tt_10 (T := TX10) (N := 98) rfl (t_X10_isNew l dC dI dA L_8 h_9 H.size x (20 : Int32) w_6 hT (gx.S hM)) (cwV 2 hts (hx_gV kw_1484 kw_1481 kw_1483 kw_57 kw_103) rfl rfl rfl (by decide +kernel) ⟨Nat.le_of_ble_eq_true rfl, Nat.le_of_ble_eq_true rfl⟩) rfl hl.1 rfl (Nat.le_of_ble_eq_true rfl) dX10_clause_38 ⟨Nat.le_of_ble_eq_true rfl, Nat.le_of_ble_eq_true rfl⟩) hW (fun r_146 L_144 h_145 H locs p_147 hW => ?_)
      obtain ⟨hr_148, hT, hs⟩ := p_147
      replace hT : hx_T T_tb L_144 h_145 := hT
      replace hs : hx_S T_tb [(10, 9), (10, 13)] L_8 h_9 L_144 h_145 := hs
      replace f_x_14 := (hs.o (gx.S hM) trivial rfl).1.trans f_x_14
      replace fw_6 := (hs.o (gx.S hM) trivial rfl).1.trans fw_6
      replace fw_7 := (hs.o (gx.S hM) trivial rfl).1.trans fw_7
      replace af_qs : h_145.2.1 qs = sf := (funext fun j => (hs.a (gqs.S hM) rfl j).1).trans af_qs
      replace af_qo : h_145.2.1 qo = of := (funext fun j => (hs.a (gqo.S hM) rfl j).1).trans af_qo
      replace af_qr : h_145.2.1 qr = rd := (funext fun j => (hs.a (gqr.S hM) rfl j).1).trans af_qr
      replace hM := hM.tr (hs.mono (by decide))
      refine hb_if_ne (zx := r_146.toInt) (tgt := 46) hx hb rfl dX10_clause_41 (by decide) (fun c_149 => ?_) (fun c_149 => ?_)
      · skip
        refine lv_aload_n hx hb dX10_clause_46 rfl (lv_at hl 2 rfl) ?_
        refine lv_dup hx hb dX10_clause_47 rfl ?_
        refine hk_geti hx hb hts hC_10 hown hW (gx.S hM) tt_10 8 (by decide) rfl kw_1151 ⟨rfl, rfl, rfl⟩ fw_6 dX10_clause_48 ?_
        refine lv_aload_n hx hb dX10_clause_51 rfl (lv_at hl 2 rfl) ?_
        refine hk_geti hx hb hts hC_10 hown hW (gx.S hM) tt_10 11 (by decide) rfl kw_1154 ⟨rfl, rfl, rfl⟩ fw_7 dX10_clause_52 ?_
        refine lv_iadd hx hb dX10_clause_55 ?_
        have rg_150 := i32_r w_6
        have rg_151 := i32_r w_7
        refine lv_topi (fun x_152 ex_152 => ?_)
        have zx_152 : x_152.toInt = w_6.toInt + w_7.toInt := by rw [ex_152]; exact i32_add rfl rfl (by omega) (by omega)
        refine hx_puti hx hb hts hC_10 hown hW hT (hx_S.rf (M := [(10, 8)])) (gx.S hM) tt_10 8 (by decide) rfl kw_1151 ⟨rfl, rfl, rfl⟩ rfl (x := x_152) ⟨by omega, by omega⟩ rfl rfl rfl (List.mem_singleton.mpr rfl) dX10_clause_56 (fun H locs h_153 eh_153 hW hT hs => ?_)
        replace f_x_14 := (hs.o (gx.S hM) trivial rfl).1.trans f_x_14
        replace fw_7 := (hs.o (gx.S hM) trivial rfl).1.trans fw_7
        replace af_qs : h_153.2.1 qs = sf := (funext fun j => (hs.a (gqs.S hM) rfl j).1).trans af_qs
        replace af_qo : h_153.2.1 qo = of := (funext fun j => (hs.a (gqo.S hM) rfl j).1).trans af_qo
        replace af_qr : h_153.2.1 qr = rd := (funext fun j => (hs.a (gqr.S hM) rfl j).1).trans af_qr
        replace hM := hM.tr (hs.mono (by decide))
        have f_154 : h_153.2.1 x 8 = x_152 := by rw [eh_153]; exact hx_pi_at _ _ _ _
        refine lv_aload_n hx hb dX10_clause_59 rfl (lv_at hl 2 rfl) ?_
        refine hx_goi (hx_runV (As := []) (rest := []) ⟨hx, hb, hml, hown, hts⟩ hW (gx.S hM) tt_10 (T := TX10) (N := 98) rfl (t_X10_either l dC dI dA L_144 h_153 H.size x hT (gx.S hM) qs (gqs.S hM) ((hM.o gx trivial rfl).2.trans f_x_15) qo (gqo.S hM) ((hM.o gx trivial rfl).2.trans f_x_17) qt (gqt.S hM) ((hM.o gx trivial rfl).2.trans f_x_6) qw (gqw.S hM) ((hM.o gx trivial rfl).2.trans f_x_19) sf af_qs of af_qo tf (hx_afS hM gqt rfl af_qt) wf (hx_afS hM gqw rfl af_qw) x_152 f_154 tp0 ((hM.o gx trivial rfl).1.trans f_x_7) (by omega) hwd) (cwV 0 hts (hx_gV kw_1488 kw_1485 kw_1487 kw_58 kw_103) rfl rfl rfl (by decide +kernel) ⟨Nat.le_of_ble_eq_true rfl, Nat.le_of_ble_eq_true rfl⟩) rfl hl.1 rfl (Nat.le_of_ble_eq_true rfl) dX10_clause_60 ⟨Nat.le_of_ble_eq_true rfl, Nat.le_of_ble_eq_true rfl⟩) hW (fun r_157 L_155 h_156 H locs p_158 hW => ?_)
        obtain ⟨⟨w_160, w_161, w_162, fw_160, fw_161, fw_162, hr_159⟩, hT, hs⟩ := p_158
        replace hT : hx_T T_tb L_155 h_156 := hT
        replace hs : hx_S T_tb [(10, 8), (10, 9), (10, 10), (10, 11), (10, 14), (10, 16), (10, 18), (55, 0), (56, 0)] L_144 h_153 L_155 h_156 := hs
        replace af_qr : h_156.2.1 qr = rd := (funext fun j => (hs.a (gqr.S hM) rfl j).1).trans af_qr
        replace hM := hM.tr (hs.mono (by decide))
        have fw_160 : h_156.2.1 x 8 = w_160 := fw_160
        have bw_160 := hT.gi (gx.S hM) tt_10 (k := 8) rfl
        rw [fw_160] at bw_160
        have bw_160 : 0 ≤ w_160.toInt ∧ w_160.toInt ≤ 402 := bw_160
        have fw_161 : h_156.2.1 x 14 = w_161 := fw_161
        have bw_161 := hT.gi (gx.S hM) tt_10 (k := 14) rfl
        rw [fw_161] at bw_161
        have bw_161 : 0 ≤ w_161.toInt ∧ w_161.toInt ≤ 128 := bw_161
        have fw_162 : h_156.2.1 qs = w_162 := fw_162
        exact hx_retz hx hb hr (hx_nar01 (by omega)) hlk hW ⟨⟨w_160, w_161, w_162, rd, fw_160, fw_161, fw_162, af_qr, ⟨by omega, by omega, fun z => ⟨by omega, hr_159.2.2 z, hrd⟩⟩⟩, hT, hM⟩ dX10_clause_63
      · skip
        refine lv_iconst (v := 0) hx hb dX10_clause_44 (by decide) ?_
        exact hx_retz hx hb hr rfl hlk hW ⟨⟨w_6, st0, sf, rd, fw_6, f_x_14, af_qs, af_qr, ⟨by decide, by omega, fun z => absurd z (by decide)⟩⟩, hT, hM⟩ dX10_clause_45
  · skip
    replace hr_12 := hr_12.resolve_right (fun z9 => absurd (c_13.symm.trans z9.1) (by decide))
    replace hr_12 := hr_12.2
    refine lv_aload_n hx hb dX10_clause_21 rfl (lv_at hl 2 rfl) ?_
    refine lv_iconst (v := 0) hx hb dX10_clause_22 (by decide) ?_
    refine lv_iload_n hx hb dX10_clause_23 rfl (lv_at hl 0 rfl) ?_
    have zc_0 : (0 : Int32).toInt = 0 := by decide
    refine hx_goi (hx_runV (As := [.int (0 : Int32), .int w_6]) (rest := []) ⟨hx, hb, hml, hown, hts⟩ hW (gx.S hM) tt_10 (T := TX10) (N := 98) rfl (t_X10_fails l dC dI dA L_8 h_9 H.size x (0 : Int32) w_6 hT (gx.S hM)) (cwV 2 hts (hx_gV kw_1480 kw_1477 kw_1479 kw_56 kw_103) rfl rfl rfl (by decide +kernel) ⟨Nat.le_of_ble_eq_true rfl, Nat.le_of_ble_eq_true rfl⟩) rfl hl.1 rfl (Nat.le_of_ble_eq_true rfl) dX10_clause_24 ⟨Nat.le_of_ble_eq_true rfl, Nat.le_of_ble_eq_true rfl⟩) hW (fun r_165 L_163 h_164 H locs p_166 hW => ?_)
    obtain ⟨hr_167, hT, hs⟩ := p_166
    replace hT : hx_T T_tb L_163 h_164 := hT
    replace hs : hx_S T_tb [(10, 9)] L_8 h_9 L_163 h_164 := hs
    replace f_x_14 := (hs.o (gx.S hM) trivial rfl).1.trans f_x_14
    replace fw_6 := (hs.o (gx.S hM) trivial rfl).1.trans fw_6
    replace fw_7 := (hs.o (gx.S hM) trivial rfl).1.trans fw_7
    replace af_qs : h_164.2.1 qs = sf := (funext fun j => (hs.a (gqs.S hM) rfl j).1).trans af_qs
    replace af_qo : h_164.2.1 qo = of := (funext fun j => (hs.a (gqo.S hM) rfl j).1).trans af_qo
    replace af_qr : h_164.2.1 qr = rd := (funext fun j => (hs.a (gqr.S hM) rfl j).1).trans af_qr
    replace hM := hM.tr (hs.mono (by decide))
    exact hx_retz hx hb hr (hx_nar01 (by omega)) hlk hW ⟨⟨w_6, st0, sf, rd, fw_6, f_x_14, af_qs, af_qr, ⟨by omega, by omega, fun z => by exfalso; omega⟩⟩, hT, hM⟩ dX10_clause_27

def wLX10_act_0 : List Nat := [42, 180, 1, 65, 16, 8, 159, 0, 10, 27, 184, 1, 68, 154, 0, 5, 2, 172, 42, 3, 181, 0, 245, 42, 3, 181, 0, 242, 42, 3, 181, 1, 50, 3, 61, 28, 16, 13, 162, 0, 19, 42, 180, 0, 26, 28, 28, 184, 0, 214, 79, 132, 2, 1, 167, 255, 237, 42, 182, 0, 218, 42, 182, 0]
def wLX10_act_1 : List Nat := [221, 4, 61, 42, 182, 0, 248, 2, 159, 0, 7, 4, 167, 0, 4, 3, 62, 28, 153, 0, 96, 29, 153, 0, 92, 42, 182, 1, 71, 61, 28, 153, 0, 15, 42, 182, 0, 248, 2, 159, 0, 7, 4, 167, 0, 4, 3, 62, 29, 153, 0, 22, 42, 182, 0, 248, 16, 59, 159, 0, 13, 42, 3, 42]
def wLX10_act_2 : List Nat := [180, 0, 245, 182, 0, 255, 61, 29, 153, 0, 13, 42, 89, 180, 0, 245, 4, 96, 181, 0, 245, 28, 153, 255, 187, 29, 153, 255, 183, 42, 182, 0, 248, 2, 160, 255, 175, 42, 3, 42, 180, 0, 245, 182, 0, 255, 61, 167, 255, 162, 42, 3, 181, 0, 236, 28, 154, 0, 11, 16, 254, 42, 180, 0]
def wLX10_act_3 : List Nat := [242, 100, 172, 42, 89, 180, 1, 65, 4, 96, 181, 1, 65, 42, 180, 0, 7, 42, 180, 1, 65, 27, 79, 3, 54, 4, 21, 4, 16, 13, 162, 0, 31, 42, 180, 0, 13, 16, 13, 42, 180, 1, 65, 104, 21, 4, 96, 42, 180, 0, 26, 21, 4, 46, 79, 132, 4, 1, 167, 255, 224, 42, 42, 180]
def wLX10_act_4 : List Nat := [1, 65, 182, 0, 224, 42, 180, 1, 65, 4, 100, 172]
theorem wX10_act_0 : (cX10_act.data.toList.map UInt8.toNat).drop 0 = wLX10_act_0 ++ (wLX10_act_1 ++ (wLX10_act_2 ++ (wLX10_act_3 ++ (wLX10_act_4 ++ ([]))))) := by decide +kernel
theorem wX10_act_1 : (cX10_act.data.toList.map UInt8.toNat).drop 64 = wLX10_act_1 ++ (wLX10_act_2 ++ (wLX10_act_3 ++ (wLX10_act_4 ++ ([])))) := hz_wn wX10_act_0 rfl
theorem wX10_act_2 : (cX10_act.data.toList.map UInt8.toNat).drop 128 = wLX10_act_2 ++ (wLX10_act_3 ++ (wLX10_act_4 ++ ([]))) := hz_wn wX10_act_1 rfl
theorem wX10_act_3 : (cX10_act.data.toList.map UInt8.toNat).drop 192 = wLX10_act_3 ++ (wLX10_act_4 ++ ([])) := hz_wn wX10_act_2 rfl
theorem wX10_act_4 : (cX10_act.data.toList.map UInt8.toNat).drop 256 = wLX10_act_4 ++ ([]) := hz_wn wX10_act_3 rfl
theorem dX10_act_0 : decode cX10_act 0 = .ok (.aload_n 0, 1) := dq_42 (hz_wg wX10_act_0 (j := 0) (n := 42) rfl)
theorem dX10_act_1 : decode cX10_act 1 = .ok (.getfield 321, 3) := dq_180 (hz_wg wX10_act_0 (j := 1) (n := 180) rfl) (hz_wg wX10_act_0 (j := 2) (n := 1) rfl) (hz_wg wX10_act_0 (j := 3) (n := 65) rfl) rfl
theorem dX10_act_4 : decode cX10_act 4 = .ok (.bipush 8, 2) := dq_16 (hz_wg wX10_act_0 (j := 4) (n := 16) rfl) (hz_wg wX10_act_0 (j := 5) (n := 8) rfl) (by decide)
theorem dX10_act_6 : decode cX10_act 6 = .ok (.if_icmp .eq 10, 3) := dq_159 (hz_wg wX10_act_0 (j := 6) (n := 159) rfl) (hz_wg wX10_act_0 (j := 7) (n := 0) rfl) (hz_wg wX10_act_0 (j := 8) (n := 10) rfl) (by decide)
theorem dX10_act_9 : decode cX10_act 9 = .ok (.iload_n 1, 1) := dq_27 (hz_wg wX10_act_0 (j := 9) (n := 27) rfl)
theorem dX10_act_10 : decode cX10_act 10 = .ok (.invokestatic 324, 3) := dq_184 (hz_wg wX10_act_0 (j := 10) (n := 184) rfl) (hz_wg wX10_act_0 (j := 11) (n := 1) rfl) (hz_wg wX10_act_0 (j := 12) (n := 68) rfl) rfl
theorem dX10_act_13 : decode cX10_act 13 = .ok (.ifCond .ne 5, 3) := dq_154 (hz_wg wX10_act_0 (j := 13) (n := 154) rfl) (hz_wg wX10_act_0 (j := 14) (n := 0) rfl) (hz_wg wX10_act_0 (j := 15) (n := 5) rfl) (by decide)
theorem dX10_act_16 : decode cX10_act 16 = .ok (.iconst (-1), 1) := dq_2 (hz_wg wX10_act_0 (j := 16) (n := 2) rfl)
theorem dX10_act_17 : decode cX10_act 17 = .ok (.ireturn, 1) := dq_172 (hz_wg wX10_act_0 (j := 17) (n := 172) rfl)
theorem dX10_act_18 : decode cX10_act 18 = .ok (.aload_n 0, 1) := dq_42 (hz_wg wX10_act_0 (j := 18) (n := 42) rfl)
theorem dX10_act_19 : decode cX10_act 19 = .ok (.iconst 0, 1) := dq_3 (hz_wg wX10_act_0 (j := 19) (n := 3) rfl)
theorem dX10_act_20 : decode cX10_act 20 = .ok (.putfield 245, 3) := dq_181 (hz_wg wX10_act_0 (j := 20) (n := 181) rfl) (hz_wg wX10_act_0 (j := 21) (n := 0) rfl) (hz_wg wX10_act_0 (j := 22) (n := 245) rfl) rfl
theorem dX10_act_23 : decode cX10_act 23 = .ok (.aload_n 0, 1) := dq_42 (hz_wg wX10_act_0 (j := 23) (n := 42) rfl)
theorem dX10_act_24 : decode cX10_act 24 = .ok (.iconst 0, 1) := dq_3 (hz_wg wX10_act_0 (j := 24) (n := 3) rfl)
theorem dX10_act_25 : decode cX10_act 25 = .ok (.putfield 242, 3) := dq_181 (hz_wg wX10_act_0 (j := 25) (n := 181) rfl) (hz_wg wX10_act_0 (j := 26) (n := 0) rfl) (hz_wg wX10_act_0 (j := 27) (n := 242) rfl) rfl
theorem dX10_act_28 : decode cX10_act 28 = .ok (.aload_n 0, 1) := dq_42 (hz_wg wX10_act_0 (j := 28) (n := 42) rfl)
theorem dX10_act_29 : decode cX10_act 29 = .ok (.iconst 0, 1) := dq_3 (hz_wg wX10_act_0 (j := 29) (n := 3) rfl)
theorem dX10_act_30 : decode cX10_act 30 = .ok (.putfield 306, 3) := dq_181 (hz_wg wX10_act_0 (j := 30) (n := 181) rfl) (hz_wg wX10_act_0 (j := 31) (n := 1) rfl) (hz_wg wX10_act_0 (j := 32) (n := 50) rfl) rfl
theorem dX10_act_33 : decode cX10_act 33 = .ok (.iconst 0, 1) := dq_3 (hz_wg wX10_act_0 (j := 33) (n := 3) rfl)
theorem dX10_act_34 : decode cX10_act 34 = .ok (.istore_n 2, 1) := dq_61 (hz_wg wX10_act_0 (j := 34) (n := 61) rfl)
theorem dX10_act_35 : decode cX10_act 35 = .ok (.iload_n 2, 1) := dq_28 (hz_wg wX10_act_0 (j := 35) (n := 28) rfl)
theorem dX10_act_36 : decode cX10_act 36 = .ok (.bipush 13, 2) := dq_16 (hz_wg wX10_act_0 (j := 36) (n := 16) rfl) (hz_wg wX10_act_0 (j := 37) (n := 13) rfl) (by decide)
theorem dX10_act_38 : decode cX10_act 38 = .ok (.if_icmp .ge 19, 3) := dq_162 (hz_wg wX10_act_0 (j := 38) (n := 162) rfl) (hz_wg wX10_act_0 (j := 39) (n := 0) rfl) (hz_wg wX10_act_0 (j := 40) (n := 19) rfl) (by decide)
theorem dX10_act_41 : decode cX10_act 41 = .ok (.aload_n 0, 1) := dq_42 (hz_wg wX10_act_0 (j := 41) (n := 42) rfl)
theorem dX10_act_42 : decode cX10_act 42 = .ok (.getfield 26, 3) := dq_180 (hz_wg wX10_act_0 (j := 42) (n := 180) rfl) (hz_wg wX10_act_0 (j := 43) (n := 0) rfl) (hz_wg wX10_act_0 (j := 44) (n := 26) rfl) rfl
theorem dX10_act_45 : decode cX10_act 45 = .ok (.iload_n 2, 1) := dq_28 (hz_wg wX10_act_0 (j := 45) (n := 28) rfl)
theorem dX10_act_46 : decode cX10_act 46 = .ok (.iload_n 2, 1) := dq_28 (hz_wg wX10_act_0 (j := 46) (n := 28) rfl)
theorem dX10_act_47 : decode cX10_act 47 = .ok (.invokestatic 214, 3) := dq_184 (hz_wg wX10_act_0 (j := 47) (n := 184) rfl) (hz_wg wX10_act_0 (j := 48) (n := 0) rfl) (hz_wg wX10_act_0 (j := 49) (n := 214) rfl) rfl
theorem dX10_act_50 : decode cX10_act 50 = .ok (.iastore, 1) := dq_79 (hz_wg wX10_act_0 (j := 50) (n := 79) rfl)
theorem dX10_act_51 : decode cX10_act 51 = .ok (.iinc 2 1, 3) := dq_132 (hz_wg wX10_act_0 (j := 51) (n := 132) rfl) (hz_wg wX10_act_0 (j := 52) (n := 2) rfl) (hz_wg wX10_act_0 (j := 53) (n := 1) rfl) (by decide)
theorem dX10_act_54 : decode cX10_act 54 = .ok (.goto (-19), 3) := dq_167 (hz_wg wX10_act_0 (j := 54) (n := 167) rfl) (hz_wg wX10_act_0 (j := 55) (n := 255) rfl) (hz_wg wX10_act_0 (j := 56) (n := 237) rfl) (by decide)
theorem dX10_act_57 : decode cX10_act 57 = .ok (.aload_n 0, 1) := dq_42 (hz_wg wX10_act_0 (j := 57) (n := 42) rfl)
theorem dX10_act_58 : decode cX10_act 58 = .ok (.invokevirtual 218, 3) := dq_182 (hz_wg wX10_act_0 (j := 58) (n := 182) rfl) (hz_wg wX10_act_0 (j := 59) (n := 0) rfl) (hz_wg wX10_act_0 (j := 60) (n := 218) rfl) rfl
theorem dX10_act_61 : decode cX10_act 61 = .ok (.aload_n 0, 1) := dq_42 (hz_wg wX10_act_0 (j := 61) (n := 42) rfl)
theorem dX10_act_62 : decode cX10_act 62 = .ok (.invokevirtual 221, 3) := dq_182 (hz_wg wX10_act_0 (j := 62) (n := 182) rfl) (hz_wg wX10_act_0 (j := 63) (n := 0) rfl) (hz_wg wX10_act_1 (j := 0) (n := 221) rfl) rfl
theorem dX10_act_65 : decode cX10_act 65 = .ok (.iconst 1, 1) := dq_4 (hz_wg wX10_act_1 (j := 1) (n := 4) rfl)
theorem dX10_act_66 : decode cX10_act 66 = .ok (.istore_n 2, 1) := dq_61 (hz_wg wX10_act_1 (j := 2) (n := 61) rfl)
theorem dX10_act_67 : decode cX10_act 67 = .ok (.aload_n 0, 1) := dq_42 (hz_wg wX10_act_1 (j := 3) (n := 42) rfl)
theorem dX10_act_68 : decode cX10_act 68 = .ok (.invokevirtual 248, 3) := dq_182 (hz_wg wX10_act_1 (j := 4) (n := 182) rfl) (hz_wg wX10_act_1 (j := 5) (n := 0) rfl) (hz_wg wX10_act_1 (j := 6) (n := 248) rfl) rfl
theorem dX10_act_71 : decode cX10_act 71 = .ok (.iconst (-1), 1) := dq_2 (hz_wg wX10_act_1 (j := 7) (n := 2) rfl)
theorem dX10_act_72 : decode cX10_act 72 = .ok (.if_icmp .eq 7, 3) := dq_159 (hz_wg wX10_act_1 (j := 8) (n := 159) rfl) (hz_wg wX10_act_1 (j := 9) (n := 0) rfl) (hz_wg wX10_act_1 (j := 10) (n := 7) rfl) (by decide)
theorem dX10_act_75 : decode cX10_act 75 = .ok (.iconst 1, 1) := dq_4 (hz_wg wX10_act_1 (j := 11) (n := 4) rfl)
theorem dX10_act_76 : decode cX10_act 76 = .ok (.goto 4, 3) := dq_167 (hz_wg wX10_act_1 (j := 12) (n := 167) rfl) (hz_wg wX10_act_1 (j := 13) (n := 0) rfl) (hz_wg wX10_act_1 (j := 14) (n := 4) rfl) (by decide)
theorem dX10_act_79 : decode cX10_act 79 = .ok (.iconst 0, 1) := dq_3 (hz_wg wX10_act_1 (j := 15) (n := 3) rfl)
theorem dX10_act_80 : decode cX10_act 80 = .ok (.istore_n 3, 1) := dq_62 (hz_wg wX10_act_1 (j := 16) (n := 62) rfl)
theorem dX10_act_81 : decode cX10_act 81 = .ok (.iload_n 2, 1) := dq_28 (hz_wg wX10_act_1 (j := 17) (n := 28) rfl)
theorem dX10_act_82 : decode cX10_act 82 = .ok (.ifCond .eq 96, 3) := dq_153 (hz_wg wX10_act_1 (j := 18) (n := 153) rfl) (hz_wg wX10_act_1 (j := 19) (n := 0) rfl) (hz_wg wX10_act_1 (j := 20) (n := 96) rfl) (by decide)
theorem dX10_act_85 : decode cX10_act 85 = .ok (.iload_n 3, 1) := dq_29 (hz_wg wX10_act_1 (j := 21) (n := 29) rfl)
theorem dX10_act_86 : decode cX10_act 86 = .ok (.ifCond .eq 92, 3) := dq_153 (hz_wg wX10_act_1 (j := 22) (n := 153) rfl) (hz_wg wX10_act_1 (j := 23) (n := 0) rfl) (hz_wg wX10_act_1 (j := 24) (n := 92) rfl) (by decide)
theorem dX10_act_89 : decode cX10_act 89 = .ok (.aload_n 0, 1) := dq_42 (hz_wg wX10_act_1 (j := 25) (n := 42) rfl)
theorem dX10_act_90 : decode cX10_act 90 = .ok (.invokevirtual 327, 3) := dq_182 (hz_wg wX10_act_1 (j := 26) (n := 182) rfl) (hz_wg wX10_act_1 (j := 27) (n := 1) rfl) (hz_wg wX10_act_1 (j := 28) (n := 71) rfl) rfl
theorem dX10_act_93 : decode cX10_act 93 = .ok (.istore_n 2, 1) := dq_61 (hz_wg wX10_act_1 (j := 29) (n := 61) rfl)
theorem dX10_act_94 : decode cX10_act 94 = .ok (.iload_n 2, 1) := dq_28 (hz_wg wX10_act_1 (j := 30) (n := 28) rfl)
theorem dX10_act_95 : decode cX10_act 95 = .ok (.ifCond .eq 15, 3) := dq_153 (hz_wg wX10_act_1 (j := 31) (n := 153) rfl) (hz_wg wX10_act_1 (j := 32) (n := 0) rfl) (hz_wg wX10_act_1 (j := 33) (n := 15) rfl) (by decide)
theorem dX10_act_98 : decode cX10_act 98 = .ok (.aload_n 0, 1) := dq_42 (hz_wg wX10_act_1 (j := 34) (n := 42) rfl)
theorem dX10_act_99 : decode cX10_act 99 = .ok (.invokevirtual 248, 3) := dq_182 (hz_wg wX10_act_1 (j := 35) (n := 182) rfl) (hz_wg wX10_act_1 (j := 36) (n := 0) rfl) (hz_wg wX10_act_1 (j := 37) (n := 248) rfl) rfl
theorem dX10_act_102 : decode cX10_act 102 = .ok (.iconst (-1), 1) := dq_2 (hz_wg wX10_act_1 (j := 38) (n := 2) rfl)
theorem dX10_act_103 : decode cX10_act 103 = .ok (.if_icmp .eq 7, 3) := dq_159 (hz_wg wX10_act_1 (j := 39) (n := 159) rfl) (hz_wg wX10_act_1 (j := 40) (n := 0) rfl) (hz_wg wX10_act_1 (j := 41) (n := 7) rfl) (by decide)
theorem dX10_act_106 : decode cX10_act 106 = .ok (.iconst 1, 1) := dq_4 (hz_wg wX10_act_1 (j := 42) (n := 4) rfl)
theorem dX10_act_107 : decode cX10_act 107 = .ok (.goto 4, 3) := dq_167 (hz_wg wX10_act_1 (j := 43) (n := 167) rfl) (hz_wg wX10_act_1 (j := 44) (n := 0) rfl) (hz_wg wX10_act_1 (j := 45) (n := 4) rfl) (by decide)
theorem dX10_act_110 : decode cX10_act 110 = .ok (.iconst 0, 1) := dq_3 (hz_wg wX10_act_1 (j := 46) (n := 3) rfl)
theorem dX10_act_111 : decode cX10_act 111 = .ok (.istore_n 3, 1) := dq_62 (hz_wg wX10_act_1 (j := 47) (n := 62) rfl)
theorem dX10_act_112 : decode cX10_act 112 = .ok (.iload_n 3, 1) := dq_29 (hz_wg wX10_act_1 (j := 48) (n := 29) rfl)
theorem dX10_act_113 : decode cX10_act 113 = .ok (.ifCond .eq 22, 3) := dq_153 (hz_wg wX10_act_1 (j := 49) (n := 153) rfl) (hz_wg wX10_act_1 (j := 50) (n := 0) rfl) (hz_wg wX10_act_1 (j := 51) (n := 22) rfl) (by decide)
theorem dX10_act_116 : decode cX10_act 116 = .ok (.aload_n 0, 1) := dq_42 (hz_wg wX10_act_1 (j := 52) (n := 42) rfl)
theorem dX10_act_117 : decode cX10_act 117 = .ok (.invokevirtual 248, 3) := dq_182 (hz_wg wX10_act_1 (j := 53) (n := 182) rfl) (hz_wg wX10_act_1 (j := 54) (n := 0) rfl) (hz_wg wX10_act_1 (j := 55) (n := 248) rfl) rfl
theorem dX10_act_120 : decode cX10_act 120 = .ok (.bipush 59, 2) := dq_16 (hz_wg wX10_act_1 (j := 56) (n := 16) rfl) (hz_wg wX10_act_1 (j := 57) (n := 59) rfl) (by decide)
theorem dX10_act_122 : decode cX10_act 122 = .ok (.if_icmp .eq 13, 3) := dq_159 (hz_wg wX10_act_1 (j := 58) (n := 159) rfl) (hz_wg wX10_act_1 (j := 59) (n := 0) rfl) (hz_wg wX10_act_1 (j := 60) (n := 13) rfl) (by decide)
theorem dX10_act_125 : decode cX10_act 125 = .ok (.aload_n 0, 1) := dq_42 (hz_wg wX10_act_1 (j := 61) (n := 42) rfl)
theorem dX10_act_126 : decode cX10_act 126 = .ok (.iconst 0, 1) := dq_3 (hz_wg wX10_act_1 (j := 62) (n := 3) rfl)
theorem dX10_act_127 : decode cX10_act 127 = .ok (.aload_n 0, 1) := dq_42 (hz_wg wX10_act_1 (j := 63) (n := 42) rfl)
theorem dX10_act_128 : decode cX10_act 128 = .ok (.getfield 245, 3) := dq_180 (hz_wg wX10_act_2 (j := 0) (n := 180) rfl) (hz_wg wX10_act_2 (j := 1) (n := 0) rfl) (hz_wg wX10_act_2 (j := 2) (n := 245) rfl) rfl
theorem dX10_act_131 : decode cX10_act 131 = .ok (.invokevirtual 255, 3) := dq_182 (hz_wg wX10_act_2 (j := 3) (n := 182) rfl) (hz_wg wX10_act_2 (j := 4) (n := 0) rfl) (hz_wg wX10_act_2 (j := 5) (n := 255) rfl) rfl
theorem dX10_act_134 : decode cX10_act 134 = .ok (.istore_n 2, 1) := dq_61 (hz_wg wX10_act_2 (j := 6) (n := 61) rfl)
theorem dX10_act_135 : decode cX10_act 135 = .ok (.iload_n 3, 1) := dq_29 (hz_wg wX10_act_2 (j := 7) (n := 29) rfl)
theorem dX10_act_136 : decode cX10_act 136 = .ok (.ifCond .eq 13, 3) := dq_153 (hz_wg wX10_act_2 (j := 8) (n := 153) rfl) (hz_wg wX10_act_2 (j := 9) (n := 0) rfl) (hz_wg wX10_act_2 (j := 10) (n := 13) rfl) (by decide)
theorem dX10_act_139 : decode cX10_act 139 = .ok (.aload_n 0, 1) := dq_42 (hz_wg wX10_act_2 (j := 11) (n := 42) rfl)
theorem dX10_act_140 : decode cX10_act 140 = .ok (.dup, 1) := dq_89 (hz_wg wX10_act_2 (j := 12) (n := 89) rfl)
theorem dX10_act_141 : decode cX10_act 141 = .ok (.getfield 245, 3) := dq_180 (hz_wg wX10_act_2 (j := 13) (n := 180) rfl) (hz_wg wX10_act_2 (j := 14) (n := 0) rfl) (hz_wg wX10_act_2 (j := 15) (n := 245) rfl) rfl
theorem dX10_act_144 : decode cX10_act 144 = .ok (.iconst 1, 1) := dq_4 (hz_wg wX10_act_2 (j := 16) (n := 4) rfl)
theorem dX10_act_145 : decode cX10_act 145 = .ok (.iadd, 1) := dq_96 (hz_wg wX10_act_2 (j := 17) (n := 96) rfl)
theorem dX10_act_146 : decode cX10_act 146 = .ok (.putfield 245, 3) := dq_181 (hz_wg wX10_act_2 (j := 18) (n := 181) rfl) (hz_wg wX10_act_2 (j := 19) (n := 0) rfl) (hz_wg wX10_act_2 (j := 20) (n := 245) rfl) rfl
theorem dX10_act_149 : decode cX10_act 149 = .ok (.iload_n 2, 1) := dq_28 (hz_wg wX10_act_2 (j := 21) (n := 28) rfl)
theorem dX10_act_150 : decode cX10_act 150 = .ok (.ifCond .eq (-69), 3) := dq_153 (hz_wg wX10_act_2 (j := 22) (n := 153) rfl) (hz_wg wX10_act_2 (j := 23) (n := 255) rfl) (hz_wg wX10_act_2 (j := 24) (n := 187) rfl) (by decide)
theorem dX10_act_153 : decode cX10_act 153 = .ok (.iload_n 3, 1) := dq_29 (hz_wg wX10_act_2 (j := 25) (n := 29) rfl)
theorem dX10_act_154 : decode cX10_act 154 = .ok (.ifCond .eq (-73), 3) := dq_153 (hz_wg wX10_act_2 (j := 26) (n := 153) rfl) (hz_wg wX10_act_2 (j := 27) (n := 255) rfl) (hz_wg wX10_act_2 (j := 28) (n := 183) rfl) (by decide)
theorem dX10_act_157 : decode cX10_act 157 = .ok (.aload_n 0, 1) := dq_42 (hz_wg wX10_act_2 (j := 29) (n := 42) rfl)
theorem dX10_act_158 : decode cX10_act 158 = .ok (.invokevirtual 248, 3) := dq_182 (hz_wg wX10_act_2 (j := 30) (n := 182) rfl) (hz_wg wX10_act_2 (j := 31) (n := 0) rfl) (hz_wg wX10_act_2 (j := 32) (n := 248) rfl) rfl
theorem dX10_act_161 : decode cX10_act 161 = .ok (.iconst (-1), 1) := dq_2 (hz_wg wX10_act_2 (j := 33) (n := 2) rfl)
theorem dX10_act_162 : decode cX10_act 162 = .ok (.if_icmp .ne (-81), 3) := dq_160 (hz_wg wX10_act_2 (j := 34) (n := 160) rfl) (hz_wg wX10_act_2 (j := 35) (n := 255) rfl) (hz_wg wX10_act_2 (j := 36) (n := 175) rfl) (by decide)
theorem dX10_act_165 : decode cX10_act 165 = .ok (.aload_n 0, 1) := dq_42 (hz_wg wX10_act_2 (j := 37) (n := 42) rfl)
theorem dX10_act_166 : decode cX10_act 166 = .ok (.iconst 0, 1) := dq_3 (hz_wg wX10_act_2 (j := 38) (n := 3) rfl)
theorem dX10_act_167 : decode cX10_act 167 = .ok (.aload_n 0, 1) := dq_42 (hz_wg wX10_act_2 (j := 39) (n := 42) rfl)
theorem dX10_act_168 : decode cX10_act 168 = .ok (.getfield 245, 3) := dq_180 (hz_wg wX10_act_2 (j := 40) (n := 180) rfl) (hz_wg wX10_act_2 (j := 41) (n := 0) rfl) (hz_wg wX10_act_2 (j := 42) (n := 245) rfl) rfl
theorem dX10_act_171 : decode cX10_act 171 = .ok (.invokevirtual 255, 3) := dq_182 (hz_wg wX10_act_2 (j := 43) (n := 182) rfl) (hz_wg wX10_act_2 (j := 44) (n := 0) rfl) (hz_wg wX10_act_2 (j := 45) (n := 255) rfl) rfl
theorem dX10_act_174 : decode cX10_act 174 = .ok (.istore_n 2, 1) := dq_61 (hz_wg wX10_act_2 (j := 46) (n := 61) rfl)
theorem dX10_act_175 : decode cX10_act 175 = .ok (.goto (-94), 3) := dq_167 (hz_wg wX10_act_2 (j := 47) (n := 167) rfl) (hz_wg wX10_act_2 (j := 48) (n := 255) rfl) (hz_wg wX10_act_2 (j := 49) (n := 162) rfl) (by decide)
theorem dX10_act_178 : decode cX10_act 178 = .ok (.aload_n 0, 1) := dq_42 (hz_wg wX10_act_2 (j := 50) (n := 42) rfl)
theorem dX10_act_179 : decode cX10_act 179 = .ok (.iconst 0, 1) := dq_3 (hz_wg wX10_act_2 (j := 51) (n := 3) rfl)
theorem dX10_act_180 : decode cX10_act 180 = .ok (.putfield 236, 3) := dq_181 (hz_wg wX10_act_2 (j := 52) (n := 181) rfl) (hz_wg wX10_act_2 (j := 53) (n := 0) rfl) (hz_wg wX10_act_2 (j := 54) (n := 236) rfl) rfl
theorem dX10_act_183 : decode cX10_act 183 = .ok (.iload_n 2, 1) := dq_28 (hz_wg wX10_act_2 (j := 55) (n := 28) rfl)
theorem dX10_act_184 : decode cX10_act 184 = .ok (.ifCond .ne 11, 3) := dq_154 (hz_wg wX10_act_2 (j := 56) (n := 154) rfl) (hz_wg wX10_act_2 (j := 57) (n := 0) rfl) (hz_wg wX10_act_2 (j := 58) (n := 11) rfl) (by decide)
theorem dX10_act_187 : decode cX10_act 187 = .ok (.bipush (-2), 2) := dq_16 (hz_wg wX10_act_2 (j := 59) (n := 16) rfl) (hz_wg wX10_act_2 (j := 60) (n := 254) rfl) (by decide)
theorem dX10_act_189 : decode cX10_act 189 = .ok (.aload_n 0, 1) := dq_42 (hz_wg wX10_act_2 (j := 61) (n := 42) rfl)
theorem dX10_act_190 : decode cX10_act 190 = .ok (.getfield 242, 3) := dq_180 (hz_wg wX10_act_2 (j := 62) (n := 180) rfl) (hz_wg wX10_act_2 (j := 63) (n := 0) rfl) (hz_wg wX10_act_3 (j := 0) (n := 242) rfl) rfl
theorem dX10_act_193 : decode cX10_act 193 = .ok (.isub, 1) := dq_100 (hz_wg wX10_act_3 (j := 1) (n := 100) rfl)
theorem dX10_act_194 : decode cX10_act 194 = .ok (.ireturn, 1) := dq_172 (hz_wg wX10_act_3 (j := 2) (n := 172) rfl)
theorem dX10_act_195 : decode cX10_act 195 = .ok (.aload_n 0, 1) := dq_42 (hz_wg wX10_act_3 (j := 3) (n := 42) rfl)
theorem dX10_act_196 : decode cX10_act 196 = .ok (.dup, 1) := dq_89 (hz_wg wX10_act_3 (j := 4) (n := 89) rfl)
theorem dX10_act_197 : decode cX10_act 197 = .ok (.getfield 321, 3) := dq_180 (hz_wg wX10_act_3 (j := 5) (n := 180) rfl) (hz_wg wX10_act_3 (j := 6) (n := 1) rfl) (hz_wg wX10_act_3 (j := 7) (n := 65) rfl) rfl
theorem dX10_act_200 : decode cX10_act 200 = .ok (.iconst 1, 1) := dq_4 (hz_wg wX10_act_3 (j := 8) (n := 4) rfl)
theorem dX10_act_201 : decode cX10_act 201 = .ok (.iadd, 1) := dq_96 (hz_wg wX10_act_3 (j := 9) (n := 96) rfl)
theorem dX10_act_202 : decode cX10_act 202 = .ok (.putfield 321, 3) := dq_181 (hz_wg wX10_act_3 (j := 10) (n := 181) rfl) (hz_wg wX10_act_3 (j := 11) (n := 1) rfl) (hz_wg wX10_act_3 (j := 12) (n := 65) rfl) rfl
theorem dX10_act_205 : decode cX10_act 205 = .ok (.aload_n 0, 1) := dq_42 (hz_wg wX10_act_3 (j := 13) (n := 42) rfl)
theorem dX10_act_206 : decode cX10_act 206 = .ok (.getfield 7, 3) := dq_180 (hz_wg wX10_act_3 (j := 14) (n := 180) rfl) (hz_wg wX10_act_3 (j := 15) (n := 0) rfl) (hz_wg wX10_act_3 (j := 16) (n := 7) rfl) rfl
theorem dX10_act_209 : decode cX10_act 209 = .ok (.aload_n 0, 1) := dq_42 (hz_wg wX10_act_3 (j := 17) (n := 42) rfl)
theorem dX10_act_210 : decode cX10_act 210 = .ok (.getfield 321, 3) := dq_180 (hz_wg wX10_act_3 (j := 18) (n := 180) rfl) (hz_wg wX10_act_3 (j := 19) (n := 1) rfl) (hz_wg wX10_act_3 (j := 20) (n := 65) rfl) rfl
theorem dX10_act_213 : decode cX10_act 213 = .ok (.iload_n 1, 1) := dq_27 (hz_wg wX10_act_3 (j := 21) (n := 27) rfl)
theorem dX10_act_214 : decode cX10_act 214 = .ok (.iastore, 1) := dq_79 (hz_wg wX10_act_3 (j := 22) (n := 79) rfl)
theorem dX10_act_215 : decode cX10_act 215 = .ok (.iconst 0, 1) := dq_3 (hz_wg wX10_act_3 (j := 23) (n := 3) rfl)
theorem dX10_act_216 : decode cX10_act 216 = .ok (.istore 4, 2) := dq_54 (hz_wg wX10_act_3 (j := 24) (n := 54) rfl) (hz_wg wX10_act_3 (j := 25) (n := 4) rfl)
theorem dX10_act_218 : decode cX10_act 218 = .ok (.iload 4, 2) := dq_21 (hz_wg wX10_act_3 (j := 26) (n := 21) rfl) (hz_wg wX10_act_3 (j := 27) (n := 4) rfl)
theorem dX10_act_220 : decode cX10_act 220 = .ok (.bipush 13, 2) := dq_16 (hz_wg wX10_act_3 (j := 28) (n := 16) rfl) (hz_wg wX10_act_3 (j := 29) (n := 13) rfl) (by decide)
theorem dX10_act_222 : decode cX10_act 222 = .ok (.if_icmp .ge 31, 3) := dq_162 (hz_wg wX10_act_3 (j := 30) (n := 162) rfl) (hz_wg wX10_act_3 (j := 31) (n := 0) rfl) (hz_wg wX10_act_3 (j := 32) (n := 31) rfl) (by decide)
theorem dX10_act_225 : decode cX10_act 225 = .ok (.aload_n 0, 1) := dq_42 (hz_wg wX10_act_3 (j := 33) (n := 42) rfl)
theorem dX10_act_226 : decode cX10_act 226 = .ok (.getfield 13, 3) := dq_180 (hz_wg wX10_act_3 (j := 34) (n := 180) rfl) (hz_wg wX10_act_3 (j := 35) (n := 0) rfl) (hz_wg wX10_act_3 (j := 36) (n := 13) rfl) rfl
theorem dX10_act_229 : decode cX10_act 229 = .ok (.bipush 13, 2) := dq_16 (hz_wg wX10_act_3 (j := 37) (n := 16) rfl) (hz_wg wX10_act_3 (j := 38) (n := 13) rfl) (by decide)
theorem dX10_act_231 : decode cX10_act 231 = .ok (.aload_n 0, 1) := dq_42 (hz_wg wX10_act_3 (j := 39) (n := 42) rfl)
theorem dX10_act_232 : decode cX10_act 232 = .ok (.getfield 321, 3) := dq_180 (hz_wg wX10_act_3 (j := 40) (n := 180) rfl) (hz_wg wX10_act_3 (j := 41) (n := 1) rfl) (hz_wg wX10_act_3 (j := 42) (n := 65) rfl) rfl
theorem dX10_act_235 : decode cX10_act 235 = .ok (.imul, 1) := dq_104 (hz_wg wX10_act_3 (j := 43) (n := 104) rfl)
theorem dX10_act_236 : decode cX10_act 236 = .ok (.iload 4, 2) := dq_21 (hz_wg wX10_act_3 (j := 44) (n := 21) rfl) (hz_wg wX10_act_3 (j := 45) (n := 4) rfl)
theorem dX10_act_238 : decode cX10_act 238 = .ok (.iadd, 1) := dq_96 (hz_wg wX10_act_3 (j := 46) (n := 96) rfl)
theorem dX10_act_239 : decode cX10_act 239 = .ok (.aload_n 0, 1) := dq_42 (hz_wg wX10_act_3 (j := 47) (n := 42) rfl)
theorem dX10_act_240 : decode cX10_act 240 = .ok (.getfield 26, 3) := dq_180 (hz_wg wX10_act_3 (j := 48) (n := 180) rfl) (hz_wg wX10_act_3 (j := 49) (n := 0) rfl) (hz_wg wX10_act_3 (j := 50) (n := 26) rfl) rfl
theorem dX10_act_243 : decode cX10_act 243 = .ok (.iload 4, 2) := dq_21 (hz_wg wX10_act_3 (j := 51) (n := 21) rfl) (hz_wg wX10_act_3 (j := 52) (n := 4) rfl)
theorem dX10_act_245 : decode cX10_act 245 = .ok (.iaload, 1) := dq_46 (hz_wg wX10_act_3 (j := 53) (n := 46) rfl)
theorem dX10_act_246 : decode cX10_act 246 = .ok (.iastore, 1) := dq_79 (hz_wg wX10_act_3 (j := 54) (n := 79) rfl)
theorem dX10_act_247 : decode cX10_act 247 = .ok (.iinc 4 1, 3) := dq_132 (hz_wg wX10_act_3 (j := 55) (n := 132) rfl) (hz_wg wX10_act_3 (j := 56) (n := 4) rfl) (hz_wg wX10_act_3 (j := 57) (n := 1) rfl) (by decide)
theorem dX10_act_250 : decode cX10_act 250 = .ok (.goto (-32), 3) := dq_167 (hz_wg wX10_act_3 (j := 58) (n := 167) rfl) (hz_wg wX10_act_3 (j := 59) (n := 255) rfl) (hz_wg wX10_act_3 (j := 60) (n := 224) rfl) (by decide)
theorem dX10_act_253 : decode cX10_act 253 = .ok (.aload_n 0, 1) := dq_42 (hz_wg wX10_act_3 (j := 61) (n := 42) rfl)
theorem dX10_act_254 : decode cX10_act 254 = .ok (.aload_n 0, 1) := dq_42 (hz_wg wX10_act_3 (j := 62) (n := 42) rfl)
theorem dX10_act_255 : decode cX10_act 255 = .ok (.getfield 321, 3) := dq_180 (hz_wg wX10_act_3 (j := 63) (n := 180) rfl) (hz_wg wX10_act_4 (j := 0) (n := 1) rfl) (hz_wg wX10_act_4 (j := 1) (n := 65) rfl) rfl
theorem dX10_act_258 : decode cX10_act 258 = .ok (.invokevirtual 224, 3) := dq_182 (hz_wg wX10_act_4 (j := 2) (n := 182) rfl) (hz_wg wX10_act_4 (j := 3) (n := 0) rfl) (hz_wg wX10_act_4 (j := 4) (n := 224) rfl) rfl
theorem dX10_act_261 : decode cX10_act 261 = .ok (.aload_n 0, 1) := dq_42 (hz_wg wX10_act_4 (j := 5) (n := 42) rfl)
theorem dX10_act_262 : decode cX10_act 262 = .ok (.getfield 321, 3) := dq_180 (hz_wg wX10_act_4 (j := 6) (n := 180) rfl) (hz_wg wX10_act_4 (j := 7) (n := 1) rfl) (hz_wg wX10_act_4 (j := 8) (n := 65) rfl) rfl
theorem dX10_act_265 : decode cX10_act 265 = .ok (.iconst 1, 1) := dq_4 (hz_wg wX10_act_4 (j := 9) (n := 4) rfl)
theorem dX10_act_266 : decode cX10_act 266 = .ok (.isub, 1) := dq_100 (hz_wg wX10_act_4 (j := 10) (n := 100) rfl)
theorem dX10_act_267 : decode cX10_act 267 = .ok (.ireturn, 1) := dq_172 (hz_wg wX10_act_4 (j := 11) (n := 172) rfl)
set_option maxHeartbeats 4000000 in
set_option maxRecDepth 100000 in
theorem t_X10_act (l : Launch) (dC : Nat → ClassId) (dI : Nat → Nat → Nat) (dA : Nat → ClassId) (L : List Nat) (h : hx_h) (sz : Nat) (x : Nat) (i1 : Int32) (hT : hx_T T_tb L h) (gx : hx_g L h x 10) (qs : Nat) (gqs : hx_g L h qs 55) (f_x_15 : h.2.2 x 15 = some qs) (qo : Nat) (gqo : hx_g L h qo 56) (f_x_17 : h.2.2 x 17 = some qo) (qt : Nat) (gqt : hx_g L h qt 53) (f_x_6 : h.2.2 x 6 = some qt) (qw : Nat) (gqw : hx_g L h qw 57) (f_x_19 : h.2.2 x 19 = some qw) (qr : Nat) (gqr : hx_g L h qr 54) (f_x_12 : h.2.2 x 12 = some qr) (ql : Nat) (gql : hx_g L h ql 50) (f_x_3 : h.2.2 x 3 = some ql) (qn : Nat) (gqn : hx_g L h qn 51) (f_x_4 : h.2.2 x 4 = some qn) (qp : Nat) (gqp : hx_g L h qp 52) (f_x_5 : h.2.2 x 5 = some qp) (sf : Nat → Int32) (af_qs : h.2.1 qs = sf) (of : Nat → Int32) (af_qo : h.2.1 qo = of) (tf : Nat → Int32) (af_qt : h.2.1 qt = tf) (wf : Nat → Int32) (af_qw : h.2.1 qw = wf) (rd : Nat → Int32) (af_qr : h.2.1 qr = rd) (rf : Nat → Int32) (af_ql : h.2.1 ql = rf) (psf : Nat → Int32) (af_qn : h.2.1 qn = psf) (prf : Nat → Int32) (af_qp : h.2.1 qp = prf) (a0 : Int32) (f_x_1 : h.2.1 x 1 = a0) (hWK : hx_WK rf a0.toInt) (hRP : hx_RP prf psf a0.toInt) (hwd : hx_wd wf) : Met l yX10_act (Cond.code yX10_act cX10_act 5 (some .int) :: hx_all) ({ frames := 6, cells := 0, slots := 0, locals := 141 }) (va_Pc [.ref x, .int i1] (hx_B T_tb (P_ty dA) (dC, dI) vwCl L h sz)) (va_Qi (fun (r : Int32) (u : List Nat × hx_h) => (∃ (a1 : Int32) (rf1 : Nat → Int32) (psf1 : Nat → Int32) (prf1 : Nat → Int32), u.2.2.1 x 1 = a1 ∧ u.2.2.1 ql = rf1 ∧ u.2.2.1 qn = psf1 ∧ u.2.2.1 qp = prf1 ∧ (a0.toInt ≤ a1.toInt ∧ hx_WK rf1 a1.toInt ∧ hx_RP prf1 psf1 a1.toInt)) ∧ hx_T T_tb u.1 u.2 ∧ hx_S T_tb [(10, 1), (10, 7), (10, 8), (10, 9), (10, 10), (10, 11), (10, 13), (10, 14), (10, 16), (10, 18), (49, 0), (50, 0), (51, 0), (52, 0), (54, 0), (55, 0), (56, 0)] L h u.1 u.2) (hx_E T_tb (P_ty dA) (dC, dI) vwCl (hx_A L sz)) (hx_A L sz)) 0 0 (hx_A L sz) := by
  refine hx_met (lv := [(0, .ref x), (1, .int i1)]) (by decide +kernel) rfl (Nat.le_of_ble_eq_true rfl) rfl ?_
  intro p e s m below meth c hx hb hml hr hlk hts0 hown hin hsz hW ls hl
  have hts : ∀ w ∈ hx_all, w.before _ s = true := fun w hw => hts0 w (List.mem_cons_of_mem _ hw)
  have hown : s.vm.findClass "SmallCourtModel" = some m.cls := hown
  have hM : hx_S T_tb [(10, 1), (10, 7), (10, 8), (10, 9), (10, 10), (10, 11), (10, 13), (10, 14), (10, 16), (10, 18), (49, 0), (50, 0), (51, 0), (52, 0), (54, 0), (55, 0), (56, 0)] L h L h := hx_S.rf
  have b_a0 := hT.gi gx tt_10 (k := 1) rfl
  rw [f_x_1] at b_a0
  have b_a0 : 0 ≤ a0.toInt ∧ a0.toInt ≤ 8 := b_a0
  refine lv_aload_n hx hb dX10_act_0 rfl (lv_at hl 0 rfl) ?_
  refine hk_geti hx hb hts hC_10 hown hW (gx.S hM) tt_10 1 (by decide) rfl kw_1144 ⟨rfl, rfl, rfl⟩ f_x_1 dX10_act_1 ?_
  refine lv_bipush (v := 8) hx hb dX10_act_4 (by decide) ?_
  refine hb_icmp_eq (zx := a0.toInt) (zy := 8) (tgt := 16) hx hb rfl (by decide) dX10_act_6 (by decide) (fun c_1 => ?_) (fun c_1 => ?_)
  · skip
    refine lv_iconst (v := -1) hx hb dX10_act_16 (by decide) ?_
    exact hx_reti hx hb hr hlk hW ⟨⟨a0, rf, psf, prf, f_x_1, af_ql, af_qn, af_qp, ⟨by omega, hWK, hRP⟩⟩, hT, hM⟩ dX10_act_17
  · skip
    refine lv_iload_n hx hb dX10_act_9 rfl (lv_at hl 1 rfl) ?_
    refine hx_goi (hx_runS (As := [.int i1]) (rest := []) ⟨hx, hb, hml, hown, hts⟩ hW (t_X10_isDay l dC dI dA L h s.heap.size i1 hT) (va_cwS 1 hts (hx_gS kw_1464 kw_1462 kw_1463 kw_103) rfl rfl rfl (by decide +kernel) ⟨Nat.le_of_ble_eq_true rfl, Nat.le_of_ble_eq_true rfl⟩) rfl hl.1 rfl (Nat.le_of_ble_eq_true rfl) dX10_act_10 ⟨Nat.le_of_ble_eq_true rfl, Nat.le_of_ble_eq_true rfl⟩) hW (fun r_4 L_2 h_3 H locs p_5 hW => ?_)
    obtain ⟨hr_6, hT, hs⟩ := p_5
    replace hT : hx_T T_tb L_2 h_3 := hT
    replace hs : hx_S T_tb [] L h L_2 h_3 := hs
    replace f_x_1 := (hs.o (gx.S hM) trivial rfl).1.trans f_x_1
    replace af_qs : h_3.2.1 qs = sf := (funext fun j => (hs.a (gqs.S hM) rfl j).1).trans af_qs
    replace af_qo : h_3.2.1 qo = of := (funext fun j => (hs.a (gqo.S hM) rfl j).1).trans af_qo
    replace af_qr : h_3.2.1 qr = rd := (funext fun j => (hs.a (gqr.S hM) rfl j).1).trans af_qr
    replace af_ql : h_3.2.1 ql = rf := (funext fun j => (hs.a (gql.S hM) rfl j).1).trans af_ql
    replace af_qn : h_3.2.1 qn = psf := (funext fun j => (hs.a (gqn.S hM) rfl j).1).trans af_qn
    replace af_qp : h_3.2.1 qp = prf := (funext fun j => (hs.a (gqp.S hM) rfl j).1).trans af_qp
    replace hM := hM.tr (hs.mono (by decide))
    refine hb_if_ne (zx := r_4.toInt) (tgt := 18) hx hb rfl dX10_act_13 (by decide) (fun c_7 => ?_) (fun c_7 => ?_)
    · skip
      replace hr_6 := hr_6.resolve_left (fun z9 => c_7 z9.1)
      replace c_7 := hr_6.1
      replace hr_6 := hr_6.2
      refine lv_aload_n hx hb dX10_act_18 rfl (lv_at hl 0 rfl) ?_
      refine lv_iconst (v := 0) hx hb dX10_act_19 (by decide) ?_
      refine hx_puti hx hb hts hC_10 hown hW hT (hx_S.rf (M := [(10, 8)])) (gx.S hM) tt_10 8 (by decide) rfl kw_1151 ⟨rfl, rfl, rfl⟩ rfl (x := (0 : Int32)) (by decide) rfl rfl rfl (List.mem_singleton.mpr rfl) dX10_act_20 (fun H locs h_8 eh_8 hW hT hs => ?_)
      replace f_x_1 := (hs.o (gx.S hM) trivial rfl).1.trans f_x_1
      replace af_qs : h_8.2.1 qs = sf := (funext fun j => (hs.a (gqs.S hM) rfl j).1).trans af_qs
      replace af_qo : h_8.2.1 qo = of := (funext fun j => (hs.a (gqo.S hM) rfl j).1).trans af_qo
      replace af_qr : h_8.2.1 qr = rd := (funext fun j => (hs.a (gqr.S hM) rfl j).1).trans af_qr
      replace af_ql : h_8.2.1 ql = rf := (funext fun j => (hs.a (gql.S hM) rfl j).1).trans af_ql
      replace af_qn : h_8.2.1 qn = psf := (funext fun j => (hs.a (gqn.S hM) rfl j).1).trans af_qn
      replace af_qp : h_8.2.1 qp = prf := (funext fun j => (hs.a (gqp.S hM) rfl j).1).trans af_qp
      replace hM := hM.tr (hs.mono (by decide))
      have f_9 : h_8.2.1 x 8 = (0 : Int32) := by rw [eh_8]; exact hx_pi_at _ _ _ _
      refine lv_aload_n hx hb dX10_act_23 rfl (lv_at hl 0 rfl) ?_
      refine lv_iconst (v := 0) hx hb dX10_act_24 (by decide) ?_
      refine hx_puti hx hb hts hC_10 hown hW hT (hx_S.rf (M := [(10, 9)])) (gx.S hM) tt_10 9 (by decide) rfl kw_1152 ⟨rfl, rfl, rfl⟩ rfl (x := (0 : Int32)) (by decide) rfl rfl rfl (List.mem_singleton.mpr rfl) dX10_act_25 (fun H locs h_10 eh_10 hW hT hs => ?_)
      replace f_x_1 := (hs.o (gx.S hM) trivial rfl).1.trans f_x_1
      replace f_9 := (hs.o (gx.S hM) trivial rfl).1.trans f_9
      replace af_qs : h_10.2.1 qs = sf := (funext fun j => (hs.a (gqs.S hM) rfl j).1).trans af_qs
      replace af_qo : h_10.2.1 qo = of := (funext fun j => (hs.a (gqo.S hM) rfl j).1).trans af_qo
      replace af_qr : h_10.2.1 qr = rd := (funext fun j => (hs.a (gqr.S hM) rfl j).1).trans af_qr
      replace af_ql : h_10.2.1 ql = rf := (funext fun j => (hs.a (gql.S hM) rfl j).1).trans af_ql
      replace af_qn : h_10.2.1 qn = psf := (funext fun j => (hs.a (gqn.S hM) rfl j).1).trans af_qn
      replace af_qp : h_10.2.1 qp = prf := (funext fun j => (hs.a (gqp.S hM) rfl j).1).trans af_qp
      replace hM := hM.tr (hs.mono (by decide))
      have f_11 : h_10.2.1 x 9 = (0 : Int32) := by rw [eh_10]; exact hx_pi_at _ _ _ _
      refine lv_aload_n hx hb dX10_act_28 rfl (lv_at hl 0 rfl) ?_
      refine lv_iconst (v := 0) hx hb dX10_act_29 (by decide) ?_
      refine hx_puti hx hb hts hC_10 hown hW hT (hx_S.rf (M := [(10, 13)])) (gx.S hM) tt_10 13 (by decide) rfl kw_1156 ⟨rfl, rfl, rfl⟩ rfl (x := (0 : Int32)) (by decide) rfl rfl rfl (List.mem_singleton.mpr rfl) dX10_act_30 (fun H locs h_12 eh_12 hW hT hs => ?_)
      replace f_x_1 := (hs.o (gx.S hM) trivial rfl).1.trans f_x_1
      replace f_9 := (hs.o (gx.S hM) trivial rfl).1.trans f_9
      replace f_11 := (hs.o (gx.S hM) trivial rfl).1.trans f_11
      replace af_qs : h_12.2.1 qs = sf := (funext fun j => (hs.a (gqs.S hM) rfl j).1).trans af_qs
      replace af_qo : h_12.2.1 qo = of := (funext fun j => (hs.a (gqo.S hM) rfl j).1).trans af_qo
      replace af_qr : h_12.2.1 qr = rd := (funext fun j => (hs.a (gqr.S hM) rfl j).1).trans af_qr
      replace af_ql : h_12.2.1 ql = rf := (funext fun j => (hs.a (gql.S hM) rfl j).1).trans af_ql
      replace af_qn : h_12.2.1 qn = psf := (funext fun j => (hs.a (gqn.S hM) rfl j).1).trans af_qn
      replace af_qp : h_12.2.1 qp = prf := (funext fun j => (hs.a (gqp.S hM) rfl j).1).trans af_qp
      replace hM := hM.tr (hs.mono (by decide))
      have f_13 : h_12.2.1 x 13 = (0 : Int32) := by rw [eh_12]; exact hx_pi_at _ _ _ _
      refine lv_iconst (v := 0) hx hb dX10_act_33 (by decide) ?_
      refine lv_istore_n (lv' := [(2, .int (0 : Int32)), (0, .ref x), (1, .int i1)]) hx hb dX10_act_34 rfl hl (by decide) rfl (fun ls hl => ?_)
      have loop35 : ∀ (n35 : Nat) (iv35_2 : Int32) (ia35_qr : Nat → Int32) (H : Heap) (locs : List Loc) (hL1 : List Nat) (hl1 : hx_h), 0 ≤ iv35_2.toInt → iv35_2.toInt ≤ 13 → (hx_rk1 ia35_qr iv35_2.toInt) → ∀ (ls : Array Slot), 13 - iv35_2.toInt < (n35 : Int) → hx_W T_tb (P_ty dA) (dC, dI) vwCl (hx_A L sz) s.heap hL1 hl1 s H locs → hx_T T_tb hL1 hl1 → hx_S T_tb [(10, 1), (10, 7), (10, 8), (10, 9), (10, 10), (10, 11), (10, 13), (10, 14), (10, 16), (10, 18), (49, 0), (50, 0), (51, 0), (52, 0), (54, 0), (55, 0), (56, 0)] L h hL1 hl1 → hl1.2.1 x 1 = a0 → hl1.2.1 x 8 = (0 : Int32) → hl1.2.1 qr = ia35_qr → hl1.2.1 ql = rf → hl1.2.1 qn = psf → hl1.2.1 qp = prf → lv_has ls 5 [(2, .int iv35_2), (0, .ref x), (1, .int i1)] → W p l e ({ frames := 6, cells := 0, slots := 0, locals := 141 }) s m ([.ref x, .int i1] : List Value).toArray below meth c H locs 0 0 (MQ below (va_Qi (fun (r : Int32) (u : List Nat × hx_h) => (∃ (a1 : Int32) (rf1 : Nat → Int32) (psf1 : Nat → Int32) (prf1 : Nat → Int32), u.2.2.1 x 1 = a1 ∧ u.2.2.1 ql = rf1 ∧ u.2.2.1 qn = psf1 ∧ u.2.2.1 qp = prf1 ∧ (a0.toInt ≤ a1.toInt ∧ hx_WK rf1 a1.toInt ∧ hx_RP prf1 psf1 a1.toInt)) ∧ hx_T T_tb u.1 u.2 ∧ hx_S T_tb [(10, 1), (10, 7), (10, 8), (10, 9), (10, 10), (10, 11), (10, 13), (10, 14), (10, 16), (10, 18), (49, 0), (50, 0), (51, 0), (52, 0), (54, 0), (55, 0), (56, 0)] L h u.1 u.2) (hx_E T_tb (P_ty dA) (dC, dI) vwCl (hx_A L sz)) (hx_A L sz)) ([.ref x, .int i1] : List Value).toArray s 0 0 (hx_A L sz)) (F0 m 35 ls []) := by
        intro n35
        induction n35 with
        | zero => intro iv35_2 ia35_qr H locs hL1 hl1 bliv35_2 buiv35_2 vi35_0 ls hn35; exfalso; omega
        | succ n35 ih35 =>
          intro iv35_2 ia35_qr H locs hL1 hl1 bliv35_2 buiv35_2 vi35_0 ls hn35 hW hT hM f_x_1 f_9 nia35_qr af_ql af_qn af_qp hl
          refine lv_iload_n hx hb dX10_act_35 rfl (lv_at hl 0 rfl) ?_
          refine lv_bipush (v := 13) hx hb dX10_act_36 (by decide) ?_
          refine hb_icmp_ge (zx := iv35_2.toInt) (zy := 13) (tgt := 57) hx hb rfl (by decide) dX10_act_38 (by decide) (fun c_14 => ?_) (fun c_14 => ?_)
          · skip
            have hrd0 : hx_rk ia35_qr := hx_rk1_e vi35_0 (by omega)
            refine lv_aload_n hx hb dX10_act_57 rfl (lv_at hl 1 rfl) ?_
            refine hx_gov (hx_runV (As := []) (rest := []) ⟨hx, hb, hml, hown, hts⟩ hW (gx.S hM) tt_10 (T := TX10) (N := 98) rfl (t_X10_clears l dC dI dA hL1 hl1 H.size x hT (gx.S hM)) (cwV 0 hts (hx_gV kw_1125 kw_1122 kw_1124 kw_48 kw_103) rfl rfl rfl (by decide +kernel) ⟨Nat.le_of_ble_eq_true rfl, Nat.le_of_ble_eq_true rfl⟩) rfl hl.1 rfl (Nat.le_of_ble_eq_true rfl) dX10_act_58 ⟨Nat.le_of_ble_eq_true rfl, Nat.le_of_ble_eq_true rfl⟩) hW (fun L_15 h_16 H locs p_18 hW => ?_)
            obtain ⟨⟨w_20, w_21, w_22, fw_20, fw_21, fw_22, hr_19⟩, hT, hs⟩ := p_18
            replace hT : hx_T T_tb L_15 h_16 := hT
            replace hs : hx_S T_tb [(10, 14), (10, 16), (10, 18)] hL1 hl1 L_15 h_16 := hs
            replace f_x_1 := (hs.o (gx.S hM) trivial rfl).1.trans f_x_1
            replace f_9 := (hs.o (gx.S hM) trivial rfl).1.trans f_9
            replace af_ql : h_16.2.1 ql = rf := (funext fun j => (hs.a (gql.S hM) rfl j).1).trans af_ql
            replace af_qn : h_16.2.1 qn = psf := (funext fun j => (hs.a (gqn.S hM) rfl j).1).trans af_qn
            replace af_qp : h_16.2.1 qp = prf := (funext fun j => (hs.a (gqp.S hM) rfl j).1).trans af_qp
            replace nia35_qr : h_16.2.1 qr = ia35_qr := (funext fun j => (hs.a (gqr.S hM) rfl j).1).trans nia35_qr
            replace hM := hM.tr (hs.mono (by decide))
            have fw_20 : h_16.2.1 x 14 = w_20 := fw_20
            have bw_20 := hT.gi (gx.S hM) tt_10 (k := 14) rfl
            rw [fw_20] at bw_20
            have bw_20 : 0 ≤ w_20.toInt ∧ w_20.toInt ≤ 128 := bw_20
            have fw_21 : h_16.2.1 x 16 = w_21 := fw_21
            have bw_21 := hT.gi (gx.S hM) tt_10 (k := 16) rfl
            rw [fw_21] at bw_21
            have bw_21 : 0 ≤ w_21.toInt ∧ w_21.toInt ≤ 20 := bw_21
            have fw_22 : h_16.2.1 x 18 = w_22 := fw_22
            have bw_22 := hT.gi (gx.S hM) tt_10 (k := 18) rfl
            rw [fw_22] at bw_22
            have bw_22 : 0 ≤ w_22.toInt ∧ w_22.toInt ≤ 128 := bw_22
            refine lv_aload_n hx hb dX10_act_61 rfl (lv_at hl 1 rfl) ?_
            obtain ⟨fa_23, nfa_23⟩ : ∃ g : Nat → Int32, h_16.2.1 qs = g := ⟨_, rfl⟩
            refine hx_gov (hx_runV (As := []) (rest := []) ⟨hx, hb, hml, hown, hts⟩ hW (gx.S hM) tt_10 (T := TX10) (N := 98) rfl (t_X10_withoutProof l dC dI dA L_15 h_16 H.size x hT (gx.S hM) qs (gqs.S hM) ((hM.o gx trivial rfl).2.trans f_x_15) fa_23 nfa_23 w_20 fw_20 (by omega)) (cwV 0 hts (hx_gV kw_1129 kw_1126 kw_1128 kw_49 kw_103) rfl rfl rfl (by decide +kernel) ⟨Nat.le_of_ble_eq_true rfl, Nat.le_of_ble_eq_true rfl⟩) rfl hl.1 rfl (Nat.le_of_ble_eq_true rfl) dX10_act_62 ⟨Nat.le_of_ble_eq_true rfl, Nat.le_of_ble_eq_true rfl⟩) hW (fun L_24 h_25 H locs p_27 hW => ?_)
            obtain ⟨⟨w_29, w_30, fw_29, fw_30, hr_28⟩, hT, hs⟩ := p_27
            replace hT : hx_T T_tb L_24 h_25 := hT
            replace hs : hx_S T_tb [(10, 14), (55, 0)] L_15 h_16 L_24 h_25 := hs
            replace f_x_1 := (hs.o (gx.S hM) trivial rfl).1.trans f_x_1
            replace f_9 := (hs.o (gx.S hM) trivial rfl).1.trans f_9
            replace fw_21 := (hs.o (gx.S hM) trivial rfl).1.trans fw_21
            replace fw_22 := (hs.o (gx.S hM) trivial rfl).1.trans fw_22
            replace af_ql : h_25.2.1 ql = rf := (funext fun j => (hs.a (gql.S hM) rfl j).1).trans af_ql
            replace af_qn : h_25.2.1 qn = psf := (funext fun j => (hs.a (gqn.S hM) rfl j).1).trans af_qn
            replace af_qp : h_25.2.1 qp = prf := (funext fun j => (hs.a (gqp.S hM) rfl j).1).trans af_qp
            replace nia35_qr : h_25.2.1 qr = ia35_qr := (funext fun j => (hs.a (gqr.S hM) rfl j).1).trans nia35_qr
            replace hM := hM.tr (hs.mono (by decide))
            have fw_29 : h_25.2.1 x 14 = w_29 := fw_29
            have bw_29 := hT.gi (gx.S hM) tt_10 (k := 14) rfl
            rw [fw_29] at bw_29
            have bw_29 : 0 ≤ w_29.toInt ∧ w_29.toInt ≤ 128 := bw_29
            have fw_30 : h_25.2.1 qs = w_30 := fw_30
            refine lv_iconst (v := 1) hx hb dX10_act_65 (by decide) ?_
            refine lv_istore_n (lv' := [(2, .int (1 : Int32)), (0, .ref x), (1, .int i1)]) hx hb dX10_act_66 rfl hl (by decide) rfl (fun ls hl => ?_)
            refine lv_aload_n hx hb dX10_act_67 rfl (lv_at hl 1 rfl) ?_
            have zq_0 : (0 : Int32).toInt = 0 := by decide
            obtain ⟨fv_31, efv_31⟩ : ∃ y : Int32, y = h_25.2.1 x 7 := ⟨_, rfl⟩
            have bfv_31 := hT.gi (gx.S hM) tt_10 (k := 7) rfl
            rw [← efv_31] at bfv_31
            have bfv_31 : 0 ≤ fv_31.toInt ∧ fv_31.toInt ≤ 400 := bfv_31
            have ffv_31 := efv_31.symm
            refine hx_goi (hx_runV (As := []) (rest := []) ⟨hx, hb, hml, hown, hts⟩ hW (gx.S hM) tt_10 (T := TX10) (N := 98) rfl (t_X10_see l dC dI dA L_24 h_25 H.size x hT (gx.S hM) qt (gqt.S hM) ((hM.o gx trivial rfl).2.trans f_x_6) tf (hx_afS hM gqt rfl af_qt) (0 : Int32) f_9 fv_31 ffv_31) (cwV 0 hts (hx_gV kw_1468 kw_1465 kw_1467 kw_53 kw_103) rfl rfl rfl (by decide +kernel) ⟨Nat.le_of_ble_eq_true rfl, Nat.le_of_ble_eq_true rfl⟩) rfl hl.1 rfl (Nat.le_of_ble_eq_true rfl) dX10_act_68 ⟨Nat.le_of_ble_eq_true rfl, Nat.le_of_ble_eq_true rfl⟩) hW (fun r_34 L_32 h_33 H locs p_35 hW => ?_)
            obtain ⟨⟨w_37, fw_37, hr_36⟩, hT, hs⟩ := p_35
            replace hT : hx_T T_tb L_32 h_33 := hT
            replace hs : hx_S T_tb [(10, 8)] L_24 h_25 L_32 h_33 := hs
            replace f_x_1 := (hs.o (gx.S hM) trivial rfl).1.trans f_x_1
            replace fw_21 := (hs.o (gx.S hM) trivial rfl).1.trans fw_21
            replace fw_22 := (hs.o (gx.S hM) trivial rfl).1.trans fw_22
            replace fw_29 := (hs.o (gx.S hM) trivial rfl).1.trans fw_29
            replace ffv_31 := (hs.o (gx.S hM) trivial rfl).1.trans ffv_31
            replace af_ql : h_33.2.1 ql = rf := (funext fun j => (hs.a (gql.S hM) rfl j).1).trans af_ql
            replace af_qn : h_33.2.1 qn = psf := (funext fun j => (hs.a (gqn.S hM) rfl j).1).trans af_qn
            replace af_qp : h_33.2.1 qp = prf := (funext fun j => (hs.a (gqp.S hM) rfl j).1).trans af_qp
            replace nia35_qr : h_33.2.1 qr = ia35_qr := (funext fun j => (hs.a (gqr.S hM) rfl j).1).trans nia35_qr
            replace fw_30 : h_33.2.1 qs = w_30 := (funext fun j => (hs.a (gqs.S hM) rfl j).1).trans fw_30
            replace hM := hM.tr (hs.mono (by decide))
            have fw_37 : h_33.2.1 x 8 = w_37 := fw_37
            have bw_37 := hT.gi (gx.S hM) tt_10 (k := 8) rfl
            rw [fw_37] at bw_37
            have bw_37 : 0 ≤ w_37.toInt ∧ w_37.toInt ≤ 402 := bw_37
            refine lv_iconst (v := -1) hx hb dX10_act_71 (by decide) ?_
            refine hb_icmp_eq (zx := r_34.toInt) (zy := (-1)) (tgt := 79) hx hb rfl (by decide) dX10_act_72 (by decide) (fun c_38 => ?_) (fun c_38 => ?_)
            · skip
              refine lv_iconst (v := 0) hx hb dX10_act_79 (by decide) ?_
              refine lv_istore_n (lv' := [(3, .int (0 : Int32)), (2, .int (1 : Int32)), (0, .ref x), (1, .int i1)]) hx hb dX10_act_80 rfl hl (by decide) rfl (fun ls hl => ?_)
              have loop81 : ∀ (n81 : Nat) (iv81_2 iv81_3 fw81_x_8 fw81_x_14 fw81_x_7 : Int32) (ia81_qs ia81_qr : Nat → Int32) (H : Heap) (locs : List Loc) (hL1 : List Nat) (hl1 : hx_h), 0 ≤ iv81_2.toInt → iv81_2.toInt ≤ 1 → 0 ≤ iv81_3.toInt → iv81_3.toInt ≤ 1 → 0 ≤ fw81_x_8.toInt → fw81_x_8.toInt ≤ 402 → 0 ≤ fw81_x_14.toInt → fw81_x_14.toInt ≤ 128 → 0 ≤ fw81_x_7.toInt → fw81_x_7.toInt ≤ 400 → (iv81_2.toInt = 1 → hx_rp ia81_qs (fw81_x_14.toInt).toNat = some 1 ∧ hx_rk ia81_qr) → ∀ (ls : Array Slot), 402 - fw81_x_8.toInt + iv81_3.toInt < (n81 : Int) → hx_W T_tb (P_ty dA) (dC, dI) vwCl (hx_A L sz) s.heap hL1 hl1 s H locs → hx_T T_tb hL1 hl1 → hx_S T_tb [(10, 1), (10, 7), (10, 8), (10, 9), (10, 10), (10, 11), (10, 13), (10, 14), (10, 16), (10, 18), (49, 0), (50, 0), (51, 0), (52, 0), (54, 0), (55, 0), (56, 0)] L h hL1 hl1 → hl1.2.1 x 8 = fw81_x_8 → hl1.2.1 x 14 = fw81_x_14 → hl1.2.1 x 7 = fw81_x_7 → hl1.2.1 x 1 = a0 → hl1.2.1 qs = ia81_qs → hl1.2.1 qr = ia81_qr → hl1.2.1 ql = rf → hl1.2.1 qn = psf → hl1.2.1 qp = prf → lv_has ls 5 [(3, .int iv81_3), (2, .int iv81_2), (0, .ref x), (1, .int i1)] → W p l e ({ frames := 6, cells := 0, slots := 0, locals := 141 }) s m ([.ref x, .int i1] : List Value).toArray below meth c H locs 0 0 (MQ below (va_Qi (fun (r : Int32) (u : List Nat × hx_h) => (∃ (a1 : Int32) (rf1 : Nat → Int32) (psf1 : Nat → Int32) (prf1 : Nat → Int32), u.2.2.1 x 1 = a1 ∧ u.2.2.1 ql = rf1 ∧ u.2.2.1 qn = psf1 ∧ u.2.2.1 qp = prf1 ∧ (a0.toInt ≤ a1.toInt ∧ hx_WK rf1 a1.toInt ∧ hx_RP prf1 psf1 a1.toInt)) ∧ hx_T T_tb u.1 u.2 ∧ hx_S T_tb [(10, 1), (10, 7), (10, 8), (10, 9), (10, 10), (10, 11), (10, 13), (10, 14), (10, 16), (10, 18), (49, 0), (50, 0), (51, 0), (52, 0), (54, 0), (55, 0), (56, 0)] L h u.1 u.2) (hx_E T_tb (P_ty dA) (dC, dI) vwCl (hx_A L sz)) (hx_A L sz)) ([.ref x, .int i1] : List Value).toArray s 0 0 (hx_A L sz)) (F0 m 81 ls []) := by
                intro n81
                induction n81 with
                | zero => intro iv81_2 iv81_3 fw81_x_8 fw81_x_14 fw81_x_7 ia81_qs ia81_qr H locs hL1 hl1 bliv81_2 buiv81_2 bliv81_3 buiv81_3 blfw81_x_8 bufw81_x_8 blfw81_x_14 bufw81_x_14 blfw81_x_7 bufw81_x_7 vi81_0 ls hn81; exfalso; omega
                | succ n81 ih81 =>
                  intro iv81_2 iv81_3 fw81_x_8 fw81_x_14 fw81_x_7 ia81_qs ia81_qr H locs hL1 hl1 bliv81_2 buiv81_2 bliv81_3 buiv81_3 blfw81_x_8 bufw81_x_8 blfw81_x_14 bufw81_x_14 blfw81_x_7 bufw81_x_7 vi81_0 ls hn81 hW hT hM ffw81_x_8 ffw81_x_14 ffw81_x_7 f_x_1 nia81_qs nia81_qr af_ql af_qn af_qp hl
                  refine lv_iload_n hx hb dX10_act_81 rfl (lv_at hl 1 rfl) ?_
                  refine hb_if_eq (zx := iv81_2.toInt) (tgt := 178) hx hb rfl dX10_act_82 (by decide) (fun c_39 => ?_) (fun c_39 => ?_)
                  · skip
                    refine lv_aload_n hx hb dX10_act_178 rfl (lv_at hl 2 rfl) ?_
                    refine lv_iconst (v := 0) hx hb dX10_act_179 (by decide) ?_
                    refine hx_puti hx hb hts hC_10 hown hW hT (hx_S.rf (M := [(10, 7)])) (gx.S hM) tt_10 7 (by decide) rfl kw_1150 ⟨rfl, rfl, rfl⟩ rfl (x := (0 : Int32)) (by decide) rfl rfl rfl (List.mem_singleton.mpr rfl) dX10_act_180 (fun H locs h_40 eh_40 hW hT hs => ?_)
                    replace f_x_1 := (hs.o (gx.S hM) trivial rfl).1.trans f_x_1
                    replace ffw81_x_8 := (hs.o (gx.S hM) trivial rfl).1.trans ffw81_x_8
                    replace ffw81_x_14 := (hs.o (gx.S hM) trivial rfl).1.trans ffw81_x_14
                    replace af_ql : h_40.2.1 ql = rf := (funext fun j => (hs.a (gql.S hM) rfl j).1).trans af_ql
                    replace af_qn : h_40.2.1 qn = psf := (funext fun j => (hs.a (gqn.S hM) rfl j).1).trans af_qn
                    replace af_qp : h_40.2.1 qp = prf := (funext fun j => (hs.a (gqp.S hM) rfl j).1).trans af_qp
                    replace nia81_qs : h_40.2.1 qs = ia81_qs := (funext fun j => (hs.a (gqs.S hM) rfl j).1).trans nia81_qs
                    replace nia81_qr : h_40.2.1 qr = ia81_qr := (funext fun j => (hs.a (gqr.S hM) rfl j).1).trans nia81_qr
                    replace hM := hM.tr (hs.mono (by decide))
                    have f_41 : h_40.2.1 x 7 = (0 : Int32) := by rw [eh_40]; exact hx_pi_at _ _ _ _
                    refine lv_iload_n hx hb dX10_act_183 rfl (lv_at hl 1 rfl) ?_
                    refine hb_if_ne (zx := iv81_2.toInt) (tgt := 195) hx hb rfl dX10_act_184 (by decide) (fun c_42 => by exfalso; omega) (fun c_42 => ?_)
                    refine lv_bipush (v := -2) hx hb dX10_act_187 (by decide) ?_
                    refine lv_aload_n hx hb dX10_act_189 rfl (lv_at hl 2 rfl) ?_
                    refine hx_geti hx hb hts hC_10 hown hW hT (gx.S hM) tt_10 9 (by decide) rfl kw_1152 ⟨rfl, rfl, rfl⟩ dX10_act_190 (fun x_43 ex_43 lx_43 ux_43 => ?_)
                    have fx_43 := ex_43.symm
                    refine lv_isub hx hb dX10_act_193 ?_
                    have rg_44 := i32_r x_43
                    refine lv_topi (fun x_45 ex_45 => ?_)
                    exact hx_reti hx hb hr hlk hW ⟨⟨a0, rf, psf, prf, f_x_1, af_ql, af_qn, af_qp, ⟨by omega, hWK, hRP⟩⟩, hT, hM⟩ dX10_act_194
                  · skip
                    refine lv_iload_n hx hb dX10_act_85 rfl (lv_at hl 0 rfl) ?_
                    refine hb_if_eq (zx := iv81_3.toInt) (tgt := 178) hx hb rfl dX10_act_86 (by decide) (fun c_46 => ?_) (fun c_46 => ?_)
                    · skip
                      refine lv_aload_n hx hb dX10_act_178 rfl (lv_at hl 2 rfl) ?_
                      refine lv_iconst (v := 0) hx hb dX10_act_179 (by decide) ?_
                      refine hx_puti hx hb hts hC_10 hown hW hT (hx_S.rf (M := [(10, 7)])) (gx.S hM) tt_10 7 (by decide) rfl kw_1150 ⟨rfl, rfl, rfl⟩ rfl (x := (0 : Int32)) (by decide) rfl rfl rfl (List.mem_singleton.mpr rfl) dX10_act_180 (fun H locs h_47 eh_47 hW hT hs => ?_)
                      replace f_x_1 := (hs.o (gx.S hM) trivial rfl).1.trans f_x_1
                      replace ffw81_x_8 := (hs.o (gx.S hM) trivial rfl).1.trans ffw81_x_8
                      replace ffw81_x_14 := (hs.o (gx.S hM) trivial rfl).1.trans ffw81_x_14
                      replace af_ql : h_47.2.1 ql = rf := (funext fun j => (hs.a (gql.S hM) rfl j).1).trans af_ql
                      replace af_qn : h_47.2.1 qn = psf := (funext fun j => (hs.a (gqn.S hM) rfl j).1).trans af_qn
                      replace af_qp : h_47.2.1 qp = prf := (funext fun j => (hs.a (gqp.S hM) rfl j).1).trans af_qp
                      replace nia81_qs : h_47.2.1 qs = ia81_qs := (funext fun j => (hs.a (gqs.S hM) rfl j).1).trans nia81_qs
                      replace nia81_qr : h_47.2.1 qr = ia81_qr := (funext fun j => (hs.a (gqr.S hM) rfl j).1).trans nia81_qr
                      replace hM := hM.tr (hs.mono (by decide))
                      have f_48 : h_47.2.1 x 7 = (0 : Int32) := by rw [eh_47]; exact hx_pi_at _ _ _ _
                      refine lv_iload_n hx hb dX10_act_183 rfl (lv_at hl 1 rfl) ?_
                      refine hb_if_ne (zx := iv81_2.toInt) (tgt := 195) hx hb rfl dX10_act_184 (by decide) (fun c_49 => ?_) (fun c_49 => by exfalso; omega)
                      have hrpE := (vi81_0 (by omega)).1
                      have hrdE := (vi81_0 (by omega)).2
                      refine lv_aload_n hx hb dX10_act_195 rfl (lv_at hl 2 rfl) ?_
                      refine lv_dup hx hb dX10_act_196 rfl ?_
                      refine hk_geti hx hb hts hC_10 hown hW (gx.S hM) tt_10 1 (by decide) rfl kw_1144 ⟨rfl, rfl, rfl⟩ f_x_1 dX10_act_197 ?_
                      refine lv_iconst (v := 1) hx hb dX10_act_200 (by decide) ?_
                      refine lv_iadd hx hb dX10_act_201 ?_
                      have rg_50 := i32_r a0
                      refine lv_topi (fun x_51 ex_51 => ?_)
                      have zx_51 : x_51.toInt = a0.toInt + 1 := by rw [ex_51]; exact i32_add rfl (by decide) (by omega) (by omega)
                      refine hx_puti hx hb hts hC_10 hown hW hT (hx_S.rf (M := [(10, 1)])) (gx.S hM) tt_10 1 (by decide) rfl kw_1144 ⟨rfl, rfl, rfl⟩ rfl (x := x_51) ⟨by omega, by omega⟩ rfl rfl rfl (List.mem_singleton.mpr rfl) dX10_act_202 (fun H locs h_52 eh_52 hW hT hs => ?_)
                      replace ffw81_x_8 := (hs.o (gx.S hM) trivial rfl).1.trans ffw81_x_8
                      replace ffw81_x_14 := (hs.o (gx.S hM) trivial rfl).1.trans ffw81_x_14
                      replace f_48 := (hs.o (gx.S hM) trivial rfl).1.trans f_48
                      replace af_ql : h_52.2.1 ql = rf := (funext fun j => (hs.a (gql.S hM) rfl j).1).trans af_ql
                      replace af_qn : h_52.2.1 qn = psf := (funext fun j => (hs.a (gqn.S hM) rfl j).1).trans af_qn
                      replace af_qp : h_52.2.1 qp = prf := (funext fun j => (hs.a (gqp.S hM) rfl j).1).trans af_qp
                      replace nia81_qs : h_52.2.1 qs = ia81_qs := (funext fun j => (hs.a (gqs.S hM) rfl j).1).trans nia81_qs
                      replace nia81_qr : h_52.2.1 qr = ia81_qr := (funext fun j => (hs.a (gqr.S hM) rfl j).1).trans nia81_qr
                      replace hM := hM.tr (hs.mono (by decide))
                      have f_53 : h_52.2.1 x 1 = x_51 := by rw [eh_52]; exact hx_pi_at _ _ _ _
                      refine lv_aload_n hx hb dX10_act_205 rfl (lv_at hl 2 rfl) ?_
                      refine hx_getn hx hb hts hC_10 hown hW hT (gx.S hM) tt_10 2 (by decide) rfl kw_1145 ⟨rfl, rfl, rfl⟩ dX10_act_206 (fun q_54 fq_54 gq_54 => ?_)
                      refine lv_aload_n hx hb dX10_act_209 rfl (lv_at hl 2 rfl) ?_
                      refine hk_geti hx hb hts hC_10 hown hW (gx.S hM) tt_10 1 (by decide) rfl kw_1144 ⟨rfl, rfl, rfl⟩ f_53 dX10_act_210 ?_
                      refine lv_iload_n hx hb dX10_act_213 rfl (lv_at hl 3 rfl) ?_
                      refine hx_iast hx hb hW hT (hx_S.rf (M := [(49, 0)])) gq_54 tt_49 rfl ⟨by omega, by omega⟩ rfl (i32_r _) (List.mem_singleton.mpr rfl) dX10_act_214 (fun H locs h_55 eh_55 hW hT hs => ?_)
                      replace ffw81_x_8 := (hs.o (gx.S hM) trivial rfl).1.trans ffw81_x_8
                      replace ffw81_x_14 := (hs.o (gx.S hM) trivial rfl).1.trans ffw81_x_14
                      replace f_48 := (hs.o (gx.S hM) trivial rfl).1.trans f_48
                      replace f_53 := (hs.o (gx.S hM) trivial rfl).1.trans f_53
                      replace fq_54 := (hs.o (gx.S hM) trivial rfl).2.trans fq_54
                      replace af_ql : h_55.2.1 ql = rf := (funext fun j => (hs.a (gql.S hM) rfl j).1).trans af_ql
                      replace af_qn : h_55.2.1 qn = psf := (funext fun j => (hs.a (gqn.S hM) rfl j).1).trans af_qn
                      replace af_qp : h_55.2.1 qp = prf := (funext fun j => (hs.a (gqp.S hM) rfl j).1).trans af_qp
                      replace nia81_qs : h_55.2.1 qs = ia81_qs := (funext fun j => (hs.a (gqs.S hM) rfl j).1).trans nia81_qs
                      replace nia81_qr : h_55.2.1 qr = ia81_qr := (funext fun j => (hs.a (gqr.S hM) rfl j).1).trans nia81_qr
                      replace hM := hM.tr (hs.mono (by decide))
                      replace gq_54 := gq_54.S hs
                      refine lv_iconst (v := 0) hx hb dX10_act_215 (by decide) ?_
                      refine lv_istore (lv' := [(4, .int (0 : Int32)), (3, .int iv81_3), (2, .int iv81_2), (0, .ref x), (1, .int i1)]) hx hb dX10_act_216 hl (by decide) rfl (fun ls hl => ?_)
                      have loop218 : ∀ (n218 : Nat) (iv218_4 : Int32) (ia218_ql : Nat → Int32) (H : Heap) (locs : List Loc) (hL1 : List Nat) (hl1 : hx_h), 0 ≤ iv218_4.toInt → iv218_4.toInt ≤ 13 → (hx_wk1 ia218_ql x_51.toInt iv218_4.toInt) → ∀ (ls : Array Slot), 13 - iv218_4.toInt < (n218 : Int) → hx_W T_tb (P_ty dA) (dC, dI) vwCl (hx_A L sz) s.heap hL1 hl1 s H locs → hx_T T_tb hL1 hl1 → hx_S T_tb [(10, 1), (10, 7), (10, 8), (10, 9), (10, 10), (10, 11), (10, 13), (10, 14), (10, 16), (10, 18), (49, 0), (50, 0), (51, 0), (52, 0), (54, 0), (55, 0), (56, 0)] L h hL1 hl1 → hl1.2.1 x 14 = fw81_x_14 → hl1.2.1 x 1 = x_51 → hl1.2.2 x 2 = some q_54 → hx_g hL1 hl1 q_54 49 → hl1.2.1 ql = ia218_ql → hl1.2.1 qn = psf → hl1.2.1 qp = prf → hl1.2.1 qs = ia81_qs → hl1.2.1 qr = ia81_qr → lv_has ls 5 [(4, .int iv218_4), (3, .int iv81_3), (2, .int iv81_2), (0, .ref x), (1, .int i1)] → W p l e ({ frames := 6, cells := 0, slots := 0, locals := 141 }) s m ([.ref x, .int i1] : List Value).toArray below meth c H locs 0 0 (MQ below (va_Qi (fun (r : Int32) (u : List Nat × hx_h) => (∃ (a1 : Int32) (rf1 : Nat → Int32) (psf1 : Nat → Int32) (prf1 : Nat → Int32), u.2.2.1 x 1 = a1 ∧ u.2.2.1 ql = rf1 ∧ u.2.2.1 qn = psf1 ∧ u.2.2.1 qp = prf1 ∧ (a0.toInt ≤ a1.toInt ∧ hx_WK rf1 a1.toInt ∧ hx_RP prf1 psf1 a1.toInt)) ∧ hx_T T_tb u.1 u.2 ∧ hx_S T_tb [(10, 1), (10, 7), (10, 8), (10, 9), (10, 10), (10, 11), (10, 13), (10, 14), (10, 16), (10, 18), (49, 0), (50, 0), (51, 0), (52, 0), (54, 0), (55, 0), (56, 0)] L h u.1 u.2) (hx_E T_tb (P_ty dA) (dC, dI) vwCl (hx_A L sz)) (hx_A L sz)) ([.ref x, .int i1] : List Value).toArray s 0 0 (hx_A L sz)) (F0 m 218 ls []) := by
                        intro n218
                        induction n218 with
                        | zero => intro iv218_4 ia218_ql H locs hL1 hl1 bliv218_4 buiv218_4 vi218_0 ls hn218; exfalso; omega
                        | succ n218 ih218 =>
                          intro iv218_4 ia218_ql H locs hL1 hl1 bliv218_4 buiv218_4 vi218_0 ls hn218 hW hT hM ffw81_x_14 f_53 fq_54 gq_54 nia218_ql af_qn af_qp nia81_qs nia81_qr hl
                          refine lv_iload hx hb dX10_act_218 (lv_at hl 0 rfl) ?_
                          refine lv_bipush (v := 13) hx hb dX10_act_220 (by decide) ?_
                          refine hb_icmp_ge (zx := iv218_4.toInt) (zy := 13) (tgt := 253) hx hb rfl (by decide) dX10_act_222 (by decide) (fun c_56 => ?_) (fun c_56 => ?_)
                          · skip
                            refine lv_aload_n hx hb dX10_act_253 rfl (lv_at hl 3 rfl) ?_
                            refine lv_aload_n hx hb dX10_act_254 rfl (lv_at hl 3 rfl) ?_
                            refine hk_geti hx hb hts hC_10 hown hW (gx.S hM) tt_10 1 (by decide) rfl kw_1144 ⟨rfl, rfl, rfl⟩ f_53 dX10_act_255 ?_
                            refine hx_gov (hx_runV (As := [.int x_51]) (rest := []) ⟨hx, hb, hml, hown, hts⟩ hW (gx.S hM) tt_10 (T := TX10) (N := 98) rfl (t_X10_keepsProof l dC dI dA hL1 hl1 H.size x x_51 hT (gx.S hM) qs (gqs.S hM) ((hM.o gx trivial rfl).2.trans f_x_15) qn (gqn.S hM) ((hM.o gx trivial rfl).2.trans f_x_4) qp (gqp.S hM) ((hM.o gx trivial rfl).2.trans f_x_5) ia81_qs nia81_qs psf af_qn prf af_qp fw81_x_14 ffw81_x_14 ⟨by omega, by omega⟩) (cwV 1 hts (hx_gV kw_1142 kw_1139 kw_1141 kw_51 kw_103) rfl rfl rfl (by decide +kernel) ⟨Nat.le_of_ble_eq_true rfl, Nat.le_of_ble_eq_true rfl⟩) rfl hl.1 rfl (Nat.le_of_ble_eq_true rfl) dX10_act_258 ⟨Nat.le_of_ble_eq_true rfl, Nat.le_of_ble_eq_true rfl⟩) hW (fun L_57 h_58 H locs p_60 hW => ?_)
                            obtain ⟨⟨w_62, w_63, fw_62, fw_63, hr_61⟩, hT, hs⟩ := p_60
                            replace hT : hx_T T_tb L_57 h_58 := hT
                            replace hs : hx_S T_tb [(51, 0), (52, 0)] hL1 hl1 L_57 h_58 := hs
                            replace ffw81_x_14 := (hs.o (gx.S hM) trivial rfl).1.trans ffw81_x_14
                            replace f_53 := (hs.o (gx.S hM) trivial rfl).1.trans f_53
                            replace fq_54 := (hs.o (gx.S hM) trivial rfl).2.trans fq_54
                            replace nia81_qs : h_58.2.1 qs = ia81_qs := (funext fun j => (hs.a (gqs.S hM) rfl j).1).trans nia81_qs
                            replace nia81_qr : h_58.2.1 qr = ia81_qr := (funext fun j => (hs.a (gqr.S hM) rfl j).1).trans nia81_qr
                            replace nia218_ql : h_58.2.1 ql = ia218_ql := (funext fun j => (hs.a (gql.S hM) rfl j).1).trans nia218_ql
                            replace hM := hM.tr (hs.mono (by decide))
                            replace gq_54 := gq_54.S hs
                            have fw_62 : h_58.2.1 qn = w_62 := fw_62
                            have fw_63 : h_58.2.1 qp = w_63 := fw_63
                            refine lv_aload_n hx hb dX10_act_261 rfl (lv_at hl 3 rfl) ?_
                            refine hk_geti hx hb hts hC_10 hown hW (gx.S hM) tt_10 1 (by decide) rfl kw_1144 ⟨rfl, rfl, rfl⟩ f_53 dX10_act_262 ?_
                            refine lv_iconst (v := 1) hx hb dX10_act_265 (by decide) ?_
                            refine lv_isub hx hb dX10_act_266 ?_
                            have rg_64 := i32_r x_51
                            refine lv_topi (fun x_65 ex_65 => ?_)
                            have zx_65 : x_65.toInt = x_51.toInt - 1 := by rw [ex_65]; exact i32_sub rfl (by decide) (by omega) (by omega)
                            exact hx_reti hx hb hr hlk hW ⟨⟨x_51, ia218_ql, w_62, w_63, f_53, nia218_ql, fw_62, fw_63, ⟨by omega, hx_wk1_e vi218_0 (by omega), hx_RP_new hRP rfl (by omega) (by omega) (by omega) (by omega) hrpE hr_61.1 hr_61.2⟩⟩, hT, hM⟩ dX10_act_267
                          · skip
                            refine lv_aload_n hx hb dX10_act_225 rfl (lv_at hl 3 rfl) ?_
                            refine hk_getr hx hb hts hC_10 hown hW (gx.S hM) tt_10 3 (by decide) rfl kw_1146 ⟨rfl, rfl, rfl⟩ ((hM.o gx trivial rfl).2.trans f_x_3) dX10_act_226 ?_
                            refine lv_bipush (v := 13) hx hb dX10_act_229 (by decide) ?_
                            refine lv_aload_n hx hb dX10_act_231 rfl (lv_at hl 3 rfl) ?_
                            refine hk_geti hx hb hts hC_10 hown hW (gx.S hM) tt_10 1 (by decide) rfl kw_1144 ⟨rfl, rfl, rfl⟩ f_53 dX10_act_232 ?_
                            refine lv_imul hx hb dX10_act_235 ?_
                            refine lv_topi (fun x_66 ex_66 => ?_)
                            have zx_66 : x_66.toInt = 13 * x_51.toInt := by rw [ex_66]; exact i32_mul (by decide) rfl rfl (by omega) (by omega)
                            refine lv_iload hx hb dX10_act_236 (lv_at hl 0 rfl) ?_
                            refine lv_iadd hx hb dX10_act_238 ?_
                            have rg_67 := i32_r x_66
                            have rg_68 := i32_r iv218_4
                            refine lv_topi (fun x_69 ex_69 => ?_)
                            have zx_69 : x_69.toInt = x_66.toInt + iv218_4.toInt := by rw [ex_69]; exact i32_add rfl rfl (by omega) (by omega)
                            refine lv_aload_n hx hb dX10_act_239 rfl (lv_at hl 3 rfl) ?_
                            refine hk_getr hx hb hts hC_10 hown hW (gx.S hM) tt_10 12 (by decide) rfl kw_1155 ⟨rfl, rfl, rfl⟩ ((hM.o gx trivial rfl).2.trans f_x_12) dX10_act_240 ?_
                            refine lv_iload hx hb dX10_act_243 (lv_at hl 0 rfl) ?_
                            refine hx_iald hx hb hW hT (gqr.S hM) tt_54 rfl ⟨by omega, by omega⟩ dX10_act_245 (fun x_70 ex_70 lx_70 ux_70 => ?_)
                            have ax_70 : x_70 = ia81_qr iv218_4.toNatClampNeg := ex_70.trans (congrFun nia81_qr _)
                            have nia218_qlO := nia218_ql
                            refine hx_iast hx hb hW hT (hx_S.rf (M := [(50, 0)])) (gql.S hM) tt_50 rfl ⟨by omega, by omega⟩ rfl ⟨by omega, by omega⟩ (List.mem_singleton.mpr rfl) dX10_act_246 (fun H locs h_71 eh_71 hW hT hs => ?_)
                            replace ffw81_x_14 := (hs.o (gx.S hM) trivial rfl).1.trans ffw81_x_14
                            replace f_53 := (hs.o (gx.S hM) trivial rfl).1.trans f_53
                            replace fq_54 := (hs.o (gx.S hM) trivial rfl).2.trans fq_54
                            replace af_qn : h_71.2.1 qn = psf := (funext fun j => (hs.a (gqn.S hM) rfl j).1).trans af_qn
                            replace af_qp : h_71.2.1 qp = prf := (funext fun j => (hs.a (gqp.S hM) rfl j).1).trans af_qp
                            replace nia81_qs : h_71.2.1 qs = ia81_qs := (funext fun j => (hs.a (gqs.S hM) rfl j).1).trans nia81_qs
                            replace nia81_qr : h_71.2.1 qr = ia81_qr := (funext fun j => (hs.a (gqr.S hM) rfl j).1).trans nia81_qr
                            replace ex_70 := ex_70.trans (hs.a (gqr.S hM) rfl _).1.symm
                            replace hM := hM.tr (hs.mono (by decide))
                            replace gq_54 := gq_54.S hs
                            obtain ⟨fa_72, dfa_72⟩ : ∃ g : Nat → Int32, g = hx_up ia218_ql x_69.toNatClampNeg x_70 := ⟨_, rfl⟩
                            have nfa_72 : h_71.2.1 ql = fa_72 := by rw [eh_71, dfa_72, ← nia218_qlO]; exact hx_pi_fun _ _ _ _
                            obtain ⟨x_73, ex_73⟩ : ∃ y : Int32, y = iv218_4 + Int32.ofInt 1 := ⟨_, rfl⟩
                            have zx_73 : x_73.toInt = iv218_4.toInt + (1) := by rw [ex_73]; exact i32_add rfl (by decide) (by omega) (by omega)
                            refine lv_iinc (v := x_73) (lv' := [(4, .int x_73), (3, .int iv81_3), (2, .int iv81_2), (0, .ref x), (1, .int i1)]) hx hb dX10_act_247 hl (k := 0) rfl ex_73.symm (by decide) rfl (fun ls hl => ?_)
                            refine lv_goto (tgt := 218) hx hb dX10_act_250 (by decide) ?_
                            exact ih218 x_73 fa_72 _ _ hL1 h_71 (by omega) (by omega) (hx_wk1_s vi218_0 (by omega) (by omega) (by omega) (by omega) ax_70 rfl hrdE dfa_72 zx_73) ls (by omega) hW hT hM ffw81_x_14 f_53 fq_54 gq_54 nfa_72 af_qn af_qp nia81_qs nia81_qr (lv_sub hl [0, 1, 2, 3, 4] rfl)
                      have zk_0 : (0 : Int32).toInt = 0 := by decide
                      exact loop218 14 (0 : Int32) rf _ _ hL1 h_55 (by decide) (by decide) ⟨by rw [zx_51]; intro p h1 h2; exact hWK p h1 (by omega), hx_rk1_0⟩ ls (by omega) hW hT hM ffw81_x_14 f_53 fq_54 gq_54 af_ql af_qn af_qp nia81_qs nia81_qr hl
                    · skip
                      refine lv_aload_n hx hb dX10_act_89 rfl (lv_at hl 2 rfl) ?_
                      obtain ⟨fa_74, nfa_74⟩ : ∃ g : Nat → Int32, hl1.2.1 qo = g := ⟨_, rfl⟩
                      refine hx_goi (hx_runV (As := []) (rest := []) ⟨hx, hb, hml, hown, hts⟩ hW (gx.S hM) tt_10 (T := TX10) (N := 98) rfl (t_X10_clause l dC dI dA hL1 hl1 H.size x hT (gx.S hM) qs (gqs.S hM) ((hM.o gx trivial rfl).2.trans f_x_15) qo (gqo.S hM) ((hM.o gx trivial rfl).2.trans f_x_17) qt (gqt.S hM) ((hM.o gx trivial rfl).2.trans f_x_6) qw (gqw.S hM) ((hM.o gx trivial rfl).2.trans f_x_19) qr (gqr.S hM) ((hM.o gx trivial rfl).2.trans f_x_12) ia81_qs nia81_qs fa_74 nfa_74 tf (hx_afS hM gqt rfl af_qt) wf (hx_afS hM gqw rfl af_qw) ia81_qr nia81_qr fw81_x_8 ffw81_x_8 fw81_x_7 ffw81_x_7 fw81_x_14 ffw81_x_14 (vi81_0 (by omega)).1 (vi81_0 (by omega)).2 hwd) (cwV 0 hts (hx_gV kw_1472 kw_1469 kw_1471 kw_54 kw_103) rfl rfl rfl (by decide +kernel) ⟨Nat.le_of_ble_eq_true rfl, Nat.le_of_ble_eq_true rfl⟩) rfl hl.1 rfl (Nat.le_of_ble_eq_true rfl) dX10_act_90 ⟨Nat.le_of_ble_eq_true rfl, Nat.le_of_ble_eq_true rfl⟩) hW (fun r_77 L_75 h_76 H locs p_78 hW => ?_)
                      obtain ⟨⟨w_80, w_81, w_82, w_83, fw_80, fw_81, fw_82, fw_83, hr_79⟩, hT, hs⟩ := p_78
                      replace hT : hx_T T_tb L_75 h_76 := hT
                      replace hs : hx_S T_tb [(10, 8), (10, 9), (10, 10), (10, 11), (10, 13), (10, 14), (10, 16), (10, 18), (54, 0), (55, 0), (56, 0)] hL1 hl1 L_75 h_76 := hs
                      replace f_x_1 := (hs.o (gx.S hM) trivial rfl).1.trans f_x_1
                      replace ffw81_x_7 := (hs.o (gx.S hM) trivial rfl).1.trans ffw81_x_7
                      replace af_ql : h_76.2.1 ql = rf := (funext fun j => (hs.a (gql.S hM) rfl j).1).trans af_ql
                      replace af_qn : h_76.2.1 qn = psf := (funext fun j => (hs.a (gqn.S hM) rfl j).1).trans af_qn
                      replace af_qp : h_76.2.1 qp = prf := (funext fun j => (hs.a (gqp.S hM) rfl j).1).trans af_qp
                      replace hM := hM.tr (hs.mono (by decide))
                      have fw_80 : h_76.2.1 x 8 = w_80 := fw_80
                      have bw_80 := hT.gi (gx.S hM) tt_10 (k := 8) rfl
                      rw [fw_80] at bw_80
                      have bw_80 : 0 ≤ w_80.toInt ∧ w_80.toInt ≤ 402 := bw_80
                      have fw_81 : h_76.2.1 x 14 = w_81 := fw_81
                      have bw_81 := hT.gi (gx.S hM) tt_10 (k := 14) rfl
                      rw [fw_81] at bw_81
                      have bw_81 : 0 ≤ w_81.toInt ∧ w_81.toInt ≤ 128 := bw_81
                      have fw_82 : h_76.2.1 qs = w_82 := fw_82
                      have fw_83 : h_76.2.1 qr = w_83 := fw_83
                      refine lv_istore_n (lv' := [(2, .int r_77), (3, .int iv81_3), (0, .ref x), (1, .int i1)]) hx hb dX10_act_93 rfl hl (by decide) rfl (fun ls hl => ?_)
                      refine lv_iload_n hx hb dX10_act_94 rfl (lv_at hl 0 rfl) ?_
                      refine hb_if_eq (zx := r_77.toInt) (tgt := 110) hx hb rfl dX10_act_95 (by decide) (fun c_84 => ?_) (fun c_84 => ?_)
                      · skip
                        refine lv_iconst (v := 0) hx hb dX10_act_110 (by decide) ?_
                        refine lv_istore_n (lv' := [(3, .int (0 : Int32)), (2, .int r_77), (0, .ref x), (1, .int i1)]) hx hb dX10_act_111 rfl hl (by decide) rfl (fun ls hl => ?_)
                        refine lv_iload_n hx hb dX10_act_112 rfl (lv_at hl 0 rfl) ?_
                        refine hb_if_eq (zx := 0) (tgt := 135) hx hb (by decide) dX10_act_113 (by decide) (fun c_85 => ?_) (fun c_85 => absurd c_85 (by decide))
                        refine lv_iload_n hx hb dX10_act_135 rfl (lv_at hl 0 rfl) ?_
                        refine hb_if_eq (zx := 0) (tgt := 149) hx hb (by decide) dX10_act_136 (by decide) (fun c_86 => ?_) (fun c_86 => absurd c_86 (by decide))
                        refine lv_iload_n hx hb dX10_act_149 rfl (lv_at hl 1 rfl) ?_
                        refine hb_if_eq (zx := r_77.toInt) (tgt := 81) hx hb rfl dX10_act_150 (by decide) (fun c_87 => ?_) (fun c_87 => by exfalso; omega)
                        have zk_0 : (0 : Int32).toInt = 0 := by decide
                        exact ih81 r_77 (0 : Int32) w_80 w_81 fw81_x_7 w_82 w_83 _ _ L_75 h_76 (by omega) (by omega) (by decide) (by decide) (by omega) (by omega) (by omega) (by omega) (by omega) (by omega) (fun z => hr_79.2.2 (by omega) |>.2) ls (by omega) hW hT hM fw_80 fw_81 ffw81_x_7 f_x_1 fw_82 fw_83 af_ql af_qn af_qp (lv_sub hl [0, 1, 2, 3] rfl)
                      · skip
                        refine lv_aload_n hx hb dX10_act_98 rfl (lv_at hl 2 rfl) ?_
                        refine hx_goi (hx_runV (As := []) (rest := []) ⟨hx, hb, hml, hown, hts⟩ hW (gx.S hM) tt_10 (T := TX10) (N := 98) rfl (t_X10_see l dC dI dA L_75 h_76 H.size x hT (gx.S hM) qt (gqt.S hM) ((hM.o gx trivial rfl).2.trans f_x_6) tf (hx_afS hM gqt rfl af_qt) w_80 fw_80 fw81_x_7 ffw81_x_7) (cwV 0 hts (hx_gV kw_1468 kw_1465 kw_1467 kw_53 kw_103) rfl rfl rfl (by decide +kernel) ⟨Nat.le_of_ble_eq_true rfl, Nat.le_of_ble_eq_true rfl⟩) rfl hl.1 rfl (Nat.le_of_ble_eq_true rfl) dX10_act_99 ⟨Nat.le_of_ble_eq_true rfl, Nat.le_of_ble_eq_true rfl⟩) hW (fun r_90 L_88 h_89 H locs p_91 hW => ?_)
                        obtain ⟨⟨w_93, fw_93, hr_92⟩, hT, hs⟩ := p_91
                        replace hT : hx_T T_tb L_88 h_89 := hT
                        replace hs : hx_S T_tb [(10, 8)] L_75 h_76 L_88 h_89 := hs
                        replace f_x_1 := (hs.o (gx.S hM) trivial rfl).1.trans f_x_1
                        replace ffw81_x_7 := (hs.o (gx.S hM) trivial rfl).1.trans ffw81_x_7
                        replace fw_81 := (hs.o (gx.S hM) trivial rfl).1.trans fw_81
                        replace af_ql : h_89.2.1 ql = rf := (funext fun j => (hs.a (gql.S hM) rfl j).1).trans af_ql
                        replace af_qn : h_89.2.1 qn = psf := (funext fun j => (hs.a (gqn.S hM) rfl j).1).trans af_qn
                        replace af_qp : h_89.2.1 qp = prf := (funext fun j => (hs.a (gqp.S hM) rfl j).1).trans af_qp
                        replace fw_82 : h_89.2.1 qs = w_82 := (funext fun j => (hs.a (gqs.S hM) rfl j).1).trans fw_82
                        replace fw_83 : h_89.2.1 qr = w_83 := (funext fun j => (hs.a (gqr.S hM) rfl j).1).trans fw_83
                        replace hM := hM.tr (hs.mono (by decide))
                        have fw_93 : h_89.2.1 x 8 = w_93 := fw_93
                        have bw_93 := hT.gi (gx.S hM) tt_10 (k := 8) rfl
                        rw [fw_93] at bw_93
                        have bw_93 : 0 ≤ w_93.toInt ∧ w_93.toInt ≤ 402 := bw_93
                        refine lv_iconst (v := -1) hx hb dX10_act_102 (by decide) ?_
                        refine hb_icmp_eq (zx := r_90.toInt) (zy := (-1)) (tgt := 110) hx hb rfl (by decide) dX10_act_103 (by decide) (fun c_94 => ?_) (fun c_94 => ?_)
                        · skip
                          refine lv_iconst (v := 0) hx hb dX10_act_110 (by decide) ?_
                          refine lv_istore_n (lv' := [(3, .int (0 : Int32)), (2, .int r_77), (0, .ref x), (1, .int i1)]) hx hb dX10_act_111 rfl hl (by decide) rfl (fun ls hl => ?_)
                          refine lv_iload_n hx hb dX10_act_112 rfl (lv_at hl 0 rfl) ?_
                          refine hb_if_eq (zx := 0) (tgt := 135) hx hb (by decide) dX10_act_113 (by decide) (fun c_95 => ?_) (fun c_95 => absurd c_95 (by decide))
                          refine lv_iload_n hx hb dX10_act_135 rfl (lv_at hl 0 rfl) ?_
                          refine hb_if_eq (zx := 0) (tgt := 149) hx hb (by decide) dX10_act_136 (by decide) (fun c_96 => ?_) (fun c_96 => absurd c_96 (by decide))
                          refine lv_iload_n hx hb dX10_act_149 rfl (lv_at hl 1 rfl) ?_
                          refine hb_if_eq (zx := r_77.toInt) (tgt := 81) hx hb rfl dX10_act_150 (by decide) (fun c_97 => by exfalso; omega) (fun c_97 => ?_)
                          refine lv_iload_n hx hb dX10_act_153 rfl (lv_at hl 0 rfl) ?_
                          refine hb_if_eq (zx := 0) (tgt := 81) hx hb (by decide) dX10_act_154 (by decide) (fun c_98 => ?_) (fun c_98 => absurd c_98 (by decide))
                          have zk_0 : (0 : Int32).toInt = 0 := by decide
                          exact ih81 r_77 (0 : Int32) w_93 w_81 fw81_x_7 w_82 w_83 _ _ L_88 h_89 (by omega) (by omega) (by decide) (by decide) (by omega) (by omega) (by omega) (by omega) (by omega) (by omega) (fun z => hr_79.2.2 (by omega) |>.2) ls (by omega) hW hT hM fw_93 fw_81 ffw81_x_7 f_x_1 fw_82 fw_83 af_ql af_qn af_qp (lv_sub hl [0, 1, 2, 3] rfl)
                        · skip
                          refine lv_iconst (v := 1) hx hb dX10_act_106 (by decide) ?_
                          refine lv_goto (tgt := 111) hx hb dX10_act_107 (by decide) ?_
                          refine lv_istore_n (lv' := [(3, .int (1 : Int32)), (2, .int r_77), (0, .ref x), (1, .int i1)]) hx hb dX10_act_111 rfl hl (by decide) rfl (fun ls hl => ?_)
                          refine lv_iload_n hx hb dX10_act_112 rfl (lv_at hl 0 rfl) ?_
                          refine hb_if_eq (zx := 1) (tgt := 135) hx hb (by decide) dX10_act_113 (by decide) (fun c_99 => absurd c_99 (by decide)) (fun c_99 => ?_)
                          refine lv_aload_n hx hb dX10_act_116 rfl (lv_at hl 2 rfl) ?_
                          refine hx_goi (hx_runV (As := []) (rest := []) ⟨hx, hb, hml, hown, hts⟩ hW (gx.S hM) tt_10 (T := TX10) (N := 98) rfl (t_X10_see l dC dI dA L_88 h_89 H.size x hT (gx.S hM) qt (gqt.S hM) ((hM.o gx trivial rfl).2.trans f_x_6) tf (hx_afS hM gqt rfl af_qt) w_93 fw_93 fw81_x_7 ffw81_x_7) (cwV 0 hts (hx_gV kw_1468 kw_1465 kw_1467 kw_53 kw_103) rfl rfl rfl (by decide +kernel) ⟨Nat.le_of_ble_eq_true rfl, Nat.le_of_ble_eq_true rfl⟩) rfl hl.1 rfl (Nat.le_of_ble_eq_true rfl) dX10_act_117 ⟨Nat.le_of_ble_eq_true rfl, Nat.le_of_ble_eq_true rfl⟩) hW (fun r_102 L_100 h_101 H locs p_103 hW => ?_)
                          obtain ⟨⟨w_105, fw_105, hr_104⟩, hT, hs⟩ := p_103
                          replace hT : hx_T T_tb L_100 h_101 := hT
                          replace hs : hx_S T_tb [(10, 8)] L_88 h_89 L_100 h_101 := hs
                          replace f_x_1 := (hs.o (gx.S hM) trivial rfl).1.trans f_x_1
                          replace ffw81_x_7 := (hs.o (gx.S hM) trivial rfl).1.trans ffw81_x_7
                          replace fw_81 := (hs.o (gx.S hM) trivial rfl).1.trans fw_81
                          replace af_ql : h_101.2.1 ql = rf := (funext fun j => (hs.a (gql.S hM) rfl j).1).trans af_ql
                          replace af_qn : h_101.2.1 qn = psf := (funext fun j => (hs.a (gqn.S hM) rfl j).1).trans af_qn
                          replace af_qp : h_101.2.1 qp = prf := (funext fun j => (hs.a (gqp.S hM) rfl j).1).trans af_qp
                          replace fw_82 : h_101.2.1 qs = w_82 := (funext fun j => (hs.a (gqs.S hM) rfl j).1).trans fw_82
                          replace fw_83 : h_101.2.1 qr = w_83 := (funext fun j => (hs.a (gqr.S hM) rfl j).1).trans fw_83
                          replace hM := hM.tr (hs.mono (by decide))
                          have fw_105 : h_101.2.1 x 8 = w_105 := fw_105
                          have bw_105 := hT.gi (gx.S hM) tt_10 (k := 8) rfl
                          rw [fw_105] at bw_105
                          have bw_105 : 0 ≤ w_105.toInt ∧ w_105.toInt ≤ 402 := bw_105
                          refine lv_bipush (v := 59) hx hb dX10_act_120 (by decide) ?_
                          refine hb_icmp_eq (zx := r_102.toInt) (zy := 59) (tgt := 135) hx hb rfl (by decide) dX10_act_122 (by decide) (fun c_106 => ?_) (fun c_106 => ?_)
                          · skip
                            refine lv_iload_n hx hb dX10_act_135 rfl (lv_at hl 0 rfl) ?_
                            refine hb_if_eq (zx := 1) (tgt := 149) hx hb (by decide) dX10_act_136 (by decide) (fun c_107 => absurd c_107 (by decide)) (fun c_107 => ?_)
                            refine lv_aload_n hx hb dX10_act_139 rfl (lv_at hl 2 rfl) ?_
                            refine lv_dup hx hb dX10_act_140 rfl ?_
                            refine hk_geti hx hb hts hC_10 hown hW (gx.S hM) tt_10 8 (by decide) rfl kw_1151 ⟨rfl, rfl, rfl⟩ fw_105 dX10_act_141 ?_
                            refine lv_iconst (v := 1) hx hb dX10_act_144 (by decide) ?_
                            refine lv_iadd hx hb dX10_act_145 ?_
                            have rg_108 := i32_r w_105
                            refine lv_topi (fun x_109 ex_109 => ?_)
                            have zx_109 : x_109.toInt = w_105.toInt + 1 := by rw [ex_109]; exact i32_add rfl (by decide) (by omega) (by omega)
                            refine hx_puti hx hb hts hC_10 hown hW hT (hx_S.rf (M := [(10, 8)])) (gx.S hM) tt_10 8 (by decide) rfl kw_1151 ⟨rfl, rfl, rfl⟩ rfl (x := x_109) ⟨by omega, by omega⟩ rfl rfl rfl (List.mem_singleton.mpr rfl) dX10_act_146 (fun H locs h_110 eh_110 hW hT hs => ?_)
                            replace f_x_1 := (hs.o (gx.S hM) trivial rfl).1.trans f_x_1
                            replace ffw81_x_7 := (hs.o (gx.S hM) trivial rfl).1.trans ffw81_x_7
                            replace fw_81 := (hs.o (gx.S hM) trivial rfl).1.trans fw_81
                            replace af_ql : h_110.2.1 ql = rf := (funext fun j => (hs.a (gql.S hM) rfl j).1).trans af_ql
                            replace af_qn : h_110.2.1 qn = psf := (funext fun j => (hs.a (gqn.S hM) rfl j).1).trans af_qn
                            replace af_qp : h_110.2.1 qp = prf := (funext fun j => (hs.a (gqp.S hM) rfl j).1).trans af_qp
                            replace fw_82 : h_110.2.1 qs = w_82 := (funext fun j => (hs.a (gqs.S hM) rfl j).1).trans fw_82
                            replace fw_83 : h_110.2.1 qr = w_83 := (funext fun j => (hs.a (gqr.S hM) rfl j).1).trans fw_83
                            replace hM := hM.tr (hs.mono (by decide))
                            have f_111 : h_110.2.1 x 8 = x_109 := by rw [eh_110]; exact hx_pi_at _ _ _ _
                            refine lv_iload_n hx hb dX10_act_149 rfl (lv_at hl 1 rfl) ?_
                            refine hb_if_eq (zx := r_77.toInt) (tgt := 81) hx hb rfl dX10_act_150 (by decide) (fun c_112 => by exfalso; omega) (fun c_112 => ?_)
                            refine lv_iload_n hx hb dX10_act_153 rfl (lv_at hl 0 rfl) ?_
                            refine hb_if_eq (zx := 1) (tgt := 81) hx hb (by decide) dX10_act_154 (by decide) (fun c_113 => absurd c_113 (by decide)) (fun c_113 => ?_)
                            refine lv_aload_n hx hb dX10_act_157 rfl (lv_at hl 2 rfl) ?_
                            refine hx_goi (hx_runV (As := []) (rest := []) ⟨hx, hb, hml, hown, hts⟩ hW (gx.S hM) tt_10 (T := TX10) (N := 98) rfl (t_X10_see l dC dI dA L_100 h_110 H.size x hT (gx.S hM) qt (gqt.S hM) ((hM.o gx trivial rfl).2.trans f_x_6) tf (hx_afS hM gqt rfl af_qt) x_109 f_111 fw81_x_7 ffw81_x_7) (cwV 0 hts (hx_gV kw_1468 kw_1465 kw_1467 kw_53 kw_103) rfl rfl rfl (by decide +kernel) ⟨Nat.le_of_ble_eq_true rfl, Nat.le_of_ble_eq_true rfl⟩) rfl hl.1 rfl (Nat.le_of_ble_eq_true rfl) dX10_act_158 ⟨Nat.le_of_ble_eq_true rfl, Nat.le_of_ble_eq_true rfl⟩) hW (fun r_116 L_114 h_115 H locs p_117 hW => ?_)
                            obtain ⟨⟨w_119, fw_119, hr_118⟩, hT, hs⟩ := p_117
                            replace hT : hx_T T_tb L_114 h_115 := hT
                            replace hs : hx_S T_tb [(10, 8)] L_100 h_110 L_114 h_115 := hs
                            replace f_x_1 := (hs.o (gx.S hM) trivial rfl).1.trans f_x_1
                            replace ffw81_x_7 := (hs.o (gx.S hM) trivial rfl).1.trans ffw81_x_7
                            replace fw_81 := (hs.o (gx.S hM) trivial rfl).1.trans fw_81
                            replace af_ql : h_115.2.1 ql = rf := (funext fun j => (hs.a (gql.S hM) rfl j).1).trans af_ql
                            replace af_qn : h_115.2.1 qn = psf := (funext fun j => (hs.a (gqn.S hM) rfl j).1).trans af_qn
                            replace af_qp : h_115.2.1 qp = prf := (funext fun j => (hs.a (gqp.S hM) rfl j).1).trans af_qp
                            replace fw_82 : h_115.2.1 qs = w_82 := (funext fun j => (hs.a (gqs.S hM) rfl j).1).trans fw_82
                            replace fw_83 : h_115.2.1 qr = w_83 := (funext fun j => (hs.a (gqr.S hM) rfl j).1).trans fw_83
                            replace hM := hM.tr (hs.mono (by decide))
                            have fw_119 : h_115.2.1 x 8 = w_119 := fw_119
                            have bw_119 := hT.gi (gx.S hM) tt_10 (k := 8) rfl
                            rw [fw_119] at bw_119
                            have bw_119 : 0 ≤ w_119.toInt ∧ w_119.toInt ≤ 402 := bw_119
                            refine lv_iconst (v := -1) hx hb dX10_act_161 (by decide) ?_
                            refine hb_icmp_ne (zx := r_116.toInt) (zy := (-1)) (tgt := 81) hx hb rfl (by decide) dX10_act_162 (by decide) (fun c_120 => ?_) (fun c_120 => ?_)
                            · skip
                              have zk_1 : (1 : Int32).toInt = 1 := by decide
                              exact ih81 r_77 (1 : Int32) w_119 w_81 fw81_x_7 w_82 w_83 _ _ L_114 h_115 (by omega) (by omega) (by decide) (by decide) (by omega) (by omega) (by omega) (by omega) (by omega) (by omega) (fun z => hr_79.2.2 (by omega) |>.2) ls (by omega) hW hT hM fw_119 fw_81 ffw81_x_7 f_x_1 fw_82 fw_83 af_ql af_qn af_qp (lv_sub hl [0, 1, 2, 3] rfl)
                            · skip
                              refine lv_aload_n hx hb dX10_act_165 rfl (lv_at hl 2 rfl) ?_
                              refine lv_iconst (v := 0) hx hb dX10_act_166 (by decide) ?_
                              refine lv_aload_n hx hb dX10_act_167 rfl (lv_at hl 2 rfl) ?_
                              refine hk_geti hx hb hts hC_10 hown hW (gx.S hM) tt_10 8 (by decide) rfl kw_1151 ⟨rfl, rfl, rfl⟩ fw_119 dX10_act_168 ?_
                              have zc_0 : (0 : Int32).toInt = 0 := by decide
                              refine hx_goi (hx_runV (As := [.int (0 : Int32), .int w_119]) (rest := []) ⟨hx, hb, hml, hown, hts⟩ hW (gx.S hM) tt_10 (T := TX10) (N := 98) rfl (t_X10_fails l dC dI dA L_114 h_115 H.size x (0 : Int32) w_119 hT (gx.S hM)) (cwV 2 hts (hx_gV kw_1480 kw_1477 kw_1479 kw_56 kw_103) rfl rfl rfl (by decide +kernel) ⟨Nat.le_of_ble_eq_true rfl, Nat.le_of_ble_eq_true rfl⟩) rfl hl.1 rfl (Nat.le_of_ble_eq_true rfl) dX10_act_171 ⟨Nat.le_of_ble_eq_true rfl, Nat.le_of_ble_eq_true rfl⟩) hW (fun r_123 L_121 h_122 H locs p_124 hW => ?_)
                              obtain ⟨hr_125, hT, hs⟩ := p_124
                              replace hT : hx_T T_tb L_121 h_122 := hT
                              replace hs : hx_S T_tb [(10, 9)] L_114 h_115 L_121 h_122 := hs
                              replace f_x_1 := (hs.o (gx.S hM) trivial rfl).1.trans f_x_1
                              replace ffw81_x_7 := (hs.o (gx.S hM) trivial rfl).1.trans ffw81_x_7
                              replace fw_81 := (hs.o (gx.S hM) trivial rfl).1.trans fw_81
                              replace fw_119 := (hs.o (gx.S hM) trivial rfl).1.trans fw_119
                              replace af_ql : h_122.2.1 ql = rf := (funext fun j => (hs.a (gql.S hM) rfl j).1).trans af_ql
                              replace af_qn : h_122.2.1 qn = psf := (funext fun j => (hs.a (gqn.S hM) rfl j).1).trans af_qn
                              replace af_qp : h_122.2.1 qp = prf := (funext fun j => (hs.a (gqp.S hM) rfl j).1).trans af_qp
                              replace fw_82 : h_122.2.1 qs = w_82 := (funext fun j => (hs.a (gqs.S hM) rfl j).1).trans fw_82
                              replace fw_83 : h_122.2.1 qr = w_83 := (funext fun j => (hs.a (gqr.S hM) rfl j).1).trans fw_83
                              replace hM := hM.tr (hs.mono (by decide))
                              refine lv_istore_n (lv' := [(2, .int r_123), (3, .int (1 : Int32)), (0, .ref x), (1, .int i1)]) hx hb dX10_act_174 rfl hl (by decide) rfl (fun ls hl => ?_)
                              refine lv_goto (tgt := 81) hx hb dX10_act_175 (by decide) ?_
                              have zk_1 : (1 : Int32).toInt = 1 := by decide
                              exact ih81 r_123 (1 : Int32) w_119 w_81 fw81_x_7 w_82 w_83 _ _ L_121 h_122 (by omega) (by omega) (by decide) (by decide) (by omega) (by omega) (by omega) (by omega) (by omega) (by omega) (fun z => hr_79.2.2 (by omega) |>.2) ls (by omega) hW hT hM fw_119 fw_81 ffw81_x_7 f_x_1 fw_82 fw_83 af_ql af_qn af_qp (lv_sub hl [1, 0, 2, 3] rfl)
                          · skip
                            refine lv_aload_n hx hb dX10_act_125 rfl (lv_at hl 2 rfl) ?_
                            refine lv_iconst (v := 0) hx hb dX10_act_126 (by decide) ?_
                            refine lv_aload_n hx hb dX10_act_127 rfl (lv_at hl 2 rfl) ?_
                            refine hk_geti hx hb hts hC_10 hown hW (gx.S hM) tt_10 8 (by decide) rfl kw_1151 ⟨rfl, rfl, rfl⟩ fw_105 dX10_act_128 ?_
                            have zc_0 : (0 : Int32).toInt = 0 := by decide
                            refine hx_goi (hx_runV (As := [.int (0 : Int32), .int w_105]) (rest := []) ⟨hx, hb, hml, hown, hts⟩ hW (gx.S hM) tt_10 (T := TX10) (N := 98) rfl (t_X10_fails l dC dI dA L_100 h_101 H.size x (0 : Int32) w_105 hT (gx.S hM)) (cwV 2 hts (hx_gV kw_1480 kw_1477 kw_1479 kw_56 kw_103) rfl rfl rfl (by decide +kernel) ⟨Nat.le_of_ble_eq_true rfl, Nat.le_of_ble_eq_true rfl⟩) rfl hl.1 rfl (Nat.le_of_ble_eq_true rfl) dX10_act_131 ⟨Nat.le_of_ble_eq_true rfl, Nat.le_of_ble_eq_true rfl⟩) hW (fun r_128 L_126 h_127 H locs p_129 hW => ?_)
                            obtain ⟨hr_130, hT, hs⟩ := p_129
                            replace hT : hx_T T_tb L_126 h_127 := hT
                            replace hs : hx_S T_tb [(10, 9)] L_100 h_101 L_126 h_127 := hs
                            replace f_x_1 := (hs.o (gx.S hM) trivial rfl).1.trans f_x_1
                            replace ffw81_x_7 := (hs.o (gx.S hM) trivial rfl).1.trans ffw81_x_7
                            replace fw_81 := (hs.o (gx.S hM) trivial rfl).1.trans fw_81
                            replace fw_105 := (hs.o (gx.S hM) trivial rfl).1.trans fw_105
                            replace af_ql : h_127.2.1 ql = rf := (funext fun j => (hs.a (gql.S hM) rfl j).1).trans af_ql
                            replace af_qn : h_127.2.1 qn = psf := (funext fun j => (hs.a (gqn.S hM) rfl j).1).trans af_qn
                            replace af_qp : h_127.2.1 qp = prf := (funext fun j => (hs.a (gqp.S hM) rfl j).1).trans af_qp
                            replace fw_82 : h_127.2.1 qs = w_82 := (funext fun j => (hs.a (gqs.S hM) rfl j).1).trans fw_82
                            replace fw_83 : h_127.2.1 qr = w_83 := (funext fun j => (hs.a (gqr.S hM) rfl j).1).trans fw_83
                            replace hM := hM.tr (hs.mono (by decide))
                            refine lv_istore_n (lv' := [(2, .int r_128), (3, .int (1 : Int32)), (0, .ref x), (1, .int i1)]) hx hb dX10_act_134 rfl hl (by decide) rfl (fun ls hl => ?_)
                            refine lv_iload_n hx hb dX10_act_135 rfl (lv_at hl 1 rfl) ?_
                            refine hb_if_eq (zx := 1) (tgt := 149) hx hb (by decide) dX10_act_136 (by decide) (fun c_131 => absurd c_131 (by decide)) (fun c_131 => ?_)
                            refine lv_aload_n hx hb dX10_act_139 rfl (lv_at hl 2 rfl) ?_
                            refine lv_dup hx hb dX10_act_140 rfl ?_
                            refine hk_geti hx hb hts hC_10 hown hW (gx.S hM) tt_10 8 (by decide) rfl kw_1151 ⟨rfl, rfl, rfl⟩ fw_105 dX10_act_141 ?_
                            refine lv_iconst (v := 1) hx hb dX10_act_144 (by decide) ?_
                            refine lv_iadd hx hb dX10_act_145 ?_
                            have rg_132 := i32_r w_105
                            refine lv_topi (fun x_133 ex_133 => ?_)
                            have zx_133 : x_133.toInt = w_105.toInt + 1 := by rw [ex_133]; exact i32_add rfl (by decide) (by omega) (by omega)
                            refine hx_puti hx hb hts hC_10 hown hW hT (hx_S.rf (M := [(10, 8)])) (gx.S hM) tt_10 8 (by decide) rfl kw_1151 ⟨rfl, rfl, rfl⟩ rfl (x := x_133) ⟨by omega, by omega⟩ rfl rfl rfl (List.mem_singleton.mpr rfl) dX10_act_146 (fun H locs h_134 eh_134 hW hT hs => ?_)
                            replace f_x_1 := (hs.o (gx.S hM) trivial rfl).1.trans f_x_1
                            replace ffw81_x_7 := (hs.o (gx.S hM) trivial rfl).1.trans ffw81_x_7
                            replace fw_81 := (hs.o (gx.S hM) trivial rfl).1.trans fw_81
                            replace af_ql : h_134.2.1 ql = rf := (funext fun j => (hs.a (gql.S hM) rfl j).1).trans af_ql
                            replace af_qn : h_134.2.1 qn = psf := (funext fun j => (hs.a (gqn.S hM) rfl j).1).trans af_qn
                            replace af_qp : h_134.2.1 qp = prf := (funext fun j => (hs.a (gqp.S hM) rfl j).1).trans af_qp
                            replace fw_82 : h_134.2.1 qs = w_82 := (funext fun j => (hs.a (gqs.S hM) rfl j).1).trans fw_82
                            replace fw_83 : h_134.2.1 qr = w_83 := (funext fun j => (hs.a (gqr.S hM) rfl j).1).trans fw_83
                            replace hM := hM.tr (hs.mono (by decide))
                            have f_135 : h_134.2.1 x 8 = x_133 := by rw [eh_134]; exact hx_pi_at _ _ _ _
                            refine lv_iload_n hx hb dX10_act_149 rfl (lv_at hl 0 rfl) ?_
                            refine hb_if_eq (zx := r_128.toInt) (tgt := 81) hx hb rfl dX10_act_150 (by decide) (fun c_136 => ?_) (fun c_136 => by exfalso; omega)
                            have zk_1 : (1 : Int32).toInt = 1 := by decide
                            exact ih81 r_128 (1 : Int32) x_133 w_81 fw81_x_7 w_82 w_83 _ _ L_126 h_134 (by omega) (by omega) (by decide) (by decide) (by omega) (by omega) (by omega) (by omega) (by omega) (by omega) (fun z => hr_79.2.2 (by omega) |>.2) ls (by omega) hW hT hM f_135 fw_81 ffw81_x_7 f_x_1 fw_82 fw_83 af_ql af_qn af_qp (lv_sub hl [1, 0, 2, 3] rfl)
              have zk_1 : (1 : Int32).toInt = 1 := by decide
              have zk_0 : (0 : Int32).toInt = 0 := by decide
              exact loop81 404 (1 : Int32) (0 : Int32) w_37 w_29 fv_31 w_30 ia35_qr _ _ L_32 h_33 (by decide) (by decide) (by decide) (by decide) (by omega) (by omega) (by omega) (by omega) (by omega) (by omega) (fun _ => ⟨hr_28, hrd0⟩) ls (by omega) hW hT hM fw_37 fw_29 ffv_31 f_x_1 fw_30 nia35_qr af_ql af_qn af_qp hl
            · skip
              refine lv_iconst (v := 1) hx hb dX10_act_75 (by decide) ?_
              refine lv_goto (tgt := 80) hx hb dX10_act_76 (by decide) ?_
              refine lv_istore_n (lv' := [(3, .int (1 : Int32)), (2, .int (1 : Int32)), (0, .ref x), (1, .int i1)]) hx hb dX10_act_80 rfl hl (by decide) rfl (fun ls hl => ?_)
              have loop81 : ∀ (n81 : Nat) (iv81_2 iv81_3 fw81_x_8 fw81_x_14 fw81_x_7 : Int32) (ia81_qs ia81_qr : Nat → Int32) (H : Heap) (locs : List Loc) (hL1 : List Nat) (hl1 : hx_h), 0 ≤ iv81_2.toInt → iv81_2.toInt ≤ 1 → 0 ≤ iv81_3.toInt → iv81_3.toInt ≤ 1 → 0 ≤ fw81_x_8.toInt → fw81_x_8.toInt ≤ 402 → 0 ≤ fw81_x_14.toInt → fw81_x_14.toInt ≤ 128 → 0 ≤ fw81_x_7.toInt → fw81_x_7.toInt ≤ 400 → (iv81_2.toInt = 1 → hx_rp ia81_qs (fw81_x_14.toInt).toNat = some 1 ∧ hx_rk ia81_qr) → ∀ (ls : Array Slot), 402 - fw81_x_8.toInt + iv81_3.toInt < (n81 : Int) → hx_W T_tb (P_ty dA) (dC, dI) vwCl (hx_A L sz) s.heap hL1 hl1 s H locs → hx_T T_tb hL1 hl1 → hx_S T_tb [(10, 1), (10, 7), (10, 8), (10, 9), (10, 10), (10, 11), (10, 13), (10, 14), (10, 16), (10, 18), (49, 0), (50, 0), (51, 0), (52, 0), (54, 0), (55, 0), (56, 0)] L h hL1 hl1 → hl1.2.1 x 8 = fw81_x_8 → hl1.2.1 x 14 = fw81_x_14 → hl1.2.1 x 7 = fw81_x_7 → hl1.2.1 x 1 = a0 → hl1.2.1 qs = ia81_qs → hl1.2.1 qr = ia81_qr → hl1.2.1 ql = rf → hl1.2.1 qn = psf → hl1.2.1 qp = prf → lv_has ls 5 [(3, .int iv81_3), (2, .int iv81_2), (0, .ref x), (1, .int i1)] → W p l e ({ frames := 6, cells := 0, slots := 0, locals := 141 }) s m ([.ref x, .int i1] : List Value).toArray below meth c H locs 0 0 (MQ below (va_Qi (fun (r : Int32) (u : List Nat × hx_h) => (∃ (a1 : Int32) (rf1 : Nat → Int32) (psf1 : Nat → Int32) (prf1 : Nat → Int32), u.2.2.1 x 1 = a1 ∧ u.2.2.1 ql = rf1 ∧ u.2.2.1 qn = psf1 ∧ u.2.2.1 qp = prf1 ∧ (a0.toInt ≤ a1.toInt ∧ hx_WK rf1 a1.toInt ∧ hx_RP prf1 psf1 a1.toInt)) ∧ hx_T T_tb u.1 u.2 ∧ hx_S T_tb [(10, 1), (10, 7), (10, 8), (10, 9), (10, 10), (10, 11), (10, 13), (10, 14), (10, 16), (10, 18), (49, 0), (50, 0), (51, 0), (52, 0), (54, 0), (55, 0), (56, 0)] L h u.1 u.2) (hx_E T_tb (P_ty dA) (dC, dI) vwCl (hx_A L sz)) (hx_A L sz)) ([.ref x, .int i1] : List Value).toArray s 0 0 (hx_A L sz)) (F0 m 81 ls []) := by
                intro n81
                induction n81 with
                | zero => intro iv81_2 iv81_3 fw81_x_8 fw81_x_14 fw81_x_7 ia81_qs ia81_qr H locs hL1 hl1 bliv81_2 buiv81_2 bliv81_3 buiv81_3 blfw81_x_8 bufw81_x_8 blfw81_x_14 bufw81_x_14 blfw81_x_7 bufw81_x_7 vi81_0 ls hn81; exfalso; omega
                | succ n81 ih81 =>
                  intro iv81_2 iv81_3 fw81_x_8 fw81_x_14 fw81_x_7 ia81_qs ia81_qr H locs hL1 hl1 bliv81_2 buiv81_2 bliv81_3 buiv81_3 blfw81_x_8 bufw81_x_8 blfw81_x_14 bufw81_x_14 blfw81_x_7 bufw81_x_7 vi81_0 ls hn81 hW hT hM ffw81_x_8 ffw81_x_14 ffw81_x_7 f_x_1 nia81_qs nia81_qr af_ql af_qn af_qp hl
                  refine lv_iload_n hx hb dX10_act_81 rfl (lv_at hl 1 rfl) ?_
                  refine hb_if_eq (zx := iv81_2.toInt) (tgt := 178) hx hb rfl dX10_act_82 (by decide) (fun c_137 => ?_) (fun c_137 => ?_)
                  · skip
                    refine lv_aload_n hx hb dX10_act_178 rfl (lv_at hl 2 rfl) ?_
                    refine lv_iconst (v := 0) hx hb dX10_act_179 (by decide) ?_
                    refine hx_puti hx hb hts hC_10 hown hW hT (hx_S.rf (M := [(10, 7)])) (gx.S hM) tt_10 7 (by decide) rfl kw_1150 ⟨rfl, rfl, rfl⟩ rfl (x := (0 : Int32)) (by decide) rfl rfl rfl (List.mem_singleton.mpr rfl) dX10_act_180 (fun H locs h_138 eh_138 hW hT hs => ?_)
                    replace f_x_1 := (hs.o (gx.S hM) trivial rfl).1.trans f_x_1
                    replace ffw81_x_8 := (hs.o (gx.S hM) trivial rfl).1.trans ffw81_x_8
                    replace ffw81_x_14 := (hs.o (gx.S hM) trivial rfl).1.trans ffw81_x_14
                    replace af_ql : h_138.2.1 ql = rf := (funext fun j => (hs.a (gql.S hM) rfl j).1).trans af_ql
                    replace af_qn : h_138.2.1 qn = psf := (funext fun j => (hs.a (gqn.S hM) rfl j).1).trans af_qn
                    replace af_qp : h_138.2.1 qp = prf := (funext fun j => (hs.a (gqp.S hM) rfl j).1).trans af_qp
                    replace nia81_qs : h_138.2.1 qs = ia81_qs := (funext fun j => (hs.a (gqs.S hM) rfl j).1).trans nia81_qs
                    replace nia81_qr : h_138.2.1 qr = ia81_qr := (funext fun j => (hs.a (gqr.S hM) rfl j).1).trans nia81_qr
                    replace hM := hM.tr (hs.mono (by decide))
                    have f_139 : h_138.2.1 x 7 = (0 : Int32) := by rw [eh_138]; exact hx_pi_at _ _ _ _
                    refine lv_iload_n hx hb dX10_act_183 rfl (lv_at hl 1 rfl) ?_
                    refine hb_if_ne (zx := iv81_2.toInt) (tgt := 195) hx hb rfl dX10_act_184 (by decide) (fun c_140 => by exfalso; omega) (fun c_140 => ?_)
                    refine lv_bipush (v := -2) hx hb dX10_act_187 (by decide) ?_
                    refine lv_aload_n hx hb dX10_act_189 rfl (lv_at hl 2 rfl) ?_
                    refine hx_geti hx hb hts hC_10 hown hW hT (gx.S hM) tt_10 9 (by decide) rfl kw_1152 ⟨rfl, rfl, rfl⟩ dX10_act_190 (fun x_141 ex_141 lx_141 ux_141 => ?_)
                    have fx_141 := ex_141.symm
                    refine lv_isub hx hb dX10_act_193 ?_
                    have rg_142 := i32_r x_141
                    refine lv_topi (fun x_143 ex_143 => ?_)
                    exact hx_reti hx hb hr hlk hW ⟨⟨a0, rf, psf, prf, f_x_1, af_ql, af_qn, af_qp, ⟨by omega, hWK, hRP⟩⟩, hT, hM⟩ dX10_act_194
                  · skip
                    refine lv_iload_n hx hb dX10_act_85 rfl (lv_at hl 0 rfl) ?_
                    refine hb_if_eq (zx := iv81_3.toInt) (tgt := 178) hx hb rfl dX10_act_86 (by decide) (fun c_144 => ?_) (fun c_144 => ?_)
                    · skip
                      refine lv_aload_n hx hb dX10_act_178 rfl (lv_at hl 2 rfl) ?_
                      refine lv_iconst (v := 0) hx hb dX10_act_179 (by decide) ?_
                      refine hx_puti hx hb hts hC_10 hown hW hT (hx_S.rf (M := [(10, 7)])) (gx.S hM) tt_10 7 (by decide) rfl kw_1150 ⟨rfl, rfl, rfl⟩ rfl (x := (0 : Int32)) (by decide) rfl rfl rfl (List.mem_singleton.mpr rfl) dX10_act_180 (fun H locs h_145 eh_145 hW hT hs => ?_)
                      replace f_x_1 := (hs.o (gx.S hM) trivial rfl).1.trans f_x_1
                      replace ffw81_x_8 := (hs.o (gx.S hM) trivial rfl).1.trans ffw81_x_8
                      replace ffw81_x_14 := (hs.o (gx.S hM) trivial rfl).1.trans ffw81_x_14
                      replace af_ql : h_145.2.1 ql = rf := (funext fun j => (hs.a (gql.S hM) rfl j).1).trans af_ql
                      replace af_qn : h_145.2.1 qn = psf := (funext fun j => (hs.a (gqn.S hM) rfl j).1).trans af_qn
                      replace af_qp : h_145.2.1 qp = prf := (funext fun j => (hs.a (gqp.S hM) rfl j).1).trans af_qp
                      replace nia81_qs : h_145.2.1 qs = ia81_qs := (funext fun j => (hs.a (gqs.S hM) rfl j).1).trans nia81_qs
                      replace nia81_qr : h_145.2.1 qr = ia81_qr := (funext fun j => (hs.a (gqr.S hM) rfl j).1).trans nia81_qr
                      replace hM := hM.tr (hs.mono (by decide))
                      have f_146 : h_145.2.1 x 7 = (0 : Int32) := by rw [eh_145]; exact hx_pi_at _ _ _ _
                      refine lv_iload_n hx hb dX10_act_183 rfl (lv_at hl 1 rfl) ?_
                      refine hb_if_ne (zx := iv81_2.toInt) (tgt := 195) hx hb rfl dX10_act_184 (by decide) (fun c_147 => ?_) (fun c_147 => by exfalso; omega)
                      have hrpE := (vi81_0 (by omega)).1
                      have hrdE := (vi81_0 (by omega)).2
                      refine lv_aload_n hx hb dX10_act_195 rfl (lv_at hl 2 rfl) ?_
                      refine lv_dup hx hb dX10_act_196 rfl ?_
                      refine hk_geti hx hb hts hC_10 hown hW (gx.S hM) tt_10 1 (by decide) rfl kw_1144 ⟨rfl, rfl, rfl⟩ f_x_1 dX10_act_197 ?_
                      refine lv_iconst (v := 1) hx hb dX10_act_200 (by decide) ?_
                      refine lv_iadd hx hb dX10_act_201 ?_
                      have rg_148 := i32_r a0
                      refine lv_topi (fun x_149 ex_149 => ?_)
                      have zx_149 : x_149.toInt = a0.toInt + 1 := by rw [ex_149]; exact i32_add rfl (by decide) (by omega) (by omega)
                      refine hx_puti hx hb hts hC_10 hown hW hT (hx_S.rf (M := [(10, 1)])) (gx.S hM) tt_10 1 (by decide) rfl kw_1144 ⟨rfl, rfl, rfl⟩ rfl (x := x_149) ⟨by omega, by omega⟩ rfl rfl rfl (List.mem_singleton.mpr rfl) dX10_act_202 (fun H locs h_150 eh_150 hW hT hs => ?_)
                      replace ffw81_x_8 := (hs.o (gx.S hM) trivial rfl).1.trans ffw81_x_8
                      replace ffw81_x_14 := (hs.o (gx.S hM) trivial rfl).1.trans ffw81_x_14
                      replace f_146 := (hs.o (gx.S hM) trivial rfl).1.trans f_146
                      replace af_ql : h_150.2.1 ql = rf := (funext fun j => (hs.a (gql.S hM) rfl j).1).trans af_ql
                      replace af_qn : h_150.2.1 qn = psf := (funext fun j => (hs.a (gqn.S hM) rfl j).1).trans af_qn
                      replace af_qp : h_150.2.1 qp = prf := (funext fun j => (hs.a (gqp.S hM) rfl j).1).trans af_qp
                      replace nia81_qs : h_150.2.1 qs = ia81_qs := (funext fun j => (hs.a (gqs.S hM) rfl j).1).trans nia81_qs
                      replace nia81_qr : h_150.2.1 qr = ia81_qr := (funext fun j => (hs.a (gqr.S hM) rfl j).1).trans nia81_qr
                      replace hM := hM.tr (hs.mono (by decide))
                      have f_151 : h_150.2.1 x 1 = x_149 := by rw [eh_150]; exact hx_pi_at _ _ _ _
                      refine lv_aload_n hx hb dX10_act_205 rfl (lv_at hl 2 rfl) ?_
                      refine hx_getn hx hb hts hC_10 hown hW hT (gx.S hM) tt_10 2 (by decide) rfl kw_1145 ⟨rfl, rfl, rfl⟩ dX10_act_206 (fun q_152 fq_152 gq_152 => ?_)
                      refine lv_aload_n hx hb dX10_act_209 rfl (lv_at hl 2 rfl) ?_
                      refine hk_geti hx hb hts hC_10 hown hW (gx.S hM) tt_10 1 (by decide) rfl kw_1144 ⟨rfl, rfl, rfl⟩ f_151 dX10_act_210 ?_
                      refine lv_iload_n hx hb dX10_act_213 rfl (lv_at hl 3 rfl) ?_
                      refine hx_iast hx hb hW hT (hx_S.rf (M := [(49, 0)])) gq_152 tt_49 rfl ⟨by omega, by omega⟩ rfl (i32_r _) (List.mem_singleton.mpr rfl) dX10_act_214 (fun H locs h_153 eh_153 hW hT hs => ?_)
                      replace ffw81_x_8 := (hs.o (gx.S hM) trivial rfl).1.trans ffw81_x_8
                      replace ffw81_x_14 := (hs.o (gx.S hM) trivial rfl).1.trans ffw81_x_14
                      replace f_146 := (hs.o (gx.S hM) trivial rfl).1.trans f_146
                      replace f_151 := (hs.o (gx.S hM) trivial rfl).1.trans f_151
                      replace fq_152 := (hs.o (gx.S hM) trivial rfl).2.trans fq_152
                      replace af_ql : h_153.2.1 ql = rf := (funext fun j => (hs.a (gql.S hM) rfl j).1).trans af_ql
                      replace af_qn : h_153.2.1 qn = psf := (funext fun j => (hs.a (gqn.S hM) rfl j).1).trans af_qn
                      replace af_qp : h_153.2.1 qp = prf := (funext fun j => (hs.a (gqp.S hM) rfl j).1).trans af_qp
                      replace nia81_qs : h_153.2.1 qs = ia81_qs := (funext fun j => (hs.a (gqs.S hM) rfl j).1).trans nia81_qs
                      replace nia81_qr : h_153.2.1 qr = ia81_qr := (funext fun j => (hs.a (gqr.S hM) rfl j).1).trans nia81_qr
                      replace hM := hM.tr (hs.mono (by decide))
                      replace gq_152 := gq_152.S hs
                      refine lv_iconst (v := 0) hx hb dX10_act_215 (by decide) ?_
                      refine lv_istore (lv' := [(4, .int (0 : Int32)), (3, .int iv81_3), (2, .int iv81_2), (0, .ref x), (1, .int i1)]) hx hb dX10_act_216 hl (by decide) rfl (fun ls hl => ?_)
                      have loop218 : ∀ (n218 : Nat) (iv218_4 : Int32) (ia218_ql : Nat → Int32) (H : Heap) (locs : List Loc) (hL1 : List Nat) (hl1 : hx_h), 0 ≤ iv218_4.toInt → iv218_4.toInt ≤ 13 → (hx_wk1 ia218_ql x_149.toInt iv218_4.toInt) → ∀ (ls : Array Slot), 13 - iv218_4.toInt < (n218 : Int) → hx_W T_tb (P_ty dA) (dC, dI) vwCl (hx_A L sz) s.heap hL1 hl1 s H locs → hx_T T_tb hL1 hl1 → hx_S T_tb [(10, 1), (10, 7), (10, 8), (10, 9), (10, 10), (10, 11), (10, 13), (10, 14), (10, 16), (10, 18), (49, 0), (50, 0), (51, 0), (52, 0), (54, 0), (55, 0), (56, 0)] L h hL1 hl1 → hl1.2.1 x 14 = fw81_x_14 → hl1.2.1 x 1 = x_149 → hl1.2.2 x 2 = some q_152 → hx_g hL1 hl1 q_152 49 → hl1.2.1 ql = ia218_ql → hl1.2.1 qn = psf → hl1.2.1 qp = prf → hl1.2.1 qs = ia81_qs → hl1.2.1 qr = ia81_qr → lv_has ls 5 [(4, .int iv218_4), (3, .int iv81_3), (2, .int iv81_2), (0, .ref x), (1, .int i1)] → W p l e ({ frames := 6, cells := 0, slots := 0, locals := 141 }) s m ([.ref x, .int i1] : List Value).toArray below meth c H locs 0 0 (MQ below (va_Qi (fun (r : Int32) (u : List Nat × hx_h) => (∃ (a1 : Int32) (rf1 : Nat → Int32) (psf1 : Nat → Int32) (prf1 : Nat → Int32), u.2.2.1 x 1 = a1 ∧ u.2.2.1 ql = rf1 ∧ u.2.2.1 qn = psf1 ∧ u.2.2.1 qp = prf1 ∧ (a0.toInt ≤ a1.toInt ∧ hx_WK rf1 a1.toInt ∧ hx_RP prf1 psf1 a1.toInt)) ∧ hx_T T_tb u.1 u.2 ∧ hx_S T_tb [(10, 1), (10, 7), (10, 8), (10, 9), (10, 10), (10, 11), (10, 13), (10, 14), (10, 16), (10, 18), (49, 0), (50, 0), (51, 0), (52, 0), (54, 0), (55, 0), (56, 0)] L h u.1 u.2) (hx_E T_tb (P_ty dA) (dC, dI) vwCl (hx_A L sz)) (hx_A L sz)) ([.ref x, .int i1] : List Value).toArray s 0 0 (hx_A L sz)) (F0 m 218 ls []) := by
                        intro n218
                        induction n218 with
                        | zero => intro iv218_4 ia218_ql H locs hL1 hl1 bliv218_4 buiv218_4 vi218_0 ls hn218; exfalso; omega
                        | succ n218 ih218 =>
                          intro iv218_4 ia218_ql H locs hL1 hl1 bliv218_4 buiv218_4 vi218_0 ls hn218 hW hT hM ffw81_x_14 f_151 fq_152 gq_152 nia218_ql af_qn af_qp nia81_qs nia81_qr hl
                          refine lv_iload hx hb dX10_act_218 (lv_at hl 0 rfl) ?_
                          refine lv_bipush (v := 13) hx hb dX10_act_220 (by decide) ?_
                          refine hb_icmp_ge (zx := iv218_4.toInt) (zy := 13) (tgt := 253) hx hb rfl (by decide) dX10_act_222 (by decide) (fun c_154 => ?_) (fun c_154 => ?_)
                          · skip
                            refine lv_aload_n hx hb dX10_act_253 rfl (lv_at hl 3 rfl) ?_
                            refine lv_aload_n hx hb dX10_act_254 rfl (lv_at hl 3 rfl) ?_
                            refine hk_geti hx hb hts hC_10 hown hW (gx.S hM) tt_10 1 (by decide) rfl kw_1144 ⟨rfl, rfl, rfl⟩ f_151 dX10_act_255 ?_
                            refine hx_gov (hx_runV (As := [.int x_149]) (rest := []) ⟨hx, hb, hml, hown, hts⟩ hW (gx.S hM) tt_10 (T := TX10) (N := 98) rfl (t_X10_keepsProof l dC dI dA hL1 hl1 H.size x x_149 hT (gx.S hM) qs (gqs.S hM) ((hM.o gx trivial rfl).2.trans f_x_15) qn (gqn.S hM) ((hM.o gx trivial rfl).2.trans f_x_4) qp (gqp.S hM) ((hM.o gx trivial rfl).2.trans f_x_5) ia81_qs nia81_qs psf af_qn prf af_qp fw81_x_14 ffw81_x_14 ⟨by omega, by omega⟩) (cwV 1 hts (hx_gV kw_1142 kw_1139 kw_1141 kw_51 kw_103) rfl rfl rfl (by decide +kernel) ⟨Nat.le_of_ble_eq_true rfl, Nat.le_of_ble_eq_true rfl⟩) rfl hl.1 rfl (Nat.le_of_ble_eq_true rfl) dX10_act_258 ⟨Nat.le_of_ble_eq_true rfl, Nat.le_of_ble_eq_true rfl⟩) hW (fun L_155 h_156 H locs p_158 hW => ?_)
                            obtain ⟨⟨w_160, w_161, fw_160, fw_161, hr_159⟩, hT, hs⟩ := p_158
                            replace hT : hx_T T_tb L_155 h_156 := hT
                            replace hs : hx_S T_tb [(51, 0), (52, 0)] hL1 hl1 L_155 h_156 := hs
                            replace ffw81_x_14 := (hs.o (gx.S hM) trivial rfl).1.trans ffw81_x_14
                            replace f_151 := (hs.o (gx.S hM) trivial rfl).1.trans f_151
                            replace fq_152 := (hs.o (gx.S hM) trivial rfl).2.trans fq_152
                            replace nia81_qs : h_156.2.1 qs = ia81_qs := (funext fun j => (hs.a (gqs.S hM) rfl j).1).trans nia81_qs
                            replace nia81_qr : h_156.2.1 qr = ia81_qr := (funext fun j => (hs.a (gqr.S hM) rfl j).1).trans nia81_qr
                            replace nia218_ql : h_156.2.1 ql = ia218_ql := (funext fun j => (hs.a (gql.S hM) rfl j).1).trans nia218_ql
                            replace hM := hM.tr (hs.mono (by decide))
                            replace gq_152 := gq_152.S hs
                            have fw_160 : h_156.2.1 qn = w_160 := fw_160
                            have fw_161 : h_156.2.1 qp = w_161 := fw_161
                            refine lv_aload_n hx hb dX10_act_261 rfl (lv_at hl 3 rfl) ?_
                            refine hk_geti hx hb hts hC_10 hown hW (gx.S hM) tt_10 1 (by decide) rfl kw_1144 ⟨rfl, rfl, rfl⟩ f_151 dX10_act_262 ?_
                            refine lv_iconst (v := 1) hx hb dX10_act_265 (by decide) ?_
                            refine lv_isub hx hb dX10_act_266 ?_
                            have rg_162 := i32_r x_149
                            refine lv_topi (fun x_163 ex_163 => ?_)
                            have zx_163 : x_163.toInt = x_149.toInt - 1 := by rw [ex_163]; exact i32_sub rfl (by decide) (by omega) (by omega)
                            exact hx_reti hx hb hr hlk hW ⟨⟨x_149, ia218_ql, w_160, w_161, f_151, nia218_ql, fw_160, fw_161, ⟨by omega, hx_wk1_e vi218_0 (by omega), hx_RP_new hRP rfl (by omega) (by omega) (by omega) (by omega) hrpE hr_159.1 hr_159.2⟩⟩, hT, hM⟩ dX10_act_267
                          · skip
                            refine lv_aload_n hx hb dX10_act_225 rfl (lv_at hl 3 rfl) ?_
                            refine hk_getr hx hb hts hC_10 hown hW (gx.S hM) tt_10 3 (by decide) rfl kw_1146 ⟨rfl, rfl, rfl⟩ ((hM.o gx trivial rfl).2.trans f_x_3) dX10_act_226 ?_
                            refine lv_bipush (v := 13) hx hb dX10_act_229 (by decide) ?_
                            refine lv_aload_n hx hb dX10_act_231 rfl (lv_at hl 3 rfl) ?_
                            refine hk_geti hx hb hts hC_10 hown hW (gx.S hM) tt_10 1 (by decide) rfl kw_1144 ⟨rfl, rfl, rfl⟩ f_151 dX10_act_232 ?_
                            refine lv_imul hx hb dX10_act_235 ?_
                            refine lv_topi (fun x_164 ex_164 => ?_)
                            have zx_164 : x_164.toInt = 13 * x_149.toInt := by rw [ex_164]; exact i32_mul (by decide) rfl rfl (by omega) (by omega)
                            refine lv_iload hx hb dX10_act_236 (lv_at hl 0 rfl) ?_
                            refine lv_iadd hx hb dX10_act_238 ?_
                            have rg_165 := i32_r x_164
                            have rg_166 := i32_r iv218_4
                            refine lv_topi (fun x_167 ex_167 => ?_)
                            have zx_167 : x_167.toInt = x_164.toInt + iv218_4.toInt := by rw [ex_167]; exact i32_add rfl rfl (by omega) (by omega)
                            refine lv_aload_n hx hb dX10_act_239 rfl (lv_at hl 3 rfl) ?_
                            refine hk_getr hx hb hts hC_10 hown hW (gx.S hM) tt_10 12 (by decide) rfl kw_1155 ⟨rfl, rfl, rfl⟩ ((hM.o gx trivial rfl).2.trans f_x_12) dX10_act_240 ?_
                            refine lv_iload hx hb dX10_act_243 (lv_at hl 0 rfl) ?_
                            refine hx_iald hx hb hW hT (gqr.S hM) tt_54 rfl ⟨by omega, by omega⟩ dX10_act_245 (fun x_168 ex_168 lx_168 ux_168 => ?_)
                            have ax_168 : x_168 = ia81_qr iv218_4.toNatClampNeg := ex_168.trans (congrFun nia81_qr _)
                            have nia218_qlO := nia218_ql
                            refine hx_iast hx hb hW hT (hx_S.rf (M := [(50, 0)])) (gql.S hM) tt_50 rfl ⟨by omega, by omega⟩ rfl ⟨by omega, by omega⟩ (List.mem_singleton.mpr rfl) dX10_act_246 (fun H locs h_169 eh_169 hW hT hs => ?_)
                            replace ffw81_x_14 := (hs.o (gx.S hM) trivial rfl).1.trans ffw81_x_14
                            replace f_151 := (hs.o (gx.S hM) trivial rfl).1.trans f_151
                            replace fq_152 := (hs.o (gx.S hM) trivial rfl).2.trans fq_152
                            replace af_qn : h_169.2.1 qn = psf := (funext fun j => (hs.a (gqn.S hM) rfl j).1).trans af_qn
                            replace af_qp : h_169.2.1 qp = prf := (funext fun j => (hs.a (gqp.S hM) rfl j).1).trans af_qp
                            replace nia81_qs : h_169.2.1 qs = ia81_qs := (funext fun j => (hs.a (gqs.S hM) rfl j).1).trans nia81_qs
                            replace nia81_qr : h_169.2.1 qr = ia81_qr := (funext fun j => (hs.a (gqr.S hM) rfl j).1).trans nia81_qr
                            replace ex_168 := ex_168.trans (hs.a (gqr.S hM) rfl _).1.symm
                            replace hM := hM.tr (hs.mono (by decide))
                            replace gq_152 := gq_152.S hs
                            obtain ⟨fa_170, dfa_170⟩ : ∃ g : Nat → Int32, g = hx_up ia218_ql x_167.toNatClampNeg x_168 := ⟨_, rfl⟩
                            have nfa_170 : h_169.2.1 ql = fa_170 := by rw [eh_169, dfa_170, ← nia218_qlO]; exact hx_pi_fun _ _ _ _
                            obtain ⟨x_171, ex_171⟩ : ∃ y : Int32, y = iv218_4 + Int32.ofInt 1 := ⟨_, rfl⟩
                            have zx_171 : x_171.toInt = iv218_4.toInt + (1) := by rw [ex_171]; exact i32_add rfl (by decide) (by omega) (by omega)
                            refine lv_iinc (v := x_171) (lv' := [(4, .int x_171), (3, .int iv81_3), (2, .int iv81_2), (0, .ref x), (1, .int i1)]) hx hb dX10_act_247 hl (k := 0) rfl ex_171.symm (by decide) rfl (fun ls hl => ?_)
                            refine lv_goto (tgt := 218) hx hb dX10_act_250 (by decide) ?_
                            exact ih218 x_171 fa_170 _ _ hL1 h_169 (by omega) (by omega) (hx_wk1_s vi218_0 (by omega) (by omega) (by omega) (by omega) ax_168 rfl hrdE dfa_170 zx_171) ls (by omega) hW hT hM ffw81_x_14 f_151 fq_152 gq_152 nfa_170 af_qn af_qp nia81_qs nia81_qr (lv_sub hl [0, 1, 2, 3, 4] rfl)
                      have zk_0 : (0 : Int32).toInt = 0 := by decide
                      exact loop218 14 (0 : Int32) rf _ _ hL1 h_153 (by decide) (by decide) ⟨by rw [zx_149]; intro p h1 h2; exact hWK p h1 (by omega), hx_rk1_0⟩ ls (by omega) hW hT hM ffw81_x_14 f_151 fq_152 gq_152 af_ql af_qn af_qp nia81_qs nia81_qr hl
                    · skip
                      refine lv_aload_n hx hb dX10_act_89 rfl (lv_at hl 2 rfl) ?_
                      obtain ⟨fa_172, nfa_172⟩ : ∃ g : Nat → Int32, hl1.2.1 qo = g := ⟨_, rfl⟩
                      refine hx_goi (hx_runV (As := []) (rest := []) ⟨hx, hb, hml, hown, hts⟩ hW (gx.S hM) tt_10 (T := TX10) (N := 98) rfl (t_X10_clause l dC dI dA hL1 hl1 H.size x hT (gx.S hM) qs (gqs.S hM) ((hM.o gx trivial rfl).2.trans f_x_15) qo (gqo.S hM) ((hM.o gx trivial rfl).2.trans f_x_17) qt (gqt.S hM) ((hM.o gx trivial rfl).2.trans f_x_6) qw (gqw.S hM) ((hM.o gx trivial rfl).2.trans f_x_19) qr (gqr.S hM) ((hM.o gx trivial rfl).2.trans f_x_12) ia81_qs nia81_qs fa_172 nfa_172 tf (hx_afS hM gqt rfl af_qt) wf (hx_afS hM gqw rfl af_qw) ia81_qr nia81_qr fw81_x_8 ffw81_x_8 fw81_x_7 ffw81_x_7 fw81_x_14 ffw81_x_14 (vi81_0 (by omega)).1 (vi81_0 (by omega)).2 hwd) (cwV 0 hts (hx_gV kw_1472 kw_1469 kw_1471 kw_54 kw_103) rfl rfl rfl (by decide +kernel) ⟨Nat.le_of_ble_eq_true rfl, Nat.le_of_ble_eq_true rfl⟩) rfl hl.1 rfl (Nat.le_of_ble_eq_true rfl) dX10_act_90 ⟨Nat.le_of_ble_eq_true rfl, Nat.le_of_ble_eq_true rfl⟩) hW (fun r_175 L_173 h_174 H locs p_176 hW => ?_)
                      obtain ⟨⟨w_178, w_179, w_180, w_181, fw_178, fw_179, fw_180, fw_181, hr_177⟩, hT, hs⟩ := p_176
                      replace hT : hx_T T_tb L_173 h_174 := hT
                      replace hs : hx_S T_tb [(10, 8), (10, 9), (10, 10), (10, 11), (10, 13), (10, 14), (10, 16), (10, 18), (54, 0), (55, 0), (56, 0)] hL1 hl1 L_173 h_174 := hs
                      replace f_x_1 := (hs.o (gx.S hM) trivial rfl).1.trans f_x_1
                      replace ffw81_x_7 := (hs.o (gx.S hM) trivial rfl).1.trans ffw81_x_7
                      replace af_ql : h_174.2.1 ql = rf := (funext fun j => (hs.a (gql.S hM) rfl j).1).trans af_ql
                      replace af_qn : h_174.2.1 qn = psf := (funext fun j => (hs.a (gqn.S hM) rfl j).1).trans af_qn
                      replace af_qp : h_174.2.1 qp = prf := (funext fun j => (hs.a (gqp.S hM) rfl j).1).trans af_qp
                      replace hM := hM.tr (hs.mono (by decide))
                      have fw_178 : h_174.2.1 x 8 = w_178 := fw_178
                      have bw_178 := hT.gi (gx.S hM) tt_10 (k := 8) rfl
                      rw [fw_178] at bw_178
                      have bw_178 : 0 ≤ w_178.toInt ∧ w_178.toInt ≤ 402 := bw_178
                      have fw_179 : h_174.2.1 x 14 = w_179 := fw_179
                      have bw_179 := hT.gi (gx.S hM) tt_10 (k := 14) rfl
                      rw [fw_179] at bw_179
                      have bw_179 : 0 ≤ w_179.toInt ∧ w_179.toInt ≤ 128 := bw_179
                      have fw_180 : h_174.2.1 qs = w_180 := fw_180
                      have fw_181 : h_174.2.1 qr = w_181 := fw_181
                      refine lv_istore_n (lv' := [(2, .int r_175), (3, .int iv81_3), (0, .ref x), (1, .int i1)]) hx hb dX10_act_93 rfl hl (by decide) rfl (fun ls hl => ?_)
                      refine lv_iload_n hx hb dX10_act_94 rfl (lv_at hl 0 rfl) ?_
                      refine hb_if_eq (zx := r_175.toInt) (tgt := 110) hx hb rfl dX10_act_95 (by decide) (fun c_182 => ?_) (fun c_182 => ?_)
                      · skip
                        refine lv_iconst (v := 0) hx hb dX10_act_110 (by decide) ?_
                        refine lv_istore_n (lv' := [(3, .int (0 : Int32)), (2, .int r_175), (0, .ref x), (1, .int i1)]) hx hb dX10_act_111 rfl hl (by decide) rfl (fun ls hl => ?_)
                        refine lv_iload_n hx hb dX10_act_112 rfl (lv_at hl 0 rfl) ?_
                        refine hb_if_eq (zx := 0) (tgt := 135) hx hb (by decide) dX10_act_113 (by decide) (fun c_183 => ?_) (fun c_183 => absurd c_183 (by decide))
                        refine lv_iload_n hx hb dX10_act_135 rfl (lv_at hl 0 rfl) ?_
                        refine hb_if_eq (zx := 0) (tgt := 149) hx hb (by decide) dX10_act_136 (by decide) (fun c_184 => ?_) (fun c_184 => absurd c_184 (by decide))
                        refine lv_iload_n hx hb dX10_act_149 rfl (lv_at hl 1 rfl) ?_
                        refine hb_if_eq (zx := r_175.toInt) (tgt := 81) hx hb rfl dX10_act_150 (by decide) (fun c_185 => ?_) (fun c_185 => by exfalso; omega)
                        have zk_0 : (0 : Int32).toInt = 0 := by decide
                        exact ih81 r_175 (0 : Int32) w_178 w_179 fw81_x_7 w_180 w_181 _ _ L_173 h_174 (by omega) (by omega) (by decide) (by decide) (by omega) (by omega) (by omega) (by omega) (by omega) (by omega) (fun z => hr_177.2.2 (by omega) |>.2) ls (by omega) hW hT hM fw_178 fw_179 ffw81_x_7 f_x_1 fw_180 fw_181 af_ql af_qn af_qp (lv_sub hl [0, 1, 2, 3] rfl)
                      · skip
                        refine lv_aload_n hx hb dX10_act_98 rfl (lv_at hl 2 rfl) ?_
                        refine hx_goi (hx_runV (As := []) (rest := []) ⟨hx, hb, hml, hown, hts⟩ hW (gx.S hM) tt_10 (T := TX10) (N := 98) rfl (t_X10_see l dC dI dA L_173 h_174 H.size x hT (gx.S hM) qt (gqt.S hM) ((hM.o gx trivial rfl).2.trans f_x_6) tf (hx_afS hM gqt rfl af_qt) w_178 fw_178 fw81_x_7 ffw81_x_7) (cwV 0 hts (hx_gV kw_1468 kw_1465 kw_1467 kw_53 kw_103) rfl rfl rfl (by decide +kernel) ⟨Nat.le_of_ble_eq_true rfl, Nat.le_of_ble_eq_true rfl⟩) rfl hl.1 rfl (Nat.le_of_ble_eq_true rfl) dX10_act_99 ⟨Nat.le_of_ble_eq_true rfl, Nat.le_of_ble_eq_true rfl⟩) hW (fun r_188 L_186 h_187 H locs p_189 hW => ?_)
                        obtain ⟨⟨w_191, fw_191, hr_190⟩, hT, hs⟩ := p_189
                        replace hT : hx_T T_tb L_186 h_187 := hT
                        replace hs : hx_S T_tb [(10, 8)] L_173 h_174 L_186 h_187 := hs
                        replace f_x_1 := (hs.o (gx.S hM) trivial rfl).1.trans f_x_1
                        replace ffw81_x_7 := (hs.o (gx.S hM) trivial rfl).1.trans ffw81_x_7
                        replace fw_179 := (hs.o (gx.S hM) trivial rfl).1.trans fw_179
                        replace af_ql : h_187.2.1 ql = rf := (funext fun j => (hs.a (gql.S hM) rfl j).1).trans af_ql
                        replace af_qn : h_187.2.1 qn = psf := (funext fun j => (hs.a (gqn.S hM) rfl j).1).trans af_qn
                        replace af_qp : h_187.2.1 qp = prf := (funext fun j => (hs.a (gqp.S hM) rfl j).1).trans af_qp
                        replace fw_180 : h_187.2.1 qs = w_180 := (funext fun j => (hs.a (gqs.S hM) rfl j).1).trans fw_180
                        replace fw_181 : h_187.2.1 qr = w_181 := (funext fun j => (hs.a (gqr.S hM) rfl j).1).trans fw_181
                        replace hM := hM.tr (hs.mono (by decide))
                        have fw_191 : h_187.2.1 x 8 = w_191 := fw_191
                        have bw_191 := hT.gi (gx.S hM) tt_10 (k := 8) rfl
                        rw [fw_191] at bw_191
                        have bw_191 : 0 ≤ w_191.toInt ∧ w_191.toInt ≤ 402 := bw_191
                        refine lv_iconst (v := -1) hx hb dX10_act_102 (by decide) ?_
                        refine hb_icmp_eq (zx := r_188.toInt) (zy := (-1)) (tgt := 110) hx hb rfl (by decide) dX10_act_103 (by decide) (fun c_192 => ?_) (fun c_192 => ?_)
                        · skip
                          refine lv_iconst (v := 0) hx hb dX10_act_110 (by decide) ?_
                          refine lv_istore_n (lv' := [(3, .int (0 : Int32)), (2, .int r_175), (0, .ref x), (1, .int i1)]) hx hb dX10_act_111 rfl hl (by decide) rfl (fun ls hl => ?_)
                          refine lv_iload_n hx hb dX10_act_112 rfl (lv_at hl 0 rfl) ?_
                          refine hb_if_eq (zx := 0) (tgt := 135) hx hb (by decide) dX10_act_113 (by decide) (fun c_193 => ?_) (fun c_193 => absurd c_193 (by decide))
                          refine lv_iload_n hx hb dX10_act_135 rfl (lv_at hl 0 rfl) ?_
                          refine hb_if_eq (zx := 0) (tgt := 149) hx hb (by decide) dX10_act_136 (by decide) (fun c_194 => ?_) (fun c_194 => absurd c_194 (by decide))
                          refine lv_iload_n hx hb dX10_act_149 rfl (lv_at hl 1 rfl) ?_
                          refine hb_if_eq (zx := r_175.toInt) (tgt := 81) hx hb rfl dX10_act_150 (by decide) (fun c_195 => by exfalso; omega) (fun c_195 => ?_)
                          refine lv_iload_n hx hb dX10_act_153 rfl (lv_at hl 0 rfl) ?_
                          refine hb_if_eq (zx := 0) (tgt := 81) hx hb (by decide) dX10_act_154 (by decide) (fun c_196 => ?_) (fun c_196 => absurd c_196 (by decide))
                          have zk_0 : (0 : Int32).toInt = 0 := by decide
                          exact ih81 r_175 (0 : Int32) w_191 w_179 fw81_x_7 w_180 w_181 _ _ L_186 h_187 (by omega) (by omega) (by decide) (by decide) (by omega) (by omega) (by omega) (by omega) (by omega) (by omega) (fun z => hr_177.2.2 (by omega) |>.2) ls (by omega) hW hT hM fw_191 fw_179 ffw81_x_7 f_x_1 fw_180 fw_181 af_ql af_qn af_qp (lv_sub hl [0, 1, 2, 3] rfl)
                        · skip
                          refine lv_iconst (v := 1) hx hb dX10_act_106 (by decide) ?_
                          refine lv_goto (tgt := 111) hx hb dX10_act_107 (by decide) ?_
                          refine lv_istore_n (lv' := [(3, .int (1 : Int32)), (2, .int r_175), (0, .ref x), (1, .int i1)]) hx hb dX10_act_111 rfl hl (by decide) rfl (fun ls hl => ?_)
                          refine lv_iload_n hx hb dX10_act_112 rfl (lv_at hl 0 rfl) ?_
                          refine hb_if_eq (zx := 1) (tgt := 135) hx hb (by decide) dX10_act_113 (by decide) (fun c_197 => absurd c_197 (by decide)) (fun c_197 => ?_)
                          refine lv_aload_n hx hb dX10_act_116 rfl (lv_at hl 2 rfl) ?_
                          refine hx_goi (hx_runV (As := []) (rest := []) ⟨hx, hb, hml, hown, hts⟩ hW (gx.S hM) tt_10 (T := TX10) (N := 98) rfl (t_X10_see l dC dI dA L_186 h_187 H.size x hT (gx.S hM) qt (gqt.S hM) ((hM.o gx trivial rfl).2.trans f_x_6) tf (hx_afS hM gqt rfl af_qt) w_191 fw_191 fw81_x_7 ffw81_x_7) (cwV 0 hts (hx_gV kw_1468 kw_1465 kw_1467 kw_53 kw_103) rfl rfl rfl (by decide +kernel) ⟨Nat.le_of_ble_eq_true rfl, Nat.le_of_ble_eq_true rfl⟩) rfl hl.1 rfl (Nat.le_of_ble_eq_true rfl) dX10_act_117 ⟨Nat.le_of_ble_eq_true rfl, Nat.le_of_ble_eq_true rfl⟩) hW (fun r_200 L_198 h_199 H locs p_201 hW => ?_)
                          obtain ⟨⟨w_203, fw_203, hr_202⟩, hT, hs⟩ := p_201
                          replace hT : hx_T T_tb L_198 h_199 := hT
                          replace hs : hx_S T_tb [(10, 8)] L_186 h_187 L_198 h_199 := hs
                          replace f_x_1 := (hs.o (gx.S hM) trivial rfl).1.trans f_x_1
                          replace ffw81_x_7 := (hs.o (gx.S hM) trivial rfl).1.trans ffw81_x_7
                          replace fw_179 := (hs.o (gx.S hM) trivial rfl).1.trans fw_179
                          replace af_ql : h_199.2.1 ql = rf := (funext fun j => (hs.a (gql.S hM) rfl j).1).trans af_ql
                          replace af_qn : h_199.2.1 qn = psf := (funext fun j => (hs.a (gqn.S hM) rfl j).1).trans af_qn
                          replace af_qp : h_199.2.1 qp = prf := (funext fun j => (hs.a (gqp.S hM) rfl j).1).trans af_qp
                          replace fw_180 : h_199.2.1 qs = w_180 := (funext fun j => (hs.a (gqs.S hM) rfl j).1).trans fw_180
                          replace fw_181 : h_199.2.1 qr = w_181 := (funext fun j => (hs.a (gqr.S hM) rfl j).1).trans fw_181
                          replace hM := hM.tr (hs.mono (by decide))
                          have fw_203 : h_199.2.1 x 8 = w_203 := fw_203
                          have bw_203 := hT.gi (gx.S hM) tt_10 (k := 8) rfl
                          rw [fw_203] at bw_203
                          have bw_203 : 0 ≤ w_203.toInt ∧ w_203.toInt ≤ 402 := bw_203
                          refine lv_bipush (v := 59) hx hb dX10_act_120 (by decide) ?_
                          refine hb_icmp_eq (zx := r_200.toInt) (zy := 59) (tgt := 135) hx hb rfl (by decide) dX10_act_122 (by decide) (fun c_204 => ?_) (fun c_204 => ?_)
                          · skip
                            refine lv_iload_n hx hb dX10_act_135 rfl (lv_at hl 0 rfl) ?_
                            refine hb_if_eq (zx := 1) (tgt := 149) hx hb (by decide) dX10_act_136 (by decide) (fun c_205 => absurd c_205 (by decide)) (fun c_205 => ?_)
                            refine lv_aload_n hx hb dX10_act_139 rfl (lv_at hl 2 rfl) ?_
                            refine lv_dup hx hb dX10_act_140 rfl ?_
                            refine hk_geti hx hb hts hC_10 hown hW (gx.S hM) tt_10 8 (by decide) rfl kw_1151 ⟨rfl, rfl, rfl⟩ fw_203 dX10_act_141 ?_
                            refine lv_iconst (v := 1) hx hb dX10_act_144 (by decide) ?_
                            refine lv_iadd hx hb dX10_act_145 ?_
                            have rg_206 := i32_r w_203
                            refine lv_topi (fun x_207 ex_207 => ?_)
                            have zx_207 : x_207.toInt = w_203.toInt + 1 := by rw [ex_207]; exact i32_add rfl (by decide) (by omega) (by omega)
                            refine hx_puti hx hb hts hC_10 hown hW hT (hx_S.rf (M := [(10, 8)])) (gx.S hM) tt_10 8 (by decide) rfl kw_1151 ⟨rfl, rfl, rfl⟩ rfl (x := x_207) ⟨by omega, by omega⟩ rfl rfl rfl (List.mem_singleton.mpr rfl) dX10_act_146 (fun H locs h_208 eh_208 hW hT hs => ?_)
                            replace f_x_1 := (hs.o (gx.S hM) trivial rfl).1.trans f_x_1
                            replace ffw81_x_7 := (hs.o (gx.S hM) trivial rfl).1.trans ffw81_x_7
                            replace fw_179 := (hs.o (gx.S hM) trivial rfl).1.trans fw_179
                            replace af_ql : h_208.2.1 ql = rf := (funext fun j => (hs.a (gql.S hM) rfl j).1).trans af_ql
                            replace af_qn : h_208.2.1 qn = psf := (funext fun j => (hs.a (gqn.S hM) rfl j).1).trans af_qn
                            replace af_qp : h_208.2.1 qp = prf := (funext fun j => (hs.a (gqp.S hM) rfl j).1).trans af_qp
                            replace fw_180 : h_208.2.1 qs = w_180 := (funext fun j => (hs.a (gqs.S hM) rfl j).1).trans fw_180
                            replace fw_181 : h_208.2.1 qr = w_181 := (funext fun j => (hs.a (gqr.S hM) rfl j).1).trans fw_181
                            replace hM := hM.tr (hs.mono (by decide))
                            have f_209 : h_208.2.1 x 8 = x_207 := by rw [eh_208]; exact hx_pi_at _ _ _ _
                            refine lv_iload_n hx hb dX10_act_149 rfl (lv_at hl 1 rfl) ?_
                            refine hb_if_eq (zx := r_175.toInt) (tgt := 81) hx hb rfl dX10_act_150 (by decide) (fun c_210 => by exfalso; omega) (fun c_210 => ?_)
                            refine lv_iload_n hx hb dX10_act_153 rfl (lv_at hl 0 rfl) ?_
                            refine hb_if_eq (zx := 1) (tgt := 81) hx hb (by decide) dX10_act_154 (by decide) (fun c_211 => absurd c_211 (by decide)) (fun c_211 => ?_)
                            refine lv_aload_n hx hb dX10_act_157 rfl (lv_at hl 2 rfl) ?_
                            refine hx_goi (hx_runV (As := []) (rest := []) ⟨hx, hb, hml, hown, hts⟩ hW (gx.S hM) tt_10 (T := TX10) (N := 98) rfl (t_X10_see l dC dI dA L_198 h_208 H.size x hT (gx.S hM) qt (gqt.S hM) ((hM.o gx trivial rfl).2.trans f_x_6) tf (hx_afS hM gqt rfl af_qt) x_207 f_209 fw81_x_7 ffw81_x_7) (cwV 0 hts (hx_gV kw_1468 kw_1465 kw_1467 kw_53 kw_103) rfl rfl rfl (by decide +kernel) ⟨Nat.le_of_ble_eq_true rfl, Nat.le_of_ble_eq_true rfl⟩) rfl hl.1 rfl (Nat.le_of_ble_eq_true rfl) dX10_act_158 ⟨Nat.le_of_ble_eq_true rfl, Nat.le_of_ble_eq_true rfl⟩) hW (fun r_214 L_212 h_213 H locs p_215 hW => ?_)
                            obtain ⟨⟨w_217, fw_217, hr_216⟩, hT, hs⟩ := p_215
                            replace hT : hx_T T_tb L_212 h_213 := hT
                            replace hs : hx_S T_tb [(10, 8)] L_198 h_208 L_212 h_213 := hs
                            replace f_x_1 := (hs.o (gx.S hM) trivial rfl).1.trans f_x_1
                            replace ffw81_x_7 := (hs.o (gx.S hM) trivial rfl).1.trans ffw81_x_7
                            replace fw_179 := (hs.o (gx.S hM) trivial rfl).1.trans fw_179
                            replace af_ql : h_213.2.1 ql = rf := (funext fun j => (hs.a (gql.S hM) rfl j).1).trans af_ql
                            replace af_qn : h_213.2.1 qn = psf := (funext fun j => (hs.a (gqn.S hM) rfl j).1).trans af_qn
                            replace af_qp : h_213.2.1 qp = prf := (funext fun j => (hs.a (gqp.S hM) rfl j).1).trans af_qp
                            replace fw_180 : h_213.2.1 qs = w_180 := (funext fun j => (hs.a (gqs.S hM) rfl j).1).trans fw_180
                            replace fw_181 : h_213.2.1 qr = w_181 := (funext fun j => (hs.a (gqr.S hM) rfl j).1).trans fw_181
                            replace hM := hM.tr (hs.mono (by decide))
                            have fw_217 : h_213.2.1 x 8 = w_217 := fw_217
                            have bw_217 := hT.gi (gx.S hM) tt_10 (k := 8) rfl
                            rw [fw_217] at bw_217
                            have bw_217 : 0 ≤ w_217.toInt ∧ w_217.toInt ≤ 402 := bw_217
                            refine lv_iconst (v := -1) hx hb dX10_act_161 (by decide) ?_
                            refine hb_icmp_ne (zx := r_214.toInt) (zy := (-1)) (tgt := 81) hx hb rfl (by decide) dX10_act_162 (by decide) (fun c_218 => ?_) (fun c_218 => ?_)
                            · skip
                              have zk_1 : (1 : Int32).toInt = 1 := by decide
                              exact ih81 r_175 (1 : Int32) w_217 w_179 fw81_x_7 w_180 w_181 _ _ L_212 h_213 (by omega) (by omega) (by decide) (by decide) (by omega) (by omega) (by omega) (by omega) (by omega) (by omega) (fun z => hr_177.2.2 (by omega) |>.2) ls (by omega) hW hT hM fw_217 fw_179 ffw81_x_7 f_x_1 fw_180 fw_181 af_ql af_qn af_qp (lv_sub hl [0, 1, 2, 3] rfl)
                            · skip
                              refine lv_aload_n hx hb dX10_act_165 rfl (lv_at hl 2 rfl) ?_
                              refine lv_iconst (v := 0) hx hb dX10_act_166 (by decide) ?_
                              refine lv_aload_n hx hb dX10_act_167 rfl (lv_at hl 2 rfl) ?_
                              refine hk_geti hx hb hts hC_10 hown hW (gx.S hM) tt_10 8 (by decide) rfl kw_1151 ⟨rfl, rfl, rfl⟩ fw_217 dX10_act_168 ?_
                              have zc_0 : (0 : Int32).toInt = 0 := by decide
                              refine hx_goi (hx_runV (As := [.int (0 : Int32), .int w_217]) (rest := []) ⟨hx, hb, hml, hown, hts⟩ hW (gx.S hM) tt_10 (T := TX10) (N := 98) rfl (t_X10_fails l dC dI dA L_212 h_213 H.size x (0 : Int32) w_217 hT (gx.S hM)) (cwV 2 hts (hx_gV kw_1480 kw_1477 kw_1479 kw_56 kw_103) rfl rfl rfl (by decide +kernel) ⟨Nat.le_of_ble_eq_true rfl, Nat.le_of_ble_eq_true rfl⟩) rfl hl.1 rfl (Nat.le_of_ble_eq_true rfl) dX10_act_171 ⟨Nat.le_of_ble_eq_true rfl, Nat.le_of_ble_eq_true rfl⟩) hW (fun r_221 L_219 h_220 H locs p_222 hW => ?_)
                              obtain ⟨hr_223, hT, hs⟩ := p_222
                              replace hT : hx_T T_tb L_219 h_220 := hT
                              replace hs : hx_S T_tb [(10, 9)] L_212 h_213 L_219 h_220 := hs
                              replace f_x_1 := (hs.o (gx.S hM) trivial rfl).1.trans f_x_1
                              replace ffw81_x_7 := (hs.o (gx.S hM) trivial rfl).1.trans ffw81_x_7
                              replace fw_179 := (hs.o (gx.S hM) trivial rfl).1.trans fw_179
                              replace fw_217 := (hs.o (gx.S hM) trivial rfl).1.trans fw_217
                              replace af_ql : h_220.2.1 ql = rf := (funext fun j => (hs.a (gql.S hM) rfl j).1).trans af_ql
                              replace af_qn : h_220.2.1 qn = psf := (funext fun j => (hs.a (gqn.S hM) rfl j).1).trans af_qn
                              replace af_qp : h_220.2.1 qp = prf := (funext fun j => (hs.a (gqp.S hM) rfl j).1).trans af_qp
                              replace fw_180 : h_220.2.1 qs = w_180 := (funext fun j => (hs.a (gqs.S hM) rfl j).1).trans fw_180
                              replace fw_181 : h_220.2.1 qr = w_181 := (funext fun j => (hs.a (gqr.S hM) rfl j).1).trans fw_181
                              replace hM := hM.tr (hs.mono (by decide))
                              refine lv_istore_n (lv' := [(2, .int r_221), (3, .int (1 : Int32)), (0, .ref x), (1, .int i1)]) hx hb dX10_act_174 rfl hl (by decide) rfl (fun ls hl => ?_)
                              refine lv_goto (tgt := 81) hx hb dX10_act_175 (by decide) ?_
                              have zk_1 : (1 : Int32).toInt = 1 := by decide
                              exact ih81 r_221 (1 : Int32) w_217 w_179 fw81_x_7 w_180 w_181 _ _ L_219 h_220 (by omega) (by omega) (by decide) (by decide) (by omega) (by omega) (by omega) (by omega) (by omega) (by omega) (fun z => hr_177.2.2 (by omega) |>.2) ls (by omega) hW hT hM fw_217 fw_179 ffw81_x_7 f_x_1 fw_180 fw_181 af_ql af_qn af_qp (lv_sub hl [1, 0, 2, 3] rfl)
                          · skip
                            refine lv_aload_n hx hb dX10_act_125 rfl (lv_at hl 2 rfl) ?_
                            refine lv_iconst (v := 0) hx hb dX10_act_126 (by decide) ?_
                            refine lv_aload_n hx hb dX10_act_127 rfl (lv_at hl 2 rfl) ?_
                            refine hk_geti hx hb hts hC_10 hown hW (gx.S hM) tt_10 8 (by decide) rfl kw_1151 ⟨rfl, rfl, rfl⟩ fw_203 dX10_act_128 ?_
                            have zc_0 : (0 : Int32).toInt = 0 := by decide
                            refine hx_goi (hx_runV (As := [.int (0 : Int32), .int w_203]) (rest := []) ⟨hx, hb, hml, hown, hts⟩ hW (gx.S hM) tt_10 (T := TX10) (N := 98) rfl (t_X10_fails l dC dI dA L_198 h_199 H.size x (0 : Int32) w_203 hT (gx.S hM)) (cwV 2 hts (hx_gV kw_1480 kw_1477 kw_1479 kw_56 kw_103) rfl rfl rfl (by decide +kernel) ⟨Nat.le_of_ble_eq_true rfl, Nat.le_of_ble_eq_true rfl⟩) rfl hl.1 rfl (Nat.le_of_ble_eq_true rfl) dX10_act_131 ⟨Nat.le_of_ble_eq_true rfl, Nat.le_of_ble_eq_true rfl⟩) hW (fun r_226 L_224 h_225 H locs p_227 hW => ?_)
                            obtain ⟨hr_228, hT, hs⟩ := p_227
                            replace hT : hx_T T_tb L_224 h_225 := hT
                            replace hs : hx_S T_tb [(10, 9)] L_198 h_199 L_224 h_225 := hs
                            replace f_x_1 := (hs.o (gx.S hM) trivial rfl).1.trans f_x_1
                            replace ffw81_x_7 := (hs.o (gx.S hM) trivial rfl).1.trans ffw81_x_7
                            replace fw_179 := (hs.o (gx.S hM) trivial rfl).1.trans fw_179
                            replace fw_203 := (hs.o (gx.S hM) trivial rfl).1.trans fw_203
                            replace af_ql : h_225.2.1 ql = rf := (funext fun j => (hs.a (gql.S hM) rfl j).1).trans af_ql
                            replace af_qn : h_225.2.1 qn = psf := (funext fun j => (hs.a (gqn.S hM) rfl j).1).trans af_qn
                            replace af_qp : h_225.2.1 qp = prf := (funext fun j => (hs.a (gqp.S hM) rfl j).1).trans af_qp
                            replace fw_180 : h_225.2.1 qs = w_180 := (funext fun j => (hs.a (gqs.S hM) rfl j).1).trans fw_180
                            replace fw_181 : h_225.2.1 qr = w_181 := (funext fun j => (hs.a (gqr.S hM) rfl j).1).trans fw_181
                            replace hM := hM.tr (hs.mono (by decide))
                            refine lv_istore_n (lv' := [(2, .int r_226), (3, .int (1 : Int32)), (0, .ref x), (1, .int i1)]) hx hb dX10_act_134 rfl hl (by decide) rfl (fun ls hl => ?_)
                            refine lv_iload_n hx hb dX10_act_135 rfl (lv_at hl 1 rfl) ?_
                            refine hb_if_eq (zx := 1) (tgt := 149) hx hb (by decide) dX10_act_136 (by decide) (fun c_229 => absurd c_229 (by decide)) (fun c_229 => ?_)
                            refine lv_aload_n hx hb dX10_act_139 rfl (lv_at hl 2 rfl) ?_
                            refine lv_dup hx hb dX10_act_140 rfl ?_
                            refine hk_geti hx hb hts hC_10 hown hW (gx.S hM) tt_10 8 (by decide) rfl kw_1151 ⟨rfl, rfl, rfl⟩ fw_203 dX10_act_141 ?_
                            refine lv_iconst (v := 1) hx hb dX10_act_144 (by decide) ?_
                            refine lv_iadd hx hb dX10_act_145 ?_
                            have rg_230 := i32_r w_203
                            refine lv_topi (fun x_231 ex_231 => ?_)
                            have zx_231 : x_231.toInt = w_203.toInt + 1 := by rw [ex_231]; exact i32_add rfl (by decide) (by omega) (by omega)
                            refine hx_puti hx hb hts hC_10 hown hW hT (hx_S.rf (M := [(10, 8)])) (gx.S hM) tt_10 8 (by decide) rfl kw_1151 ⟨rfl, rfl, rfl⟩ rfl (x := x_231) ⟨by omega, by omega⟩ rfl rfl rfl (List.mem_singleton.mpr rfl) dX10_act_146 (fun H locs h_232 eh_232 hW hT hs => ?_)
                            replace f_x_1 := (hs.o (gx.S hM) trivial rfl).1.trans f_x_1
                            replace ffw81_x_7 := (hs.o (gx.S hM) trivial rfl).1.trans ffw81_x_7
                            replace fw_179 := (hs.o (gx.S hM) trivial rfl).1.trans fw_179
                            replace af_ql : h_232.2.1 ql = rf := (funext fun j => (hs.a (gql.S hM) rfl j).1).trans af_ql
                            replace af_qn : h_232.2.1 qn = psf := (funext fun j => (hs.a (gqn.S hM) rfl j).1).trans af_qn
                            replace af_qp : h_232.2.1 qp = prf := (funext fun j => (hs.a (gqp.S hM) rfl j).1).trans af_qp
                            replace fw_180 : h_232.2.1 qs = w_180 := (funext fun j => (hs.a (gqs.S hM) rfl j).1).trans fw_180
                            replace fw_181 : h_232.2.1 qr = w_181 := (funext fun j => (hs.a (gqr.S hM) rfl j).1).trans fw_181
                            replace hM := hM.tr (hs.mono (by decide))
                            have f_233 : h_232.2.1 x 8 = x_231 := by rw [eh_232]; exact hx_pi_at _ _ _ _
                            refine lv_iload_n hx hb dX10_act_149 rfl (lv_at hl 0 rfl) ?_
                            refine hb_if_eq (zx := r_226.toInt) (tgt := 81) hx hb rfl dX10_act_150 (by decide) (fun c_234 => ?_) (fun c_234 => by exfalso; omega)
                            have zk_1 : (1 : Int32).toInt = 1 := by decide
                            exact ih81 r_226 (1 : Int32) x_231 w_179 fw81_x_7 w_180 w_181 _ _ L_224 h_232 (by omega) (by omega) (by decide) (by decide) (by omega) (by omega) (by omega) (by omega) (by omega) (by omega) (fun z => hr_177.2.2 (by omega) |>.2) ls (by omega) hW hT hM f_233 fw_179 ffw81_x_7 f_x_1 fw_180 fw_181 af_ql af_qn af_qp (lv_sub hl [1, 0, 2, 3] rfl)
              have zk_1 : (1 : Int32).toInt = 1 := by decide
              have zk_1 : (1 : Int32).toInt = 1 := by decide
              exact loop81 404 (1 : Int32) (1 : Int32) w_37 w_29 fv_31 w_30 ia35_qr _ _ L_32 h_33 (by decide) (by decide) (by decide) (by decide) (by omega) (by omega) (by omega) (by omega) (by omega) (by omega) (fun _ => ⟨hr_28, hrd0⟩) ls (by omega) hW hT hM fw_37 fw_29 ffv_31 f_x_1 fw_30 nia35_qr af_ql af_qn af_qp hl
          · skip
            refine lv_aload_n hx hb dX10_act_41 rfl (lv_at hl 1 rfl) ?_
            refine hk_getr hx hb hts hC_10 hown hW (gx.S hM) tt_10 12 (by decide) rfl kw_1155 ⟨rfl, rfl, rfl⟩ ((hM.o gx trivial rfl).2.trans f_x_12) dX10_act_42 ?_
            refine lv_iload_n hx hb dX10_act_45 rfl (lv_at hl 0 rfl) ?_
            refine lv_iload_n hx hb dX10_act_46 rfl (lv_at hl 0 rfl) ?_
            refine hx_goi (hx_runS (As := [.int iv35_2]) (rest := [.int iv35_2, .ref qr]) ⟨hx, hb, hml, hown, hts⟩ hW (t_X10_without l dC dI dA hL1 hl1 H.size iv35_2 hT) (va_cwS 1 hts (hx_gS kw_1121 kw_1119 kw_1120 kw_103) rfl rfl rfl (by decide +kernel) ⟨Nat.le_of_ble_eq_true rfl, Nat.le_of_ble_eq_true rfl⟩) rfl hl.1 rfl (Nat.le_of_ble_eq_true rfl) dX10_act_47 ⟨Nat.le_of_ble_eq_true rfl, Nat.le_of_ble_eq_true rfl⟩) hW (fun r_237 L_235 h_236 H locs p_238 hW => ?_)
            obtain ⟨hr_239, hT, hs⟩ := p_238
            replace hT : hx_T T_tb L_235 h_236 := hT
            replace hs : hx_S T_tb [] hL1 hl1 L_235 h_236 := hs
            replace f_x_1 := (hs.o (gx.S hM) trivial rfl).1.trans f_x_1
            replace f_9 := (hs.o (gx.S hM) trivial rfl).1.trans f_9
            replace af_ql : h_236.2.1 ql = rf := (funext fun j => (hs.a (gql.S hM) rfl j).1).trans af_ql
            replace af_qn : h_236.2.1 qn = psf := (funext fun j => (hs.a (gqn.S hM) rfl j).1).trans af_qn
            replace af_qp : h_236.2.1 qp = prf := (funext fun j => (hs.a (gqp.S hM) rfl j).1).trans af_qp
            replace nia35_qr : h_236.2.1 qr = ia35_qr := (funext fun j => (hs.a (gqr.S hM) rfl j).1).trans nia35_qr
            replace hM := hM.tr (hs.mono (by decide))
            have nia35_qrO := nia35_qr
            refine hx_iast hx hb hW hT (hx_S.rf (M := [(54, 0)])) (gqr.S hM) tt_54 rfl ⟨by omega, by omega⟩ rfl ⟨by omega, by omega⟩ (List.mem_singleton.mpr rfl) dX10_act_50 (fun H locs h_240 eh_240 hW hT hs => ?_)
            replace f_x_1 := (hs.o (gx.S hM) trivial rfl).1.trans f_x_1
            replace f_9 := (hs.o (gx.S hM) trivial rfl).1.trans f_9
            replace af_ql : h_240.2.1 ql = rf := (funext fun j => (hs.a (gql.S hM) rfl j).1).trans af_ql
            replace af_qn : h_240.2.1 qn = psf := (funext fun j => (hs.a (gqn.S hM) rfl j).1).trans af_qn
            replace af_qp : h_240.2.1 qp = prf := (funext fun j => (hs.a (gqp.S hM) rfl j).1).trans af_qp
            replace hM := hM.tr (hs.mono (by decide))
            obtain ⟨fa_241, dfa_241⟩ : ∃ g : Nat → Int32, g = hx_up ia35_qr iv35_2.toNatClampNeg r_237 := ⟨_, rfl⟩
            have nfa_241 : h_240.2.1 qr = fa_241 := by rw [eh_240, dfa_241, ← nia35_qrO]; exact hx_pi_fun _ _ _ _
            obtain ⟨x_242, ex_242⟩ : ∃ y : Int32, y = iv35_2 + Int32.ofInt 1 := ⟨_, rfl⟩
            have rg_243 := i32_r iv35_2
            have zx_242 : x_242.toInt = iv35_2.toInt + (1) := by rw [ex_242]; exact i32_add rfl (by decide) (by omega) (by omega)
            refine lv_iinc (v := x_242) (lv' := [(2, .int x_242), (0, .ref x), (1, .int i1)]) hx hb dX10_act_51 hl (k := 0) rfl ex_242.symm (by decide) rfl (fun ls hl => ?_)
            refine lv_goto (tgt := 35) hx hb dX10_act_54 (by decide) ?_
            exact ih35 x_242 fa_241 _ _ L_235 h_240 (by omega) (by omega) (hx_rd2 vi35_0 dfa_241 (by omega) (by omega) (fun z => by omega) (fun z => by omega) zx_242) ls (by omega) hW hT hM f_x_1 f_9 nfa_241 af_ql af_qn af_qp (lv_sub hl [0, 1, 2] rfl)
      have zk_0 : (0 : Int32).toInt = 0 := by decide
      exact loop35 14 (0 : Int32) rd _ _ L_2 h_12 (by decide) (by decide) hx_rk1_0 ls (by omega) hW hT hM f_x_1 f_9 af_qr af_ql af_qn af_qp hl
    · skip
      replace hr_6 := hr_6.resolve_right (fun z9 => absurd (c_7.symm.trans z9.1) (by decide))
      replace hr_6 := hr_6.2
      refine lv_iconst (v := -1) hx hb dX10_act_16 (by decide) ?_
      exact hx_reti hx hb hr hlk hW ⟨⟨a0, rf, psf, prf, f_x_1, af_ql, af_qn, af_qp, ⟨by omega, hWK, hRP⟩⟩, hT, hM⟩ dX10_act_17
