theorem dX10_isOpen_0 : decode cX10_isOpen 0 = .ok (.aload_n 0, 1) := by decide +kernel
theorem dX10_isOpen_1 : decode cX10_isOpen 1 = .ok (.iload_n 1, 1) := by decide +kernel
theorem dX10_isOpen_2 : decode cX10_isOpen 2 = .ok (.aload_n 0, 1) := by decide +kernel
theorem dX10_isOpen_3 : decode cX10_isOpen 3 = .ok (.getfield 232, 3) := by decide +kernel
theorem dX10_isOpen_6 : decode cX10_isOpen 6 = .ok (.aload_n 0, 1) := by decide +kernel
theorem dX10_isOpen_7 : decode cX10_isOpen 7 = .ok (.getfield 232, 3) := by decide +kernel
theorem dX10_isOpen_10 : decode cX10_isOpen 10 = .ok (.invokevirtual 416, 3) := by decide +kernel
theorem dX10_isOpen_13 : decode cX10_isOpen 13 = .ok (.aload_n 0, 1) := by decide +kernel
theorem dX10_isOpen_14 : decode cX10_isOpen 14 = .ok (.getfield 410, 3) := by decide +kernel
theorem dX10_isOpen_17 : decode cX10_isOpen 17 = .ok (.iconst 4, 1) := by decide +kernel
theorem dX10_isOpen_18 : decode cX10_isOpen 18 = .ok (.bipush 6, 2) := by decide +kernel
theorem dX10_isOpen_20 : decode cX10_isOpen 20 = .ok (.invokestatic 228, 3) := by decide +kernel
theorem dX10_isOpen_23 : decode cX10_isOpen 23 = .ok (.ireturn, 1) := by decide +kernel
set_option maxHeartbeats 4000000 in
set_option maxRecDepth 100000 in
theorem t_X10_isOpen (l : Launch) (dC : Nat → ClassId) (dI : Nat → Nat → Nat) (dA : Nat → ClassId) (L : List Nat) (h : hx_h) (sz : Nat) (x : Nat) (i1 : Int32) (hT : hx_T T_tb L h) (gx : hx_g L h x 10) (hi1 : 0 ≤ i1.toInt ∧ i1.toInt ≤ 99) : Met l yX10_isOpen (Cond.code yX10_isOpen cX10_isOpen 2 (some .boolean) :: hx_all) ({ frames := 2, cells := 0, slots := 0, locals := 50 }) (va_Pc [.ref x, .int i1] (hx_B T_tb (P_ty dA) (dC, dI) vwCl L h sz)) (va_Qi (fun (r : Int32) (u : List Nat × hx_h) => (∃ (rs1 : Int32), u.2.2.1 x 68 = rs1 ∧ ((r.toInt = 0 ∨ r.toInt = 1) ∧ (r.toInt = 1 → 1 ≤ rs1.toInt))) ∧ hx_T T_tb u.1 u.2 ∧ hx_S T_tb [(10, 67), (10, 68), (10, 69), (10, 70), (10, 71)] L h u.1 u.2) (hx_E T_tb (P_ty dA) (dC, dI) vwCl (hx_A L sz)) (hx_A L sz)) 0 0 (hx_A L sz) := by
  refine hx_met (lv := [(0, .ref x), (1, .int i1)]) (by decide +kernel) rfl (Nat.le_of_ble_eq_true rfl) rfl ?_
  intro p e s m below meth c hx hb hml hr hlk hts0 hown hin hsz hW ls hl
  have hts : ∀ w ∈ hx_all, w.before _ s = true := fun w hw => hts0 w (List.mem_cons_of_mem _ hw)
  have hown : s.vm.findClass "SmallCourtModel" = some m.cls := hown
  have hM : hx_S T_tb [(10, 67), (10, 68), (10, 69), (10, 70), (10, 71)] L h L h := hx_S.rf
  refine lv_aload_n hx hb dX10_isOpen_0 rfl (lv_at hl 0 rfl) ?_
  refine lv_iload_n hx hb dX10_isOpen_1 rfl (lv_at hl 1 rfl) ?_
  refine lv_aload_n hx hb dX10_isOpen_2 rfl (lv_at hl 0 rfl) ?_
  refine hx_geti hx hb hts hC_10 hown hW hT (gx.S hM) tt_10 0 (by decide) rfl kw_1143 ⟨rfl, rfl, rfl⟩ dX10_isOpen_3 (fun x_1 ex_1 lx_1 ux_1 => ?_)
  have fx_1 := ex_1.symm
  refine lv_aload_n hx hb dX10_isOpen_6 rfl (lv_at hl 0 rfl) ?_
  refine hk_geti hx hb hts hC_10 hown hW (gx.S hM) tt_10 0 (by decide) rfl kw_1143 ⟨rfl, rfl, rfl⟩ fx_1 dX10_isOpen_7 ?_
  refine hx_gov (hx_runV (As := [.int i1, .int x_1, .int x_1]) (rest := []) ⟨hx, hb, hml, hown, hts⟩ hW (gx.S hM) tt_10 (T := TX10) (N := 98) rfl (t_X10_looks l dC dI dA L h s.heap.size x i1 x_1 x_1 hT (gx.S hM) ⟨by omega, by omega⟩) (cwV 3 hts (hx_gV kw_1641 kw_1638 kw_1640 kw_82 kw_103) rfl rfl rfl (by decide +kernel) ⟨Nat.le_of_ble_eq_true rfl, Nat.le_of_ble_eq_true rfl⟩) rfl hl.1 rfl (Nat.le_of_ble_eq_true rfl) dX10_isOpen_10 ⟨Nat.le_of_ble_eq_true rfl, Nat.le_of_ble_eq_true rfl⟩) hW (fun L_2 h_3 H locs p_5 hW => ?_)
  obtain ⟨⟨w_7, w_8, w_9, fw_7, fw_8, fw_9, hr_6⟩, hT, hs⟩ := p_5
  replace hT : hx_T T_tb L_2 h_3 := hT
  replace hs : hx_S T_tb [(10, 67), (10, 68), (10, 69), (10, 70), (10, 71)] L h L_2 h_3 := hs
  replace fx_1 := (hs.o (gx.S hM) trivial rfl).1.trans fx_1
  replace hM := hM.tr (hs.mono (by decide))
  have fw_7 : h_3.2.1 x 68 = w_7 := fw_7
  have bw_7 := hT.gi (gx.S hM) tt_10 (k := 68) rfl
  rw [fw_7] at bw_7
  have bw_7 : 0 ≤ w_7.toInt ∧ w_7.toInt ≤ 610000 := bw_7
  have fw_8 : h_3.2.1 x 71 = w_8 := fw_8
  have bw_8 := hT.gi (gx.S hM) tt_10 (k := 71) rfl
  rw [fw_8] at bw_8
  have bw_8 : 0 ≤ w_8.toInt ∧ w_8.toInt ≤ 8 := bw_8
  have fw_9 : h_3.2.1 x 67 = w_9 := fw_9
  have bw_9 := hT.gi (gx.S hM) tt_10 (k := 67) rfl
  rw [fw_9] at bw_9
  have bw_9 : 0 ≤ w_9.toInt ∧ w_9.toInt ≤ 366100000 := bw_9
  refine lv_aload_n hx hb dX10_isOpen_13 rfl (lv_at hl 0 rfl) ?_
  refine hk_geti hx hb hts hC_10 hown hW (gx.S hM) tt_10 71 (by decide) rfl kw_1214 ⟨rfl, rfl, rfl⟩ fw_8 dX10_isOpen_14 ?_
  refine lv_iconst (v := 4) hx hb dX10_isOpen_17 (by decide) ?_
  refine lv_bipush (v := 6) hx hb dX10_isOpen_18 (by decide) ?_
  have zc_6 : (6 : Int32).toInt = 6 := by decide
  have zc_4 : (4 : Int32).toInt = 4 := by decide
  refine hx_goi (hx_runS (As := [.int w_8, .int (4 : Int32), .int (6 : Int32)]) (rest := []) ⟨hx, hb, hml, hown, hts⟩ hW (t_X10_in l dC dI dA L_2 h_3 H.size w_8 (4 : Int32) (6 : Int32) hT) (va_cwS 3 hts (hx_gS kw_1445 kw_1443 kw_1444 kw_103) rfl rfl rfl (by decide +kernel) ⟨Nat.le_of_ble_eq_true rfl, Nat.le_of_ble_eq_true rfl⟩) rfl hl.1 rfl (Nat.le_of_ble_eq_true rfl) dX10_isOpen_20 ⟨Nat.le_of_ble_eq_true rfl, Nat.le_of_ble_eq_true rfl⟩) hW (fun r_12 L_10 h_11 H locs p_13 hW => ?_)
  obtain ⟨hr_14, hT, hs⟩ := p_13
  replace hT : hx_T T_tb L_10 h_11 := hT
  replace hs : hx_S T_tb [] L_2 h_3 L_10 h_11 := hs
  replace fx_1 := (hs.o (gx.S hM) trivial rfl).1.trans fx_1
  replace fw_7 := (hs.o (gx.S hM) trivial rfl).1.trans fw_7
  replace fw_8 := (hs.o (gx.S hM) trivial rfl).1.trans fw_8
  replace fw_9 := (hs.o (gx.S hM) trivial rfl).1.trans fw_9
  replace hM := hM.tr (hs.mono (by decide))
  exact hx_retz hx hb hr (hx_nar01 (by omega)) hlk hW ⟨⟨w_7, fw_7, (by first | omega | (refine ⟨?_, ?_⟩ <;> omega))⟩, hT, hM⟩ dX10_isOpen_23

theorem dX10_means_0 : decode cX10_means 0 = .ok (.aload_n 0, 1) := by decide +kernel
theorem dX10_means_1 : decode cX10_means 1 = .ok (.getfield 41, 3) := by decide +kernel
theorem dX10_means_4 : decode cX10_means 4 = .ok (.iload_n 1, 1) := by decide +kernel
theorem dX10_means_5 : decode cX10_means 5 = .ok (.iaload, 1) := by decide +kernel
theorem dX10_means_6 : decode cX10_means 6 = .ok (.aload_n 0, 1) := by decide +kernel
theorem dX10_means_7 : decode cX10_means 7 = .ok (.iload_n 2, 1) := by decide +kernel
theorem dX10_means_8 : decode cX10_means 8 = .ok (.iconst 3, 1) := by decide +kernel
theorem dX10_means_9 : decode cX10_means 9 = .ok (.invokevirtual 333, 3) := by decide +kernel
theorem dX10_means_12 : decode cX10_means 12 = .ok (.aload_n 0, 1) := by decide +kernel
theorem dX10_means_13 : decode cX10_means 13 = .ok (.getfield 44, 3) := by decide +kernel
theorem dX10_means_16 : decode cX10_means 16 = .ok (.iload_n 1, 1) := by decide +kernel
theorem dX10_means_17 : decode cX10_means 17 = .ok (.iaload, 1) := by decide +kernel
theorem dX10_means_18 : decode cX10_means 18 = .ok (.imul, 1) := by decide +kernel
theorem dX10_means_19 : decode cX10_means 19 = .ok (.isub, 1) := by decide +kernel
theorem dX10_means_20 : decode cX10_means 20 = .ok (.ireturn, 1) := by decide +kernel
set_option maxHeartbeats 4000000 in
set_option maxRecDepth 100000 in
theorem t_X10_means (l : Launch) (dC : Nat → ClassId) (dI : Nat → Nat → Nat) (dA : Nat → ClassId) (L : List Nat) (h : hx_h) (sz : Nat) (x : Nat) (i1 : Int32) (i2 : Int32) (hT : hx_T T_tb L h) (gx : hx_g L h x 10) (hi1 : 0 ≤ i1.toInt ∧ i1.toInt ≤ 39) (hi2 : 0 ≤ i2.toInt ∧ i2.toInt ≤ 8) : Met l yX10_means (Cond.code yX10_means cX10_means 3 (some .int) :: hx_all) ({ frames := 1, cells := 0, slots := 0, locals := 22 }) (va_Pc [.ref x, .int i1, .int i2] (hx_B T_tb (P_ty dA) (dC, dI) vwCl L h sz)) (va_Qi (fun (r : Int32) (u : List Nat × hx_h) => (True) ∧ hx_T T_tb u.1 u.2 ∧ hx_S T_tb [] L h u.1 u.2) (hx_E T_tb (P_ty dA) (dC, dI) vwCl (hx_A L sz)) (hx_A L sz)) 0 0 (hx_A L sz) := by
  refine hx_met (lv := [(0, .ref x), (1, .int i1), (2, .int i2)]) (by decide +kernel) rfl (Nat.le_of_ble_eq_true rfl) rfl ?_
  intro p e s m below meth c hx hb hml hr hlk hts0 hown hin hsz hW ls hl
  have hts : ∀ w ∈ hx_all, w.before _ s = true := fun w hw => hts0 w (List.mem_cons_of_mem _ hw)
  have hown : s.vm.findClass "SmallCourtModel" = some m.cls := hown
  have hM : hx_S T_tb [] L h L h := hx_S.rf
  refine lv_aload_n hx hb dX10_means_0 rfl (lv_at hl 0 rfl) ?_
  refine hx_getn hx hb hts hC_10 hown hW hT (gx.S hM) tt_10 22 (by decide) rfl kw_1165 ⟨rfl, rfl, rfl⟩ dX10_means_1 (fun q_1 fq_1 gq_1 => ?_)
  refine lv_iload_n hx hb dX10_means_4 rfl (lv_at hl 1 rfl) ?_
  refine hx_iald hx hb hW hT gq_1 tt_59 rfl ⟨by omega, by omega⟩ dX10_means_5 (fun x_2 ex_2 lx_2 ux_2 => ?_)
  refine lv_aload_n hx hb dX10_means_6 rfl (lv_at hl 0 rfl) ?_
  refine lv_iload_n hx hb dX10_means_7 rfl (lv_at hl 2 rfl) ?_
  refine lv_iconst (v := 3) hx hb dX10_means_8 (by decide) ?_
  have zc_3 : (3 : Int32).toInt = 3 := by decide
  refine hx_goi (hx_runV (As := [.int i2, .int (3 : Int32)]) (rest := [.int x_2]) ⟨hx, hb, hml, hown, hts⟩ hW (gx.S hM) tt_10 (T := TX10) (N := 98) rfl (t_X10_ruleOf l dC dI dA L h s.heap.size x i2 (3 : Int32) hT (gx.S hM) ⟨by omega, by omega⟩ (by decide)) (cwV 2 hts (hx_gV kw_1533 kw_1530 kw_1532 kw_66 kw_103) rfl rfl rfl (by decide +kernel) ⟨Nat.le_of_ble_eq_true rfl, Nat.le_of_ble_eq_true rfl⟩) rfl hl.1 rfl (Nat.le_of_ble_eq_true rfl) dX10_means_9 ⟨Nat.le_of_ble_eq_true rfl, Nat.le_of_ble_eq_true rfl⟩) hW (fun r_5 L_3 h_4 H locs p_6 hW => ?_)
  obtain ⟨hr_7, hT, hs⟩ := p_6
  replace hT : hx_T T_tb L_3 h_4 := hT
  replace hs : hx_S T_tb [] L h L_3 h_4 := hs
  replace fq_1 := (hs.o (gx.S hM) trivial rfl).2.trans fq_1
  replace ex_2 := ex_2.trans (hs.a gq_1 rfl _).1.symm
  replace hM := hM.tr (hs.mono (by decide))
  replace gq_1 := gq_1.S hs
  refine lv_aload_n hx hb dX10_means_12 rfl (lv_at hl 0 rfl) ?_
  refine hx_getn hx hb hts hC_10 hown hW hT (gx.S hM) tt_10 23 (by decide) rfl kw_1166 ⟨rfl, rfl, rfl⟩ dX10_means_13 (fun q_8 fq_8 gq_8 => ?_)
  refine lv_iload_n hx hb dX10_means_16 rfl (lv_at hl 1 rfl) ?_
  refine hx_iald hx hb hW hT gq_8 tt_60 rfl ⟨by omega, by omega⟩ dX10_means_17 (fun x_9 ex_9 lx_9 ux_9 => ?_)
  refine lv_imul hx hb dX10_means_18 ?_
  refine lv_topi (fun x_10 ex_10 => ?_)
  have mx_10 : r_5.toInt = 0 → x_10.toInt = 0 := fun z => by rw [ex_10]; exact hx_mul0 z
  refine lv_isub hx hb dX10_means_19 ?_
  have rg_11 := i32_r x_2
  have rg_12 := i32_r x_10
  refine lv_topi (fun x_13 ex_13 => ?_)
  exact hx_reti hx hb hr hlk hW ⟨trivial, hT, hM⟩ dX10_means_20

def wLX10_pays_0 : List Nat := [42, 180, 0, 144, 42, 180, 1, 157, 27, 79, 42, 180, 0, 147, 42, 180, 1, 157, 28, 79, 42, 180, 0, 150, 42, 180, 1, 157, 29, 79, 42, 180, 0, 153, 42, 180, 1, 157, 42, 180, 0, 232, 79, 42, 180, 0, 156, 42, 180, 1, 157, 2, 79, 42, 89, 180, 1, 157, 4, 96, 181, 1, 157, 42]
def wLX10_pays_1 : List Nat := [180, 1, 157, 4, 100, 172]
theorem wX10_pays_0 : (cX10_pays.data.toList.map UInt8.toNat).drop 0 = wLX10_pays_0 ++ (wLX10_pays_1 ++ ([])) := by decide +kernel
theorem wX10_pays_1 : (cX10_pays.data.toList.map UInt8.toNat).drop 64 = wLX10_pays_1 ++ ([]) := hz_wn wX10_pays_0 rfl
theorem dX10_pays_0 : decode cX10_pays 0 = .ok (.aload_n 0, 1) := dq_42 (hz_wg wX10_pays_0 (j := 0) (n := 42) rfl)
theorem dX10_pays_1 : decode cX10_pays 1 = .ok (.getfield 144, 3) := dq_180 (hz_wg wX10_pays_0 (j := 1) (n := 180) rfl) (hz_wg wX10_pays_0 (j := 2) (n := 0) rfl) (hz_wg wX10_pays_0 (j := 3) (n := 144) rfl) rfl
theorem dX10_pays_4 : decode cX10_pays 4 = .ok (.aload_n 0, 1) := dq_42 (hz_wg wX10_pays_0 (j := 4) (n := 42) rfl)
theorem dX10_pays_5 : decode cX10_pays 5 = .ok (.getfield 413, 3) := dq_180 (hz_wg wX10_pays_0 (j := 5) (n := 180) rfl) (hz_wg wX10_pays_0 (j := 6) (n := 1) rfl) (hz_wg wX10_pays_0 (j := 7) (n := 157) rfl) rfl
theorem dX10_pays_8 : decode cX10_pays 8 = .ok (.iload_n 1, 1) := dq_27 (hz_wg wX10_pays_0 (j := 8) (n := 27) rfl)
theorem dX10_pays_9 : decode cX10_pays 9 = .ok (.iastore, 1) := dq_79 (hz_wg wX10_pays_0 (j := 9) (n := 79) rfl)
theorem dX10_pays_10 : decode cX10_pays 10 = .ok (.aload_n 0, 1) := dq_42 (hz_wg wX10_pays_0 (j := 10) (n := 42) rfl)
theorem dX10_pays_11 : decode cX10_pays 11 = .ok (.getfield 147, 3) := dq_180 (hz_wg wX10_pays_0 (j := 11) (n := 180) rfl) (hz_wg wX10_pays_0 (j := 12) (n := 0) rfl) (hz_wg wX10_pays_0 (j := 13) (n := 147) rfl) rfl
theorem dX10_pays_14 : decode cX10_pays 14 = .ok (.aload_n 0, 1) := dq_42 (hz_wg wX10_pays_0 (j := 14) (n := 42) rfl)
theorem dX10_pays_15 : decode cX10_pays 15 = .ok (.getfield 413, 3) := dq_180 (hz_wg wX10_pays_0 (j := 15) (n := 180) rfl) (hz_wg wX10_pays_0 (j := 16) (n := 1) rfl) (hz_wg wX10_pays_0 (j := 17) (n := 157) rfl) rfl
theorem dX10_pays_18 : decode cX10_pays 18 = .ok (.iload_n 2, 1) := dq_28 (hz_wg wX10_pays_0 (j := 18) (n := 28) rfl)
theorem dX10_pays_19 : decode cX10_pays 19 = .ok (.iastore, 1) := dq_79 (hz_wg wX10_pays_0 (j := 19) (n := 79) rfl)
theorem dX10_pays_20 : decode cX10_pays 20 = .ok (.aload_n 0, 1) := dq_42 (hz_wg wX10_pays_0 (j := 20) (n := 42) rfl)
theorem dX10_pays_21 : decode cX10_pays 21 = .ok (.getfield 150, 3) := dq_180 (hz_wg wX10_pays_0 (j := 21) (n := 180) rfl) (hz_wg wX10_pays_0 (j := 22) (n := 0) rfl) (hz_wg wX10_pays_0 (j := 23) (n := 150) rfl) rfl
theorem dX10_pays_24 : decode cX10_pays 24 = .ok (.aload_n 0, 1) := dq_42 (hz_wg wX10_pays_0 (j := 24) (n := 42) rfl)
theorem dX10_pays_25 : decode cX10_pays 25 = .ok (.getfield 413, 3) := dq_180 (hz_wg wX10_pays_0 (j := 25) (n := 180) rfl) (hz_wg wX10_pays_0 (j := 26) (n := 1) rfl) (hz_wg wX10_pays_0 (j := 27) (n := 157) rfl) rfl
theorem dX10_pays_28 : decode cX10_pays 28 = .ok (.iload_n 3, 1) := dq_29 (hz_wg wX10_pays_0 (j := 28) (n := 29) rfl)
theorem dX10_pays_29 : decode cX10_pays 29 = .ok (.iastore, 1) := dq_79 (hz_wg wX10_pays_0 (j := 29) (n := 79) rfl)
theorem dX10_pays_30 : decode cX10_pays 30 = .ok (.aload_n 0, 1) := dq_42 (hz_wg wX10_pays_0 (j := 30) (n := 42) rfl)
theorem dX10_pays_31 : decode cX10_pays 31 = .ok (.getfield 153, 3) := dq_180 (hz_wg wX10_pays_0 (j := 31) (n := 180) rfl) (hz_wg wX10_pays_0 (j := 32) (n := 0) rfl) (hz_wg wX10_pays_0 (j := 33) (n := 153) rfl) rfl
theorem dX10_pays_34 : decode cX10_pays 34 = .ok (.aload_n 0, 1) := dq_42 (hz_wg wX10_pays_0 (j := 34) (n := 42) rfl)
theorem dX10_pays_35 : decode cX10_pays 35 = .ok (.getfield 413, 3) := dq_180 (hz_wg wX10_pays_0 (j := 35) (n := 180) rfl) (hz_wg wX10_pays_0 (j := 36) (n := 1) rfl) (hz_wg wX10_pays_0 (j := 37) (n := 157) rfl) rfl
theorem dX10_pays_38 : decode cX10_pays 38 = .ok (.aload_n 0, 1) := dq_42 (hz_wg wX10_pays_0 (j := 38) (n := 42) rfl)
theorem dX10_pays_39 : decode cX10_pays 39 = .ok (.getfield 232, 3) := dq_180 (hz_wg wX10_pays_0 (j := 39) (n := 180) rfl) (hz_wg wX10_pays_0 (j := 40) (n := 0) rfl) (hz_wg wX10_pays_0 (j := 41) (n := 232) rfl) rfl
theorem dX10_pays_42 : decode cX10_pays 42 = .ok (.iastore, 1) := dq_79 (hz_wg wX10_pays_0 (j := 42) (n := 79) rfl)
theorem dX10_pays_43 : decode cX10_pays 43 = .ok (.aload_n 0, 1) := dq_42 (hz_wg wX10_pays_0 (j := 43) (n := 42) rfl)
theorem dX10_pays_44 : decode cX10_pays 44 = .ok (.getfield 156, 3) := dq_180 (hz_wg wX10_pays_0 (j := 44) (n := 180) rfl) (hz_wg wX10_pays_0 (j := 45) (n := 0) rfl) (hz_wg wX10_pays_0 (j := 46) (n := 156) rfl) rfl
theorem dX10_pays_47 : decode cX10_pays 47 = .ok (.aload_n 0, 1) := dq_42 (hz_wg wX10_pays_0 (j := 47) (n := 42) rfl)
theorem dX10_pays_48 : decode cX10_pays 48 = .ok (.getfield 413, 3) := dq_180 (hz_wg wX10_pays_0 (j := 48) (n := 180) rfl) (hz_wg wX10_pays_0 (j := 49) (n := 1) rfl) (hz_wg wX10_pays_0 (j := 50) (n := 157) rfl) rfl
theorem dX10_pays_51 : decode cX10_pays 51 = .ok (.iconst (-1), 1) := dq_2 (hz_wg wX10_pays_0 (j := 51) (n := 2) rfl)
theorem dX10_pays_52 : decode cX10_pays 52 = .ok (.iastore, 1) := dq_79 (hz_wg wX10_pays_0 (j := 52) (n := 79) rfl)
theorem dX10_pays_53 : decode cX10_pays 53 = .ok (.aload_n 0, 1) := dq_42 (hz_wg wX10_pays_0 (j := 53) (n := 42) rfl)
theorem dX10_pays_54 : decode cX10_pays 54 = .ok (.dup, 1) := dq_89 (hz_wg wX10_pays_0 (j := 54) (n := 89) rfl)
theorem dX10_pays_55 : decode cX10_pays 55 = .ok (.getfield 413, 3) := dq_180 (hz_wg wX10_pays_0 (j := 55) (n := 180) rfl) (hz_wg wX10_pays_0 (j := 56) (n := 1) rfl) (hz_wg wX10_pays_0 (j := 57) (n := 157) rfl) rfl
theorem dX10_pays_58 : decode cX10_pays 58 = .ok (.iconst 1, 1) := dq_4 (hz_wg wX10_pays_0 (j := 58) (n := 4) rfl)
theorem dX10_pays_59 : decode cX10_pays 59 = .ok (.iadd, 1) := dq_96 (hz_wg wX10_pays_0 (j := 59) (n := 96) rfl)
theorem dX10_pays_60 : decode cX10_pays 60 = .ok (.putfield 413, 3) := dq_181 (hz_wg wX10_pays_0 (j := 60) (n := 181) rfl) (hz_wg wX10_pays_0 (j := 61) (n := 1) rfl) (hz_wg wX10_pays_0 (j := 62) (n := 157) rfl) rfl
theorem dX10_pays_63 : decode cX10_pays 63 = .ok (.aload_n 0, 1) := dq_42 (hz_wg wX10_pays_0 (j := 63) (n := 42) rfl)
theorem dX10_pays_64 : decode cX10_pays 64 = .ok (.getfield 413, 3) := dq_180 (hz_wg wX10_pays_1 (j := 0) (n := 180) rfl) (hz_wg wX10_pays_1 (j := 1) (n := 1) rfl) (hz_wg wX10_pays_1 (j := 2) (n := 157) rfl) rfl
theorem dX10_pays_67 : decode cX10_pays 67 = .ok (.iconst 1, 1) := dq_4 (hz_wg wX10_pays_1 (j := 3) (n := 4) rfl)
theorem dX10_pays_68 : decode cX10_pays 68 = .ok (.isub, 1) := dq_100 (hz_wg wX10_pays_1 (j := 4) (n := 100) rfl)
theorem dX10_pays_69 : decode cX10_pays 69 = .ok (.ireturn, 1) := dq_172 (hz_wg wX10_pays_1 (j := 5) (n := 172) rfl)
set_option maxHeartbeats 4000000 in
set_option maxRecDepth 100000 in
theorem t_X10_pays (l : Launch) (dC : Nat → ClassId) (dI : Nat → Nat → Nat) (dA : Nat → ClassId) (L : List Nat) (h : hx_h) (sz : Nat) (x : Nat) (i1 : Int32) (i2 : Int32) (i3 : Int32) (hT : hx_T T_tb L h) (gx : hx_g L h x 10) (p0 : Int32) (f_x_59 : h.2.1 x 59 = p0) (hp0 : p0.toInt < 600) (hi3 : 0 ≤ i3.toInt ∧ i3.toInt ≤ 610000) : Met l yX10_pays (Cond.code yX10_pays cX10_pays 4 (some .int) :: hx_all) ({ frames := 0, cells := 0, slots := 0, locals := 0 }) (va_Pc [.ref x, .int i1, .int i2, .int i3] (hx_B T_tb (P_ty dA) (dC, dI) vwCl L h sz)) (va_Qi (fun (r : Int32) (u : List Nat × hx_h) => (∃ (p1 : Int32), u.2.2.1 x 59 = p1 ∧ (p1.toInt = p0.toInt + 1)) ∧ hx_T T_tb u.1 u.2 ∧ hx_S T_tb [(10, 59), (93, 0), (94, 0), (95, 0), (96, 0), (97, 0)] L h u.1 u.2) (hx_E T_tb (P_ty dA) (dC, dI) vwCl (hx_A L sz)) (hx_A L sz)) 0 0 (hx_A L sz) := by
  refine hx_met (lv := [(0, .ref x), (1, .int i1), (2, .int i2), (3, .int i3)]) (by decide +kernel) rfl (Nat.le_of_ble_eq_true rfl) rfl ?_
  intro p e s m below meth c hx hb hml hr hlk hts0 hown hin hsz hW ls hl
  have hts : ∀ w ∈ hx_all, w.before _ s = true := fun w hw => hts0 w (List.mem_cons_of_mem _ hw)
  have hown : s.vm.findClass "SmallCourtModel" = some m.cls := hown
  have hM : hx_S T_tb [(10, 59), (93, 0), (94, 0), (95, 0), (96, 0), (97, 0)] L h L h := hx_S.rf
  have b_p0 := hT.gi gx tt_10 (k := 59) rfl
  rw [f_x_59] at b_p0
  have b_p0 : 0 ≤ p0.toInt ∧ p0.toInt ≤ 600 := b_p0
  refine lv_aload_n hx hb dX10_pays_0 rfl (lv_at hl 0 rfl) ?_
  refine hx_getn hx hb hts hC_10 hown hW hT (gx.S hM) tt_10 60 (by decide) rfl kw_1203 ⟨rfl, rfl, rfl⟩ dX10_pays_1 (fun q_1 fq_1 gq_1 => ?_)
  refine lv_aload_n hx hb dX10_pays_4 rfl (lv_at hl 0 rfl) ?_
  refine hk_geti hx hb hts hC_10 hown hW (gx.S hM) tt_10 59 (by decide) rfl kw_1202 ⟨rfl, rfl, rfl⟩ f_x_59 dX10_pays_5 ?_
  refine lv_iload_n hx hb dX10_pays_8 rfl (lv_at hl 1 rfl) ?_
  refine hx_iast hx hb hW hT (hx_S.rf (M := [(93, 0)])) gq_1 tt_93 rfl ⟨by omega, by omega⟩ rfl (i32_r _) (List.mem_singleton.mpr rfl) dX10_pays_9 (fun H locs h_2 eh_2 hW hT hs => ?_)
  replace f_x_59 := (hs.o (gx.S hM) trivial rfl).1.trans f_x_59
  replace fq_1 := (hs.o (gx.S hM) trivial rfl).2.trans fq_1
  replace hM := hM.tr (hs.mono (by decide))
  replace gq_1 := gq_1.S hs
  refine lv_aload_n hx hb dX10_pays_10 rfl (lv_at hl 0 rfl) ?_
  refine hx_getn hx hb hts hC_10 hown hW hT (gx.S hM) tt_10 61 (by decide) rfl kw_1204 ⟨rfl, rfl, rfl⟩ dX10_pays_11 (fun q_3 fq_3 gq_3 => ?_)
  refine lv_aload_n hx hb dX10_pays_14 rfl (lv_at hl 0 rfl) ?_
  refine hk_geti hx hb hts hC_10 hown hW (gx.S hM) tt_10 59 (by decide) rfl kw_1202 ⟨rfl, rfl, rfl⟩ f_x_59 dX10_pays_15 ?_
  refine lv_iload_n hx hb dX10_pays_18 rfl (lv_at hl 2 rfl) ?_
  refine hx_iast hx hb hW hT (hx_S.rf (M := [(94, 0)])) gq_3 tt_94 rfl ⟨by omega, by omega⟩ rfl (i32_r _) (List.mem_singleton.mpr rfl) dX10_pays_19 (fun H locs h_4 eh_4 hW hT hs => ?_)
  replace f_x_59 := (hs.o (gx.S hM) trivial rfl).1.trans f_x_59
  replace fq_1 := (hs.o (gx.S hM) trivial rfl).2.trans fq_1
  replace fq_3 := (hs.o (gx.S hM) trivial rfl).2.trans fq_3
  replace hM := hM.tr (hs.mono (by decide))
  replace gq_1 := gq_1.S hs
  replace gq_3 := gq_3.S hs
  refine lv_aload_n hx hb dX10_pays_20 rfl (lv_at hl 0 rfl) ?_
  refine hx_getn hx hb hts hC_10 hown hW hT (gx.S hM) tt_10 62 (by decide) rfl kw_1205 ⟨rfl, rfl, rfl⟩ dX10_pays_21 (fun q_5 fq_5 gq_5 => ?_)
  refine lv_aload_n hx hb dX10_pays_24 rfl (lv_at hl 0 rfl) ?_
  refine hk_geti hx hb hts hC_10 hown hW (gx.S hM) tt_10 59 (by decide) rfl kw_1202 ⟨rfl, rfl, rfl⟩ f_x_59 dX10_pays_25 ?_
  refine lv_iload_n hx hb dX10_pays_28 rfl (lv_at hl 3 rfl) ?_
  refine hx_iast hx hb hW hT (hx_S.rf (M := [(95, 0)])) gq_5 tt_95 rfl ⟨by omega, by omega⟩ rfl ⟨by omega, by omega⟩ (List.mem_singleton.mpr rfl) dX10_pays_29 (fun H locs h_6 eh_6 hW hT hs => ?_)
  replace f_x_59 := (hs.o (gx.S hM) trivial rfl).1.trans f_x_59
  replace fq_1 := (hs.o (gx.S hM) trivial rfl).2.trans fq_1
  replace fq_3 := (hs.o (gx.S hM) trivial rfl).2.trans fq_3
  replace fq_5 := (hs.o (gx.S hM) trivial rfl).2.trans fq_5
  replace hM := hM.tr (hs.mono (by decide))
  replace gq_1 := gq_1.S hs
  replace gq_3 := gq_3.S hs
  replace gq_5 := gq_5.S hs
  refine lv_aload_n hx hb dX10_pays_30 rfl (lv_at hl 0 rfl) ?_
  refine hx_getn hx hb hts hC_10 hown hW hT (gx.S hM) tt_10 63 (by decide) rfl kw_1206 ⟨rfl, rfl, rfl⟩ dX10_pays_31 (fun q_7 fq_7 gq_7 => ?_)
  refine lv_aload_n hx hb dX10_pays_34 rfl (lv_at hl 0 rfl) ?_
  refine hk_geti hx hb hts hC_10 hown hW (gx.S hM) tt_10 59 (by decide) rfl kw_1202 ⟨rfl, rfl, rfl⟩ f_x_59 dX10_pays_35 ?_
  refine lv_aload_n hx hb dX10_pays_38 rfl (lv_at hl 0 rfl) ?_
  refine hx_geti hx hb hts hC_10 hown hW hT (gx.S hM) tt_10 0 (by decide) rfl kw_1143 ⟨rfl, rfl, rfl⟩ dX10_pays_39 (fun x_8 ex_8 lx_8 ux_8 => ?_)
  have fx_8 := ex_8.symm
  refine hx_iast hx hb hW hT (hx_S.rf (M := [(96, 0)])) gq_7 tt_96 rfl ⟨by omega, by omega⟩ rfl (i32_r _) (List.mem_singleton.mpr rfl) dX10_pays_42 (fun H locs h_9 eh_9 hW hT hs => ?_)
  replace f_x_59 := (hs.o (gx.S hM) trivial rfl).1.trans f_x_59
  replace fq_1 := (hs.o (gx.S hM) trivial rfl).2.trans fq_1
  replace fq_3 := (hs.o (gx.S hM) trivial rfl).2.trans fq_3
  replace fq_5 := (hs.o (gx.S hM) trivial rfl).2.trans fq_5
  replace fq_7 := (hs.o (gx.S hM) trivial rfl).2.trans fq_7
  replace fx_8 := (hs.o (gx.S hM) trivial rfl).1.trans fx_8
  replace hM := hM.tr (hs.mono (by decide))
  replace gq_1 := gq_1.S hs
  replace gq_3 := gq_3.S hs
  replace gq_5 := gq_5.S hs
  replace gq_7 := gq_7.S hs
  refine lv_aload_n hx hb dX10_pays_43 rfl (lv_at hl 0 rfl) ?_
  refine hx_getn hx hb hts hC_10 hown hW hT (gx.S hM) tt_10 64 (by decide) rfl kw_1207 ⟨rfl, rfl, rfl⟩ dX10_pays_44 (fun q_10 fq_10 gq_10 => ?_)
  refine lv_aload_n hx hb dX10_pays_47 rfl (lv_at hl 0 rfl) ?_
  refine hk_geti hx hb hts hC_10 hown hW (gx.S hM) tt_10 59 (by decide) rfl kw_1202 ⟨rfl, rfl, rfl⟩ f_x_59 dX10_pays_48 ?_
  refine lv_iconst (v := -1) hx hb dX10_pays_51 (by decide) ?_
  refine hx_iast hx hb hW hT (hx_S.rf (M := [(97, 0)])) gq_10 tt_97 rfl ⟨by omega, by omega⟩ rfl (by decide) (List.mem_singleton.mpr rfl) dX10_pays_52 (fun H locs h_11 eh_11 hW hT hs => ?_)
  replace f_x_59 := (hs.o (gx.S hM) trivial rfl).1.trans f_x_59
  replace fq_1 := (hs.o (gx.S hM) trivial rfl).2.trans fq_1
  replace fq_3 := (hs.o (gx.S hM) trivial rfl).2.trans fq_3
  replace fq_5 := (hs.o (gx.S hM) trivial rfl).2.trans fq_5
  replace fq_7 := (hs.o (gx.S hM) trivial rfl).2.trans fq_7
  replace fx_8 := (hs.o (gx.S hM) trivial rfl).1.trans fx_8
  replace fq_10 := (hs.o (gx.S hM) trivial rfl).2.trans fq_10
  replace hM := hM.tr (hs.mono (by decide))
  replace gq_1 := gq_1.S hs
  replace gq_3 := gq_3.S hs
  replace gq_5 := gq_5.S hs
  replace gq_7 := gq_7.S hs
  replace gq_10 := gq_10.S hs
  refine lv_aload_n hx hb dX10_pays_53 rfl (lv_at hl 0 rfl) ?_
  refine lv_dup hx hb dX10_pays_54 rfl ?_
  refine hk_geti hx hb hts hC_10 hown hW (gx.S hM) tt_10 59 (by decide) rfl kw_1202 ⟨rfl, rfl, rfl⟩ f_x_59 dX10_pays_55 ?_
  refine lv_iconst (v := 1) hx hb dX10_pays_58 (by decide) ?_
  refine lv_iadd hx hb dX10_pays_59 ?_
  have rg_12 := i32_r p0
  refine lv_topi (fun x_13 ex_13 => ?_)
  have zx_13 : x_13.toInt = p0.toInt + 1 := by rw [ex_13]; exact i32_add rfl (by decide) (by omega) (by omega)
  refine hx_puti hx hb hts hC_10 hown hW hT (hx_S.rf (M := [(10, 59)])) (gx.S hM) tt_10 59 (by decide) rfl kw_1202 ⟨rfl, rfl, rfl⟩ rfl (x := x_13) ⟨by omega, by omega⟩ rfl rfl rfl (List.mem_singleton.mpr rfl) dX10_pays_60 (fun H locs h_14 eh_14 hW hT hs => ?_)
  replace fq_1 := (hs.o (gx.S hM) trivial rfl).2.trans fq_1
  replace fq_3 := (hs.o (gx.S hM) trivial rfl).2.trans fq_3
  replace fq_5 := (hs.o (gx.S hM) trivial rfl).2.trans fq_5
  replace fq_7 := (hs.o (gx.S hM) trivial rfl).2.trans fq_7
  replace fx_8 := (hs.o (gx.S hM) trivial rfl).1.trans fx_8
  replace fq_10 := (hs.o (gx.S hM) trivial rfl).2.trans fq_10
  replace hM := hM.tr (hs.mono (by decide))
  replace gq_1 := gq_1.S hs
  replace gq_3 := gq_3.S hs
  replace gq_5 := gq_5.S hs
  replace gq_7 := gq_7.S hs
  replace gq_10 := gq_10.S hs
  have f_15 : h_14.2.1 x 59 = x_13 := by rw [eh_14]; exact hx_pi_at _ _ _ _
  refine lv_aload_n hx hb dX10_pays_63 rfl (lv_at hl 0 rfl) ?_
  refine hk_geti hx hb hts hC_10 hown hW (gx.S hM) tt_10 59 (by decide) rfl kw_1202 ⟨rfl, rfl, rfl⟩ f_15 dX10_pays_64 ?_
  refine lv_iconst (v := 1) hx hb dX10_pays_67 (by decide) ?_
  refine lv_isub hx hb dX10_pays_68 ?_
  have rg_16 := i32_r x_13
  refine lv_topi (fun x_17 ex_17 => ?_)
  have zx_17 : x_17.toInt = x_13.toInt - 1 := by rw [ex_17]; exact i32_sub rfl (by decide) (by omega) (by omega)
  exact hx_reti hx hb hr hlk hW ⟨⟨x_13, f_15, (by first | omega | (refine ⟨?_, ?_⟩ <;> omega))⟩, hT, hM⟩ dX10_pays_69

def wLX10_pay_0 : List Nat := [42, 180, 1, 157, 17, 2, 88, 159, 0, 59, 42, 27, 182, 1, 114, 153, 0, 51, 42, 180, 0, 114, 27, 46, 2, 159, 0, 41, 42, 180, 0, 120, 27, 46, 2, 160, 0, 31, 28, 42, 180, 0, 114, 27, 46, 42, 180, 0, 232, 184, 0, 228, 153, 0, 14, 29, 4, 17, 39, 15, 184, 0, 228, 154]
def wLX10_pay_1 : List Nat := [0, 5, 2, 172, 42, 27, 28, 29, 182, 1, 169, 172]
theorem wX10_pay_0 : (cX10_pay.data.toList.map UInt8.toNat).drop 0 = wLX10_pay_0 ++ (wLX10_pay_1 ++ ([])) := by decide +kernel
theorem wX10_pay_1 : (cX10_pay.data.toList.map UInt8.toNat).drop 64 = wLX10_pay_1 ++ ([]) := hz_wn wX10_pay_0 rfl
theorem dX10_pay_0 : decode cX10_pay 0 = .ok (.aload_n 0, 1) := dq_42 (hz_wg wX10_pay_0 (j := 0) (n := 42) rfl)
theorem dX10_pay_1 : decode cX10_pay 1 = .ok (.getfield 413, 3) := dq_180 (hz_wg wX10_pay_0 (j := 1) (n := 180) rfl) (hz_wg wX10_pay_0 (j := 2) (n := 1) rfl) (hz_wg wX10_pay_0 (j := 3) (n := 157) rfl) rfl
theorem dX10_pay_4 : decode cX10_pay 4 = .ok (.sipush 600, 3) := dq_17 (hz_wg wX10_pay_0 (j := 4) (n := 17) rfl) (hz_wg wX10_pay_0 (j := 5) (n := 2) rfl) (hz_wg wX10_pay_0 (j := 6) (n := 88) rfl) (by decide)
theorem dX10_pay_7 : decode cX10_pay 7 = .ok (.if_icmp .eq 59, 3) := dq_159 (hz_wg wX10_pay_0 (j := 7) (n := 159) rfl) (hz_wg wX10_pay_0 (j := 8) (n := 0) rfl) (hz_wg wX10_pay_0 (j := 9) (n := 59) rfl) (by decide)
theorem dX10_pay_10 : decode cX10_pay 10 = .ok (.aload_n 0, 1) := dq_42 (hz_wg wX10_pay_0 (j := 10) (n := 42) rfl)
theorem dX10_pay_11 : decode cX10_pay 11 = .ok (.iload_n 1, 1) := dq_27 (hz_wg wX10_pay_0 (j := 11) (n := 27) rfl)
theorem dX10_pay_12 : decode cX10_pay 12 = .ok (.invokevirtual 370, 3) := dq_182 (hz_wg wX10_pay_0 (j := 12) (n := 182) rfl) (hz_wg wX10_pay_0 (j := 13) (n := 1) rfl) (hz_wg wX10_pay_0 (j := 14) (n := 114) rfl) rfl
theorem dX10_pay_15 : decode cX10_pay 15 = .ok (.ifCond .eq 51, 3) := dq_153 (hz_wg wX10_pay_0 (j := 15) (n := 153) rfl) (hz_wg wX10_pay_0 (j := 16) (n := 0) rfl) (hz_wg wX10_pay_0 (j := 17) (n := 51) rfl) (by decide)
theorem dX10_pay_18 : decode cX10_pay 18 = .ok (.aload_n 0, 1) := dq_42 (hz_wg wX10_pay_0 (j := 18) (n := 42) rfl)
theorem dX10_pay_19 : decode cX10_pay 19 = .ok (.getfield 114, 3) := dq_180 (hz_wg wX10_pay_0 (j := 19) (n := 180) rfl) (hz_wg wX10_pay_0 (j := 20) (n := 0) rfl) (hz_wg wX10_pay_0 (j := 21) (n := 114) rfl) rfl
theorem dX10_pay_22 : decode cX10_pay 22 = .ok (.iload_n 1, 1) := dq_27 (hz_wg wX10_pay_0 (j := 22) (n := 27) rfl)
theorem dX10_pay_23 : decode cX10_pay 23 = .ok (.iaload, 1) := dq_46 (hz_wg wX10_pay_0 (j := 23) (n := 46) rfl)
theorem dX10_pay_24 : decode cX10_pay 24 = .ok (.iconst (-1), 1) := dq_2 (hz_wg wX10_pay_0 (j := 24) (n := 2) rfl)
theorem dX10_pay_25 : decode cX10_pay 25 = .ok (.if_icmp .eq 41, 3) := dq_159 (hz_wg wX10_pay_0 (j := 25) (n := 159) rfl) (hz_wg wX10_pay_0 (j := 26) (n := 0) rfl) (hz_wg wX10_pay_0 (j := 27) (n := 41) rfl) (by decide)
theorem dX10_pay_28 : decode cX10_pay 28 = .ok (.aload_n 0, 1) := dq_42 (hz_wg wX10_pay_0 (j := 28) (n := 42) rfl)
theorem dX10_pay_29 : decode cX10_pay 29 = .ok (.getfield 120, 3) := dq_180 (hz_wg wX10_pay_0 (j := 29) (n := 180) rfl) (hz_wg wX10_pay_0 (j := 30) (n := 0) rfl) (hz_wg wX10_pay_0 (j := 31) (n := 120) rfl) rfl
theorem dX10_pay_32 : decode cX10_pay 32 = .ok (.iload_n 1, 1) := dq_27 (hz_wg wX10_pay_0 (j := 32) (n := 27) rfl)
theorem dX10_pay_33 : decode cX10_pay 33 = .ok (.iaload, 1) := dq_46 (hz_wg wX10_pay_0 (j := 33) (n := 46) rfl)
theorem dX10_pay_34 : decode cX10_pay 34 = .ok (.iconst (-1), 1) := dq_2 (hz_wg wX10_pay_0 (j := 34) (n := 2) rfl)
theorem dX10_pay_35 : decode cX10_pay 35 = .ok (.if_icmp .ne 31, 3) := dq_160 (hz_wg wX10_pay_0 (j := 35) (n := 160) rfl) (hz_wg wX10_pay_0 (j := 36) (n := 0) rfl) (hz_wg wX10_pay_0 (j := 37) (n := 31) rfl) (by decide)
theorem dX10_pay_38 : decode cX10_pay 38 = .ok (.iload_n 2, 1) := dq_28 (hz_wg wX10_pay_0 (j := 38) (n := 28) rfl)
theorem dX10_pay_39 : decode cX10_pay 39 = .ok (.aload_n 0, 1) := dq_42 (hz_wg wX10_pay_0 (j := 39) (n := 42) rfl)
theorem dX10_pay_40 : decode cX10_pay 40 = .ok (.getfield 114, 3) := dq_180 (hz_wg wX10_pay_0 (j := 40) (n := 180) rfl) (hz_wg wX10_pay_0 (j := 41) (n := 0) rfl) (hz_wg wX10_pay_0 (j := 42) (n := 114) rfl) rfl
theorem dX10_pay_43 : decode cX10_pay 43 = .ok (.iload_n 1, 1) := dq_27 (hz_wg wX10_pay_0 (j := 43) (n := 27) rfl)
theorem dX10_pay_44 : decode cX10_pay 44 = .ok (.iaload, 1) := dq_46 (hz_wg wX10_pay_0 (j := 44) (n := 46) rfl)
theorem dX10_pay_45 : decode cX10_pay 45 = .ok (.aload_n 0, 1) := dq_42 (hz_wg wX10_pay_0 (j := 45) (n := 42) rfl)
theorem dX10_pay_46 : decode cX10_pay 46 = .ok (.getfield 232, 3) := dq_180 (hz_wg wX10_pay_0 (j := 46) (n := 180) rfl) (hz_wg wX10_pay_0 (j := 47) (n := 0) rfl) (hz_wg wX10_pay_0 (j := 48) (n := 232) rfl) rfl
theorem dX10_pay_49 : decode cX10_pay 49 = .ok (.invokestatic 228, 3) := dq_184 (hz_wg wX10_pay_0 (j := 49) (n := 184) rfl) (hz_wg wX10_pay_0 (j := 50) (n := 0) rfl) (hz_wg wX10_pay_0 (j := 51) (n := 228) rfl) rfl
theorem dX10_pay_52 : decode cX10_pay 52 = .ok (.ifCond .eq 14, 3) := dq_153 (hz_wg wX10_pay_0 (j := 52) (n := 153) rfl) (hz_wg wX10_pay_0 (j := 53) (n := 0) rfl) (hz_wg wX10_pay_0 (j := 54) (n := 14) rfl) (by decide)
theorem dX10_pay_55 : decode cX10_pay 55 = .ok (.iload_n 3, 1) := dq_29 (hz_wg wX10_pay_0 (j := 55) (n := 29) rfl)
theorem dX10_pay_56 : decode cX10_pay 56 = .ok (.iconst 1, 1) := dq_4 (hz_wg wX10_pay_0 (j := 56) (n := 4) rfl)
theorem dX10_pay_57 : decode cX10_pay 57 = .ok (.sipush 9999, 3) := dq_17 (hz_wg wX10_pay_0 (j := 57) (n := 17) rfl) (hz_wg wX10_pay_0 (j := 58) (n := 39) rfl) (hz_wg wX10_pay_0 (j := 59) (n := 15) rfl) (by decide)
theorem dX10_pay_60 : decode cX10_pay 60 = .ok (.invokestatic 228, 3) := dq_184 (hz_wg wX10_pay_0 (j := 60) (n := 184) rfl) (hz_wg wX10_pay_0 (j := 61) (n := 0) rfl) (hz_wg wX10_pay_0 (j := 62) (n := 228) rfl) rfl
theorem dX10_pay_63 : decode cX10_pay 63 = .ok (.ifCond .ne 5, 3) := dq_154 (hz_wg wX10_pay_0 (j := 63) (n := 154) rfl) (hz_wg wX10_pay_1 (j := 0) (n := 0) rfl) (hz_wg wX10_pay_1 (j := 1) (n := 5) rfl) (by decide)
theorem dX10_pay_66 : decode cX10_pay 66 = .ok (.iconst (-1), 1) := dq_2 (hz_wg wX10_pay_1 (j := 2) (n := 2) rfl)
theorem dX10_pay_67 : decode cX10_pay 67 = .ok (.ireturn, 1) := dq_172 (hz_wg wX10_pay_1 (j := 3) (n := 172) rfl)
theorem dX10_pay_68 : decode cX10_pay 68 = .ok (.aload_n 0, 1) := dq_42 (hz_wg wX10_pay_1 (j := 4) (n := 42) rfl)
theorem dX10_pay_69 : decode cX10_pay 69 = .ok (.iload_n 1, 1) := dq_27 (hz_wg wX10_pay_1 (j := 5) (n := 27) rfl)
theorem dX10_pay_70 : decode cX10_pay 70 = .ok (.iload_n 2, 1) := dq_28 (hz_wg wX10_pay_1 (j := 6) (n := 28) rfl)
theorem dX10_pay_71 : decode cX10_pay 71 = .ok (.iload_n 3, 1) := dq_29 (hz_wg wX10_pay_1 (j := 7) (n := 29) rfl)
theorem dX10_pay_72 : decode cX10_pay 72 = .ok (.invokevirtual 425, 3) := dq_182 (hz_wg wX10_pay_1 (j := 8) (n := 182) rfl) (hz_wg wX10_pay_1 (j := 9) (n := 1) rfl) (hz_wg wX10_pay_1 (j := 10) (n := 169) rfl) rfl
theorem dX10_pay_75 : decode cX10_pay 75 = .ok (.ireturn, 1) := dq_172 (hz_wg wX10_pay_1 (j := 11) (n := 172) rfl)
set_option maxHeartbeats 4000000 in
set_option maxRecDepth 100000 in
theorem t_X10_pay (l : Launch) (dC : Nat → ClassId) (dI : Nat → Nat → Nat) (dA : Nat → ClassId) (L : List Nat) (h : hx_h) (sz : Nat) (x : Nat) (i1 : Int32) (i2 : Int32) (i3 : Int32) (hT : hx_T T_tb L h) (gx : hx_g L h x 10)  : Met l yX10_pay (Cond.code yX10_pay cX10_pay 4 (some .int) :: hx_all) ({ frames := 2, cells := 0, slots := 0, locals := 43 }) (va_Pc [.ref x, .int i1, .int i2, .int i3] (hx_B T_tb (P_ty dA) (dC, dI) vwCl L h sz)) (va_Qi (fun (r : Int32) (u : List Nat × hx_h) => (True) ∧ hx_T T_tb u.1 u.2 ∧ hx_S T_tb [(10, 59), (93, 0), (94, 0), (95, 0), (96, 0), (97, 0)] L h u.1 u.2) (hx_E T_tb (P_ty dA) (dC, dI) vwCl (hx_A L sz)) (hx_A L sz)) 0 0 (hx_A L sz) := by
  refine hx_met (lv := [(0, .ref x), (1, .int i1), (2, .int i2), (3, .int i3)]) (by decide +kernel) rfl (Nat.le_of_ble_eq_true rfl) rfl ?_
  intro p e s m below meth c hx hb hml hr hlk hts0 hown hin hsz hW ls hl
  have hts : ∀ w ∈ hx_all, w.before _ s = true := fun w hw => hts0 w (List.mem_cons_of_mem _ hw)
  have hown : s.vm.findClass "SmallCourtModel" = some m.cls := hown
  have hM : hx_S T_tb [(10, 59), (93, 0), (94, 0), (95, 0), (96, 0), (97, 0)] L h L h := hx_S.rf
  refine lv_aload_n hx hb dX10_pay_0 rfl (lv_at hl 0 rfl) ?_
  refine hx_geti hx hb hts hC_10 hown hW hT (gx.S hM) tt_10 59 (by decide) rfl kw_1202 ⟨rfl, rfl, rfl⟩ dX10_pay_1 (fun x_1 ex_1 lx_1 ux_1 => ?_)
  have fx_1 := ex_1.symm
  refine lv_sipush (v := 600) hx hb dX10_pay_4 (by decide) ?_
  refine hb_icmp_eq (zx := x_1.toInt) (zy := 600) (tgt := 66) hx hb rfl (by decide) dX10_pay_7 (by decide) (fun c_2 => ?_) (fun c_2 => ?_)
  · skip
    refine lv_iconst (v := -1) hx hb dX10_pay_66 (by decide) ?_
    exact hx_reti hx hb hr hlk hW ⟨trivial, hT, hM⟩ dX10_pay_67
  · skip
    refine lv_aload_n hx hb dX10_pay_10 rfl (lv_at hl 0 rfl) ?_
    refine lv_iload_n hx hb dX10_pay_11 rfl (lv_at hl 1 rfl) ?_
    obtain ⟨fv_3, efv_3⟩ : ∃ y : Int32, y = h.2.1 x 36 := ⟨_, rfl⟩
    have bfv_3 := hT.gi (gx.S hM) tt_10 (k := 36) rfl
    rw [← efv_3] at bfv_3
    have bfv_3 : 0 ≤ fv_3.toInt ∧ fv_3.toInt ≤ 100 := bfv_3
    have ffv_3 := efv_3.symm
    refine hx_goi (hx_runV (As := [.int i1]) (rest := []) ⟨hx, hb, hml, hown, hts⟩ hW (gx.S hM) tt_10 (T := TX10) (N := 98) rfl (t_X10_isClaim l dC dI dA L h s.heap.size x i1 hT (gx.S hM) fv_3 ffv_3) (cwV 1 hts (hx_gV kw_1597 kw_1594 kw_1596 kw_73 kw_103) rfl rfl rfl (by decide +kernel) ⟨Nat.le_of_ble_eq_true rfl, Nat.le_of_ble_eq_true rfl⟩) rfl hl.1 rfl (Nat.le_of_ble_eq_true rfl) dX10_pay_12 ⟨Nat.le_of_ble_eq_true rfl, Nat.le_of_ble_eq_true rfl⟩) hW (fun r_6 L_4 h_5 H locs p_7 hW => ?_)
    obtain ⟨hr_8, hT, hs⟩ := p_7
    replace hT : hx_T T_tb L_4 h_5 := hT
    replace hs : hx_S T_tb [] L h L_4 h_5 := hs
    replace fx_1 := (hs.o (gx.S hM) trivial rfl).1.trans fx_1
    replace ffv_3 := (hs.o (gx.S hM) trivial rfl).1.trans ffv_3
    replace hM := hM.tr (hs.mono (by decide))
    refine hb_if_eq (zx := r_6.toInt) (tgt := 66) hx hb rfl dX10_pay_15 (by decide) (fun c_9 => ?_) (fun c_9 => ?_)
    · skip
      replace hr_8 := hr_8.resolve_right (fun z9 => absurd (c_9.symm.trans z9.1) (by decide))
      replace hr_8 := hr_8.2
      refine lv_iconst (v := -1) hx hb dX10_pay_66 (by decide) ?_
      exact hx_reti hx hb hr hlk hW ⟨trivial, hT, hM⟩ dX10_pay_67
    · skip
      replace hr_8 := hr_8.resolve_left (fun z9 => c_9 z9.1)
      replace c_9 := hr_8.1
      replace hr_8 := hr_8.2
      refine lv_aload_n hx hb dX10_pay_18 rfl (lv_at hl 0 rfl) ?_
      refine hx_getn hx hb hts hC_10 hown hW hT (gx.S hM) tt_10 48 (by decide) rfl kw_1191 ⟨rfl, rfl, rfl⟩ dX10_pay_19 (fun q_10 fq_10 gq_10 => ?_)
      refine lv_iload_n hx hb dX10_pay_22 rfl (lv_at hl 1 rfl) ?_
      refine hx_iald hx hb hW hT gq_10 tt_83 rfl ⟨by omega, by omega⟩ dX10_pay_23 (fun x_11 ex_11 lx_11 ux_11 => ?_)
      refine lv_iconst (v := -1) hx hb dX10_pay_24 (by decide) ?_
      refine hb_icmp_eq (zx := x_11.toInt) (zy := (-1)) (tgt := 66) hx hb rfl (by decide) dX10_pay_25 (by decide) (fun c_12 => ?_) (fun c_12 => ?_)
      · skip
        refine lv_iconst (v := -1) hx hb dX10_pay_66 (by decide) ?_
        exact hx_reti hx hb hr hlk hW ⟨trivial, hT, hM⟩ dX10_pay_67
      · skip
        refine lv_aload_n hx hb dX10_pay_28 rfl (lv_at hl 0 rfl) ?_
        refine hx_getn hx hb hts hC_10 hown hW hT (gx.S hM) tt_10 50 (by decide) rfl kw_1193 ⟨rfl, rfl, rfl⟩ dX10_pay_29 (fun q_13 fq_13 gq_13 => ?_)
        refine lv_iload_n hx hb dX10_pay_32 rfl (lv_at hl 1 rfl) ?_
        refine hx_iald hx hb hW hT gq_13 tt_85 rfl ⟨by omega, by omega⟩ dX10_pay_33 (fun x_14 ex_14 lx_14 ux_14 => ?_)
        refine lv_iconst (v := -1) hx hb dX10_pay_34 (by decide) ?_
        refine hb_icmp_ne (zx := x_14.toInt) (zy := (-1)) (tgt := 66) hx hb rfl (by decide) dX10_pay_35 (by decide) (fun c_15 => ?_) (fun c_15 => ?_)
        · skip
          refine lv_iconst (v := -1) hx hb dX10_pay_66 (by decide) ?_
          exact hx_reti hx hb hr hlk hW ⟨trivial, hT, hM⟩ dX10_pay_67
        · skip
          refine lv_iload_n hx hb dX10_pay_38 rfl (lv_at hl 2 rfl) ?_
          refine lv_aload_n hx hb dX10_pay_39 rfl (lv_at hl 0 rfl) ?_
          refine hk_getr hx hb hts hC_10 hown hW (gx.S hM) tt_10 48 (by decide) rfl kw_1191 ⟨rfl, rfl, rfl⟩ fq_10 dX10_pay_40 ?_
          refine lv_iload_n hx hb dX10_pay_43 rfl (lv_at hl 1 rfl) ?_
          refine hx_iald hx hb hW hT gq_10 tt_83 rfl ⟨by omega, by omega⟩ dX10_pay_44 (fun x_16 ex_16 lx_16 ux_16 => ?_)
          obtain rfl : x_11 = x_16 := ex_11.trans ex_16.symm
          refine lv_aload_n hx hb dX10_pay_45 rfl (lv_at hl 0 rfl) ?_
          refine hx_geti hx hb hts hC_10 hown hW hT (gx.S hM) tt_10 0 (by decide) rfl kw_1143 ⟨rfl, rfl, rfl⟩ dX10_pay_46 (fun x_17 ex_17 lx_17 ux_17 => ?_)
          have fx_17 := ex_17.symm
          refine hx_goi (hx_runS (As := [.int i2, .int x_11, .int x_17]) (rest := []) ⟨hx, hb, hml, hown, hts⟩ hW (t_X10_in l dC dI dA L_4 h_5 H.size i2 x_11 x_17 hT) (va_cwS 3 hts (hx_gS kw_1445 kw_1443 kw_1444 kw_103) rfl rfl rfl (by decide +kernel) ⟨Nat.le_of_ble_eq_true rfl, Nat.le_of_ble_eq_true rfl⟩) rfl hl.1 rfl (Nat.le_of_ble_eq_true rfl) dX10_pay_49 ⟨Nat.le_of_ble_eq_true rfl, Nat.le_of_ble_eq_true rfl⟩) hW (fun r_20 L_18 h_19 H locs p_21 hW => ?_)
          obtain ⟨hr_22, hT, hs⟩ := p_21
          replace hT : hx_T T_tb L_18 h_19 := hT
          replace hs : hx_S T_tb [] L_4 h_5 L_18 h_19 := hs
          replace fx_1 := (hs.o (gx.S hM) trivial rfl).1.trans fx_1
          replace ffv_3 := (hs.o (gx.S hM) trivial rfl).1.trans ffv_3
          replace fq_10 := (hs.o (gx.S hM) trivial rfl).2.trans fq_10
          replace fq_13 := (hs.o (gx.S hM) trivial rfl).2.trans fq_13
          replace fx_17 := (hs.o (gx.S hM) trivial rfl).1.trans fx_17
          replace ex_11 := ex_11.trans (hs.a gq_10 rfl _).1.symm
          replace ex_14 := ex_14.trans (hs.a gq_13 rfl _).1.symm
          replace hM := hM.tr (hs.mono (by decide))
          replace gq_10 := gq_10.S hs
          replace gq_13 := gq_13.S hs
          refine hb_if_eq (zx := r_20.toInt) (tgt := 66) hx hb rfl dX10_pay_52 (by decide) (fun c_23 => ?_) (fun c_23 => ?_)
          · skip
            replace hr_22 := hr_22.resolve_right (fun z9 => absurd (c_23.symm.trans z9.1) (by decide))
            replace hr_22 := hr_22.2
            refine lv_iconst (v := -1) hx hb dX10_pay_66 (by decide) ?_
            exact hx_reti hx hb hr hlk hW ⟨trivial, hT, hM⟩ dX10_pay_67
          · skip
            replace hr_22 := hr_22.resolve_left (fun z9 => c_23 z9.1)
            replace c_23 := hr_22.1
            replace hr_22 := hr_22.2
            refine lv_iload_n hx hb dX10_pay_55 rfl (lv_at hl 3 rfl) ?_
            refine lv_iconst (v := 1) hx hb dX10_pay_56 (by decide) ?_
            refine lv_sipush (v := 9999) hx hb dX10_pay_57 (by decide) ?_
            have zc_9999 : (9999 : Int32).toInt = 9999 := by decide
            have zc_1 : (1 : Int32).toInt = 1 := by decide
            refine hx_goi (hx_runS (As := [.int i3, .int (1 : Int32), .int (9999 : Int32)]) (rest := []) ⟨hx, hb, hml, hown, hts⟩ hW (t_X10_in l dC dI dA L_18 h_19 H.size i3 (1 : Int32) (9999 : Int32) hT) (va_cwS 3 hts (hx_gS kw_1445 kw_1443 kw_1444 kw_103) rfl rfl rfl (by decide +kernel) ⟨Nat.le_of_ble_eq_true rfl, Nat.le_of_ble_eq_true rfl⟩) rfl hl.1 rfl (Nat.le_of_ble_eq_true rfl) dX10_pay_60 ⟨Nat.le_of_ble_eq_true rfl, Nat.le_of_ble_eq_true rfl⟩) hW (fun r_26 L_24 h_25 H locs p_27 hW => ?_)
            obtain ⟨hr_28, hT, hs⟩ := p_27
            replace hT : hx_T T_tb L_24 h_25 := hT
            replace hs : hx_S T_tb [] L_18 h_19 L_24 h_25 := hs
            replace fx_1 := (hs.o (gx.S hM) trivial rfl).1.trans fx_1
            replace ffv_3 := (hs.o (gx.S hM) trivial rfl).1.trans ffv_3
            replace fq_10 := (hs.o (gx.S hM) trivial rfl).2.trans fq_10
            replace fq_13 := (hs.o (gx.S hM) trivial rfl).2.trans fq_13
            replace fx_17 := (hs.o (gx.S hM) trivial rfl).1.trans fx_17
            replace ex_11 := ex_11.trans (hs.a gq_10 rfl _).1.symm
            replace ex_14 := ex_14.trans (hs.a gq_13 rfl _).1.symm
            replace hM := hM.tr (hs.mono (by decide))
            replace gq_10 := gq_10.S hs
            replace gq_13 := gq_13.S hs
            refine hb_if_ne (zx := r_26.toInt) (tgt := 68) hx hb rfl dX10_pay_63 (by decide) (fun c_29 => ?_) (fun c_29 => ?_)
            · skip
              replace hr_28 := hr_28.resolve_left (fun z9 => c_29 z9.1)
              replace c_29 := hr_28.1
              replace hr_28 := hr_28.2
              refine lv_aload_n hx hb dX10_pay_68 rfl (lv_at hl 0 rfl) ?_
              refine lv_iload_n hx hb dX10_pay_69 rfl (lv_at hl 1 rfl) ?_
              refine lv_iload_n hx hb dX10_pay_70 rfl (lv_at hl 2 rfl) ?_
              refine lv_iload_n hx hb dX10_pay_71 rfl (lv_at hl 3 rfl) ?_
              refine hx_goi (hx_runV (As := [.int i1, .int i2, .int i3]) (rest := []) ⟨hx, hb, hml, hown, hts⟩ hW (gx.S hM) tt_10 (T := TX10) (N := 98) rfl (t_X10_pays l dC dI dA L_24 h_25 H.size x i1 i2 i3 hT (gx.S hM) x_1 fx_1 (by omega) ⟨by omega, by omega⟩) (cwV 3 hts (hx_gV kw_1653 kw_1650 kw_1652 kw_84 kw_103) rfl rfl rfl (by decide +kernel) ⟨Nat.le_of_ble_eq_true rfl, Nat.le_of_ble_eq_true rfl⟩) rfl hl.1 rfl (Nat.le_of_ble_eq_true rfl) dX10_pay_72 ⟨Nat.le_of_ble_eq_true rfl, Nat.le_of_ble_eq_true rfl⟩) hW (fun r_32 L_30 h_31 H locs p_33 hW => ?_)
              obtain ⟨⟨w_35, fw_35, hr_34⟩, hT, hs⟩ := p_33
              replace hT : hx_T T_tb L_30 h_31 := hT
              replace hs : hx_S T_tb [(10, 59), (93, 0), (94, 0), (95, 0), (96, 0), (97, 0)] L_24 h_25 L_30 h_31 := hs
              replace ffv_3 := (hs.o (gx.S hM) trivial rfl).1.trans ffv_3
              replace fq_10 := (hs.o (gx.S hM) trivial rfl).2.trans fq_10
              replace fq_13 := (hs.o (gx.S hM) trivial rfl).2.trans fq_13
              replace fx_17 := (hs.o (gx.S hM) trivial rfl).1.trans fx_17
              replace ex_11 := ex_11.trans (hs.a gq_10 rfl _).1.symm
              replace ex_14 := ex_14.trans (hs.a gq_13 rfl _).1.symm
              replace hM := hM.tr (hs.mono (by decide))
              replace gq_10 := gq_10.S hs
              replace gq_13 := gq_13.S hs
              have fw_35 : h_31.2.1 x 59 = w_35 := fw_35
              have bw_35 := hT.gi (gx.S hM) tt_10 (k := 59) rfl
              rw [fw_35] at bw_35
              have bw_35 : 0 ≤ w_35.toInt ∧ w_35.toInt ≤ 600 := bw_35
              exact hx_reti hx hb hr hlk hW ⟨trivial, hT, hM⟩ dX10_pay_75
            · skip
              replace hr_28 := hr_28.resolve_right (fun z9 => absurd (c_29.symm.trans z9.1) (by decide))
              replace hr_28 := hr_28.2
              refine lv_iconst (v := -1) hx hb dX10_pay_66 (by decide) ?_
              exact hx_reti hx hb hr hlk hW ⟨trivial, hT, hM⟩ dX10_pay_67

def wLX10_strike_0 : List Nat := [27, 3, 42, 180, 1, 157, 4, 100, 184, 0, 228, 153, 0, 13, 42, 180, 0, 156, 27, 46, 2, 159, 0, 5, 3, 172, 42, 180, 0, 156, 27, 42, 180, 0, 232, 79, 4, 172]
theorem wX10_strike_0 : (cX10_strike.data.toList.map UInt8.toNat).drop 0 = wLX10_strike_0 ++ ([]) := by decide +kernel
theorem dX10_strike_0 : decode cX10_strike 0 = .ok (.iload_n 1, 1) := dq_27 (hz_wg wX10_strike_0 (j := 0) (n := 27) rfl)
theorem dX10_strike_1 : decode cX10_strike 1 = .ok (.iconst 0, 1) := dq_3 (hz_wg wX10_strike_0 (j := 1) (n := 3) rfl)
theorem dX10_strike_2 : decode cX10_strike 2 = .ok (.aload_n 0, 1) := dq_42 (hz_wg wX10_strike_0 (j := 2) (n := 42) rfl)
theorem dX10_strike_3 : decode cX10_strike 3 = .ok (.getfield 413, 3) := dq_180 (hz_wg wX10_strike_0 (j := 3) (n := 180) rfl) (hz_wg wX10_strike_0 (j := 4) (n := 1) rfl) (hz_wg wX10_strike_0 (j := 5) (n := 157) rfl) rfl
theorem dX10_strike_6 : decode cX10_strike 6 = .ok (.iconst 1, 1) := dq_4 (hz_wg wX10_strike_0 (j := 6) (n := 4) rfl)
theorem dX10_strike_7 : decode cX10_strike 7 = .ok (.isub, 1) := dq_100 (hz_wg wX10_strike_0 (j := 7) (n := 100) rfl)
theorem dX10_strike_8 : decode cX10_strike 8 = .ok (.invokestatic 228, 3) := dq_184 (hz_wg wX10_strike_0 (j := 8) (n := 184) rfl) (hz_wg wX10_strike_0 (j := 9) (n := 0) rfl) (hz_wg wX10_strike_0 (j := 10) (n := 228) rfl) rfl
theorem dX10_strike_11 : decode cX10_strike 11 = .ok (.ifCond .eq 13, 3) := dq_153 (hz_wg wX10_strike_0 (j := 11) (n := 153) rfl) (hz_wg wX10_strike_0 (j := 12) (n := 0) rfl) (hz_wg wX10_strike_0 (j := 13) (n := 13) rfl) (by decide)
theorem dX10_strike_14 : decode cX10_strike 14 = .ok (.aload_n 0, 1) := dq_42 (hz_wg wX10_strike_0 (j := 14) (n := 42) rfl)
theorem dX10_strike_15 : decode cX10_strike 15 = .ok (.getfield 156, 3) := dq_180 (hz_wg wX10_strike_0 (j := 15) (n := 180) rfl) (hz_wg wX10_strike_0 (j := 16) (n := 0) rfl) (hz_wg wX10_strike_0 (j := 17) (n := 156) rfl) rfl
theorem dX10_strike_18 : decode cX10_strike 18 = .ok (.iload_n 1, 1) := dq_27 (hz_wg wX10_strike_0 (j := 18) (n := 27) rfl)
theorem dX10_strike_19 : decode cX10_strike 19 = .ok (.iaload, 1) := dq_46 (hz_wg wX10_strike_0 (j := 19) (n := 46) rfl)
theorem dX10_strike_20 : decode cX10_strike 20 = .ok (.iconst (-1), 1) := dq_2 (hz_wg wX10_strike_0 (j := 20) (n := 2) rfl)
theorem dX10_strike_21 : decode cX10_strike 21 = .ok (.if_icmp .eq 5, 3) := dq_159 (hz_wg wX10_strike_0 (j := 21) (n := 159) rfl) (hz_wg wX10_strike_0 (j := 22) (n := 0) rfl) (hz_wg wX10_strike_0 (j := 23) (n := 5) rfl) (by decide)
theorem dX10_strike_24 : decode cX10_strike 24 = .ok (.iconst 0, 1) := dq_3 (hz_wg wX10_strike_0 (j := 24) (n := 3) rfl)
theorem dX10_strike_25 : decode cX10_strike 25 = .ok (.ireturn, 1) := dq_172 (hz_wg wX10_strike_0 (j := 25) (n := 172) rfl)
theorem dX10_strike_26 : decode cX10_strike 26 = .ok (.aload_n 0, 1) := dq_42 (hz_wg wX10_strike_0 (j := 26) (n := 42) rfl)
theorem dX10_strike_27 : decode cX10_strike 27 = .ok (.getfield 156, 3) := dq_180 (hz_wg wX10_strike_0 (j := 27) (n := 180) rfl) (hz_wg wX10_strike_0 (j := 28) (n := 0) rfl) (hz_wg wX10_strike_0 (j := 29) (n := 156) rfl) rfl
theorem dX10_strike_30 : decode cX10_strike 30 = .ok (.iload_n 1, 1) := dq_27 (hz_wg wX10_strike_0 (j := 30) (n := 27) rfl)
theorem dX10_strike_31 : decode cX10_strike 31 = .ok (.aload_n 0, 1) := dq_42 (hz_wg wX10_strike_0 (j := 31) (n := 42) rfl)
theorem dX10_strike_32 : decode cX10_strike 32 = .ok (.getfield 232, 3) := dq_180 (hz_wg wX10_strike_0 (j := 32) (n := 180) rfl) (hz_wg wX10_strike_0 (j := 33) (n := 0) rfl) (hz_wg wX10_strike_0 (j := 34) (n := 232) rfl) rfl
theorem dX10_strike_35 : decode cX10_strike 35 = .ok (.iastore, 1) := dq_79 (hz_wg wX10_strike_0 (j := 35) (n := 79) rfl)
theorem dX10_strike_36 : decode cX10_strike 36 = .ok (.iconst 1, 1) := dq_4 (hz_wg wX10_strike_0 (j := 36) (n := 4) rfl)
theorem dX10_strike_37 : decode cX10_strike 37 = .ok (.ireturn, 1) := dq_172 (hz_wg wX10_strike_0 (j := 37) (n := 172) rfl)
set_option maxHeartbeats 4000000 in
set_option maxRecDepth 100000 in
theorem t_X10_strike (l : Launch) (dC : Nat → ClassId) (dI : Nat → Nat → Nat) (dA : Nat → ClassId) (L : List Nat) (h : hx_h) (sz : Nat) (x : Nat) (i1 : Int32) (hT : hx_T T_tb L h) (gx : hx_g L h x 10)  : Met l yX10_strike (Cond.code yX10_strike cX10_strike 2 (some .boolean) :: hx_all) ({ frames := 1, cells := 0, slots := 0, locals := 22 }) (va_Pc [.ref x, .int i1] (hx_B T_tb (P_ty dA) (dC, dI) vwCl L h sz)) (va_Qi (fun (r : Int32) (u : List Nat × hx_h) => (r.toInt = 0 ∨ r.toInt = 1) ∧ hx_T T_tb u.1 u.2 ∧ hx_S T_tb [(97, 0)] L h u.1 u.2) (hx_E T_tb (P_ty dA) (dC, dI) vwCl (hx_A L sz)) (hx_A L sz)) 0 0 (hx_A L sz) := by
  refine hx_met (lv := [(0, .ref x), (1, .int i1)]) (by decide +kernel) rfl (Nat.le_of_ble_eq_true rfl) rfl ?_
  intro p e s m below meth c hx hb hml hr hlk hts0 hown hin hsz hW ls hl
  have hts : ∀ w ∈ hx_all, w.before _ s = true := fun w hw => hts0 w (List.mem_cons_of_mem _ hw)
  have hown : s.vm.findClass "SmallCourtModel" = some m.cls := hown
  have hM : hx_S T_tb [(97, 0)] L h L h := hx_S.rf
  refine lv_iload_n hx hb dX10_strike_0 rfl (lv_at hl 1 rfl) ?_
  refine lv_iconst (v := 0) hx hb dX10_strike_1 (by decide) ?_
  refine lv_aload_n hx hb dX10_strike_2 rfl (lv_at hl 0 rfl) ?_
  refine hx_geti hx hb hts hC_10 hown hW hT (gx.S hM) tt_10 59 (by decide) rfl kw_1202 ⟨rfl, rfl, rfl⟩ dX10_strike_3 (fun x_1 ex_1 lx_1 ux_1 => ?_)
  have fx_1 := ex_1.symm
  refine lv_iconst (v := 1) hx hb dX10_strike_6 (by decide) ?_
  refine lv_isub hx hb dX10_strike_7 ?_
  have rg_2 := i32_r x_1
  refine lv_topi (fun x_3 ex_3 => ?_)
  have zx_3 : x_3.toInt = x_1.toInt - 1 := by rw [ex_3]; exact i32_sub rfl (by decide) (by omega) (by omega)
  have zc_0 : (0 : Int32).toInt = 0 := by decide
  refine hx_goi (hx_runS (As := [.int i1, .int (0 : Int32), .int x_3]) (rest := []) ⟨hx, hb, hml, hown, hts⟩ hW (t_X10_in l dC dI dA L h s.heap.size i1 (0 : Int32) x_3 hT) (va_cwS 3 hts (hx_gS kw_1445 kw_1443 kw_1444 kw_103) rfl rfl rfl (by decide +kernel) ⟨Nat.le_of_ble_eq_true rfl, Nat.le_of_ble_eq_true rfl⟩) rfl hl.1 rfl (Nat.le_of_ble_eq_true rfl) dX10_strike_8 ⟨Nat.le_of_ble_eq_true rfl, Nat.le_of_ble_eq_true rfl⟩) hW (fun r_6 L_4 h_5 H locs p_7 hW => ?_)
  obtain ⟨hr_8, hT, hs⟩ := p_7
  replace hT : hx_T T_tb L_4 h_5 := hT
  replace hs : hx_S T_tb [] L h L_4 h_5 := hs
  replace fx_1 := (hs.o (gx.S hM) trivial rfl).1.trans fx_1
  replace hM := hM.tr (hs.mono (by decide))
  refine hb_if_eq (zx := r_6.toInt) (tgt := 24) hx hb rfl dX10_strike_11 (by decide) (fun c_9 => ?_) (fun c_9 => ?_)
  · skip
    replace hr_8 := hr_8.resolve_right (fun z9 => absurd (c_9.symm.trans z9.1) (by decide))
    replace hr_8 := hr_8.2
    refine lv_iconst (v := 0) hx hb dX10_strike_24 (by decide) ?_
    exact hx_retz hx hb hr rfl hlk hW ⟨(by decide), hT, hM⟩ dX10_strike_25
  · skip
    replace hr_8 := hr_8.resolve_left (fun z9 => c_9 z9.1)
    replace c_9 := hr_8.1
    replace hr_8 := hr_8.2
    refine lv_aload_n hx hb dX10_strike_14 rfl (lv_at hl 0 rfl) ?_
    refine hx_getn hx hb hts hC_10 hown hW hT (gx.S hM) tt_10 64 (by decide) rfl kw_1207 ⟨rfl, rfl, rfl⟩ dX10_strike_15 (fun q_10 fq_10 gq_10 => ?_)
    refine lv_iload_n hx hb dX10_strike_18 rfl (lv_at hl 1 rfl) ?_
    refine hx_iald hx hb hW hT gq_10 tt_97 rfl ⟨by omega, by omega⟩ dX10_strike_19 (fun x_11 ex_11 lx_11 ux_11 => ?_)
    refine lv_iconst (v := -1) hx hb dX10_strike_20 (by decide) ?_
    refine hb_icmp_eq (zx := x_11.toInt) (zy := (-1)) (tgt := 26) hx hb rfl (by decide) dX10_strike_21 (by decide) (fun c_12 => ?_) (fun c_12 => ?_)
    · skip
      refine lv_aload_n hx hb dX10_strike_26 rfl (lv_at hl 0 rfl) ?_
      refine hk_getr hx hb hts hC_10 hown hW (gx.S hM) tt_10 64 (by decide) rfl kw_1207 ⟨rfl, rfl, rfl⟩ fq_10 dX10_strike_27 ?_
      refine lv_iload_n hx hb dX10_strike_30 rfl (lv_at hl 1 rfl) ?_
      refine lv_aload_n hx hb dX10_strike_31 rfl (lv_at hl 0 rfl) ?_
      refine hx_geti hx hb hts hC_10 hown hW hT (gx.S hM) tt_10 0 (by decide) rfl kw_1143 ⟨rfl, rfl, rfl⟩ dX10_strike_32 (fun x_13 ex_13 lx_13 ux_13 => ?_)
      have fx_13 := ex_13.symm
      refine hx_iast hx hb hW hT (hx_S.rf (M := [(97, 0)])) gq_10 tt_97 rfl ⟨by omega, by omega⟩ rfl (i32_r _) (List.mem_singleton.mpr rfl) dX10_strike_35 (fun H locs h_14 eh_14 hW hT hs => ?_)
      replace fx_1 := (hs.o (gx.S hM) trivial rfl).1.trans fx_1
      replace fq_10 := (hs.o (gx.S hM) trivial rfl).2.trans fq_10
      replace fx_13 := (hs.o (gx.S hM) trivial rfl).1.trans fx_13
      replace hM := hM.tr (hs.mono (by decide))
      replace gq_10 := gq_10.S hs
      refine lv_iconst (v := 1) hx hb dX10_strike_36 (by decide) ?_
      exact hx_retz hx hb hr rfl hlk hW ⟨(by decide), hT, hM⟩ dX10_strike_37
    · skip
      refine lv_iconst (v := 0) hx hb dX10_strike_24 (by decide) ?_
      exact hx_retz hx hb hr rfl hlk hW ⟨(by decide), hT, hM⟩ dX10_strike_25

def wLX10_seize_0 : List Nat := [42, 27, 182, 1, 114, 153, 0, 24, 42, 180, 0, 117, 27, 46, 2, 160, 0, 14, 28, 4, 17, 39, 15, 184, 0, 228, 154, 0, 7, 19, 1, 101, 172, 42, 27, 42, 180, 0, 232, 42, 180, 0, 232, 182, 1, 160, 42, 180, 1, 154, 8, 16, 6, 184, 0, 228, 154, 0, 7, 19, 1, 101, 172, 42]
def wLX10_seize_1 : List Nat := [180, 0, 117, 27, 42, 180, 0, 232, 79, 42, 180, 0, 138, 27, 28, 79, 42, 27, 42, 180, 0, 232, 42, 180, 0, 232, 182, 1, 160, 42, 180, 1, 148, 158, 0, 11, 42, 180, 1, 148, 116, 167, 0, 7, 42, 180, 1, 145, 172]
theorem wX10_seize_0 : (cX10_seize.data.toList.map UInt8.toNat).drop 0 = wLX10_seize_0 ++ (wLX10_seize_1 ++ ([])) := by decide +kernel
theorem wX10_seize_1 : (cX10_seize.data.toList.map UInt8.toNat).drop 64 = wLX10_seize_1 ++ ([]) := hz_wn wX10_seize_0 rfl
theorem dX10_seize_0 : decode cX10_seize 0 = .ok (.aload_n 0, 1) := dq_42 (hz_wg wX10_seize_0 (j := 0) (n := 42) rfl)
theorem dX10_seize_1 : decode cX10_seize 1 = .ok (.iload_n 1, 1) := dq_27 (hz_wg wX10_seize_0 (j := 1) (n := 27) rfl)
theorem dX10_seize_2 : decode cX10_seize 2 = .ok (.invokevirtual 370, 3) := dq_182 (hz_wg wX10_seize_0 (j := 2) (n := 182) rfl) (hz_wg wX10_seize_0 (j := 3) (n := 1) rfl) (hz_wg wX10_seize_0 (j := 4) (n := 114) rfl) rfl
theorem dX10_seize_5 : decode cX10_seize 5 = .ok (.ifCond .eq 24, 3) := dq_153 (hz_wg wX10_seize_0 (j := 5) (n := 153) rfl) (hz_wg wX10_seize_0 (j := 6) (n := 0) rfl) (hz_wg wX10_seize_0 (j := 7) (n := 24) rfl) (by decide)
theorem dX10_seize_8 : decode cX10_seize 8 = .ok (.aload_n 0, 1) := dq_42 (hz_wg wX10_seize_0 (j := 8) (n := 42) rfl)
theorem dX10_seize_9 : decode cX10_seize 9 = .ok (.getfield 117, 3) := dq_180 (hz_wg wX10_seize_0 (j := 9) (n := 180) rfl) (hz_wg wX10_seize_0 (j := 10) (n := 0) rfl) (hz_wg wX10_seize_0 (j := 11) (n := 117) rfl) rfl
theorem dX10_seize_12 : decode cX10_seize 12 = .ok (.iload_n 1, 1) := dq_27 (hz_wg wX10_seize_0 (j := 12) (n := 27) rfl)
theorem dX10_seize_13 : decode cX10_seize 13 = .ok (.iaload, 1) := dq_46 (hz_wg wX10_seize_0 (j := 13) (n := 46) rfl)
theorem dX10_seize_14 : decode cX10_seize 14 = .ok (.iconst (-1), 1) := dq_2 (hz_wg wX10_seize_0 (j := 14) (n := 2) rfl)
theorem dX10_seize_15 : decode cX10_seize 15 = .ok (.if_icmp .ne 14, 3) := dq_160 (hz_wg wX10_seize_0 (j := 15) (n := 160) rfl) (hz_wg wX10_seize_0 (j := 16) (n := 0) rfl) (hz_wg wX10_seize_0 (j := 17) (n := 14) rfl) (by decide)
theorem dX10_seize_18 : decode cX10_seize 18 = .ok (.iload_n 2, 1) := dq_28 (hz_wg wX10_seize_0 (j := 18) (n := 28) rfl)
theorem dX10_seize_19 : decode cX10_seize 19 = .ok (.iconst 1, 1) := dq_4 (hz_wg wX10_seize_0 (j := 19) (n := 4) rfl)
theorem dX10_seize_20 : decode cX10_seize 20 = .ok (.sipush 9999, 3) := dq_17 (hz_wg wX10_seize_0 (j := 20) (n := 17) rfl) (hz_wg wX10_seize_0 (j := 21) (n := 39) rfl) (hz_wg wX10_seize_0 (j := 22) (n := 15) rfl) (by decide)
theorem dX10_seize_23 : decode cX10_seize 23 = .ok (.invokestatic 228, 3) := dq_184 (hz_wg wX10_seize_0 (j := 23) (n := 184) rfl) (hz_wg wX10_seize_0 (j := 24) (n := 0) rfl) (hz_wg wX10_seize_0 (j := 25) (n := 228) rfl) rfl
theorem dX10_seize_26 : decode cX10_seize 26 = .ok (.ifCond .ne 7, 3) := dq_154 (hz_wg wX10_seize_0 (j := 26) (n := 154) rfl) (hz_wg wX10_seize_0 (j := 27) (n := 0) rfl) (hz_wg wX10_seize_0 (j := 28) (n := 7) rfl) (by decide)
theorem dX10_seize_29 : decode cX10_seize 29 = .ok (.ldc_w 357, 3) := dq_19 (hz_wg wX10_seize_0 (j := 29) (n := 19) rfl) (hz_wg wX10_seize_0 (j := 30) (n := 1) rfl) (hz_wg wX10_seize_0 (j := 31) (n := 101) rfl) rfl
theorem dX10_seize_32 : decode cX10_seize 32 = .ok (.ireturn, 1) := dq_172 (hz_wg wX10_seize_0 (j := 32) (n := 172) rfl)
theorem dX10_seize_33 : decode cX10_seize 33 = .ok (.aload_n 0, 1) := dq_42 (hz_wg wX10_seize_0 (j := 33) (n := 42) rfl)
theorem dX10_seize_34 : decode cX10_seize 34 = .ok (.iload_n 1, 1) := dq_27 (hz_wg wX10_seize_0 (j := 34) (n := 27) rfl)
theorem dX10_seize_35 : decode cX10_seize 35 = .ok (.aload_n 0, 1) := dq_42 (hz_wg wX10_seize_0 (j := 35) (n := 42) rfl)
theorem dX10_seize_36 : decode cX10_seize 36 = .ok (.getfield 232, 3) := dq_180 (hz_wg wX10_seize_0 (j := 36) (n := 180) rfl) (hz_wg wX10_seize_0 (j := 37) (n := 0) rfl) (hz_wg wX10_seize_0 (j := 38) (n := 232) rfl) rfl
theorem dX10_seize_39 : decode cX10_seize 39 = .ok (.aload_n 0, 1) := dq_42 (hz_wg wX10_seize_0 (j := 39) (n := 42) rfl)
theorem dX10_seize_40 : decode cX10_seize 40 = .ok (.getfield 232, 3) := dq_180 (hz_wg wX10_seize_0 (j := 40) (n := 180) rfl) (hz_wg wX10_seize_0 (j := 41) (n := 0) rfl) (hz_wg wX10_seize_0 (j := 42) (n := 232) rfl) rfl
theorem dX10_seize_43 : decode cX10_seize 43 = .ok (.invokevirtual 416, 3) := dq_182 (hz_wg wX10_seize_0 (j := 43) (n := 182) rfl) (hz_wg wX10_seize_0 (j := 44) (n := 1) rfl) (hz_wg wX10_seize_0 (j := 45) (n := 160) rfl) rfl
theorem dX10_seize_46 : decode cX10_seize 46 = .ok (.aload_n 0, 1) := dq_42 (hz_wg wX10_seize_0 (j := 46) (n := 42) rfl)
theorem dX10_seize_47 : decode cX10_seize 47 = .ok (.getfield 410, 3) := dq_180 (hz_wg wX10_seize_0 (j := 47) (n := 180) rfl) (hz_wg wX10_seize_0 (j := 48) (n := 1) rfl) (hz_wg wX10_seize_0 (j := 49) (n := 154) rfl) rfl
theorem dX10_seize_50 : decode cX10_seize 50 = .ok (.iconst 5, 1) := dq_8 (hz_wg wX10_seize_0 (j := 50) (n := 8) rfl)
theorem dX10_seize_51 : decode cX10_seize 51 = .ok (.bipush 6, 2) := dq_16 (hz_wg wX10_seize_0 (j := 51) (n := 16) rfl) (hz_wg wX10_seize_0 (j := 52) (n := 6) rfl) (by decide)
theorem dX10_seize_53 : decode cX10_seize 53 = .ok (.invokestatic 228, 3) := dq_184 (hz_wg wX10_seize_0 (j := 53) (n := 184) rfl) (hz_wg wX10_seize_0 (j := 54) (n := 0) rfl) (hz_wg wX10_seize_0 (j := 55) (n := 228) rfl) rfl
theorem dX10_seize_56 : decode cX10_seize 56 = .ok (.ifCond .ne 7, 3) := dq_154 (hz_wg wX10_seize_0 (j := 56) (n := 154) rfl) (hz_wg wX10_seize_0 (j := 57) (n := 0) rfl) (hz_wg wX10_seize_0 (j := 58) (n := 7) rfl) (by decide)
theorem dX10_seize_59 : decode cX10_seize 59 = .ok (.ldc_w 357, 3) := dq_19 (hz_wg wX10_seize_0 (j := 59) (n := 19) rfl) (hz_wg wX10_seize_0 (j := 60) (n := 1) rfl) (hz_wg wX10_seize_0 (j := 61) (n := 101) rfl) rfl
theorem dX10_seize_62 : decode cX10_seize 62 = .ok (.ireturn, 1) := dq_172 (hz_wg wX10_seize_0 (j := 62) (n := 172) rfl)
theorem dX10_seize_63 : decode cX10_seize 63 = .ok (.aload_n 0, 1) := dq_42 (hz_wg wX10_seize_0 (j := 63) (n := 42) rfl)
theorem dX10_seize_64 : decode cX10_seize 64 = .ok (.getfield 117, 3) := dq_180 (hz_wg wX10_seize_1 (j := 0) (n := 180) rfl) (hz_wg wX10_seize_1 (j := 1) (n := 0) rfl) (hz_wg wX10_seize_1 (j := 2) (n := 117) rfl) rfl
theorem dX10_seize_67 : decode cX10_seize 67 = .ok (.iload_n 1, 1) := dq_27 (hz_wg wX10_seize_1 (j := 3) (n := 27) rfl)
theorem dX10_seize_68 : decode cX10_seize 68 = .ok (.aload_n 0, 1) := dq_42 (hz_wg wX10_seize_1 (j := 4) (n := 42) rfl)
theorem dX10_seize_69 : decode cX10_seize 69 = .ok (.getfield 232, 3) := dq_180 (hz_wg wX10_seize_1 (j := 5) (n := 180) rfl) (hz_wg wX10_seize_1 (j := 6) (n := 0) rfl) (hz_wg wX10_seize_1 (j := 7) (n := 232) rfl) rfl
theorem dX10_seize_72 : decode cX10_seize 72 = .ok (.iastore, 1) := dq_79 (hz_wg wX10_seize_1 (j := 8) (n := 79) rfl)
theorem dX10_seize_73 : decode cX10_seize 73 = .ok (.aload_n 0, 1) := dq_42 (hz_wg wX10_seize_1 (j := 9) (n := 42) rfl)
theorem dX10_seize_74 : decode cX10_seize 74 = .ok (.getfield 138, 3) := dq_180 (hz_wg wX10_seize_1 (j := 10) (n := 180) rfl) (hz_wg wX10_seize_1 (j := 11) (n := 0) rfl) (hz_wg wX10_seize_1 (j := 12) (n := 138) rfl) rfl
theorem dX10_seize_77 : decode cX10_seize 77 = .ok (.iload_n 1, 1) := dq_27 (hz_wg wX10_seize_1 (j := 13) (n := 27) rfl)
theorem dX10_seize_78 : decode cX10_seize 78 = .ok (.iload_n 2, 1) := dq_28 (hz_wg wX10_seize_1 (j := 14) (n := 28) rfl)
theorem dX10_seize_79 : decode cX10_seize 79 = .ok (.iastore, 1) := dq_79 (hz_wg wX10_seize_1 (j := 15) (n := 79) rfl)
theorem dX10_seize_80 : decode cX10_seize 80 = .ok (.aload_n 0, 1) := dq_42 (hz_wg wX10_seize_1 (j := 16) (n := 42) rfl)
theorem dX10_seize_81 : decode cX10_seize 81 = .ok (.iload_n 1, 1) := dq_27 (hz_wg wX10_seize_1 (j := 17) (n := 27) rfl)
theorem dX10_seize_82 : decode cX10_seize 82 = .ok (.aload_n 0, 1) := dq_42 (hz_wg wX10_seize_1 (j := 18) (n := 42) rfl)
theorem dX10_seize_83 : decode cX10_seize 83 = .ok (.getfield 232, 3) := dq_180 (hz_wg wX10_seize_1 (j := 19) (n := 180) rfl) (hz_wg wX10_seize_1 (j := 20) (n := 0) rfl) (hz_wg wX10_seize_1 (j := 21) (n := 232) rfl) rfl
theorem dX10_seize_86 : decode cX10_seize 86 = .ok (.aload_n 0, 1) := dq_42 (hz_wg wX10_seize_1 (j := 22) (n := 42) rfl)
theorem dX10_seize_87 : decode cX10_seize 87 = .ok (.getfield 232, 3) := dq_180 (hz_wg wX10_seize_1 (j := 23) (n := 180) rfl) (hz_wg wX10_seize_1 (j := 24) (n := 0) rfl) (hz_wg wX10_seize_1 (j := 25) (n := 232) rfl) rfl
theorem dX10_seize_90 : decode cX10_seize 90 = .ok (.invokevirtual 416, 3) := dq_182 (hz_wg wX10_seize_1 (j := 26) (n := 182) rfl) (hz_wg wX10_seize_1 (j := 27) (n := 1) rfl) (hz_wg wX10_seize_1 (j := 28) (n := 160) rfl) rfl
theorem dX10_seize_93 : decode cX10_seize 93 = .ok (.aload_n 0, 1) := dq_42 (hz_wg wX10_seize_1 (j := 29) (n := 42) rfl)
theorem dX10_seize_94 : decode cX10_seize 94 = .ok (.getfield 404, 3) := dq_180 (hz_wg wX10_seize_1 (j := 30) (n := 180) rfl) (hz_wg wX10_seize_1 (j := 31) (n := 1) rfl) (hz_wg wX10_seize_1 (j := 32) (n := 148) rfl) rfl
theorem dX10_seize_97 : decode cX10_seize 97 = .ok (.ifCond .le 11, 3) := dq_158 (hz_wg wX10_seize_1 (j := 33) (n := 158) rfl) (hz_wg wX10_seize_1 (j := 34) (n := 0) rfl) (hz_wg wX10_seize_1 (j := 35) (n := 11) rfl) (by decide)
theorem dX10_seize_100 : decode cX10_seize 100 = .ok (.aload_n 0, 1) := dq_42 (hz_wg wX10_seize_1 (j := 36) (n := 42) rfl)
theorem dX10_seize_101 : decode cX10_seize 101 = .ok (.getfield 404, 3) := dq_180 (hz_wg wX10_seize_1 (j := 37) (n := 180) rfl) (hz_wg wX10_seize_1 (j := 38) (n := 1) rfl) (hz_wg wX10_seize_1 (j := 39) (n := 148) rfl) rfl
theorem dX10_seize_104 : decode cX10_seize 104 = .ok (.ineg, 1) := dq_116 (hz_wg wX10_seize_1 (j := 40) (n := 116) rfl)
theorem dX10_seize_105 : decode cX10_seize 105 = .ok (.goto 7, 3) := dq_167 (hz_wg wX10_seize_1 (j := 41) (n := 167) rfl) (hz_wg wX10_seize_1 (j := 42) (n := 0) rfl) (hz_wg wX10_seize_1 (j := 43) (n := 7) rfl) (by decide)
theorem dX10_seize_108 : decode cX10_seize 108 = .ok (.aload_n 0, 1) := dq_42 (hz_wg wX10_seize_1 (j := 44) (n := 42) rfl)
theorem dX10_seize_109 : decode cX10_seize 109 = .ok (.getfield 401, 3) := dq_180 (hz_wg wX10_seize_1 (j := 45) (n := 180) rfl) (hz_wg wX10_seize_1 (j := 46) (n := 1) rfl) (hz_wg wX10_seize_1 (j := 47) (n := 145) rfl) rfl
theorem dX10_seize_112 : decode cX10_seize 112 = .ok (.ireturn, 1) := dq_172 (hz_wg wX10_seize_1 (j := 48) (n := 172) rfl)
set_option maxHeartbeats 4000000 in
set_option maxRecDepth 100000 in
theorem t_X10_seize (l : Launch) (dC : Nat → ClassId) (dI : Nat → Nat → Nat) (dA : Nat → ClassId) (L : List Nat) (h : hx_h) (sz : Nat) (x : Nat) (i1 : Int32) (i2 : Int32) (hT : hx_T T_tb L h) (gx : hx_g L h x 10)  : Met l yX10_seize (Cond.code yX10_seize cX10_seize 3 (some .int) :: hx_all) ({ frames := 2, cells := 0, slots := 0, locals := 50 }) (va_Pc [.ref x, .int i1, .int i2] (hx_B T_tb (P_ty dA) (dC, dI) vwCl L h sz)) (va_Qi (fun (r : Int32) (u : List Nat × hx_h) => (True) ∧ hx_T T_tb u.1 u.2 ∧ hx_S T_tb [(10, 67), (10, 68), (10, 69), (10, 70), (10, 71), (84, 0), (91, 0)] L h u.1 u.2) (hx_E T_tb (P_ty dA) (dC, dI) vwCl (hx_A L sz)) (hx_A L sz)) 0 0 (hx_A L sz) := by
  refine hx_met (lv := [(0, .ref x), (1, .int i1), (2, .int i2)]) (by decide +kernel) rfl (Nat.le_of_ble_eq_true rfl) rfl ?_
  intro p e s m below meth c hx hb hml hr hlk hts0 hown hin hsz hW ls hl
  have hts : ∀ w ∈ hx_all, w.before _ s = true := fun w hw => hts0 w (List.mem_cons_of_mem _ hw)
  have hown : s.vm.findClass "SmallCourtModel" = some m.cls := hown
  have hM : hx_S T_tb [(10, 67), (10, 68), (10, 69), (10, 70), (10, 71), (84, 0), (91, 0)] L h L h := hx_S.rf
  refine lv_aload_n hx hb dX10_seize_0 rfl (lv_at hl 0 rfl) ?_
  refine lv_iload_n hx hb dX10_seize_1 rfl (lv_at hl 1 rfl) ?_
  obtain ⟨fv_1, efv_1⟩ : ∃ y : Int32, y = h.2.1 x 36 := ⟨_, rfl⟩
  have bfv_1 := hT.gi (gx.S hM) tt_10 (k := 36) rfl
  rw [← efv_1] at bfv_1
  have bfv_1 : 0 ≤ fv_1.toInt ∧ fv_1.toInt ≤ 100 := bfv_1
  have ffv_1 := efv_1.symm
  refine hx_goi (hx_runV (As := [.int i1]) (rest := []) ⟨hx, hb, hml, hown, hts⟩ hW (gx.S hM) tt_10 (T := TX10) (N := 98) rfl (t_X10_isClaim l dC dI dA L h s.heap.size x i1 hT (gx.S hM) fv_1 ffv_1) (cwV 1 hts (hx_gV kw_1597 kw_1594 kw_1596 kw_73 kw_103) rfl rfl rfl (by decide +kernel) ⟨Nat.le_of_ble_eq_true rfl, Nat.le_of_ble_eq_true rfl⟩) rfl hl.1 rfl (Nat.le_of_ble_eq_true rfl) dX10_seize_2 ⟨Nat.le_of_ble_eq_true rfl, Nat.le_of_ble_eq_true rfl⟩) hW (fun r_4 L_2 h_3 H locs p_5 hW => ?_)
  obtain ⟨hr_6, hT, hs⟩ := p_5
  replace hT : hx_T T_tb L_2 h_3 := hT
  replace hs : hx_S T_tb [] L h L_2 h_3 := hs
  replace ffv_1 := (hs.o (gx.S hM) trivial rfl).1.trans ffv_1
  replace hM := hM.tr (hs.mono (by decide))
  refine hb_if_eq (zx := r_4.toInt) (tgt := 29) hx hb rfl dX10_seize_5 (by decide) (fun c_7 => ?_) (fun c_7 => ?_)
  · skip
    replace hr_6 := hr_6.resolve_right (fun z9 => absurd (c_7.symm.trans z9.1) (by decide))
    replace hr_6 := hr_6.2
    refine lv_ldcw (v := -1000000) hx hb hown (hts _ kw_1569) dX10_seize_29 ?_
    exact hx_reti hx hb hr hlk hW ⟨trivial, hT, hM⟩ dX10_seize_32
  · skip
    replace hr_6 := hr_6.resolve_left (fun z9 => c_7 z9.1)
    replace c_7 := hr_6.1
    replace hr_6 := hr_6.2
    refine lv_aload_n hx hb dX10_seize_8 rfl (lv_at hl 0 rfl) ?_
    refine hx_getn hx hb hts hC_10 hown hW hT (gx.S hM) tt_10 49 (by decide) rfl kw_1192 ⟨rfl, rfl, rfl⟩ dX10_seize_9 (fun q_8 fq_8 gq_8 => ?_)
    refine lv_iload_n hx hb dX10_seize_12 rfl (lv_at hl 1 rfl) ?_
    refine hx_iald hx hb hW hT gq_8 tt_84 rfl ⟨by omega, by omega⟩ dX10_seize_13 (fun x_9 ex_9 lx_9 ux_9 => ?_)
    refine lv_iconst (v := -1) hx hb dX10_seize_14 (by decide) ?_
    refine hb_icmp_ne (zx := x_9.toInt) (zy := (-1)) (tgt := 29) hx hb rfl (by decide) dX10_seize_15 (by decide) (fun c_10 => ?_) (fun c_10 => ?_)
    · skip
      refine lv_ldcw (v := -1000000) hx hb hown (hts _ kw_1569) dX10_seize_29 ?_
      exact hx_reti hx hb hr hlk hW ⟨trivial, hT, hM⟩ dX10_seize_32
    · skip
      refine lv_iload_n hx hb dX10_seize_18 rfl (lv_at hl 2 rfl) ?_
      refine lv_iconst (v := 1) hx hb dX10_seize_19 (by decide) ?_
      refine lv_sipush (v := 9999) hx hb dX10_seize_20 (by decide) ?_
      have zc_9999 : (9999 : Int32).toInt = 9999 := by decide
      have zc_1 : (1 : Int32).toInt = 1 := by decide
      refine hx_goi (hx_runS (As := [.int i2, .int (1 : Int32), .int (9999 : Int32)]) (rest := []) ⟨hx, hb, hml, hown, hts⟩ hW (t_X10_in l dC dI dA L_2 h_3 H.size i2 (1 : Int32) (9999 : Int32) hT) (va_cwS 3 hts (hx_gS kw_1445 kw_1443 kw_1444 kw_103) rfl rfl rfl (by decide +kernel) ⟨Nat.le_of_ble_eq_true rfl, Nat.le_of_ble_eq_true rfl⟩) rfl hl.1 rfl (Nat.le_of_ble_eq_true rfl) dX10_seize_23 ⟨Nat.le_of_ble_eq_true rfl, Nat.le_of_ble_eq_true rfl⟩) hW (fun r_13 L_11 h_12 H locs p_14 hW => ?_)
      obtain ⟨hr_15, hT, hs⟩ := p_14
      replace hT : hx_T T_tb L_11 h_12 := hT
      replace hs : hx_S T_tb [] L_2 h_3 L_11 h_12 := hs
      replace ffv_1 := (hs.o (gx.S hM) trivial rfl).1.trans ffv_1
      replace fq_8 := (hs.o (gx.S hM) trivial rfl).2.trans fq_8
      replace ex_9 := ex_9.trans (hs.a gq_8 rfl _).1.symm
      replace hM := hM.tr (hs.mono (by decide))
      replace gq_8 := gq_8.S hs
      refine hb_if_ne (zx := r_13.toInt) (tgt := 33) hx hb rfl dX10_seize_26 (by decide) (fun c_16 => ?_) (fun c_16 => ?_)
      · skip
        replace hr_15 := hr_15.resolve_left (fun z9 => c_16 z9.1)
        replace c_16 := hr_15.1
        replace hr_15 := hr_15.2
        refine lv_aload_n hx hb dX10_seize_33 rfl (lv_at hl 0 rfl) ?_
        refine lv_iload_n hx hb dX10_seize_34 rfl (lv_at hl 1 rfl) ?_
        refine lv_aload_n hx hb dX10_seize_35 rfl (lv_at hl 0 rfl) ?_
        refine hx_geti hx hb hts hC_10 hown hW hT (gx.S hM) tt_10 0 (by decide) rfl kw_1143 ⟨rfl, rfl, rfl⟩ dX10_seize_36 (fun x_17 ex_17 lx_17 ux_17 => ?_)
        have fx_17 := ex_17.symm
        refine lv_aload_n hx hb dX10_seize_39 rfl (lv_at hl 0 rfl) ?_
        refine hk_geti hx hb hts hC_10 hown hW (gx.S hM) tt_10 0 (by decide) rfl kw_1143 ⟨rfl, rfl, rfl⟩ fx_17 dX10_seize_40 ?_
        refine hx_gov (hx_runV (As := [.int i1, .int x_17, .int x_17]) (rest := []) ⟨hx, hb, hml, hown, hts⟩ hW (gx.S hM) tt_10 (T := TX10) (N := 98) rfl (t_X10_looks l dC dI dA L_11 h_12 H.size x i1 x_17 x_17 hT (gx.S hM) ⟨by omega, by omega⟩) (cwV 3 hts (hx_gV kw_1641 kw_1638 kw_1640 kw_82 kw_103) rfl rfl rfl (by decide +kernel) ⟨Nat.le_of_ble_eq_true rfl, Nat.le_of_ble_eq_true rfl⟩) rfl hl.1 rfl (Nat.le_of_ble_eq_true rfl) dX10_seize_43 ⟨Nat.le_of_ble_eq_true rfl, Nat.le_of_ble_eq_true rfl⟩) hW (fun L_18 h_19 H locs p_21 hW => ?_)
        obtain ⟨⟨w_23, w_24, w_25, fw_23, fw_24, fw_25, hr_22⟩, hT, hs⟩ := p_21
        replace hT : hx_T T_tb L_18 h_19 := hT
        replace hs : hx_S T_tb [(10, 67), (10, 68), (10, 69), (10, 70), (10, 71)] L_11 h_12 L_18 h_19 := hs
        replace ffv_1 := (hs.o (gx.S hM) trivial rfl).1.trans ffv_1
        replace fq_8 := (hs.o (gx.S hM) trivial rfl).2.trans fq_8
        replace fx_17 := (hs.o (gx.S hM) trivial rfl).1.trans fx_17
        replace ex_9 := ex_9.trans (hs.a gq_8 rfl _).1.symm
        replace hM := hM.tr (hs.mono (by decide))
        replace gq_8 := gq_8.S hs
        have fw_23 : h_19.2.1 x 68 = w_23 := fw_23
        have bw_23 := hT.gi (gx.S hM) tt_10 (k := 68) rfl
        rw [fw_23] at bw_23
        have bw_23 : 0 ≤ w_23.toInt ∧ w_23.toInt ≤ 610000 := bw_23
        have fw_24 : h_19.2.1 x 71 = w_24 := fw_24
        have bw_24 := hT.gi (gx.S hM) tt_10 (k := 71) rfl
        rw [fw_24] at bw_24
        have bw_24 : 0 ≤ w_24.toInt ∧ w_24.toInt ≤ 8 := bw_24
        have fw_25 : h_19.2.1 x 67 = w_25 := fw_25
        have bw_25 := hT.gi (gx.S hM) tt_10 (k := 67) rfl
        rw [fw_25] at bw_25
        have bw_25 : 0 ≤ w_25.toInt ∧ w_25.toInt ≤ 366100000 := bw_25
        refine lv_aload_n hx hb dX10_seize_46 rfl (lv_at hl 0 rfl) ?_
        refine hk_geti hx hb hts hC_10 hown hW (gx.S hM) tt_10 71 (by decide) rfl kw_1214 ⟨rfl, rfl, rfl⟩ fw_24 dX10_seize_47 ?_
        refine lv_iconst (v := 5) hx hb dX10_seize_50 (by decide) ?_
        refine lv_bipush (v := 6) hx hb dX10_seize_51 (by decide) ?_
        have zc_6 : (6 : Int32).toInt = 6 := by decide
        have zc_5 : (5 : Int32).toInt = 5 := by decide
        refine hx_goi (hx_runS (As := [.int w_24, .int (5 : Int32), .int (6 : Int32)]) (rest := []) ⟨hx, hb, hml, hown, hts⟩ hW (t_X10_in l dC dI dA L_18 h_19 H.size w_24 (5 : Int32) (6 : Int32) hT) (va_cwS 3 hts (hx_gS kw_1445 kw_1443 kw_1444 kw_103) rfl rfl rfl (by decide +kernel) ⟨Nat.le_of_ble_eq_true rfl, Nat.le_of_ble_eq_true rfl⟩) rfl hl.1 rfl (Nat.le_of_ble_eq_true rfl) dX10_seize_53 ⟨Nat.le_of_ble_eq_true rfl, Nat.le_of_ble_eq_true rfl⟩) hW (fun r_28 L_26 h_27 H locs p_29 hW => ?_)
        obtain ⟨hr_30, hT, hs⟩ := p_29
        replace hT : hx_T T_tb L_26 h_27 := hT
        replace hs : hx_S T_tb [] L_18 h_19 L_26 h_27 := hs
        replace ffv_1 := (hs.o (gx.S hM) trivial rfl).1.trans ffv_1
        replace fq_8 := (hs.o (gx.S hM) trivial rfl).2.trans fq_8
        replace fx_17 := (hs.o (gx.S hM) trivial rfl).1.trans fx_17
        replace fw_23 := (hs.o (gx.S hM) trivial rfl).1.trans fw_23
        replace fw_24 := (hs.o (gx.S hM) trivial rfl).1.trans fw_24
        replace fw_25 := (hs.o (gx.S hM) trivial rfl).1.trans fw_25
        replace ex_9 := ex_9.trans (hs.a gq_8 rfl _).1.symm
        replace hM := hM.tr (hs.mono (by decide))
        replace gq_8 := gq_8.S hs
        refine hb_if_ne (zx := r_28.toInt) (tgt := 63) hx hb rfl dX10_seize_56 (by decide) (fun c_31 => ?_) (fun c_31 => ?_)
        · skip
          replace hr_30 := hr_30.resolve_left (fun z9 => c_31 z9.1)
          replace c_31 := hr_30.1
          replace hr_30 := hr_30.2
          refine lv_aload_n hx hb dX10_seize_63 rfl (lv_at hl 0 rfl) ?_
          refine hk_getr hx hb hts hC_10 hown hW (gx.S hM) tt_10 49 (by decide) rfl kw_1192 ⟨rfl, rfl, rfl⟩ fq_8 dX10_seize_64 ?_
          refine lv_iload_n hx hb dX10_seize_67 rfl (lv_at hl 1 rfl) ?_
          refine lv_aload_n hx hb dX10_seize_68 rfl (lv_at hl 0 rfl) ?_
          refine hk_geti hx hb hts hC_10 hown hW (gx.S hM) tt_10 0 (by decide) rfl kw_1143 ⟨rfl, rfl, rfl⟩ fx_17 dX10_seize_69 ?_
          refine hx_iast hx hb hW hT (hx_S.rf (M := [(84, 0)])) gq_8 tt_84 rfl ⟨by omega, by omega⟩ rfl (i32_r _) (List.mem_singleton.mpr rfl) dX10_seize_72 (fun H locs h_32 eh_32 hW hT hs => ?_)
          replace ffv_1 := (hs.o (gx.S hM) trivial rfl).1.trans ffv_1
          replace fq_8 := (hs.o (gx.S hM) trivial rfl).2.trans fq_8
          replace fx_17 := (hs.o (gx.S hM) trivial rfl).1.trans fx_17
          replace fw_23 := (hs.o (gx.S hM) trivial rfl).1.trans fw_23
          replace fw_24 := (hs.o (gx.S hM) trivial rfl).1.trans fw_24
          replace fw_25 := (hs.o (gx.S hM) trivial rfl).1.trans fw_25
          replace hM := hM.tr (hs.mono (by decide))
          replace gq_8 := gq_8.S hs
          refine lv_aload_n hx hb dX10_seize_73 rfl (lv_at hl 0 rfl) ?_
          refine hx_getn hx hb hts hC_10 hown hW hT (gx.S hM) tt_10 56 (by decide) rfl kw_1199 ⟨rfl, rfl, rfl⟩ dX10_seize_74 (fun q_33 fq_33 gq_33 => ?_)
          refine lv_iload_n hx hb dX10_seize_77 rfl (lv_at hl 1 rfl) ?_
          refine lv_iload_n hx hb dX10_seize_78 rfl (lv_at hl 2 rfl) ?_
          refine hx_iast hx hb hW hT (hx_S.rf (M := [(91, 0)])) gq_33 tt_91 rfl ⟨by omega, by omega⟩ rfl ⟨by omega, by omega⟩ (List.mem_singleton.mpr rfl) dX10_seize_79 (fun H locs h_34 eh_34 hW hT hs => ?_)
          replace ffv_1 := (hs.o (gx.S hM) trivial rfl).1.trans ffv_1
          replace fq_8 := (hs.o (gx.S hM) trivial rfl).2.trans fq_8
          replace fx_17 := (hs.o (gx.S hM) trivial rfl).1.trans fx_17
          replace fw_23 := (hs.o (gx.S hM) trivial rfl).1.trans fw_23
          replace fw_24 := (hs.o (gx.S hM) trivial rfl).1.trans fw_24
          replace fw_25 := (hs.o (gx.S hM) trivial rfl).1.trans fw_25
          replace fq_33 := (hs.o (gx.S hM) trivial rfl).2.trans fq_33
          replace hM := hM.tr (hs.mono (by decide))
          replace gq_8 := gq_8.S hs
          replace gq_33 := gq_33.S hs
          refine lv_aload_n hx hb dX10_seize_80 rfl (lv_at hl 0 rfl) ?_
          refine lv_iload_n hx hb dX10_seize_81 rfl (lv_at hl 1 rfl) ?_
          refine lv_aload_n hx hb dX10_seize_82 rfl (lv_at hl 0 rfl) ?_
          refine hk_geti hx hb hts hC_10 hown hW (gx.S hM) tt_10 0 (by decide) rfl kw_1143 ⟨rfl, rfl, rfl⟩ fx_17 dX10_seize_83 ?_
          refine lv_aload_n hx hb dX10_seize_86 rfl (lv_at hl 0 rfl) ?_
          refine hk_geti hx hb hts hC_10 hown hW (gx.S hM) tt_10 0 (by decide) rfl kw_1143 ⟨rfl, rfl, rfl⟩ fx_17 dX10_seize_87 ?_
          refine hx_gov (hx_runV (As := [.int i1, .int x_17, .int x_17]) (rest := []) ⟨hx, hb, hml, hown, hts⟩ hW (gx.S hM) tt_10 (T := TX10) (N := 98) rfl (t_X10_looks l dC dI dA L_26 h_34 H.size x i1 x_17 x_17 hT (gx.S hM) ⟨by omega, by omega⟩) (cwV 3 hts (hx_gV kw_1641 kw_1638 kw_1640 kw_82 kw_103) rfl rfl rfl (by decide +kernel) ⟨Nat.le_of_ble_eq_true rfl, Nat.le_of_ble_eq_true rfl⟩) rfl hl.1 rfl (Nat.le_of_ble_eq_true rfl) dX10_seize_90 ⟨Nat.le_of_ble_eq_true rfl, Nat.le_of_ble_eq_true rfl⟩) hW (fun L_35 h_36 H locs p_38 hW => ?_)
          obtain ⟨⟨w_40, w_41, w_42, fw_40, fw_41, fw_42, hr_39⟩, hT, hs⟩ := p_38
          replace hT : hx_T T_tb L_35 h_36 := hT
          replace hs : hx_S T_tb [(10, 67), (10, 68), (10, 69), (10, 70), (10, 71)] L_26 h_34 L_35 h_36 := hs
          replace ffv_1 := (hs.o (gx.S hM) trivial rfl).1.trans ffv_1
          replace fq_8 := (hs.o (gx.S hM) trivial rfl).2.trans fq_8
          replace fx_17 := (hs.o (gx.S hM) trivial rfl).1.trans fx_17
          replace fq_33 := (hs.o (gx.S hM) trivial rfl).2.trans fq_33
          replace hM := hM.tr (hs.mono (by decide))
          replace gq_8 := gq_8.S hs
          replace gq_33 := gq_33.S hs
          have fw_40 : h_36.2.1 x 68 = w_40 := fw_40
          have bw_40 := hT.gi (gx.S hM) tt_10 (k := 68) rfl
          rw [fw_40] at bw_40
          have bw_40 : 0 ≤ w_40.toInt ∧ w_40.toInt ≤ 610000 := bw_40
          have fw_41 : h_36.2.1 x 71 = w_41 := fw_41
          have bw_41 := hT.gi (gx.S hM) tt_10 (k := 71) rfl
          rw [fw_41] at bw_41
          have bw_41 : 0 ≤ w_41.toInt ∧ w_41.toInt ≤ 8 := bw_41
          have fw_42 : h_36.2.1 x 67 = w_42 := fw_42
          have bw_42 := hT.gi (gx.S hM) tt_10 (k := 67) rfl
          rw [fw_42] at bw_42
          have bw_42 : 0 ≤ w_42.toInt ∧ w_42.toInt ≤ 366100000 := bw_42
          refine lv_aload_n hx hb dX10_seize_93 rfl (lv_at hl 0 rfl) ?_
          refine hx_geti hx hb hts hC_10 hown hW hT (gx.S hM) tt_10 69 (by decide) rfl kw_1212 ⟨rfl, rfl, rfl⟩ dX10_seize_94 (fun x_43 ex_43 lx_43 ux_43 => ?_)
          have fx_43 := ex_43.symm
          refine hb_if_le (zx := x_43.toInt) (tgt := 108) hx hb rfl dX10_seize_97 (by decide) (fun c_44 => ?_) (fun c_44 => ?_)
          · skip
            refine lv_aload_n hx hb dX10_seize_108 rfl (lv_at hl 0 rfl) ?_
            refine hk_geti hx hb hts hC_10 hown hW (gx.S hM) tt_10 68 (by decide) rfl kw_1211 ⟨rfl, rfl, rfl⟩ fw_40 dX10_seize_109 ?_
            exact hx_reti hx hb hr hlk hW ⟨trivial, hT, hM⟩ dX10_seize_112
          · skip
            refine lv_aload_n hx hb dX10_seize_100 rfl (lv_at hl 0 rfl) ?_
            refine hk_geti hx hb hts hC_10 hown hW (gx.S hM) tt_10 69 (by decide) rfl kw_1212 ⟨rfl, rfl, rfl⟩ fx_43 dX10_seize_101 ?_
            refine lv_ineg hx hb dX10_seize_104 ?_
            refine lv_topi (fun x_45 ex_45 => ?_)
            refine lv_goto (tgt := 112) hx hb dX10_seize_105 (by decide) ?_
            exact hx_reti hx hb hr hlk hW ⟨trivial, hT, hM⟩ dX10_seize_112
        · skip
          replace hr_30 := hr_30.resolve_right (fun z9 => absurd (c_31.symm.trans z9.1) (by decide))
          replace hr_30 := hr_30.2
          refine lv_ldcw (v := -1000000) hx hb hown (hts _ kw_1569) dX10_seize_59 ?_
          exact hx_reti hx hb hr hlk hW ⟨trivial, hT, hM⟩ dX10_seize_62
      · skip
        replace hr_15 := hr_15.resolve_right (fun z9 => absurd (c_16.symm.trans z9.1) (by decide))
        replace hr_15 := hr_15.2
        refine lv_ldcw (v := -1000000) hx hb hown (hts _ kw_1569) dX10_seize_29 ?_
        exact hx_reti hx hb hr hlk hW ⟨trivial, hT, hM⟩ dX10_seize_32

def wLX10_gaol_0 : List Nat := [42, 27, 182, 1, 114, 153, 0, 27, 42, 180, 0, 117, 27, 46, 2, 159, 0, 17, 42, 180, 0, 56, 42, 180, 0, 84, 27, 46, 51, 153, 0, 5, 2, 172, 42, 27, 42, 180, 0, 232, 42, 180, 0, 232, 182, 1, 160, 42, 180, 1, 154, 16, 6, 159, 0, 5, 2, 172, 42, 180, 1, 145, 16, 11]
def wLX10_gaol_1 : List Nat := [96, 16, 12, 108, 42, 42, 180, 0, 102, 27, 46, 16, 6, 182, 1, 77, 104, 61, 42, 180, 0, 120, 27, 42, 180, 0, 232, 79, 28, 42, 42, 180, 0, 102, 27, 46, 16, 7, 182, 1, 77, 162, 0, 7, 28, 167, 0, 15, 42, 42, 180, 0, 102, 27, 46, 16, 7, 182, 1, 77, 172]
theorem wX10_gaol_0 : (cX10_gaol.data.toList.map UInt8.toNat).drop 0 = wLX10_gaol_0 ++ (wLX10_gaol_1 ++ ([])) := by decide +kernel
theorem wX10_gaol_1 : (cX10_gaol.data.toList.map UInt8.toNat).drop 64 = wLX10_gaol_1 ++ ([]) := hz_wn wX10_gaol_0 rfl
theorem dX10_gaol_0 : decode cX10_gaol 0 = .ok (.aload_n 0, 1) := dq_42 (hz_wg wX10_gaol_0 (j := 0) (n := 42) rfl)
theorem dX10_gaol_1 : decode cX10_gaol 1 = .ok (.iload_n 1, 1) := dq_27 (hz_wg wX10_gaol_0 (j := 1) (n := 27) rfl)
theorem dX10_gaol_2 : decode cX10_gaol 2 = .ok (.invokevirtual 370, 3) := dq_182 (hz_wg wX10_gaol_0 (j := 2) (n := 182) rfl) (hz_wg wX10_gaol_0 (j := 3) (n := 1) rfl) (hz_wg wX10_gaol_0 (j := 4) (n := 114) rfl) rfl
theorem dX10_gaol_5 : decode cX10_gaol 5 = .ok (.ifCond .eq 27, 3) := dq_153 (hz_wg wX10_gaol_0 (j := 5) (n := 153) rfl) (hz_wg wX10_gaol_0 (j := 6) (n := 0) rfl) (hz_wg wX10_gaol_0 (j := 7) (n := 27) rfl) (by decide)
theorem dX10_gaol_8 : decode cX10_gaol 8 = .ok (.aload_n 0, 1) := dq_42 (hz_wg wX10_gaol_0 (j := 8) (n := 42) rfl)
theorem dX10_gaol_9 : decode cX10_gaol 9 = .ok (.getfield 117, 3) := dq_180 (hz_wg wX10_gaol_0 (j := 9) (n := 180) rfl) (hz_wg wX10_gaol_0 (j := 10) (n := 0) rfl) (hz_wg wX10_gaol_0 (j := 11) (n := 117) rfl) rfl
theorem dX10_gaol_12 : decode cX10_gaol 12 = .ok (.iload_n 1, 1) := dq_27 (hz_wg wX10_gaol_0 (j := 12) (n := 27) rfl)
theorem dX10_gaol_13 : decode cX10_gaol 13 = .ok (.iaload, 1) := dq_46 (hz_wg wX10_gaol_0 (j := 13) (n := 46) rfl)
theorem dX10_gaol_14 : decode cX10_gaol 14 = .ok (.iconst (-1), 1) := dq_2 (hz_wg wX10_gaol_0 (j := 14) (n := 2) rfl)
theorem dX10_gaol_15 : decode cX10_gaol 15 = .ok (.if_icmp .eq 17, 3) := dq_159 (hz_wg wX10_gaol_0 (j := 15) (n := 159) rfl) (hz_wg wX10_gaol_0 (j := 16) (n := 0) rfl) (hz_wg wX10_gaol_0 (j := 17) (n := 17) rfl) (by decide)
theorem dX10_gaol_18 : decode cX10_gaol 18 = .ok (.aload_n 0, 1) := dq_42 (hz_wg wX10_gaol_0 (j := 18) (n := 42) rfl)
theorem dX10_gaol_19 : decode cX10_gaol 19 = .ok (.getfield 56, 3) := dq_180 (hz_wg wX10_gaol_0 (j := 19) (n := 180) rfl) (hz_wg wX10_gaol_0 (j := 20) (n := 0) rfl) (hz_wg wX10_gaol_0 (j := 21) (n := 56) rfl) rfl
theorem dX10_gaol_22 : decode cX10_gaol 22 = .ok (.aload_n 0, 1) := dq_42 (hz_wg wX10_gaol_0 (j := 22) (n := 42) rfl)
theorem dX10_gaol_23 : decode cX10_gaol 23 = .ok (.getfield 84, 3) := dq_180 (hz_wg wX10_gaol_0 (j := 23) (n := 180) rfl) (hz_wg wX10_gaol_0 (j := 24) (n := 0) rfl) (hz_wg wX10_gaol_0 (j := 25) (n := 84) rfl) rfl
theorem dX10_gaol_26 : decode cX10_gaol 26 = .ok (.iload_n 1, 1) := dq_27 (hz_wg wX10_gaol_0 (j := 26) (n := 27) rfl)
theorem dX10_gaol_27 : decode cX10_gaol 27 = .ok (.iaload, 1) := dq_46 (hz_wg wX10_gaol_0 (j := 27) (n := 46) rfl)
theorem dX10_gaol_28 : decode cX10_gaol 28 = .ok (.baload, 1) := dq_51 (hz_wg wX10_gaol_0 (j := 28) (n := 51) rfl)
theorem dX10_gaol_29 : decode cX10_gaol 29 = .ok (.ifCond .eq 5, 3) := dq_153 (hz_wg wX10_gaol_0 (j := 29) (n := 153) rfl) (hz_wg wX10_gaol_0 (j := 30) (n := 0) rfl) (hz_wg wX10_gaol_0 (j := 31) (n := 5) rfl) (by decide)
theorem dX10_gaol_32 : decode cX10_gaol 32 = .ok (.iconst (-1), 1) := dq_2 (hz_wg wX10_gaol_0 (j := 32) (n := 2) rfl)
theorem dX10_gaol_33 : decode cX10_gaol 33 = .ok (.ireturn, 1) := dq_172 (hz_wg wX10_gaol_0 (j := 33) (n := 172) rfl)
theorem dX10_gaol_34 : decode cX10_gaol 34 = .ok (.aload_n 0, 1) := dq_42 (hz_wg wX10_gaol_0 (j := 34) (n := 42) rfl)
theorem dX10_gaol_35 : decode cX10_gaol 35 = .ok (.iload_n 1, 1) := dq_27 (hz_wg wX10_gaol_0 (j := 35) (n := 27) rfl)
theorem dX10_gaol_36 : decode cX10_gaol 36 = .ok (.aload_n 0, 1) := dq_42 (hz_wg wX10_gaol_0 (j := 36) (n := 42) rfl)
theorem dX10_gaol_37 : decode cX10_gaol 37 = .ok (.getfield 232, 3) := dq_180 (hz_wg wX10_gaol_0 (j := 37) (n := 180) rfl) (hz_wg wX10_gaol_0 (j := 38) (n := 0) rfl) (hz_wg wX10_gaol_0 (j := 39) (n := 232) rfl) rfl
theorem dX10_gaol_40 : decode cX10_gaol 40 = .ok (.aload_n 0, 1) := dq_42 (hz_wg wX10_gaol_0 (j := 40) (n := 42) rfl)
theorem dX10_gaol_41 : decode cX10_gaol 41 = .ok (.getfield 232, 3) := dq_180 (hz_wg wX10_gaol_0 (j := 41) (n := 180) rfl) (hz_wg wX10_gaol_0 (j := 42) (n := 0) rfl) (hz_wg wX10_gaol_0 (j := 43) (n := 232) rfl) rfl
theorem dX10_gaol_44 : decode cX10_gaol 44 = .ok (.invokevirtual 416, 3) := dq_182 (hz_wg wX10_gaol_0 (j := 44) (n := 182) rfl) (hz_wg wX10_gaol_0 (j := 45) (n := 1) rfl) (hz_wg wX10_gaol_0 (j := 46) (n := 160) rfl) rfl
theorem dX10_gaol_47 : decode cX10_gaol 47 = .ok (.aload_n 0, 1) := dq_42 (hz_wg wX10_gaol_0 (j := 47) (n := 42) rfl)
theorem dX10_gaol_48 : decode cX10_gaol 48 = .ok (.getfield 410, 3) := dq_180 (hz_wg wX10_gaol_0 (j := 48) (n := 180) rfl) (hz_wg wX10_gaol_0 (j := 49) (n := 1) rfl) (hz_wg wX10_gaol_0 (j := 50) (n := 154) rfl) rfl
theorem dX10_gaol_51 : decode cX10_gaol 51 = .ok (.bipush 6, 2) := dq_16 (hz_wg wX10_gaol_0 (j := 51) (n := 16) rfl) (hz_wg wX10_gaol_0 (j := 52) (n := 6) rfl) (by decide)
theorem dX10_gaol_53 : decode cX10_gaol 53 = .ok (.if_icmp .eq 5, 3) := dq_159 (hz_wg wX10_gaol_0 (j := 53) (n := 159) rfl) (hz_wg wX10_gaol_0 (j := 54) (n := 0) rfl) (hz_wg wX10_gaol_0 (j := 55) (n := 5) rfl) (by decide)
theorem dX10_gaol_56 : decode cX10_gaol 56 = .ok (.iconst (-1), 1) := dq_2 (hz_wg wX10_gaol_0 (j := 56) (n := 2) rfl)
theorem dX10_gaol_57 : decode cX10_gaol 57 = .ok (.ireturn, 1) := dq_172 (hz_wg wX10_gaol_0 (j := 57) (n := 172) rfl)
theorem dX10_gaol_58 : decode cX10_gaol 58 = .ok (.aload_n 0, 1) := dq_42 (hz_wg wX10_gaol_0 (j := 58) (n := 42) rfl)
theorem dX10_gaol_59 : decode cX10_gaol 59 = .ok (.getfield 401, 3) := dq_180 (hz_wg wX10_gaol_0 (j := 59) (n := 180) rfl) (hz_wg wX10_gaol_0 (j := 60) (n := 1) rfl) (hz_wg wX10_gaol_0 (j := 61) (n := 145) rfl) rfl
theorem dX10_gaol_62 : decode cX10_gaol 62 = .ok (.bipush 11, 2) := dq_16 (hz_wg wX10_gaol_0 (j := 62) (n := 16) rfl) (hz_wg wX10_gaol_0 (j := 63) (n := 11) rfl) (by decide)
theorem dX10_gaol_64 : decode cX10_gaol 64 = .ok (.iadd, 1) := dq_96 (hz_wg wX10_gaol_1 (j := 0) (n := 96) rfl)
theorem dX10_gaol_65 : decode cX10_gaol 65 = .ok (.bipush 12, 2) := dq_16 (hz_wg wX10_gaol_1 (j := 1) (n := 16) rfl) (hz_wg wX10_gaol_1 (j := 2) (n := 12) rfl) (by decide)
theorem dX10_gaol_67 : decode cX10_gaol 67 = .ok (.idiv, 1) := dq_108 (hz_wg wX10_gaol_1 (j := 3) (n := 108) rfl)
theorem dX10_gaol_68 : decode cX10_gaol 68 = .ok (.aload_n 0, 1) := dq_42 (hz_wg wX10_gaol_1 (j := 4) (n := 42) rfl)
theorem dX10_gaol_69 : decode cX10_gaol 69 = .ok (.aload_n 0, 1) := dq_42 (hz_wg wX10_gaol_1 (j := 5) (n := 42) rfl)
theorem dX10_gaol_70 : decode cX10_gaol 70 = .ok (.getfield 102, 3) := dq_180 (hz_wg wX10_gaol_1 (j := 6) (n := 180) rfl) (hz_wg wX10_gaol_1 (j := 7) (n := 0) rfl) (hz_wg wX10_gaol_1 (j := 8) (n := 102) rfl) rfl
theorem dX10_gaol_73 : decode cX10_gaol 73 = .ok (.iload_n 1, 1) := dq_27 (hz_wg wX10_gaol_1 (j := 9) (n := 27) rfl)
theorem dX10_gaol_74 : decode cX10_gaol 74 = .ok (.iaload, 1) := dq_46 (hz_wg wX10_gaol_1 (j := 10) (n := 46) rfl)
theorem dX10_gaol_75 : decode cX10_gaol 75 = .ok (.bipush 6, 2) := dq_16 (hz_wg wX10_gaol_1 (j := 11) (n := 16) rfl) (hz_wg wX10_gaol_1 (j := 12) (n := 6) rfl) (by decide)
theorem dX10_gaol_77 : decode cX10_gaol 77 = .ok (.invokevirtual 333, 3) := dq_182 (hz_wg wX10_gaol_1 (j := 13) (n := 182) rfl) (hz_wg wX10_gaol_1 (j := 14) (n := 1) rfl) (hz_wg wX10_gaol_1 (j := 15) (n := 77) rfl) rfl
theorem dX10_gaol_80 : decode cX10_gaol 80 = .ok (.imul, 1) := dq_104 (hz_wg wX10_gaol_1 (j := 16) (n := 104) rfl)
theorem dX10_gaol_81 : decode cX10_gaol 81 = .ok (.istore_n 2, 1) := dq_61 (hz_wg wX10_gaol_1 (j := 17) (n := 61) rfl)
theorem dX10_gaol_82 : decode cX10_gaol 82 = .ok (.aload_n 0, 1) := dq_42 (hz_wg wX10_gaol_1 (j := 18) (n := 42) rfl)
theorem dX10_gaol_83 : decode cX10_gaol 83 = .ok (.getfield 120, 3) := dq_180 (hz_wg wX10_gaol_1 (j := 19) (n := 180) rfl) (hz_wg wX10_gaol_1 (j := 20) (n := 0) rfl) (hz_wg wX10_gaol_1 (j := 21) (n := 120) rfl) rfl
theorem dX10_gaol_86 : decode cX10_gaol 86 = .ok (.iload_n 1, 1) := dq_27 (hz_wg wX10_gaol_1 (j := 22) (n := 27) rfl)
theorem dX10_gaol_87 : decode cX10_gaol 87 = .ok (.aload_n 0, 1) := dq_42 (hz_wg wX10_gaol_1 (j := 23) (n := 42) rfl)
theorem dX10_gaol_88 : decode cX10_gaol 88 = .ok (.getfield 232, 3) := dq_180 (hz_wg wX10_gaol_1 (j := 24) (n := 180) rfl) (hz_wg wX10_gaol_1 (j := 25) (n := 0) rfl) (hz_wg wX10_gaol_1 (j := 26) (n := 232) rfl) rfl
theorem dX10_gaol_91 : decode cX10_gaol 91 = .ok (.iastore, 1) := dq_79 (hz_wg wX10_gaol_1 (j := 27) (n := 79) rfl)
theorem dX10_gaol_92 : decode cX10_gaol 92 = .ok (.iload_n 2, 1) := dq_28 (hz_wg wX10_gaol_1 (j := 28) (n := 28) rfl)
theorem dX10_gaol_93 : decode cX10_gaol 93 = .ok (.aload_n 0, 1) := dq_42 (hz_wg wX10_gaol_1 (j := 29) (n := 42) rfl)
theorem dX10_gaol_94 : decode cX10_gaol 94 = .ok (.aload_n 0, 1) := dq_42 (hz_wg wX10_gaol_1 (j := 30) (n := 42) rfl)
theorem dX10_gaol_95 : decode cX10_gaol 95 = .ok (.getfield 102, 3) := dq_180 (hz_wg wX10_gaol_1 (j := 31) (n := 180) rfl) (hz_wg wX10_gaol_1 (j := 32) (n := 0) rfl) (hz_wg wX10_gaol_1 (j := 33) (n := 102) rfl) rfl
theorem dX10_gaol_98 : decode cX10_gaol 98 = .ok (.iload_n 1, 1) := dq_27 (hz_wg wX10_gaol_1 (j := 34) (n := 27) rfl)
theorem dX10_gaol_99 : decode cX10_gaol 99 = .ok (.iaload, 1) := dq_46 (hz_wg wX10_gaol_1 (j := 35) (n := 46) rfl)
theorem dX10_gaol_100 : decode cX10_gaol 100 = .ok (.bipush 7, 2) := dq_16 (hz_wg wX10_gaol_1 (j := 36) (n := 16) rfl) (hz_wg wX10_gaol_1 (j := 37) (n := 7) rfl) (by decide)
theorem dX10_gaol_102 : decode cX10_gaol 102 = .ok (.invokevirtual 333, 3) := dq_182 (hz_wg wX10_gaol_1 (j := 38) (n := 182) rfl) (hz_wg wX10_gaol_1 (j := 39) (n := 1) rfl) (hz_wg wX10_gaol_1 (j := 40) (n := 77) rfl) rfl
theorem dX10_gaol_105 : decode cX10_gaol 105 = .ok (.if_icmp .ge 7, 3) := dq_162 (hz_wg wX10_gaol_1 (j := 41) (n := 162) rfl) (hz_wg wX10_gaol_1 (j := 42) (n := 0) rfl) (hz_wg wX10_gaol_1 (j := 43) (n := 7) rfl) (by decide)
theorem dX10_gaol_108 : decode cX10_gaol 108 = .ok (.iload_n 2, 1) := dq_28 (hz_wg wX10_gaol_1 (j := 44) (n := 28) rfl)
theorem dX10_gaol_109 : decode cX10_gaol 109 = .ok (.goto 15, 3) := dq_167 (hz_wg wX10_gaol_1 (j := 45) (n := 167) rfl) (hz_wg wX10_gaol_1 (j := 46) (n := 0) rfl) (hz_wg wX10_gaol_1 (j := 47) (n := 15) rfl) (by decide)
theorem dX10_gaol_112 : decode cX10_gaol 112 = .ok (.aload_n 0, 1) := dq_42 (hz_wg wX10_gaol_1 (j := 48) (n := 42) rfl)
theorem dX10_gaol_113 : decode cX10_gaol 113 = .ok (.aload_n 0, 1) := dq_42 (hz_wg wX10_gaol_1 (j := 49) (n := 42) rfl)
theorem dX10_gaol_114 : decode cX10_gaol 114 = .ok (.getfield 102, 3) := dq_180 (hz_wg wX10_gaol_1 (j := 50) (n := 180) rfl) (hz_wg wX10_gaol_1 (j := 51) (n := 0) rfl) (hz_wg wX10_gaol_1 (j := 52) (n := 102) rfl) rfl
theorem dX10_gaol_117 : decode cX10_gaol 117 = .ok (.iload_n 1, 1) := dq_27 (hz_wg wX10_gaol_1 (j := 53) (n := 27) rfl)
theorem dX10_gaol_118 : decode cX10_gaol 118 = .ok (.iaload, 1) := dq_46 (hz_wg wX10_gaol_1 (j := 54) (n := 46) rfl)
theorem dX10_gaol_119 : decode cX10_gaol 119 = .ok (.bipush 7, 2) := dq_16 (hz_wg wX10_gaol_1 (j := 55) (n := 16) rfl) (hz_wg wX10_gaol_1 (j := 56) (n := 7) rfl) (by decide)
theorem dX10_gaol_121 : decode cX10_gaol 121 = .ok (.invokevirtual 333, 3) := dq_182 (hz_wg wX10_gaol_1 (j := 57) (n := 182) rfl) (hz_wg wX10_gaol_1 (j := 58) (n := 1) rfl) (hz_wg wX10_gaol_1 (j := 59) (n := 77) rfl) rfl
theorem dX10_gaol_124 : decode cX10_gaol 124 = .ok (.ireturn, 1) := dq_172 (hz_wg wX10_gaol_1 (j := 60) (n := 172) rfl)
set_option maxHeartbeats 4000000 in
set_option maxRecDepth 100000 in
theorem t_X10_gaol (l : Launch) (dC : Nat → ClassId) (dI : Nat → Nat → Nat) (dA : Nat → ClassId) (L : List Nat) (h : hx_h) (sz : Nat) (x : Nat) (i1 : Int32) (hT : hx_T T_tb L h) (gx : hx_g L h x 10)  : Met l yX10_gaol (Cond.code yX10_gaol cX10_gaol 3 (some .int) :: hx_all) ({ frames := 2, cells := 0, slots := 0, locals := 50 }) (va_Pc [.ref x, .int i1] (hx_B T_tb (P_ty dA) (dC, dI) vwCl L h sz)) (va_Qi (fun (r : Int32) (u : List Nat × hx_h) => (True) ∧ hx_T T_tb u.1 u.2 ∧ hx_S T_tb [(10, 67), (10, 68), (10, 69), (10, 70), (10, 71), (85, 0)] L h u.1 u.2) (hx_E T_tb (P_ty dA) (dC, dI) vwCl (hx_A L sz)) (hx_A L sz)) 0 0 (hx_A L sz) := by
  refine hx_met (lv := [(0, .ref x), (1, .int i1)]) (by decide +kernel) rfl (Nat.le_of_ble_eq_true rfl) rfl ?_
  intro p e s m below meth c hx hb hml hr hlk hts0 hown hin hsz hW ls hl
  have hts : ∀ w ∈ hx_all, w.before _ s = true := fun w hw => hts0 w (List.mem_cons_of_mem _ hw)
  have hown : s.vm.findClass "SmallCourtModel" = some m.cls := hown
  have hM : hx_S T_tb [(10, 67), (10, 68), (10, 69), (10, 70), (10, 71), (85, 0)] L h L h := hx_S.rf
  refine lv_aload_n hx hb dX10_gaol_0 rfl (lv_at hl 0 rfl) ?_
  refine lv_iload_n hx hb dX10_gaol_1 rfl (lv_at hl 1 rfl) ?_
  obtain ⟨fv_1, efv_1⟩ : ∃ y : Int32, y = h.2.1 x 36 := ⟨_, rfl⟩
  have bfv_1 := hT.gi (gx.S hM) tt_10 (k := 36) rfl
  rw [← efv_1] at bfv_1
  have bfv_1 : 0 ≤ fv_1.toInt ∧ fv_1.toInt ≤ 100 := bfv_1
  have ffv_1 := efv_1.symm
  refine hx_goi (hx_runV (As := [.int i1]) (rest := []) ⟨hx, hb, hml, hown, hts⟩ hW (gx.S hM) tt_10 (T := TX10) (N := 98) rfl (t_X10_isClaim l dC dI dA L h s.heap.size x i1 hT (gx.S hM) fv_1 ffv_1) (cwV 1 hts (hx_gV kw_1597 kw_1594 kw_1596 kw_73 kw_103) rfl rfl rfl (by decide +kernel) ⟨Nat.le_of_ble_eq_true rfl, Nat.le_of_ble_eq_true rfl⟩) rfl hl.1 rfl (Nat.le_of_ble_eq_true rfl) dX10_gaol_2 ⟨Nat.le_of_ble_eq_true rfl, Nat.le_of_ble_eq_true rfl⟩) hW (fun r_4 L_2 h_3 H locs p_5 hW => ?_)
  obtain ⟨hr_6, hT, hs⟩ := p_5
  replace hT : hx_T T_tb L_2 h_3 := hT
  replace hs : hx_S T_tb [] L h L_2 h_3 := hs
  replace ffv_1 := (hs.o (gx.S hM) trivial rfl).1.trans ffv_1
  replace hM := hM.tr (hs.mono (by decide))
  refine hb_if_eq (zx := r_4.toInt) (tgt := 32) hx hb rfl dX10_gaol_5 (by decide) (fun c_7 => ?_) (fun c_7 => ?_)
  · skip
    replace hr_6 := hr_6.resolve_right (fun z9 => absurd (c_7.symm.trans z9.1) (by decide))
    replace hr_6 := hr_6.2
    refine lv_iconst (v := -1) hx hb dX10_gaol_32 (by decide) ?_
    exact hx_reti hx hb hr hlk hW ⟨trivial, hT, hM⟩ dX10_gaol_33
  · skip
    replace hr_6 := hr_6.resolve_left (fun z9 => c_7 z9.1)
    replace c_7 := hr_6.1
    replace hr_6 := hr_6.2
    refine lv_aload_n hx hb dX10_gaol_8 rfl (lv_at hl 0 rfl) ?_
    refine hx_getn hx hb hts hC_10 hown hW hT (gx.S hM) tt_10 49 (by decide) rfl kw_1192 ⟨rfl, rfl, rfl⟩ dX10_gaol_9 (fun q_8 fq_8 gq_8 => ?_)
    refine lv_iload_n hx hb dX10_gaol_12 rfl (lv_at hl 1 rfl) ?_
    refine hx_iald hx hb hW hT gq_8 tt_84 rfl ⟨by omega, by omega⟩ dX10_gaol_13 (fun x_9 ex_9 lx_9 ux_9 => ?_)
    refine lv_iconst (v := -1) hx hb dX10_gaol_14 (by decide) ?_
    refine hb_icmp_eq (zx := x_9.toInt) (zy := (-1)) (tgt := 32) hx hb rfl (by decide) dX10_gaol_15 (by decide) (fun c_10 => ?_) (fun c_10 => ?_)
    · skip
      refine lv_iconst (v := -1) hx hb dX10_gaol_32 (by decide) ?_
      exact hx_reti hx hb hr hlk hW ⟨trivial, hT, hM⟩ dX10_gaol_33
    · skip
      refine lv_aload_n hx hb dX10_gaol_18 rfl (lv_at hl 0 rfl) ?_
      refine hx_getn hx hb hts hC_10 hown hW hT (gx.S hM) tt_10 27 (by decide) rfl kw_1170 ⟨rfl, rfl, rfl⟩ dX10_gaol_19 (fun q_11 fq_11 gq_11 => ?_)
      refine lv_aload_n hx hb dX10_gaol_22 rfl (lv_at hl 0 rfl) ?_
      refine hx_getn hx hb hts hC_10 hown hW hT (gx.S hM) tt_10 38 (by decide) rfl kw_1181 ⟨rfl, rfl, rfl⟩ dX10_gaol_23 (fun q_12 fq_12 gq_12 => ?_)
      refine lv_iload_n hx hb dX10_gaol_26 rfl (lv_at hl 1 rfl) ?_
      refine hx_iald hx hb hW hT gq_12 tt_73 rfl ⟨by omega, by omega⟩ dX10_gaol_27 (fun x_13 ex_13 lx_13 ux_13 => ?_)
      refine hx_zald hx hb hW hT gq_11 tt_64 rfl ⟨by omega, by omega⟩ dX10_gaol_28 (fun x_14 ex_14 lx_14 ux_14 => ?_)
      refine hb_if_eq (zx := x_14.toInt) (tgt := 34) hx hb rfl dX10_gaol_29 (by decide) (fun c_15 => ?_) (fun c_15 => ?_)
      · skip
        refine lv_aload_n hx hb dX10_gaol_34 rfl (lv_at hl 0 rfl) ?_
        refine lv_iload_n hx hb dX10_gaol_35 rfl (lv_at hl 1 rfl) ?_
        refine lv_aload_n hx hb dX10_gaol_36 rfl (lv_at hl 0 rfl) ?_
        refine hx_geti hx hb hts hC_10 hown hW hT (gx.S hM) tt_10 0 (by decide) rfl kw_1143 ⟨rfl, rfl, rfl⟩ dX10_gaol_37 (fun x_16 ex_16 lx_16 ux_16 => ?_)
        have fx_16 := ex_16.symm
        refine lv_aload_n hx hb dX10_gaol_40 rfl (lv_at hl 0 rfl) ?_
        refine hk_geti hx hb hts hC_10 hown hW (gx.S hM) tt_10 0 (by decide) rfl kw_1143 ⟨rfl, rfl, rfl⟩ fx_16 dX10_gaol_41 ?_
        refine hx_gov (hx_runV (As := [.int i1, .int x_16, .int x_16]) (rest := []) ⟨hx, hb, hml, hown, hts⟩ hW (gx.S hM) tt_10 (T := TX10) (N := 98) rfl (t_X10_looks l dC dI dA L_2 h_3 H.size x i1 x_16 x_16 hT (gx.S hM) ⟨by omega, by omega⟩) (cwV 3 hts (hx_gV kw_1641 kw_1638 kw_1640 kw_82 kw_103) rfl rfl rfl (by decide +kernel) ⟨Nat.le_of_ble_eq_true rfl, Nat.le_of_ble_eq_true rfl⟩) rfl hl.1 rfl (Nat.le_of_ble_eq_true rfl) dX10_gaol_44 ⟨Nat.le_of_ble_eq_true rfl, Nat.le_of_ble_eq_true rfl⟩) hW (fun L_17 h_18 H locs p_20 hW => ?_)
        obtain ⟨⟨w_22, w_23, w_24, fw_22, fw_23, fw_24, hr_21⟩, hT, hs⟩ := p_20
        replace hT : hx_T T_tb L_17 h_18 := hT
        replace hs : hx_S T_tb [(10, 67), (10, 68), (10, 69), (10, 70), (10, 71)] L_2 h_3 L_17 h_18 := hs
        replace ffv_1 := (hs.o (gx.S hM) trivial rfl).1.trans ffv_1
        replace fq_8 := (hs.o (gx.S hM) trivial rfl).2.trans fq_8
        replace fq_11 := (hs.o (gx.S hM) trivial rfl).2.trans fq_11
        replace fq_12 := (hs.o (gx.S hM) trivial rfl).2.trans fq_12
        replace fx_16 := (hs.o (gx.S hM) trivial rfl).1.trans fx_16
        replace ex_9 := ex_9.trans (hs.a gq_8 rfl _).1.symm
        replace ex_13 := ex_13.trans (hs.a gq_12 rfl _).1.symm
        replace ex_14 := ex_14.trans (hs.a gq_11 rfl _).1.symm
        replace hM := hM.tr (hs.mono (by decide))
        replace gq_8 := gq_8.S hs
        replace gq_11 := gq_11.S hs
        replace gq_12 := gq_12.S hs
        have fw_22 : h_18.2.1 x 68 = w_22 := fw_22
        have bw_22 := hT.gi (gx.S hM) tt_10 (k := 68) rfl
        rw [fw_22] at bw_22
        have bw_22 : 0 ≤ w_22.toInt ∧ w_22.toInt ≤ 610000 := bw_22
        have fw_23 : h_18.2.1 x 71 = w_23 := fw_23
        have bw_23 := hT.gi (gx.S hM) tt_10 (k := 71) rfl
        rw [fw_23] at bw_23
        have bw_23 : 0 ≤ w_23.toInt ∧ w_23.toInt ≤ 8 := bw_23
        have fw_24 : h_18.2.1 x 67 = w_24 := fw_24
        have bw_24 := hT.gi (gx.S hM) tt_10 (k := 67) rfl
        rw [fw_24] at bw_24
        have bw_24 : 0 ≤ w_24.toInt ∧ w_24.toInt ≤ 366100000 := bw_24
        refine lv_aload_n hx hb dX10_gaol_47 rfl (lv_at hl 0 rfl) ?_
        refine hk_geti hx hb hts hC_10 hown hW (gx.S hM) tt_10 71 (by decide) rfl kw_1214 ⟨rfl, rfl, rfl⟩ fw_23 dX10_gaol_48 ?_
        refine lv_bipush (v := 6) hx hb dX10_gaol_51 (by decide) ?_
        refine hb_icmp_eq (zx := w_23.toInt) (zy := 6) (tgt := 58) hx hb rfl (by decide) dX10_gaol_53 (by decide) (fun c_25 => ?_) (fun c_25 => ?_)
        · skip
          refine lv_aload_n hx hb dX10_gaol_58 rfl (lv_at hl 0 rfl) ?_
          refine hk_geti hx hb hts hC_10 hown hW (gx.S hM) tt_10 68 (by decide) rfl kw_1211 ⟨rfl, rfl, rfl⟩ fw_22 dX10_gaol_59 ?_
          refine lv_bipush (v := 11) hx hb dX10_gaol_62 (by decide) ?_
          refine lv_iadd hx hb dX10_gaol_64 ?_
          have rg_26 := i32_r w_22
          refine lv_topi (fun x_27 ex_27 => ?_)
          have zx_27 : x_27.toInt = w_22.toInt + 11 := by rw [ex_27]; exact i32_add rfl (by decide) (by omega) (by omega)
          refine lv_bipush (v := 12) hx hb dX10_gaol_65 (by decide) ?_
          refine lv_idiv hx hb dX10_gaol_67 (by decide) ?_
          refine lv_topi (fun x_28 ex_28 => ?_)
          have zx_28 : x_28.toInt = x_27.toInt / 12 := by rw [ex_28, hx_dv (by omega) (by decide)]; rfl
          refine lv_aload_n hx hb dX10_gaol_68 rfl (lv_at hl 0 rfl) ?_
          refine lv_aload_n hx hb dX10_gaol_69 rfl (lv_at hl 0 rfl) ?_
          refine hx_getn hx hb hts hC_10 hown hW hT (gx.S hM) tt_10 44 (by decide) rfl kw_1187 ⟨rfl, rfl, rfl⟩ dX10_gaol_70 (fun q_29 fq_29 gq_29 => ?_)
          refine lv_iload_n hx hb dX10_gaol_73 rfl (lv_at hl 1 rfl) ?_
          refine hx_iald hx hb hW hT gq_29 tt_79 rfl ⟨by omega, by omega⟩ dX10_gaol_74 (fun x_30 ex_30 lx_30 ux_30 => ?_)
          refine lv_bipush (v := 6) hx hb dX10_gaol_75 (by decide) ?_
          have zc_6 : (6 : Int32).toInt = 6 := by decide
          refine hx_goi (hx_runV (As := [.int x_30, .int (6 : Int32)]) (rest := [.int x_28]) ⟨hx, hb, hml, hown, hts⟩ hW (gx.S hM) tt_10 (T := TX10) (N := 98) rfl (t_X10_ruleOf l dC dI dA L_17 h_18 H.size x x_30 (6 : Int32) hT (gx.S hM) ⟨by omega, by omega⟩ (by decide)) (cwV 2 hts (hx_gV kw_1533 kw_1530 kw_1532 kw_66 kw_103) rfl rfl rfl (by decide +kernel) ⟨Nat.le_of_ble_eq_true rfl, Nat.le_of_ble_eq_true rfl⟩) rfl hl.1 rfl (Nat.le_of_ble_eq_true rfl) dX10_gaol_77 ⟨Nat.le_of_ble_eq_true rfl, Nat.le_of_ble_eq_true rfl⟩) hW (fun r_33 L_31 h_32 H locs p_34 hW => ?_)
          obtain ⟨hr_35, hT, hs⟩ := p_34
          replace hT : hx_T T_tb L_31 h_32 := hT
          replace hs : hx_S T_tb [] L_17 h_18 L_31 h_32 := hs
          replace ffv_1 := (hs.o (gx.S hM) trivial rfl).1.trans ffv_1
          replace fq_8 := (hs.o (gx.S hM) trivial rfl).2.trans fq_8
          replace fq_11 := (hs.o (gx.S hM) trivial rfl).2.trans fq_11
          replace fq_12 := (hs.o (gx.S hM) trivial rfl).2.trans fq_12
          replace fx_16 := (hs.o (gx.S hM) trivial rfl).1.trans fx_16
          replace fw_22 := (hs.o (gx.S hM) trivial rfl).1.trans fw_22
          replace fw_23 := (hs.o (gx.S hM) trivial rfl).1.trans fw_23
          replace fw_24 := (hs.o (gx.S hM) trivial rfl).1.trans fw_24
          replace fq_29 := (hs.o (gx.S hM) trivial rfl).2.trans fq_29
          replace ex_9 := ex_9.trans (hs.a gq_8 rfl _).1.symm
          replace ex_13 := ex_13.trans (hs.a gq_12 rfl _).1.symm
          replace ex_14 := ex_14.trans (hs.a gq_11 rfl _).1.symm
          replace ex_30 := ex_30.trans (hs.a gq_29 rfl _).1.symm
          replace hM := hM.tr (hs.mono (by decide))
          replace gq_8 := gq_8.S hs
          replace gq_11 := gq_11.S hs
          replace gq_12 := gq_12.S hs
          replace gq_29 := gq_29.S hs
          refine lv_imul hx hb dX10_gaol_80 ?_
          refine lv_topi (fun x_36 ex_36 => ?_)
          have mx_36 : x_28.toInt = 0 → x_36.toInt = 0 := fun z => by rw [ex_36]; exact hx_mul0 z
          refine lv_istore_n (lv' := [(2, .int x_36), (0, .ref x), (1, .int i1)]) hx hb dX10_gaol_81 rfl hl (by decide) rfl (fun ls hl => ?_)
          refine lv_aload_n hx hb dX10_gaol_82 rfl (lv_at hl 1 rfl) ?_
          refine hx_getn hx hb hts hC_10 hown hW hT (gx.S hM) tt_10 50 (by decide) rfl kw_1193 ⟨rfl, rfl, rfl⟩ dX10_gaol_83 (fun q_37 fq_37 gq_37 => ?_)
          refine lv_iload_n hx hb dX10_gaol_86 rfl (lv_at hl 2 rfl) ?_
          refine lv_aload_n hx hb dX10_gaol_87 rfl (lv_at hl 1 rfl) ?_
          refine hk_geti hx hb hts hC_10 hown hW (gx.S hM) tt_10 0 (by decide) rfl kw_1143 ⟨rfl, rfl, rfl⟩ fx_16 dX10_gaol_88 ?_
          refine hx_iast hx hb hW hT (hx_S.rf (M := [(85, 0)])) gq_37 tt_85 rfl ⟨by omega, by omega⟩ rfl (i32_r _) (List.mem_singleton.mpr rfl) dX10_gaol_91 (fun H locs h_38 eh_38 hW hT hs => ?_)
          replace ffv_1 := (hs.o (gx.S hM) trivial rfl).1.trans ffv_1
          replace fq_8 := (hs.o (gx.S hM) trivial rfl).2.trans fq_8
          replace fq_11 := (hs.o (gx.S hM) trivial rfl).2.trans fq_11
          replace fq_12 := (hs.o (gx.S hM) trivial rfl).2.trans fq_12
          replace fx_16 := (hs.o (gx.S hM) trivial rfl).1.trans fx_16
          replace fw_22 := (hs.o (gx.S hM) trivial rfl).1.trans fw_22
          replace fw_23 := (hs.o (gx.S hM) trivial rfl).1.trans fw_23
          replace fw_24 := (hs.o (gx.S hM) trivial rfl).1.trans fw_24
          replace fq_29 := (hs.o (gx.S hM) trivial rfl).2.trans fq_29
          replace fq_37 := (hs.o (gx.S hM) trivial rfl).2.trans fq_37
          replace ex_9 := ex_9.trans (hs.a gq_8 rfl _).1.symm
          replace ex_13 := ex_13.trans (hs.a gq_12 rfl _).1.symm
          replace ex_14 := ex_14.trans (hs.a gq_11 rfl _).1.symm
          replace ex_30 := ex_30.trans (hs.a gq_29 rfl _).1.symm
          replace hM := hM.tr (hs.mono (by decide))
          replace gq_8 := gq_8.S hs
          replace gq_11 := gq_11.S hs
          replace gq_12 := gq_12.S hs
          replace gq_29 := gq_29.S hs
          replace gq_37 := gq_37.S hs
          refine lv_iload_n hx hb dX10_gaol_92 rfl (lv_at hl 0 rfl) ?_
          refine lv_aload_n hx hb dX10_gaol_93 rfl (lv_at hl 1 rfl) ?_
          refine lv_aload_n hx hb dX10_gaol_94 rfl (lv_at hl 1 rfl) ?_
          refine hk_getr hx hb hts hC_10 hown hW (gx.S hM) tt_10 44 (by decide) rfl kw_1187 ⟨rfl, rfl, rfl⟩ fq_29 dX10_gaol_95 ?_
          refine lv_iload_n hx hb dX10_gaol_98 rfl (lv_at hl 2 rfl) ?_
          refine hx_iald hx hb hW hT gq_29 tt_79 rfl ⟨by omega, by omega⟩ dX10_gaol_99 (fun x_39 ex_39 lx_39 ux_39 => ?_)
          obtain rfl : x_30 = x_39 := ex_30.trans ex_39.symm
          refine lv_bipush (v := 7) hx hb dX10_gaol_100 (by decide) ?_
          have zc_7 : (7 : Int32).toInt = 7 := by decide
          refine hx_goi (hx_runV (As := [.int x_30, .int (7 : Int32)]) (rest := [.int x_36]) ⟨hx, hb, hml, hown, hts⟩ hW (gx.S hM) tt_10 (T := TX10) (N := 98) rfl (t_X10_ruleOf l dC dI dA L_31 h_38 H.size x x_30 (7 : Int32) hT (gx.S hM) ⟨by omega, by omega⟩ (by decide)) (cwV 2 hts (hx_gV kw_1533 kw_1530 kw_1532 kw_66 kw_103) rfl rfl rfl (by decide +kernel) ⟨Nat.le_of_ble_eq_true rfl, Nat.le_of_ble_eq_true rfl⟩) rfl hl.1 rfl (Nat.le_of_ble_eq_true rfl) dX10_gaol_102 ⟨Nat.le_of_ble_eq_true rfl, Nat.le_of_ble_eq_true rfl⟩) hW (fun r_42 L_40 h_41 H locs p_43 hW => ?_)
          obtain ⟨hr_44, hT, hs⟩ := p_43
          replace hT : hx_T T_tb L_40 h_41 := hT
          replace hs : hx_S T_tb [] L_31 h_38 L_40 h_41 := hs
          replace ffv_1 := (hs.o (gx.S hM) trivial rfl).1.trans ffv_1
          replace fq_8 := (hs.o (gx.S hM) trivial rfl).2.trans fq_8
          replace fq_11 := (hs.o (gx.S hM) trivial rfl).2.trans fq_11
          replace fq_12 := (hs.o (gx.S hM) trivial rfl).2.trans fq_12
          replace fx_16 := (hs.o (gx.S hM) trivial rfl).1.trans fx_16
          replace fw_22 := (hs.o (gx.S hM) trivial rfl).1.trans fw_22
          replace fw_23 := (hs.o (gx.S hM) trivial rfl).1.trans fw_23
          replace fw_24 := (hs.o (gx.S hM) trivial rfl).1.trans fw_24
          replace fq_29 := (hs.o (gx.S hM) trivial rfl).2.trans fq_29
          replace fq_37 := (hs.o (gx.S hM) trivial rfl).2.trans fq_37
          replace ex_9 := ex_9.trans (hs.a gq_8 rfl _).1.symm
          replace ex_13 := ex_13.trans (hs.a gq_12 rfl _).1.symm
          replace ex_14 := ex_14.trans (hs.a gq_11 rfl _).1.symm
          replace ex_30 := ex_30.trans (hs.a gq_29 rfl _).1.symm
          replace hM := hM.tr (hs.mono (by decide))
          replace gq_8 := gq_8.S hs
          replace gq_11 := gq_11.S hs
          replace gq_12 := gq_12.S hs
          replace gq_29 := gq_29.S hs
          replace gq_37 := gq_37.S hs
          refine hb_icmp_ge (zx := x_36.toInt) (zy := r_42.toInt) (tgt := 112) hx hb rfl rfl dX10_gaol_105 (by decide) (fun c_45 => ?_) (fun c_45 => ?_)
          · skip
            refine lv_aload_n hx hb dX10_gaol_112 rfl (lv_at hl 1 rfl) ?_
            refine lv_aload_n hx hb dX10_gaol_113 rfl (lv_at hl 1 rfl) ?_
            refine hk_getr hx hb hts hC_10 hown hW (gx.S hM) tt_10 44 (by decide) rfl kw_1187 ⟨rfl, rfl, rfl⟩ fq_29 dX10_gaol_114 ?_
            refine lv_iload_n hx hb dX10_gaol_117 rfl (lv_at hl 2 rfl) ?_
            refine hx_iald hx hb hW hT gq_29 tt_79 rfl ⟨by omega, by omega⟩ dX10_gaol_118 (fun x_46 ex_46 lx_46 ux_46 => ?_)
            obtain rfl : x_30 = x_46 := ex_30.trans ex_46.symm
            refine lv_bipush (v := 7) hx hb dX10_gaol_119 (by decide) ?_
            refine hx_goi (hx_runV (As := [.int x_30, .int (7 : Int32)]) (rest := []) ⟨hx, hb, hml, hown, hts⟩ hW (gx.S hM) tt_10 (T := TX10) (N := 98) rfl (t_X10_ruleOf l dC dI dA L_40 h_41 H.size x x_30 (7 : Int32) hT (gx.S hM) ⟨by omega, by omega⟩ (by decide)) (cwV 2 hts (hx_gV kw_1533 kw_1530 kw_1532 kw_66 kw_103) rfl rfl rfl (by decide +kernel) ⟨Nat.le_of_ble_eq_true rfl, Nat.le_of_ble_eq_true rfl⟩) rfl hl.1 rfl (Nat.le_of_ble_eq_true rfl) dX10_gaol_121 ⟨Nat.le_of_ble_eq_true rfl, Nat.le_of_ble_eq_true rfl⟩) hW (fun r_49 L_47 h_48 H locs p_50 hW => ?_)
            obtain ⟨hr_51, hT, hs⟩ := p_50
            replace hT : hx_T T_tb L_47 h_48 := hT
            replace hs : hx_S T_tb [] L_40 h_41 L_47 h_48 := hs
            replace ffv_1 := (hs.o (gx.S hM) trivial rfl).1.trans ffv_1
            replace fq_8 := (hs.o (gx.S hM) trivial rfl).2.trans fq_8
            replace fq_11 := (hs.o (gx.S hM) trivial rfl).2.trans fq_11
            replace fq_12 := (hs.o (gx.S hM) trivial rfl).2.trans fq_12
            replace fx_16 := (hs.o (gx.S hM) trivial rfl).1.trans fx_16
            replace fw_22 := (hs.o (gx.S hM) trivial rfl).1.trans fw_22
            replace fw_23 := (hs.o (gx.S hM) trivial rfl).1.trans fw_23
            replace fw_24 := (hs.o (gx.S hM) trivial rfl).1.trans fw_24
            replace fq_29 := (hs.o (gx.S hM) trivial rfl).2.trans fq_29
            replace fq_37 := (hs.o (gx.S hM) trivial rfl).2.trans fq_37
            replace ex_9 := ex_9.trans (hs.a gq_8 rfl _).1.symm
            replace ex_13 := ex_13.trans (hs.a gq_12 rfl _).1.symm
            replace ex_14 := ex_14.trans (hs.a gq_11 rfl _).1.symm
            replace ex_30 := ex_30.trans (hs.a gq_29 rfl _).1.symm
            replace hM := hM.tr (hs.mono (by decide))
            replace gq_8 := gq_8.S hs
            replace gq_11 := gq_11.S hs
            replace gq_12 := gq_12.S hs
            replace gq_29 := gq_29.S hs
            replace gq_37 := gq_37.S hs
            exact hx_reti hx hb hr hlk hW ⟨trivial, hT, hM⟩ dX10_gaol_124
          · skip
            refine lv_iload_n hx hb dX10_gaol_108 rfl (lv_at hl 0 rfl) ?_
            refine lv_goto (tgt := 124) hx hb dX10_gaol_109 (by decide) ?_
            exact hx_reti hx hb hr hlk hW ⟨trivial, hT, hM⟩ dX10_gaol_124
        · skip
          refine lv_iconst (v := -1) hx hb dX10_gaol_56 (by decide) ?_
          exact hx_reti hx hb hr hlk hW ⟨trivial, hT, hM⟩ dX10_gaol_57
      · skip
        refine lv_iconst (v := -1) hx hb dX10_gaol_32 (by decide) ?_
        exact hx_reti hx hb hr hlk hW ⟨trivial, hT, hM⟩ dX10_gaol_33

def wLX10_claim_0 : List Nat := [42, 27, 182, 1, 114, 154, 0, 5, 2, 172, 28, 170, 0, 0, 0, 171, 0, 0, 0, 0, 0, 0, 0, 13, 0, 0, 0, 69, 0, 0, 0, 76, 0, 0, 0, 83, 0, 0, 0, 90, 0, 0, 0, 97, 0, 0, 0, 104, 0, 0, 0, 111, 0, 0, 0, 111, 0, 0, 0, 111, 0, 0, 0, 125]
def wLX10_claim_1 : List Nat := [0, 0, 0, 132, 0, 0, 0, 139, 0, 0, 0, 146, 0, 0, 0, 155, 42, 180, 0, 81, 27, 46, 172, 42, 180, 0, 84, 27, 46, 172, 42, 180, 0, 87, 27, 46, 172, 42, 180, 0, 99, 27, 46, 172, 42, 180, 0, 105, 27, 46, 172, 42, 180, 0, 123, 27, 46, 172, 42, 180, 0, 126, 6, 27]
def wLX10_claim_2 : List Nat := [104, 28, 96, 16, 6, 100, 46, 172, 42, 180, 0, 114, 27, 46, 172, 42, 180, 0, 132, 27, 46, 172, 42, 180, 0, 135, 27, 46, 172, 42, 180, 0, 102, 27, 46, 4, 100, 172, 42, 180, 0, 117, 27, 46, 2, 160, 0, 7, 3, 167, 0, 4, 4, 172, 2, 172]
theorem wX10_claim_0 : (cX10_claim.data.toList.map UInt8.toNat).drop 0 = wLX10_claim_0 ++ (wLX10_claim_1 ++ (wLX10_claim_2 ++ ([]))) := by decide +kernel
theorem wX10_claim_1 : (cX10_claim.data.toList.map UInt8.toNat).drop 64 = wLX10_claim_1 ++ (wLX10_claim_2 ++ ([])) := hz_wn wX10_claim_0 rfl
theorem wX10_claim_2 : (cX10_claim.data.toList.map UInt8.toNat).drop 128 = wLX10_claim_2 ++ ([]) := hz_wn wX10_claim_1 rfl
theorem dX10_claim_0 : decode cX10_claim 0 = .ok (.aload_n 0, 1) := dq_42 (hz_wg wX10_claim_0 (j := 0) (n := 42) rfl)
theorem dX10_claim_1 : decode cX10_claim 1 = .ok (.iload_n 1, 1) := dq_27 (hz_wg wX10_claim_0 (j := 1) (n := 27) rfl)
theorem dX10_claim_2 : decode cX10_claim 2 = .ok (.invokevirtual 370, 3) := dq_182 (hz_wg wX10_claim_0 (j := 2) (n := 182) rfl) (hz_wg wX10_claim_0 (j := 3) (n := 1) rfl) (hz_wg wX10_claim_0 (j := 4) (n := 114) rfl) rfl
theorem dX10_claim_5 : decode cX10_claim 5 = .ok (.ifCond .ne 5, 3) := dq_154 (hz_wg wX10_claim_0 (j := 5) (n := 154) rfl) (hz_wg wX10_claim_0 (j := 6) (n := 0) rfl) (hz_wg wX10_claim_0 (j := 7) (n := 5) rfl) (by decide)
theorem dX10_claim_8 : decode cX10_claim 8 = .ok (.iconst (-1), 1) := dq_2 (hz_wg wX10_claim_0 (j := 8) (n := 2) rfl)
theorem dX10_claim_9 : decode cX10_claim 9 = .ok (.ireturn, 1) := dq_172 (hz_wg wX10_claim_0 (j := 9) (n := 172) rfl)
theorem dX10_claim_10 : decode cX10_claim 10 = .ok (.iload_n 2, 1) := dq_28 (hz_wg wX10_claim_0 (j := 10) (n := 28) rfl)
theorem dX10_claim_11 : decode cX10_claim 11 = .ok (.tableswitch 171 0 13 #[69, 76, 83, 90, 97, 104, 111, 111, 111, 125, 132, 139, 146, 155], 69) := by decide +kernel
theorem dX10_claim_80 : decode cX10_claim 80 = .ok (.aload_n 0, 1) := dq_42 (hz_wg wX10_claim_1 (j := 16) (n := 42) rfl)
theorem dX10_claim_81 : decode cX10_claim 81 = .ok (.getfield 81, 3) := dq_180 (hz_wg wX10_claim_1 (j := 17) (n := 180) rfl) (hz_wg wX10_claim_1 (j := 18) (n := 0) rfl) (hz_wg wX10_claim_1 (j := 19) (n := 81) rfl) rfl
theorem dX10_claim_84 : decode cX10_claim 84 = .ok (.iload_n 1, 1) := dq_27 (hz_wg wX10_claim_1 (j := 20) (n := 27) rfl)
theorem dX10_claim_85 : decode cX10_claim 85 = .ok (.iaload, 1) := dq_46 (hz_wg wX10_claim_1 (j := 21) (n := 46) rfl)
theorem dX10_claim_86 : decode cX10_claim 86 = .ok (.ireturn, 1) := dq_172 (hz_wg wX10_claim_1 (j := 22) (n := 172) rfl)
theorem dX10_claim_87 : decode cX10_claim 87 = .ok (.aload_n 0, 1) := dq_42 (hz_wg wX10_claim_1 (j := 23) (n := 42) rfl)
theorem dX10_claim_88 : decode cX10_claim 88 = .ok (.getfield 84, 3) := dq_180 (hz_wg wX10_claim_1 (j := 24) (n := 180) rfl) (hz_wg wX10_claim_1 (j := 25) (n := 0) rfl) (hz_wg wX10_claim_1 (j := 26) (n := 84) rfl) rfl
theorem dX10_claim_91 : decode cX10_claim 91 = .ok (.iload_n 1, 1) := dq_27 (hz_wg wX10_claim_1 (j := 27) (n := 27) rfl)
theorem dX10_claim_92 : decode cX10_claim 92 = .ok (.iaload, 1) := dq_46 (hz_wg wX10_claim_1 (j := 28) (n := 46) rfl)
theorem dX10_claim_93 : decode cX10_claim 93 = .ok (.ireturn, 1) := dq_172 (hz_wg wX10_claim_1 (j := 29) (n := 172) rfl)
theorem dX10_claim_94 : decode cX10_claim 94 = .ok (.aload_n 0, 1) := dq_42 (hz_wg wX10_claim_1 (j := 30) (n := 42) rfl)
theorem dX10_claim_95 : decode cX10_claim 95 = .ok (.getfield 87, 3) := dq_180 (hz_wg wX10_claim_1 (j := 31) (n := 180) rfl) (hz_wg wX10_claim_1 (j := 32) (n := 0) rfl) (hz_wg wX10_claim_1 (j := 33) (n := 87) rfl) rfl
theorem dX10_claim_98 : decode cX10_claim 98 = .ok (.iload_n 1, 1) := dq_27 (hz_wg wX10_claim_1 (j := 34) (n := 27) rfl)
theorem dX10_claim_99 : decode cX10_claim 99 = .ok (.iaload, 1) := dq_46 (hz_wg wX10_claim_1 (j := 35) (n := 46) rfl)
theorem dX10_claim_100 : decode cX10_claim 100 = .ok (.ireturn, 1) := dq_172 (hz_wg wX10_claim_1 (j := 36) (n := 172) rfl)
theorem dX10_claim_101 : decode cX10_claim 101 = .ok (.aload_n 0, 1) := dq_42 (hz_wg wX10_claim_1 (j := 37) (n := 42) rfl)
theorem dX10_claim_102 : decode cX10_claim 102 = .ok (.getfield 99, 3) := dq_180 (hz_wg wX10_claim_1 (j := 38) (n := 180) rfl) (hz_wg wX10_claim_1 (j := 39) (n := 0) rfl) (hz_wg wX10_claim_1 (j := 40) (n := 99) rfl) rfl
theorem dX10_claim_105 : decode cX10_claim 105 = .ok (.iload_n 1, 1) := dq_27 (hz_wg wX10_claim_1 (j := 41) (n := 27) rfl)
theorem dX10_claim_106 : decode cX10_claim 106 = .ok (.iaload, 1) := dq_46 (hz_wg wX10_claim_1 (j := 42) (n := 46) rfl)
theorem dX10_claim_107 : decode cX10_claim 107 = .ok (.ireturn, 1) := dq_172 (hz_wg wX10_claim_1 (j := 43) (n := 172) rfl)
theorem dX10_claim_108 : decode cX10_claim 108 = .ok (.aload_n 0, 1) := dq_42 (hz_wg wX10_claim_1 (j := 44) (n := 42) rfl)
theorem dX10_claim_109 : decode cX10_claim 109 = .ok (.getfield 105, 3) := dq_180 (hz_wg wX10_claim_1 (j := 45) (n := 180) rfl) (hz_wg wX10_claim_1 (j := 46) (n := 0) rfl) (hz_wg wX10_claim_1 (j := 47) (n := 105) rfl) rfl
theorem dX10_claim_112 : decode cX10_claim 112 = .ok (.iload_n 1, 1) := dq_27 (hz_wg wX10_claim_1 (j := 48) (n := 27) rfl)
theorem dX10_claim_113 : decode cX10_claim 113 = .ok (.iaload, 1) := dq_46 (hz_wg wX10_claim_1 (j := 49) (n := 46) rfl)
theorem dX10_claim_114 : decode cX10_claim 114 = .ok (.ireturn, 1) := dq_172 (hz_wg wX10_claim_1 (j := 50) (n := 172) rfl)
theorem dX10_claim_115 : decode cX10_claim 115 = .ok (.aload_n 0, 1) := dq_42 (hz_wg wX10_claim_1 (j := 51) (n := 42) rfl)
theorem dX10_claim_116 : decode cX10_claim 116 = .ok (.getfield 123, 3) := dq_180 (hz_wg wX10_claim_1 (j := 52) (n := 180) rfl) (hz_wg wX10_claim_1 (j := 53) (n := 0) rfl) (hz_wg wX10_claim_1 (j := 54) (n := 123) rfl) rfl
theorem dX10_claim_119 : decode cX10_claim 119 = .ok (.iload_n 1, 1) := dq_27 (hz_wg wX10_claim_1 (j := 55) (n := 27) rfl)
theorem dX10_claim_120 : decode cX10_claim 120 = .ok (.iaload, 1) := dq_46 (hz_wg wX10_claim_1 (j := 56) (n := 46) rfl)
theorem dX10_claim_121 : decode cX10_claim 121 = .ok (.ireturn, 1) := dq_172 (hz_wg wX10_claim_1 (j := 57) (n := 172) rfl)
theorem dX10_claim_122 : decode cX10_claim 122 = .ok (.aload_n 0, 1) := dq_42 (hz_wg wX10_claim_1 (j := 58) (n := 42) rfl)
theorem dX10_claim_123 : decode cX10_claim 123 = .ok (.getfield 126, 3) := dq_180 (hz_wg wX10_claim_1 (j := 59) (n := 180) rfl) (hz_wg wX10_claim_1 (j := 60) (n := 0) rfl) (hz_wg wX10_claim_1 (j := 61) (n := 126) rfl) rfl
theorem dX10_claim_126 : decode cX10_claim 126 = .ok (.iconst 3, 1) := dq_6 (hz_wg wX10_claim_1 (j := 62) (n := 6) rfl)
theorem dX10_claim_127 : decode cX10_claim 127 = .ok (.iload_n 1, 1) := dq_27 (hz_wg wX10_claim_1 (j := 63) (n := 27) rfl)
theorem dX10_claim_128 : decode cX10_claim 128 = .ok (.imul, 1) := dq_104 (hz_wg wX10_claim_2 (j := 0) (n := 104) rfl)
theorem dX10_claim_129 : decode cX10_claim 129 = .ok (.iload_n 2, 1) := dq_28 (hz_wg wX10_claim_2 (j := 1) (n := 28) rfl)
theorem dX10_claim_130 : decode cX10_claim 130 = .ok (.iadd, 1) := dq_96 (hz_wg wX10_claim_2 (j := 2) (n := 96) rfl)
theorem dX10_claim_131 : decode cX10_claim 131 = .ok (.bipush 6, 2) := dq_16 (hz_wg wX10_claim_2 (j := 3) (n := 16) rfl) (hz_wg wX10_claim_2 (j := 4) (n := 6) rfl) (by decide)
theorem dX10_claim_133 : decode cX10_claim 133 = .ok (.isub, 1) := dq_100 (hz_wg wX10_claim_2 (j := 5) (n := 100) rfl)
theorem dX10_claim_134 : decode cX10_claim 134 = .ok (.iaload, 1) := dq_46 (hz_wg wX10_claim_2 (j := 6) (n := 46) rfl)
theorem dX10_claim_135 : decode cX10_claim 135 = .ok (.ireturn, 1) := dq_172 (hz_wg wX10_claim_2 (j := 7) (n := 172) rfl)
theorem dX10_claim_136 : decode cX10_claim 136 = .ok (.aload_n 0, 1) := dq_42 (hz_wg wX10_claim_2 (j := 8) (n := 42) rfl)
theorem dX10_claim_137 : decode cX10_claim 137 = .ok (.getfield 114, 3) := dq_180 (hz_wg wX10_claim_2 (j := 9) (n := 180) rfl) (hz_wg wX10_claim_2 (j := 10) (n := 0) rfl) (hz_wg wX10_claim_2 (j := 11) (n := 114) rfl) rfl
theorem dX10_claim_140 : decode cX10_claim 140 = .ok (.iload_n 1, 1) := dq_27 (hz_wg wX10_claim_2 (j := 12) (n := 27) rfl)
theorem dX10_claim_141 : decode cX10_claim 141 = .ok (.iaload, 1) := dq_46 (hz_wg wX10_claim_2 (j := 13) (n := 46) rfl)
theorem dX10_claim_142 : decode cX10_claim 142 = .ok (.ireturn, 1) := dq_172 (hz_wg wX10_claim_2 (j := 14) (n := 172) rfl)
theorem dX10_claim_143 : decode cX10_claim 143 = .ok (.aload_n 0, 1) := dq_42 (hz_wg wX10_claim_2 (j := 15) (n := 42) rfl)
theorem dX10_claim_144 : decode cX10_claim 144 = .ok (.getfield 132, 3) := dq_180 (hz_wg wX10_claim_2 (j := 16) (n := 180) rfl) (hz_wg wX10_claim_2 (j := 17) (n := 0) rfl) (hz_wg wX10_claim_2 (j := 18) (n := 132) rfl) rfl
theorem dX10_claim_147 : decode cX10_claim 147 = .ok (.iload_n 1, 1) := dq_27 (hz_wg wX10_claim_2 (j := 19) (n := 27) rfl)
theorem dX10_claim_148 : decode cX10_claim 148 = .ok (.iaload, 1) := dq_46 (hz_wg wX10_claim_2 (j := 20) (n := 46) rfl)
theorem dX10_claim_149 : decode cX10_claim 149 = .ok (.ireturn, 1) := dq_172 (hz_wg wX10_claim_2 (j := 21) (n := 172) rfl)
theorem dX10_claim_150 : decode cX10_claim 150 = .ok (.aload_n 0, 1) := dq_42 (hz_wg wX10_claim_2 (j := 22) (n := 42) rfl)
theorem dX10_claim_151 : decode cX10_claim 151 = .ok (.getfield 135, 3) := dq_180 (hz_wg wX10_claim_2 (j := 23) (n := 180) rfl) (hz_wg wX10_claim_2 (j := 24) (n := 0) rfl) (hz_wg wX10_claim_2 (j := 25) (n := 135) rfl) rfl
theorem dX10_claim_154 : decode cX10_claim 154 = .ok (.iload_n 1, 1) := dq_27 (hz_wg wX10_claim_2 (j := 26) (n := 27) rfl)
theorem dX10_claim_155 : decode cX10_claim 155 = .ok (.iaload, 1) := dq_46 (hz_wg wX10_claim_2 (j := 27) (n := 46) rfl)
theorem dX10_claim_156 : decode cX10_claim 156 = .ok (.ireturn, 1) := dq_172 (hz_wg wX10_claim_2 (j := 28) (n := 172) rfl)
theorem dX10_claim_157 : decode cX10_claim 157 = .ok (.aload_n 0, 1) := dq_42 (hz_wg wX10_claim_2 (j := 29) (n := 42) rfl)
theorem dX10_claim_158 : decode cX10_claim 158 = .ok (.getfield 102, 3) := dq_180 (hz_wg wX10_claim_2 (j := 30) (n := 180) rfl) (hz_wg wX10_claim_2 (j := 31) (n := 0) rfl) (hz_wg wX10_claim_2 (j := 32) (n := 102) rfl) rfl
theorem dX10_claim_161 : decode cX10_claim 161 = .ok (.iload_n 1, 1) := dq_27 (hz_wg wX10_claim_2 (j := 33) (n := 27) rfl)
theorem dX10_claim_162 : decode cX10_claim 162 = .ok (.iaload, 1) := dq_46 (hz_wg wX10_claim_2 (j := 34) (n := 46) rfl)
theorem dX10_claim_163 : decode cX10_claim 163 = .ok (.iconst 1, 1) := dq_4 (hz_wg wX10_claim_2 (j := 35) (n := 4) rfl)
theorem dX10_claim_164 : decode cX10_claim 164 = .ok (.isub, 1) := dq_100 (hz_wg wX10_claim_2 (j := 36) (n := 100) rfl)
theorem dX10_claim_165 : decode cX10_claim 165 = .ok (.ireturn, 1) := dq_172 (hz_wg wX10_claim_2 (j := 37) (n := 172) rfl)
theorem dX10_claim_166 : decode cX10_claim 166 = .ok (.aload_n 0, 1) := dq_42 (hz_wg wX10_claim_2 (j := 38) (n := 42) rfl)
theorem dX10_claim_167 : decode cX10_claim 167 = .ok (.getfield 117, 3) := dq_180 (hz_wg wX10_claim_2 (j := 39) (n := 180) rfl) (hz_wg wX10_claim_2 (j := 40) (n := 0) rfl) (hz_wg wX10_claim_2 (j := 41) (n := 117) rfl) rfl
theorem dX10_claim_170 : decode cX10_claim 170 = .ok (.iload_n 1, 1) := dq_27 (hz_wg wX10_claim_2 (j := 42) (n := 27) rfl)
theorem dX10_claim_171 : decode cX10_claim 171 = .ok (.iaload, 1) := dq_46 (hz_wg wX10_claim_2 (j := 43) (n := 46) rfl)
theorem dX10_claim_172 : decode cX10_claim 172 = .ok (.iconst (-1), 1) := dq_2 (hz_wg wX10_claim_2 (j := 44) (n := 2) rfl)
theorem dX10_claim_173 : decode cX10_claim 173 = .ok (.if_icmp .ne 7, 3) := dq_160 (hz_wg wX10_claim_2 (j := 45) (n := 160) rfl) (hz_wg wX10_claim_2 (j := 46) (n := 0) rfl) (hz_wg wX10_claim_2 (j := 47) (n := 7) rfl) (by decide)
theorem dX10_claim_176 : decode cX10_claim 176 = .ok (.iconst 0, 1) := dq_3 (hz_wg wX10_claim_2 (j := 48) (n := 3) rfl)
theorem dX10_claim_177 : decode cX10_claim 177 = .ok (.goto 4, 3) := dq_167 (hz_wg wX10_claim_2 (j := 49) (n := 167) rfl) (hz_wg wX10_claim_2 (j := 50) (n := 0) rfl) (hz_wg wX10_claim_2 (j := 51) (n := 4) rfl) (by decide)
theorem dX10_claim_180 : decode cX10_claim 180 = .ok (.iconst 1, 1) := dq_4 (hz_wg wX10_claim_2 (j := 52) (n := 4) rfl)
theorem dX10_claim_181 : decode cX10_claim 181 = .ok (.ireturn, 1) := dq_172 (hz_wg wX10_claim_2 (j := 53) (n := 172) rfl)
theorem dX10_claim_182 : decode cX10_claim 182 = .ok (.iconst (-1), 1) := dq_2 (hz_wg wX10_claim_2 (j := 54) (n := 2) rfl)
theorem dX10_claim_183 : decode cX10_claim 183 = .ok (.ireturn, 1) := dq_172 (hz_wg wX10_claim_2 (j := 55) (n := 172) rfl)
set_option maxHeartbeats 4000000 in
set_option maxRecDepth 100000 in
theorem t_X10_claim (l : Launch) (dC : Nat → ClassId) (dI : Nat → Nat → Nat) (dA : Nat → ClassId) (L : List Nat) (h : hx_h) (sz : Nat) (x : Nat) (i1 : Int32) (i2 : Int32) (hT : hx_T T_tb L h) (gx : hx_g L h x 10)  : Met l yX10_claim (Cond.code yX10_claim cX10_claim 3 (some .int) :: hx_all) ({ frames := 2, cells := 0, slots := 0, locals := 43 }) (va_Pc [.ref x, .int i1, .int i2] (hx_B T_tb (P_ty dA) (dC, dI) vwCl L h sz)) (va_Qi (fun (r : Int32) (u : List Nat × hx_h) => (True) ∧ hx_T T_tb u.1 u.2 ∧ hx_S T_tb [] L h u.1 u.2) (hx_E T_tb (P_ty dA) (dC, dI) vwCl (hx_A L sz)) (hx_A L sz)) 0 0 (hx_A L sz) := by
  refine hx_met (lv := [(0, .ref x), (1, .int i1), (2, .int i2)]) (by decide +kernel) rfl (Nat.le_of_ble_eq_true rfl) rfl ?_
  intro p e s m below meth c hx hb hml hr hlk hts0 hown hin hsz hW ls hl
  have hts : ∀ w ∈ hx_all, w.before _ s = true := fun w hw => hts0 w (List.mem_cons_of_mem _ hw)
  have hown : s.vm.findClass "SmallCourtModel" = some m.cls := hown
  have hM : hx_S T_tb [] L h L h := hx_S.rf
  refine lv_aload_n hx hb dX10_claim_0 rfl (lv_at hl 0 rfl) ?_
  refine lv_iload_n hx hb dX10_claim_1 rfl (lv_at hl 1 rfl) ?_
  obtain ⟨fv_1, efv_1⟩ : ∃ y : Int32, y = h.2.1 x 36 := ⟨_, rfl⟩
  have bfv_1 := hT.gi (gx.S hM) tt_10 (k := 36) rfl
  rw [← efv_1] at bfv_1
  have bfv_1 : 0 ≤ fv_1.toInt ∧ fv_1.toInt ≤ 100 := bfv_1
  have ffv_1 := efv_1.symm
  refine hx_goi (hx_runV (As := [.int i1]) (rest := []) ⟨hx, hb, hml, hown, hts⟩ hW (gx.S hM) tt_10 (T := TX10) (N := 98) rfl (t_X10_isClaim l dC dI dA L h s.heap.size x i1 hT (gx.S hM) fv_1 ffv_1) (cwV 1 hts (hx_gV kw_1597 kw_1594 kw_1596 kw_73 kw_103) rfl rfl rfl (by decide +kernel) ⟨Nat.le_of_ble_eq_true rfl, Nat.le_of_ble_eq_true rfl⟩) rfl hl.1 rfl (Nat.le_of_ble_eq_true rfl) dX10_claim_2 ⟨Nat.le_of_ble_eq_true rfl, Nat.le_of_ble_eq_true rfl⟩) hW (fun r_4 L_2 h_3 H locs p_5 hW => ?_)
  obtain ⟨hr_6, hT, hs⟩ := p_5
  replace hT : hx_T T_tb L_2 h_3 := hT
  replace hs : hx_S T_tb [] L h L_2 h_3 := hs
  replace ffv_1 := (hs.o (gx.S hM) trivial rfl).1.trans ffv_1
  replace hM := hM.tr (hs.mono (by decide))
  refine hb_if_ne (zx := r_4.toInt) (tgt := 10) hx hb rfl dX10_claim_5 (by decide) (fun c_7 => ?_) (fun c_7 => ?_)
  · skip
    replace hr_6 := hr_6.resolve_left (fun z9 => c_7 z9.1)
    replace c_7 := hr_6.1
    replace hr_6 := hr_6.2
    refine lv_iload_n hx hb dX10_claim_10 rfl (lv_at hl 2 rfl) ?_
    rcases (show (i2.toInt < 0 ∨ 13 < i2.toInt) ∨ i2.toInt = 0 ∨ i2.toInt = 1 ∨ i2.toInt = 2 ∨ i2.toInt = 3 ∨ i2.toInt = 4 ∨ i2.toInt = 5 ∨ i2.toInt = 6 ∨ i2.toInt = 7 ∨ i2.toInt = 8 ∨ i2.toInt = 9 ∨ i2.toInt = 10 ∨ i2.toInt = 11 ∨ i2.toInt = 12 ∨ i2.toInt = 13 from by omega) with c_8 | c_8 | c_8 | c_8 | c_8 | c_8 | c_8 | c_8 | c_8 | c_8 | c_8 | c_8 | c_8 | c_8 | c_8
    · refine lv_tableOut (tgt := 182) hx hb dX10_claim_11 c_8 (by decide) ?_
      refine lv_iconst (v := -1) hx hb dX10_claim_182 (by decide) ?_
      exact hx_reti hx hb hr hlk hW ⟨trivial, hT, hM⟩ dX10_claim_183
    · refine lv_tableIn (off := 69) (tgt := 80) hx hb dX10_claim_11 (by omega) (by omega) (by rw [c_8]; rfl) (by decide) ?_
      refine lv_aload_n hx hb dX10_claim_80 rfl (lv_at hl 0 rfl) ?_
      refine hx_getn hx hb hts hC_10 hown hW hT (gx.S hM) tt_10 37 (by decide) rfl kw_1180 ⟨rfl, rfl, rfl⟩ dX10_claim_81 (fun q_9 fq_9 gq_9 => ?_)
      refine lv_iload_n hx hb dX10_claim_84 rfl (lv_at hl 1 rfl) ?_
      refine hx_iald hx hb hW hT gq_9 tt_72 rfl ⟨by omega, by omega⟩ dX10_claim_85 (fun x_10 ex_10 lx_10 ux_10 => ?_)
      exact hx_reti hx hb hr hlk hW ⟨trivial, hT, hM⟩ dX10_claim_86
    · refine lv_tableIn (off := 76) (tgt := 87) hx hb dX10_claim_11 (by omega) (by omega) (by rw [c_8]; rfl) (by decide) ?_
      refine lv_aload_n hx hb dX10_claim_87 rfl (lv_at hl 0 rfl) ?_
      refine hx_getn hx hb hts hC_10 hown hW hT (gx.S hM) tt_10 38 (by decide) rfl kw_1181 ⟨rfl, rfl, rfl⟩ dX10_claim_88 (fun q_11 fq_11 gq_11 => ?_)
      refine lv_iload_n hx hb dX10_claim_91 rfl (lv_at hl 1 rfl) ?_
      refine hx_iald hx hb hW hT gq_11 tt_73 rfl ⟨by omega, by omega⟩ dX10_claim_92 (fun x_12 ex_12 lx_12 ux_12 => ?_)
      exact hx_reti hx hb hr hlk hW ⟨trivial, hT, hM⟩ dX10_claim_93
    · refine lv_tableIn (off := 83) (tgt := 94) hx hb dX10_claim_11 (by omega) (by omega) (by rw [c_8]; rfl) (by decide) ?_
      refine lv_aload_n hx hb dX10_claim_94 rfl (lv_at hl 0 rfl) ?_
      refine hx_getn hx hb hts hC_10 hown hW hT (gx.S hM) tt_10 39 (by decide) rfl kw_1182 ⟨rfl, rfl, rfl⟩ dX10_claim_95 (fun q_13 fq_13 gq_13 => ?_)
      refine lv_iload_n hx hb dX10_claim_98 rfl (lv_at hl 1 rfl) ?_
      refine hx_iald hx hb hW hT gq_13 tt_74 rfl ⟨by omega, by omega⟩ dX10_claim_99 (fun x_14 ex_14 lx_14 ux_14 => ?_)
      exact hx_reti hx hb hr hlk hW ⟨trivial, hT, hM⟩ dX10_claim_100
    · refine lv_tableIn (off := 90) (tgt := 101) hx hb dX10_claim_11 (by omega) (by omega) (by rw [c_8]; rfl) (by decide) ?_
      refine lv_aload_n hx hb dX10_claim_101 rfl (lv_at hl 0 rfl) ?_
      refine hx_getn hx hb hts hC_10 hown hW hT (gx.S hM) tt_10 43 (by decide) rfl kw_1186 ⟨rfl, rfl, rfl⟩ dX10_claim_102 (fun q_15 fq_15 gq_15 => ?_)
      refine lv_iload_n hx hb dX10_claim_105 rfl (lv_at hl 1 rfl) ?_
      refine hx_iald hx hb hW hT gq_15 tt_78 rfl ⟨by omega, by omega⟩ dX10_claim_106 (fun x_16 ex_16 lx_16 ux_16 => ?_)
      exact hx_reti hx hb hr hlk hW ⟨trivial, hT, hM⟩ dX10_claim_107
    · refine lv_tableIn (off := 97) (tgt := 108) hx hb dX10_claim_11 (by omega) (by omega) (by rw [c_8]; rfl) (by decide) ?_
      refine lv_aload_n hx hb dX10_claim_108 rfl (lv_at hl 0 rfl) ?_
      refine hx_getn hx hb hts hC_10 hown hW hT (gx.S hM) tt_10 45 (by decide) rfl kw_1188 ⟨rfl, rfl, rfl⟩ dX10_claim_109 (fun q_17 fq_17 gq_17 => ?_)
      refine lv_iload_n hx hb dX10_claim_112 rfl (lv_at hl 1 rfl) ?_
      refine hx_iald hx hb hW hT gq_17 tt_80 rfl ⟨by omega, by omega⟩ dX10_claim_113 (fun x_18 ex_18 lx_18 ux_18 => ?_)
      exact hx_reti hx hb hr hlk hW ⟨trivial, hT, hM⟩ dX10_claim_114
    · refine lv_tableIn (off := 104) (tgt := 115) hx hb dX10_claim_11 (by omega) (by omega) (by rw [c_8]; rfl) (by decide) ?_
      refine lv_aload_n hx hb dX10_claim_115 rfl (lv_at hl 0 rfl) ?_
      refine hx_getn hx hb hts hC_10 hown hW hT (gx.S hM) tt_10 51 (by decide) rfl kw_1194 ⟨rfl, rfl, rfl⟩ dX10_claim_116 (fun q_19 fq_19 gq_19 => ?_)
      refine lv_iload_n hx hb dX10_claim_119 rfl (lv_at hl 1 rfl) ?_
      refine hx_iald hx hb hW hT gq_19 tt_86 rfl ⟨by omega, by omega⟩ dX10_claim_120 (fun x_20 ex_20 lx_20 ux_20 => ?_)
      exact hx_reti hx hb hr hlk hW ⟨trivial, hT, hM⟩ dX10_claim_121
    · refine lv_tableIn (off := 111) (tgt := 122) hx hb dX10_claim_11 (by omega) (by omega) (by rw [c_8]; rfl) (by decide) ?_
      refine lv_aload_n hx hb dX10_claim_122 rfl (lv_at hl 0 rfl) ?_
      refine hx_getn hx hb hts hC_10 hown hW hT (gx.S hM) tt_10 52 (by decide) rfl kw_1195 ⟨rfl, rfl, rfl⟩ dX10_claim_123 (fun q_21 fq_21 gq_21 => ?_)
      refine lv_iconst (v := 3) hx hb dX10_claim_126 (by decide) ?_
      refine lv_iload_n hx hb dX10_claim_127 rfl (lv_at hl 1 rfl) ?_
      refine lv_imul hx hb dX10_claim_128 ?_
      refine lv_topi (fun x_22 ex_22 => ?_)
      have zx_22 : x_22.toInt = 3 * i1.toInt := by rw [ex_22]; exact i32_mul (by decide) rfl rfl (by omega) (by omega)
      refine lv_iload_n hx hb dX10_claim_129 rfl (lv_at hl 2 rfl) ?_
      refine lv_iadd hx hb dX10_claim_130 ?_
      have rg_23 := i32_r x_22
      have rg_24 := i32_r i2
      refine lv_topi (fun x_25 ex_25 => ?_)
      have zx_25 : x_25.toInt = x_22.toInt + i2.toInt := by rw [ex_25]; exact i32_add rfl rfl (by omega) (by omega)
      refine lv_bipush (v := 6) hx hb dX10_claim_131 (by decide) ?_
      refine lv_isub hx hb dX10_claim_133 ?_
      have rg_26 := i32_r x_25
      refine lv_topi (fun x_27 ex_27 => ?_)
      have zx_27 : x_27.toInt = x_25.toInt - 6 := by rw [ex_27]; exact i32_sub rfl (by decide) (by omega) (by omega)
      refine hx_iald hx hb hW hT gq_21 tt_87 rfl ⟨by omega, by omega⟩ dX10_claim_134 (fun x_28 ex_28 lx_28 ux_28 => ?_)
      exact hx_reti hx hb hr hlk hW ⟨trivial, hT, hM⟩ dX10_claim_135
    · refine lv_tableIn (off := 111) (tgt := 122) hx hb dX10_claim_11 (by omega) (by omega) (by rw [c_8]; rfl) (by decide) ?_
      refine lv_aload_n hx hb dX10_claim_122 rfl (lv_at hl 0 rfl) ?_
      refine hx_getn hx hb hts hC_10 hown hW hT (gx.S hM) tt_10 52 (by decide) rfl kw_1195 ⟨rfl, rfl, rfl⟩ dX10_claim_123 (fun q_29 fq_29 gq_29 => ?_)
      refine lv_iconst (v := 3) hx hb dX10_claim_126 (by decide) ?_
      refine lv_iload_n hx hb dX10_claim_127 rfl (lv_at hl 1 rfl) ?_
      refine lv_imul hx hb dX10_claim_128 ?_
      refine lv_topi (fun x_30 ex_30 => ?_)
      have zx_30 : x_30.toInt = 3 * i1.toInt := by rw [ex_30]; exact i32_mul (by decide) rfl rfl (by omega) (by omega)
      refine lv_iload_n hx hb dX10_claim_129 rfl (lv_at hl 2 rfl) ?_
      refine lv_iadd hx hb dX10_claim_130 ?_
      have rg_31 := i32_r x_30
      have rg_32 := i32_r i2
      refine lv_topi (fun x_33 ex_33 => ?_)
      have zx_33 : x_33.toInt = x_30.toInt + i2.toInt := by rw [ex_33]; exact i32_add rfl rfl (by omega) (by omega)
      refine lv_bipush (v := 6) hx hb dX10_claim_131 (by decide) ?_
      refine lv_isub hx hb dX10_claim_133 ?_
      have rg_34 := i32_r x_33
      refine lv_topi (fun x_35 ex_35 => ?_)
      have zx_35 : x_35.toInt = x_33.toInt - 6 := by rw [ex_35]; exact i32_sub rfl (by decide) (by omega) (by omega)
      refine hx_iald hx hb hW hT gq_29 tt_87 rfl ⟨by omega, by omega⟩ dX10_claim_134 (fun x_36 ex_36 lx_36 ux_36 => ?_)
      exact hx_reti hx hb hr hlk hW ⟨trivial, hT, hM⟩ dX10_claim_135
    · refine lv_tableIn (off := 111) (tgt := 122) hx hb dX10_claim_11 (by omega) (by omega) (by rw [c_8]; rfl) (by decide) ?_
      refine lv_aload_n hx hb dX10_claim_122 rfl (lv_at hl 0 rfl) ?_
      refine hx_getn hx hb hts hC_10 hown hW hT (gx.S hM) tt_10 52 (by decide) rfl kw_1195 ⟨rfl, rfl, rfl⟩ dX10_claim_123 (fun q_37 fq_37 gq_37 => ?_)
      refine lv_iconst (v := 3) hx hb dX10_claim_126 (by decide) ?_
      refine lv_iload_n hx hb dX10_claim_127 rfl (lv_at hl 1 rfl) ?_
      refine lv_imul hx hb dX10_claim_128 ?_
      refine lv_topi (fun x_38 ex_38 => ?_)
      have zx_38 : x_38.toInt = 3 * i1.toInt := by rw [ex_38]; exact i32_mul (by decide) rfl rfl (by omega) (by omega)
      refine lv_iload_n hx hb dX10_claim_129 rfl (lv_at hl 2 rfl) ?_
      refine lv_iadd hx hb dX10_claim_130 ?_
      have rg_39 := i32_r x_38
      have rg_40 := i32_r i2
      refine lv_topi (fun x_41 ex_41 => ?_)
      have zx_41 : x_41.toInt = x_38.toInt + i2.toInt := by rw [ex_41]; exact i32_add rfl rfl (by omega) (by omega)
      refine lv_bipush (v := 6) hx hb dX10_claim_131 (by decide) ?_
      refine lv_isub hx hb dX10_claim_133 ?_
      have rg_42 := i32_r x_41
      refine lv_topi (fun x_43 ex_43 => ?_)
      have zx_43 : x_43.toInt = x_41.toInt - 6 := by rw [ex_43]; exact i32_sub rfl (by decide) (by omega) (by omega)
      refine hx_iald hx hb hW hT gq_37 tt_87 rfl ⟨by omega, by omega⟩ dX10_claim_134 (fun x_44 ex_44 lx_44 ux_44 => ?_)
      exact hx_reti hx hb hr hlk hW ⟨trivial, hT, hM⟩ dX10_claim_135
    · refine lv_tableIn (off := 125) (tgt := 136) hx hb dX10_claim_11 (by omega) (by omega) (by rw [c_8]; rfl) (by decide) ?_
      refine lv_aload_n hx hb dX10_claim_136 rfl (lv_at hl 0 rfl) ?_
      refine hx_getn hx hb hts hC_10 hown hW hT (gx.S hM) tt_10 48 (by decide) rfl kw_1191 ⟨rfl, rfl, rfl⟩ dX10_claim_137 (fun q_45 fq_45 gq_45 => ?_)
      refine lv_iload_n hx hb dX10_claim_140 rfl (lv_at hl 1 rfl) ?_
      refine hx_iald hx hb hW hT gq_45 tt_83 rfl ⟨by omega, by omega⟩ dX10_claim_141 (fun x_46 ex_46 lx_46 ux_46 => ?_)
      exact hx_reti hx hb hr hlk hW ⟨trivial, hT, hM⟩ dX10_claim_142
    · refine lv_tableIn (off := 132) (tgt := 143) hx hb dX10_claim_11 (by omega) (by omega) (by rw [c_8]; rfl) (by decide) ?_
      refine lv_aload_n hx hb dX10_claim_143 rfl (lv_at hl 0 rfl) ?_
      refine hx_getn hx hb hts hC_10 hown hW hT (gx.S hM) tt_10 54 (by decide) rfl kw_1197 ⟨rfl, rfl, rfl⟩ dX10_claim_144 (fun q_47 fq_47 gq_47 => ?_)
      refine lv_iload_n hx hb dX10_claim_147 rfl (lv_at hl 1 rfl) ?_
      refine hx_iald hx hb hW hT gq_47 tt_89 rfl ⟨by omega, by omega⟩ dX10_claim_148 (fun x_48 ex_48 lx_48 ux_48 => ?_)
      exact hx_reti hx hb hr hlk hW ⟨trivial, hT, hM⟩ dX10_claim_149
    · refine lv_tableIn (off := 139) (tgt := 150) hx hb dX10_claim_11 (by omega) (by omega) (by rw [c_8]; rfl) (by decide) ?_
      refine lv_aload_n hx hb dX10_claim_150 rfl (lv_at hl 0 rfl) ?_
      refine hx_getn hx hb hts hC_10 hown hW hT (gx.S hM) tt_10 55 (by decide) rfl kw_1198 ⟨rfl, rfl, rfl⟩ dX10_claim_151 (fun q_49 fq_49 gq_49 => ?_)
      refine lv_iload_n hx hb dX10_claim_154 rfl (lv_at hl 1 rfl) ?_
      refine hx_iald hx hb hW hT gq_49 tt_90 rfl ⟨by omega, by omega⟩ dX10_claim_155 (fun x_50 ex_50 lx_50 ux_50 => ?_)
      exact hx_reti hx hb hr hlk hW ⟨trivial, hT, hM⟩ dX10_claim_156
    · refine lv_tableIn (off := 146) (tgt := 157) hx hb dX10_claim_11 (by omega) (by omega) (by rw [c_8]; rfl) (by decide) ?_
      refine lv_aload_n hx hb dX10_claim_157 rfl (lv_at hl 0 rfl) ?_
      refine hx_getn hx hb hts hC_10 hown hW hT (gx.S hM) tt_10 44 (by decide) rfl kw_1187 ⟨rfl, rfl, rfl⟩ dX10_claim_158 (fun q_51 fq_51 gq_51 => ?_)
      refine lv_iload_n hx hb dX10_claim_161 rfl (lv_at hl 1 rfl) ?_
      refine hx_iald hx hb hW hT gq_51 tt_79 rfl ⟨by omega, by omega⟩ dX10_claim_162 (fun x_52 ex_52 lx_52 ux_52 => ?_)
      refine lv_iconst (v := 1) hx hb dX10_claim_163 (by decide) ?_
      refine lv_isub hx hb dX10_claim_164 ?_
      have rg_53 := i32_r x_52
      refine lv_topi (fun x_54 ex_54 => ?_)
      have zx_54 : x_54.toInt = x_52.toInt - 1 := by rw [ex_54]; exact i32_sub rfl (by decide) (by omega) (by omega)
      exact hx_reti hx hb hr hlk hW ⟨trivial, hT, hM⟩ dX10_claim_165
    · refine lv_tableIn (off := 155) (tgt := 166) hx hb dX10_claim_11 (by omega) (by omega) (by rw [c_8]; rfl) (by decide) ?_
      refine lv_aload_n hx hb dX10_claim_166 rfl (lv_at hl 0 rfl) ?_
      refine hx_getn hx hb hts hC_10 hown hW hT (gx.S hM) tt_10 49 (by decide) rfl kw_1192 ⟨rfl, rfl, rfl⟩ dX10_claim_167 (fun q_55 fq_55 gq_55 => ?_)
      refine lv_iload_n hx hb dX10_claim_170 rfl (lv_at hl 1 rfl) ?_
      refine hx_iald hx hb hW hT gq_55 tt_84 rfl ⟨by omega, by omega⟩ dX10_claim_171 (fun x_56 ex_56 lx_56 ux_56 => ?_)
      refine lv_iconst (v := -1) hx hb dX10_claim_172 (by decide) ?_
      have jn_181 : ∀ (xj_57 : Int32) (ls : Array Slot), 0 ≤ xj_57.toInt → xj_57.toInt ≤ 1 → lv_has ls 3 [(0, .ref x), (1, .int i1), (2, .int i2)] → W p l e ({ frames := 2, cells := 0, slots := 0, locals := 43 }) s m ([.ref x, .int i1, .int i2] : List Value).toArray below meth c H locs 0 0 (MQ below (va_Qi (fun (r : Int32) (u : List Nat × hx_h) => (True) ∧ hx_T T_tb u.1 u.2 ∧ hx_S T_tb [] L h u.1 u.2) (hx_E T_tb (P_ty dA) (dC, dI) vwCl (hx_A L sz)) (hx_A L sz)) ([.ref x, .int i1, .int i2] : List Value).toArray s 0 0 (hx_A L sz)) (F0 m 181 ls [.int xj_57]) := by
        intro xj_57 ls blxj_57 buxj_57 hl
        exact hx_reti hx hb hr hlk hW ⟨trivial, hT, hM⟩ dX10_claim_181
      refine hb_icmp_ne (zx := x_56.toInt) (zy := (-1)) (tgt := 180) hx hb rfl (by decide) dX10_claim_173 (by decide) (fun c_58 => ?_) (fun c_58 => ?_)
      · skip
        refine lv_iconst (v := 1) hx hb dX10_claim_180 (by decide) ?_
        exact jn_181 (1 : Int32) ls (by decide) (by decide) hl
      · skip
        refine lv_iconst (v := 0) hx hb dX10_claim_176 (by decide) ?_
        refine lv_goto (tgt := 181) hx hb dX10_claim_177 (by decide) ?_
        exact jn_181 (0 : Int32) ls (by decide) (by decide) hl
  · skip
    replace hr_6 := hr_6.resolve_right (fun z9 => absurd (c_7.symm.trans z9.1) (by decide))
    replace hr_6 := hr_6.2
    refine lv_iconst (v := -1) hx hb dX10_claim_8 (by decide) ?_
    exact hx_reti hx hb hr hlk hW ⟨trivial, hT, hM⟩ dX10_claim_9

def wLX10_state_0 : List Nat := [42, 27, 182, 1, 114, 153, 0, 35, 28, 42, 180, 0, 99, 27, 46, 17, 31, 63, 184, 0, 228, 153, 0, 19, 29, 42, 180, 0, 99, 27, 46, 17, 31, 63, 184, 0, 228, 154, 0, 5, 2, 172, 42, 27, 28, 29, 182, 1, 160, 21, 4, 170, 0, 0, 0, 58, 0, 0, 0, 0, 0, 0, 0, 4]
def wLX10_state_1 : List Nat := [0, 0, 0, 33, 0, 0, 0, 38, 0, 0, 0, 43, 0, 0, 0, 48, 0, 0, 0, 53, 42, 180, 1, 154, 172, 42, 180, 1, 145, 172, 42, 180, 1, 151, 172, 42, 180, 1, 142, 172, 42, 180, 1, 148, 172, 2, 172]
theorem wX10_state_0 : (cX10_state.data.toList.map UInt8.toNat).drop 0 = wLX10_state_0 ++ (wLX10_state_1 ++ ([])) := by decide +kernel
theorem wX10_state_1 : (cX10_state.data.toList.map UInt8.toNat).drop 64 = wLX10_state_1 ++ ([]) := hz_wn wX10_state_0 rfl
theorem dX10_state_0 : decode cX10_state 0 = .ok (.aload_n 0, 1) := dq_42 (hz_wg wX10_state_0 (j := 0) (n := 42) rfl)
theorem dX10_state_1 : decode cX10_state 1 = .ok (.iload_n 1, 1) := dq_27 (hz_wg wX10_state_0 (j := 1) (n := 27) rfl)
theorem dX10_state_2 : decode cX10_state 2 = .ok (.invokevirtual 370, 3) := dq_182 (hz_wg wX10_state_0 (j := 2) (n := 182) rfl) (hz_wg wX10_state_0 (j := 3) (n := 1) rfl) (hz_wg wX10_state_0 (j := 4) (n := 114) rfl) rfl
theorem dX10_state_5 : decode cX10_state 5 = .ok (.ifCond .eq 35, 3) := dq_153 (hz_wg wX10_state_0 (j := 5) (n := 153) rfl) (hz_wg wX10_state_0 (j := 6) (n := 0) rfl) (hz_wg wX10_state_0 (j := 7) (n := 35) rfl) (by decide)
theorem dX10_state_8 : decode cX10_state 8 = .ok (.iload_n 2, 1) := dq_28 (hz_wg wX10_state_0 (j := 8) (n := 28) rfl)
theorem dX10_state_9 : decode cX10_state 9 = .ok (.aload_n 0, 1) := dq_42 (hz_wg wX10_state_0 (j := 9) (n := 42) rfl)
theorem dX10_state_10 : decode cX10_state 10 = .ok (.getfield 99, 3) := dq_180 (hz_wg wX10_state_0 (j := 10) (n := 180) rfl) (hz_wg wX10_state_0 (j := 11) (n := 0) rfl) (hz_wg wX10_state_0 (j := 12) (n := 99) rfl) rfl
theorem dX10_state_13 : decode cX10_state 13 = .ok (.iload_n 1, 1) := dq_27 (hz_wg wX10_state_0 (j := 13) (n := 27) rfl)
theorem dX10_state_14 : decode cX10_state 14 = .ok (.iaload, 1) := dq_46 (hz_wg wX10_state_0 (j := 14) (n := 46) rfl)
theorem dX10_state_15 : decode cX10_state 15 = .ok (.sipush 7999, 3) := dq_17 (hz_wg wX10_state_0 (j := 15) (n := 17) rfl) (hz_wg wX10_state_0 (j := 16) (n := 31) rfl) (hz_wg wX10_state_0 (j := 17) (n := 63) rfl) (by decide)
theorem dX10_state_18 : decode cX10_state 18 = .ok (.invokestatic 228, 3) := dq_184 (hz_wg wX10_state_0 (j := 18) (n := 184) rfl) (hz_wg wX10_state_0 (j := 19) (n := 0) rfl) (hz_wg wX10_state_0 (j := 20) (n := 228) rfl) rfl
theorem dX10_state_21 : decode cX10_state 21 = .ok (.ifCond .eq 19, 3) := dq_153 (hz_wg wX10_state_0 (j := 21) (n := 153) rfl) (hz_wg wX10_state_0 (j := 22) (n := 0) rfl) (hz_wg wX10_state_0 (j := 23) (n := 19) rfl) (by decide)
theorem dX10_state_24 : decode cX10_state 24 = .ok (.iload_n 3, 1) := dq_29 (hz_wg wX10_state_0 (j := 24) (n := 29) rfl)
theorem dX10_state_25 : decode cX10_state 25 = .ok (.aload_n 0, 1) := dq_42 (hz_wg wX10_state_0 (j := 25) (n := 42) rfl)
theorem dX10_state_26 : decode cX10_state 26 = .ok (.getfield 99, 3) := dq_180 (hz_wg wX10_state_0 (j := 26) (n := 180) rfl) (hz_wg wX10_state_0 (j := 27) (n := 0) rfl) (hz_wg wX10_state_0 (j := 28) (n := 99) rfl) rfl
theorem dX10_state_29 : decode cX10_state 29 = .ok (.iload_n 1, 1) := dq_27 (hz_wg wX10_state_0 (j := 29) (n := 27) rfl)
theorem dX10_state_30 : decode cX10_state 30 = .ok (.iaload, 1) := dq_46 (hz_wg wX10_state_0 (j := 30) (n := 46) rfl)
theorem dX10_state_31 : decode cX10_state 31 = .ok (.sipush 7999, 3) := dq_17 (hz_wg wX10_state_0 (j := 31) (n := 17) rfl) (hz_wg wX10_state_0 (j := 32) (n := 31) rfl) (hz_wg wX10_state_0 (j := 33) (n := 63) rfl) (by decide)
theorem dX10_state_34 : decode cX10_state 34 = .ok (.invokestatic 228, 3) := dq_184 (hz_wg wX10_state_0 (j := 34) (n := 184) rfl) (hz_wg wX10_state_0 (j := 35) (n := 0) rfl) (hz_wg wX10_state_0 (j := 36) (n := 228) rfl) rfl
theorem dX10_state_37 : decode cX10_state 37 = .ok (.ifCond .ne 5, 3) := dq_154 (hz_wg wX10_state_0 (j := 37) (n := 154) rfl) (hz_wg wX10_state_0 (j := 38) (n := 0) rfl) (hz_wg wX10_state_0 (j := 39) (n := 5) rfl) (by decide)
theorem dX10_state_40 : decode cX10_state 40 = .ok (.iconst (-1), 1) := dq_2 (hz_wg wX10_state_0 (j := 40) (n := 2) rfl)
theorem dX10_state_41 : decode cX10_state 41 = .ok (.ireturn, 1) := dq_172 (hz_wg wX10_state_0 (j := 41) (n := 172) rfl)
theorem dX10_state_42 : decode cX10_state 42 = .ok (.aload_n 0, 1) := dq_42 (hz_wg wX10_state_0 (j := 42) (n := 42) rfl)
theorem dX10_state_43 : decode cX10_state 43 = .ok (.iload_n 1, 1) := dq_27 (hz_wg wX10_state_0 (j := 43) (n := 27) rfl)
theorem dX10_state_44 : decode cX10_state 44 = .ok (.iload_n 2, 1) := dq_28 (hz_wg wX10_state_0 (j := 44) (n := 28) rfl)
theorem dX10_state_45 : decode cX10_state 45 = .ok (.iload_n 3, 1) := dq_29 (hz_wg wX10_state_0 (j := 45) (n := 29) rfl)
theorem dX10_state_46 : decode cX10_state 46 = .ok (.invokevirtual 416, 3) := dq_182 (hz_wg wX10_state_0 (j := 46) (n := 182) rfl) (hz_wg wX10_state_0 (j := 47) (n := 1) rfl) (hz_wg wX10_state_0 (j := 48) (n := 160) rfl) rfl
theorem dX10_state_49 : decode cX10_state 49 = .ok (.iload 4, 2) := dq_21 (hz_wg wX10_state_0 (j := 49) (n := 21) rfl) (hz_wg wX10_state_0 (j := 50) (n := 4) rfl)
theorem dX10_state_51 : decode cX10_state 51 = .ok (.tableswitch 58 0 4 #[33, 38, 43, 48, 53], 33) := by decide +kernel
theorem dX10_state_84 : decode cX10_state 84 = .ok (.aload_n 0, 1) := dq_42 (hz_wg wX10_state_1 (j := 20) (n := 42) rfl)
theorem dX10_state_85 : decode cX10_state 85 = .ok (.getfield 410, 3) := dq_180 (hz_wg wX10_state_1 (j := 21) (n := 180) rfl) (hz_wg wX10_state_1 (j := 22) (n := 1) rfl) (hz_wg wX10_state_1 (j := 23) (n := 154) rfl) rfl
theorem dX10_state_88 : decode cX10_state 88 = .ok (.ireturn, 1) := dq_172 (hz_wg wX10_state_1 (j := 24) (n := 172) rfl)
theorem dX10_state_89 : decode cX10_state 89 = .ok (.aload_n 0, 1) := dq_42 (hz_wg wX10_state_1 (j := 25) (n := 42) rfl)
theorem dX10_state_90 : decode cX10_state 90 = .ok (.getfield 401, 3) := dq_180 (hz_wg wX10_state_1 (j := 26) (n := 180) rfl) (hz_wg wX10_state_1 (j := 27) (n := 1) rfl) (hz_wg wX10_state_1 (j := 28) (n := 145) rfl) rfl
theorem dX10_state_93 : decode cX10_state 93 = .ok (.ireturn, 1) := dq_172 (hz_wg wX10_state_1 (j := 29) (n := 172) rfl)
theorem dX10_state_94 : decode cX10_state 94 = .ok (.aload_n 0, 1) := dq_42 (hz_wg wX10_state_1 (j := 30) (n := 42) rfl)
theorem dX10_state_95 : decode cX10_state 95 = .ok (.getfield 407, 3) := dq_180 (hz_wg wX10_state_1 (j := 31) (n := 180) rfl) (hz_wg wX10_state_1 (j := 32) (n := 1) rfl) (hz_wg wX10_state_1 (j := 33) (n := 151) rfl) rfl
theorem dX10_state_98 : decode cX10_state 98 = .ok (.ireturn, 1) := dq_172 (hz_wg wX10_state_1 (j := 34) (n := 172) rfl)
theorem dX10_state_99 : decode cX10_state 99 = .ok (.aload_n 0, 1) := dq_42 (hz_wg wX10_state_1 (j := 35) (n := 42) rfl)
theorem dX10_state_100 : decode cX10_state 100 = .ok (.getfield 398, 3) := dq_180 (hz_wg wX10_state_1 (j := 36) (n := 180) rfl) (hz_wg wX10_state_1 (j := 37) (n := 1) rfl) (hz_wg wX10_state_1 (j := 38) (n := 142) rfl) rfl
theorem dX10_state_103 : decode cX10_state 103 = .ok (.ireturn, 1) := dq_172 (hz_wg wX10_state_1 (j := 39) (n := 172) rfl)
theorem dX10_state_104 : decode cX10_state 104 = .ok (.aload_n 0, 1) := dq_42 (hz_wg wX10_state_1 (j := 40) (n := 42) rfl)
theorem dX10_state_105 : decode cX10_state 105 = .ok (.getfield 404, 3) := dq_180 (hz_wg wX10_state_1 (j := 41) (n := 180) rfl) (hz_wg wX10_state_1 (j := 42) (n := 1) rfl) (hz_wg wX10_state_1 (j := 43) (n := 148) rfl) rfl
theorem dX10_state_108 : decode cX10_state 108 = .ok (.ireturn, 1) := dq_172 (hz_wg wX10_state_1 (j := 44) (n := 172) rfl)
theorem dX10_state_109 : decode cX10_state 109 = .ok (.iconst (-1), 1) := dq_2 (hz_wg wX10_state_1 (j := 45) (n := 2) rfl)
theorem dX10_state_110 : decode cX10_state 110 = .ok (.ireturn, 1) := dq_172 (hz_wg wX10_state_1 (j := 46) (n := 172) rfl)
set_option maxHeartbeats 4000000 in
set_option maxRecDepth 100000 in
theorem t_X10_state (l : Launch) (dC : Nat → ClassId) (dI : Nat → Nat → Nat) (dA : Nat → ClassId) (L : List Nat) (h : hx_h) (sz : Nat) (x : Nat) (i1 : Int32) (i2 : Int32) (i3 : Int32) (i4 : Int32) (hT : hx_T T_tb L h) (gx : hx_g L h x 10)  : Met l yX10_state (Cond.code yX10_state cX10_state 5 (some .int) :: hx_all) ({ frames := 2, cells := 0, slots := 0, locals := 50 }) (va_Pc [.ref x, .int i1, .int i2, .int i3, .int i4] (hx_B T_tb (P_ty dA) (dC, dI) vwCl L h sz)) (va_Qi (fun (r : Int32) (u : List Nat × hx_h) => (True) ∧ hx_T T_tb u.1 u.2 ∧ hx_S T_tb [(10, 67), (10, 68), (10, 69), (10, 70), (10, 71)] L h u.1 u.2) (hx_E T_tb (P_ty dA) (dC, dI) vwCl (hx_A L sz)) (hx_A L sz)) 0 0 (hx_A L sz) := by
  refine hx_met (lv := [(0, .ref x), (1, .int i1), (2, .int i2), (3, .int i3), (4, .int i4)]) (by decide +kernel) rfl (Nat.le_of_ble_eq_true rfl) rfl ?_
  intro p e s m below meth c hx hb hml hr hlk hts0 hown hin hsz hW ls hl
  have hts : ∀ w ∈ hx_all, w.before _ s = true := fun w hw => hts0 w (List.mem_cons_of_mem _ hw)
  have hown : s.vm.findClass "SmallCourtModel" = some m.cls := hown
  have hM : hx_S T_tb [(10, 67), (10, 68), (10, 69), (10, 70), (10, 71)] L h L h := hx_S.rf
  refine lv_aload_n hx hb dX10_state_0 rfl (lv_at hl 0 rfl) ?_
  refine lv_iload_n hx hb dX10_state_1 rfl (lv_at hl 1 rfl) ?_
  obtain ⟨fv_1, efv_1⟩ : ∃ y : Int32, y = h.2.1 x 36 := ⟨_, rfl⟩
  have bfv_1 := hT.gi (gx.S hM) tt_10 (k := 36) rfl
  rw [← efv_1] at bfv_1
  have bfv_1 : 0 ≤ fv_1.toInt ∧ fv_1.toInt ≤ 100 := bfv_1
  have ffv_1 := efv_1.symm
  refine hx_goi (hx_runV (As := [.int i1]) (rest := []) ⟨hx, hb, hml, hown, hts⟩ hW (gx.S hM) tt_10 (T := TX10) (N := 98) rfl (t_X10_isClaim l dC dI dA L h s.heap.size x i1 hT (gx.S hM) fv_1 ffv_1) (cwV 1 hts (hx_gV kw_1597 kw_1594 kw_1596 kw_73 kw_103) rfl rfl rfl (by decide +kernel) ⟨Nat.le_of_ble_eq_true rfl, Nat.le_of_ble_eq_true rfl⟩) rfl hl.1 rfl (Nat.le_of_ble_eq_true rfl) dX10_state_2 ⟨Nat.le_of_ble_eq_true rfl, Nat.le_of_ble_eq_true rfl⟩) hW (fun r_4 L_2 h_3 H locs p_5 hW => ?_)
  obtain ⟨hr_6, hT, hs⟩ := p_5
  replace hT : hx_T T_tb L_2 h_3 := hT
  replace hs : hx_S T_tb [] L h L_2 h_3 := hs
  replace ffv_1 := (hs.o (gx.S hM) trivial rfl).1.trans ffv_1
  replace hM := hM.tr (hs.mono (by decide))
  refine hb_if_eq (zx := r_4.toInt) (tgt := 40) hx hb rfl dX10_state_5 (by decide) (fun c_7 => ?_) (fun c_7 => ?_)
  · skip
    replace hr_6 := hr_6.resolve_right (fun z9 => absurd (c_7.symm.trans z9.1) (by decide))
    replace hr_6 := hr_6.2
    refine lv_iconst (v := -1) hx hb dX10_state_40 (by decide) ?_
    exact hx_reti hx hb hr hlk hW ⟨trivial, hT, hM⟩ dX10_state_41
  · skip
    replace hr_6 := hr_6.resolve_left (fun z9 => c_7 z9.1)
    replace c_7 := hr_6.1
    replace hr_6 := hr_6.2
    refine lv_iload_n hx hb dX10_state_8 rfl (lv_at hl 2 rfl) ?_
    refine lv_aload_n hx hb dX10_state_9 rfl (lv_at hl 0 rfl) ?_
    refine hx_getn hx hb hts hC_10 hown hW hT (gx.S hM) tt_10 43 (by decide) rfl kw_1186 ⟨rfl, rfl, rfl⟩ dX10_state_10 (fun q_8 fq_8 gq_8 => ?_)
    refine lv_iload_n hx hb dX10_state_13 rfl (lv_at hl 1 rfl) ?_
    refine hx_iald hx hb hW hT gq_8 tt_78 rfl ⟨by omega, by omega⟩ dX10_state_14 (fun x_9 ex_9 lx_9 ux_9 => ?_)
    refine lv_sipush (v := 7999) hx hb dX10_state_15 (by decide) ?_
    have zc_7999 : (7999 : Int32).toInt = 7999 := by decide
    refine hx_goi (hx_runS (As := [.int i2, .int x_9, .int (7999 : Int32)]) (rest := []) ⟨hx, hb, hml, hown, hts⟩ hW (t_X10_in l dC dI dA L_2 h_3 H.size i2 x_9 (7999 : Int32) hT) (va_cwS 3 hts (hx_gS kw_1445 kw_1443 kw_1444 kw_103) rfl rfl rfl (by decide +kernel) ⟨Nat.le_of_ble_eq_true rfl, Nat.le_of_ble_eq_true rfl⟩) rfl hl.1 rfl (Nat.le_of_ble_eq_true rfl) dX10_state_18 ⟨Nat.le_of_ble_eq_true rfl, Nat.le_of_ble_eq_true rfl⟩) hW (fun r_12 L_10 h_11 H locs p_13 hW => ?_)
    obtain ⟨hr_14, hT, hs⟩ := p_13
    replace hT : hx_T T_tb L_10 h_11 := hT
    replace hs : hx_S T_tb [] L_2 h_3 L_10 h_11 := hs
    replace ffv_1 := (hs.o (gx.S hM) trivial rfl).1.trans ffv_1
    replace fq_8 := (hs.o (gx.S hM) trivial rfl).2.trans fq_8
    replace ex_9 := ex_9.trans (hs.a gq_8 rfl _).1.symm
    replace hM := hM.tr (hs.mono (by decide))
    replace gq_8 := gq_8.S hs
    refine hb_if_eq (zx := r_12.toInt) (tgt := 40) hx hb rfl dX10_state_21 (by decide) (fun c_15 => ?_) (fun c_15 => ?_)
    · skip
      replace hr_14 := hr_14.resolve_right (fun z9 => absurd (c_15.symm.trans z9.1) (by decide))
      replace hr_14 := hr_14.2
      refine lv_iconst (v := -1) hx hb dX10_state_40 (by decide) ?_
      exact hx_reti hx hb hr hlk hW ⟨trivial, hT, hM⟩ dX10_state_41
    · skip
      replace hr_14 := hr_14.resolve_left (fun z9 => c_15 z9.1)
      replace c_15 := hr_14.1
      replace hr_14 := hr_14.2
      refine lv_iload_n hx hb dX10_state_24 rfl (lv_at hl 3 rfl) ?_
      refine lv_aload_n hx hb dX10_state_25 rfl (lv_at hl 0 rfl) ?_
      refine hk_getr hx hb hts hC_10 hown hW (gx.S hM) tt_10 43 (by decide) rfl kw_1186 ⟨rfl, rfl, rfl⟩ fq_8 dX10_state_26 ?_
      refine lv_iload_n hx hb dX10_state_29 rfl (lv_at hl 1 rfl) ?_
      refine hx_iald hx hb hW hT gq_8 tt_78 rfl ⟨by omega, by omega⟩ dX10_state_30 (fun x_16 ex_16 lx_16 ux_16 => ?_)
      obtain rfl : x_9 = x_16 := ex_9.trans ex_16.symm
      refine lv_sipush (v := 7999) hx hb dX10_state_31 (by decide) ?_
      refine hx_goi (hx_runS (As := [.int i3, .int x_9, .int (7999 : Int32)]) (rest := []) ⟨hx, hb, hml, hown, hts⟩ hW (t_X10_in l dC dI dA L_10 h_11 H.size i3 x_9 (7999 : Int32) hT) (va_cwS 3 hts (hx_gS kw_1445 kw_1443 kw_1444 kw_103) rfl rfl rfl (by decide +kernel) ⟨Nat.le_of_ble_eq_true rfl, Nat.le_of_ble_eq_true rfl⟩) rfl hl.1 rfl (Nat.le_of_ble_eq_true rfl) dX10_state_34 ⟨Nat.le_of_ble_eq_true rfl, Nat.le_of_ble_eq_true rfl⟩) hW (fun r_19 L_17 h_18 H locs p_20 hW => ?_)
      obtain ⟨hr_21, hT, hs⟩ := p_20
      replace hT : hx_T T_tb L_17 h_18 := hT
      replace hs : hx_S T_tb [] L_10 h_11 L_17 h_18 := hs
      replace ffv_1 := (hs.o (gx.S hM) trivial rfl).1.trans ffv_1
      replace fq_8 := (hs.o (gx.S hM) trivial rfl).2.trans fq_8
      replace ex_9 := ex_9.trans (hs.a gq_8 rfl _).1.symm
      replace hM := hM.tr (hs.mono (by decide))
      replace gq_8 := gq_8.S hs
      refine hb_if_ne (zx := r_19.toInt) (tgt := 42) hx hb rfl dX10_state_37 (by decide) (fun c_22 => ?_) (fun c_22 => ?_)
      · skip
        replace hr_21 := hr_21.resolve_left (fun z9 => c_22 z9.1)
        replace c_22 := hr_21.1
        replace hr_21 := hr_21.2
        refine lv_aload_n hx hb dX10_state_42 rfl (lv_at hl 0 rfl) ?_
        refine lv_iload_n hx hb dX10_state_43 rfl (lv_at hl 1 rfl) ?_
        refine lv_iload_n hx hb dX10_state_44 rfl (lv_at hl 2 rfl) ?_
        refine lv_iload_n hx hb dX10_state_45 rfl (lv_at hl 3 rfl) ?_
        refine hx_gov (hx_runV (As := [.int i1, .int i2, .int i3]) (rest := []) ⟨hx, hb, hml, hown, hts⟩ hW (gx.S hM) tt_10 (T := TX10) (N := 98) rfl (t_X10_looks l dC dI dA L_17 h_18 H.size x i1 i2 i3 hT (gx.S hM) ⟨by omega, by omega⟩) (cwV 3 hts (hx_gV kw_1641 kw_1638 kw_1640 kw_82 kw_103) rfl rfl rfl (by decide +kernel) ⟨Nat.le_of_ble_eq_true rfl, Nat.le_of_ble_eq_true rfl⟩) rfl hl.1 rfl (Nat.le_of_ble_eq_true rfl) dX10_state_46 ⟨Nat.le_of_ble_eq_true rfl, Nat.le_of_ble_eq_true rfl⟩) hW (fun L_23 h_24 H locs p_26 hW => ?_)
        obtain ⟨⟨w_28, w_29, w_30, fw_28, fw_29, fw_30, hr_27⟩, hT, hs⟩ := p_26
        replace hT : hx_T T_tb L_23 h_24 := hT
        replace hs : hx_S T_tb [(10, 67), (10, 68), (10, 69), (10, 70), (10, 71)] L_17 h_18 L_23 h_24 := hs
        replace ffv_1 := (hs.o (gx.S hM) trivial rfl).1.trans ffv_1
        replace fq_8 := (hs.o (gx.S hM) trivial rfl).2.trans fq_8
        replace ex_9 := ex_9.trans (hs.a gq_8 rfl _).1.symm
        replace hM := hM.tr (hs.mono (by decide))
        replace gq_8 := gq_8.S hs
        have fw_28 : h_24.2.1 x 68 = w_28 := fw_28
        have bw_28 := hT.gi (gx.S hM) tt_10 (k := 68) rfl
        rw [fw_28] at bw_28
        have bw_28 : 0 ≤ w_28.toInt ∧ w_28.toInt ≤ 610000 := bw_28
        have fw_29 : h_24.2.1 x 71 = w_29 := fw_29
        have bw_29 := hT.gi (gx.S hM) tt_10 (k := 71) rfl
        rw [fw_29] at bw_29
        have bw_29 : 0 ≤ w_29.toInt ∧ w_29.toInt ≤ 8 := bw_29
        have fw_30 : h_24.2.1 x 67 = w_30 := fw_30
        have bw_30 := hT.gi (gx.S hM) tt_10 (k := 67) rfl
        rw [fw_30] at bw_30
        have bw_30 : 0 ≤ w_30.toInt ∧ w_30.toInt ≤ 366100000 := bw_30
        refine lv_iload hx hb dX10_state_49 (lv_at hl 4 rfl) ?_
        rcases (show (i4.toInt < 0 ∨ 4 < i4.toInt) ∨ i4.toInt = 0 ∨ i4.toInt = 1 ∨ i4.toInt = 2 ∨ i4.toInt = 3 ∨ i4.toInt = 4 from by omega) with c_31 | c_31 | c_31 | c_31 | c_31 | c_31
        · refine lv_tableOut (tgt := 109) hx hb dX10_state_51 c_31 (by decide) ?_
          refine lv_iconst (v := -1) hx hb dX10_state_109 (by decide) ?_
          exact hx_reti hx hb hr hlk hW ⟨trivial, hT, hM⟩ dX10_state_110
        · refine lv_tableIn (off := 33) (tgt := 84) hx hb dX10_state_51 (by omega) (by omega) (by rw [c_31]; rfl) (by decide) ?_
          refine lv_aload_n hx hb dX10_state_84 rfl (lv_at hl 0 rfl) ?_
          refine hk_geti hx hb hts hC_10 hown hW (gx.S hM) tt_10 71 (by decide) rfl kw_1214 ⟨rfl, rfl, rfl⟩ fw_29 dX10_state_85 ?_
          exact hx_reti hx hb hr hlk hW ⟨trivial, hT, hM⟩ dX10_state_88
        · refine lv_tableIn (off := 38) (tgt := 89) hx hb dX10_state_51 (by omega) (by omega) (by rw [c_31]; rfl) (by decide) ?_
          refine lv_aload_n hx hb dX10_state_89 rfl (lv_at hl 0 rfl) ?_
          refine hk_geti hx hb hts hC_10 hown hW (gx.S hM) tt_10 68 (by decide) rfl kw_1211 ⟨rfl, rfl, rfl⟩ fw_28 dX10_state_90 ?_
          exact hx_reti hx hb hr hlk hW ⟨trivial, hT, hM⟩ dX10_state_93
        · refine lv_tableIn (off := 43) (tgt := 94) hx hb dX10_state_51 (by omega) (by omega) (by rw [c_31]; rfl) (by decide) ?_
          refine lv_aload_n hx hb dX10_state_94 rfl (lv_at hl 0 rfl) ?_
          refine hx_geti hx hb hts hC_10 hown hW hT (gx.S hM) tt_10 70 (by decide) rfl kw_1213 ⟨rfl, rfl, rfl⟩ dX10_state_95 (fun x_32 ex_32 lx_32 ux_32 => ?_)
          have fx_32 := ex_32.symm
          exact hx_reti hx hb hr hlk hW ⟨trivial, hT, hM⟩ dX10_state_98
        · refine lv_tableIn (off := 48) (tgt := 99) hx hb dX10_state_51 (by omega) (by omega) (by rw [c_31]; rfl) (by decide) ?_
          refine lv_aload_n hx hb dX10_state_99 rfl (lv_at hl 0 rfl) ?_
          refine hk_geti hx hb hts hC_10 hown hW (gx.S hM) tt_10 67 (by decide) rfl kw_1210 ⟨rfl, rfl, rfl⟩ fw_30 dX10_state_100 ?_
          exact hx_reti hx hb hr hlk hW ⟨trivial, hT, hM⟩ dX10_state_103
        · refine lv_tableIn (off := 53) (tgt := 104) hx hb dX10_state_51 (by omega) (by omega) (by rw [c_31]; rfl) (by decide) ?_
          refine lv_aload_n hx hb dX10_state_104 rfl (lv_at hl 0 rfl) ?_
          refine hx_geti hx hb hts hC_10 hown hW hT (gx.S hM) tt_10 69 (by decide) rfl kw_1212 ⟨rfl, rfl, rfl⟩ dX10_state_105 (fun x_33 ex_33 lx_33 ux_33 => ?_)
          have fx_33 := ex_33.symm
          exact hx_reti hx hb hr hlk hW ⟨trivial, hT, hM⟩ dX10_state_108
      · skip
        replace hr_21 := hr_21.resolve_right (fun z9 => absurd (c_22.symm.trans z9.1) (by decide))
        replace hr_21 := hr_21.2
        refine lv_iconst (v := -1) hx hb dX10_state_40 (by decide) ?_
        exact hx_reti hx hb hr hlk hW ⟨trivial, hT, hM⟩ dX10_state_41
