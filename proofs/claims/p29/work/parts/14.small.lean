theorem dX9_roundUp_0 : decode cX9_roundUp 0 = .ok (.iload_n 0, 1) := by decide +kernel
theorem dX9_roundUp_1 : decode cX9_roundUp 1 = .ok (.ifCond .le 8, 3) := by decide +kernel
theorem dX9_roundUp_4 : decode cX9_roundUp 4 = .ok (.iload_n 1, 1) := by decide +kernel
theorem dX9_roundUp_5 : decode cX9_roundUp 5 = .ok (.iconst 1, 1) := by decide +kernel
theorem dX9_roundUp_6 : decode cX9_roundUp 6 = .ok (.if_icmp .ge 7, 3) := by decide +kernel
theorem dX9_roundUp_9 : decode cX9_roundUp 9 = .ok (.iconst 0, 1) := by decide +kernel
theorem dX9_roundUp_10 : decode cX9_roundUp 10 = .ok (.goto 10, 3) := by decide +kernel
theorem dX9_roundUp_13 : decode cX9_roundUp 13 = .ok (.iload_n 0, 1) := by decide +kernel
theorem dX9_roundUp_14 : decode cX9_roundUp 14 = .ok (.iconst 1, 1) := by decide +kernel
theorem dX9_roundUp_15 : decode cX9_roundUp 15 = .ok (.isub, 1) := by decide +kernel
theorem dX9_roundUp_16 : decode cX9_roundUp 16 = .ok (.iload_n 1, 1) := by decide +kernel
theorem dX9_roundUp_17 : decode cX9_roundUp 17 = .ok (.idiv, 1) := by decide +kernel
theorem dX9_roundUp_18 : decode cX9_roundUp 18 = .ok (.iconst 1, 1) := by decide +kernel
theorem dX9_roundUp_19 : decode cX9_roundUp 19 = .ok (.iadd, 1) := by decide +kernel
theorem dX9_roundUp_20 : decode cX9_roundUp 20 = .ok (.ireturn, 1) := by decide +kernel
set_option maxHeartbeats 4000000 in
set_option maxRecDepth 100000 in
theorem t_X9_roundUp (l : Launch) (dC : Nat → ClassId) (dI : Nat → Nat → Nat) (dA : Nat → ClassId) (L : List Nat) (h : hx_h) (sz : Nat) (i1 : Int32) (i2 : Int32) (hT : hx_T T_tb L h)   : Met l yX9_roundUp (Cond.code yX9_roundUp cX9_roundUp 2 (some .int) :: hx_all) ({ frames := 0, cells := 0, slots := 0, locals := 0 }) (va_Pc [.int i1, .int i2] (hx_B T_tb (P_ty dA) (dC, dI) vwCl L h sz)) (va_Qi (fun (r : Int32) (u : List Nat × hx_h) => (True) ∧ hx_T T_tb u.1 u.2 ∧ hx_S T_tb [] L h u.1 u.2) (hx_E T_tb (P_ty dA) (dC, dI) vwCl (hx_A L sz)) (hx_A L sz)) 0 0 (hx_A L sz) := by
  refine hx_met (lv := [(0, .int i1), (1, .int i2)]) (by decide +kernel) rfl (Nat.le_of_ble_eq_true rfl) rfl ?_
  intro p e s m below meth c hx hb hml hr hlk hts0 hown hin hsz hW ls hl
  have hts : ∀ w ∈ hx_all, w.before _ s = true := fun w hw => hts0 w (List.mem_cons_of_mem _ hw)
  have hown : s.vm.findClass "SmallCourt" = some m.cls := hown
  have hM : hx_S T_tb [] L h L h := hx_S.rf
  refine lv_iload_n hx hb dX9_roundUp_0 rfl (lv_at hl 0 rfl) ?_
  refine hb_if_le (zx := i1.toInt) (tgt := 9) hx hb rfl dX9_roundUp_1 (by decide) (fun c_1 => ?_) (fun c_1 => ?_)
  · skip
    refine lv_iconst (v := 0) hx hb dX9_roundUp_9 (by decide) ?_
    refine lv_goto (tgt := 20) hx hb dX9_roundUp_10 (by decide) ?_
    exact hx_reti hx hb hr hlk hW ⟨trivial, hT, hM⟩ dX9_roundUp_20
  · skip
    refine lv_iload_n hx hb dX9_roundUp_4 rfl (lv_at hl 1 rfl) ?_
    refine lv_iconst (v := 1) hx hb dX9_roundUp_5 (by decide) ?_
    refine hb_icmp_ge (zx := i2.toInt) (zy := 1) (tgt := 13) hx hb rfl (by decide) dX9_roundUp_6 (by decide) (fun c_2 => ?_) (fun c_2 => ?_)
    · skip
      refine lv_iload_n hx hb dX9_roundUp_13 rfl (lv_at hl 0 rfl) ?_
      refine lv_iconst (v := 1) hx hb dX9_roundUp_14 (by decide) ?_
      refine lv_isub hx hb dX9_roundUp_15 ?_
      have rg_3 := i32_r i1
      refine lv_topi (fun x_4 ex_4 => ?_)
      have zx_4 : x_4.toInt = i1.toInt - 1 := by rw [ex_4]; exact i32_sub rfl (by decide) (by omega) (by omega)
      refine lv_iload_n hx hb dX9_roundUp_16 rfl (lv_at hl 1 rfl) ?_
      refine lv_idiv hx hb dX9_roundUp_17 (hx_ne0 (by omega)) ?_
      refine lv_topi (fun x_5 ex_5 => ?_)
      refine lv_iconst (v := 1) hx hb dX9_roundUp_18 (by decide) ?_
      refine lv_iadd hx hb dX9_roundUp_19 ?_
      have rg_6 := i32_r x_5
      refine lv_topi (fun x_7 ex_7 => ?_)
      exact hx_reti hx hb hr hlk hW ⟨trivial, hT, hM⟩ dX9_roundUp_20
    · skip
      refine lv_iconst (v := 0) hx hb dX9_roundUp_9 (by decide) ?_
      refine lv_goto (tgt := 20) hx hb dX9_roundUp_10 (by decide) ?_
      exact hx_reti hx hb hr hlk hW ⟨trivial, hT, hM⟩ dX9_roundUp_20

theorem dX9_isWithin_0 : decode cX9_isWithin 0 = .ok (.iload_n 0, 1) := by decide +kernel
theorem dX9_isWithin_1 : decode cX9_isWithin 1 = .ok (.iload_n 1, 1) := by decide +kernel
theorem dX9_isWithin_2 : decode cX9_isWithin 2 = .ok (.if_icmp .lt 12, 3) := by decide +kernel
theorem dX9_isWithin_5 : decode cX9_isWithin 5 = .ok (.iload_n 0, 1) := by decide +kernel
theorem dX9_isWithin_6 : decode cX9_isWithin 6 = .ok (.iload_n 2, 1) := by decide +kernel
theorem dX9_isWithin_7 : decode cX9_isWithin 7 = .ok (.if_icmp .gt 7, 3) := by decide +kernel
theorem dX9_isWithin_10 : decode cX9_isWithin 10 = .ok (.iconst 1, 1) := by decide +kernel
theorem dX9_isWithin_11 : decode cX9_isWithin 11 = .ok (.goto 4, 3) := by decide +kernel
theorem dX9_isWithin_14 : decode cX9_isWithin 14 = .ok (.iconst 0, 1) := by decide +kernel
theorem dX9_isWithin_15 : decode cX9_isWithin 15 = .ok (.ireturn, 1) := by decide +kernel
set_option maxHeartbeats 4000000 in
set_option maxRecDepth 100000 in
theorem t_X9_isWithin (l : Launch) (dC : Nat → ClassId) (dI : Nat → Nat → Nat) (dA : Nat → ClassId) (L : List Nat) (h : hx_h) (sz : Nat) (i1 : Int32) (i2 : Int32) (i3 : Int32) (hT : hx_T T_tb L h)   : Met l yX9_isWithin (Cond.code yX9_isWithin cX9_isWithin 3 (some .boolean) :: hx_all) ({ frames := 0, cells := 0, slots := 0, locals := 0 }) (va_Pc [.int i1, .int i2, .int i3] (hx_B T_tb (P_ty dA) (dC, dI) vwCl L h sz)) (va_Qi (fun (r : Int32) (u : List Nat × hx_h) => (r.toInt = 0 ∨ r.toInt = 1) ∧ hx_T T_tb u.1 u.2 ∧ hx_S T_tb [] L h u.1 u.2) (hx_E T_tb (P_ty dA) (dC, dI) vwCl (hx_A L sz)) (hx_A L sz)) 0 0 (hx_A L sz) := by
  refine hx_met (lv := [(0, .int i1), (1, .int i2), (2, .int i3)]) (by decide +kernel) rfl (Nat.le_of_ble_eq_true rfl) rfl ?_
  intro p e s m below meth c hx hb hml hr hlk hts0 hown hin hsz hW ls hl
  have hts : ∀ w ∈ hx_all, w.before _ s = true := fun w hw => hts0 w (List.mem_cons_of_mem _ hw)
  have hown : s.vm.findClass "SmallCourt" = some m.cls := hown
  have hM : hx_S T_tb [] L h L h := hx_S.rf
  refine lv_iload_n hx hb dX9_isWithin_0 rfl (lv_at hl 0 rfl) ?_
  refine lv_iload_n hx hb dX9_isWithin_1 rfl (lv_at hl 1 rfl) ?_
  refine hb_icmp_lt (zx := i1.toInt) (zy := i2.toInt) (tgt := 14) hx hb rfl rfl dX9_isWithin_2 (by decide) (fun c_1 => ?_) (fun c_1 => ?_)
  · skip
    refine lv_iconst (v := 0) hx hb dX9_isWithin_14 (by decide) ?_
    exact hx_retz hx hb hr rfl hlk hW ⟨(by decide), hT, hM⟩ dX9_isWithin_15
  · skip
    refine lv_iload_n hx hb dX9_isWithin_5 rfl (lv_at hl 0 rfl) ?_
    refine lv_iload_n hx hb dX9_isWithin_6 rfl (lv_at hl 2 rfl) ?_
    refine hb_icmp_gt (zx := i1.toInt) (zy := i3.toInt) (tgt := 14) hx hb rfl rfl dX9_isWithin_7 (by decide) (fun c_2 => ?_) (fun c_2 => ?_)
    · skip
      refine lv_iconst (v := 0) hx hb dX9_isWithin_14 (by decide) ?_
      exact hx_retz hx hb hr rfl hlk hW ⟨(by decide), hT, hM⟩ dX9_isWithin_15
    · skip
      refine lv_iconst (v := 1) hx hb dX9_isWithin_10 (by decide) ?_
      refine lv_goto (tgt := 15) hx hb dX9_isWithin_11 (by decide) ?_
      exact hx_retz hx hb hr rfl hlk hW ⟨(by decide), hT, hM⟩ dX9_isWithin_15

theorem dX9_isDay_0 : decode cX9_isDay 0 = .ok (.iload_n 0, 1) := by decide +kernel
theorem dX9_isDay_1 : decode cX9_isDay 1 = .ok (.iconst 0, 1) := by decide +kernel
theorem dX9_isDay_2 : decode cX9_isDay 2 = .ok (.sipush 7999, 3) := by decide +kernel
theorem dX9_isDay_5 : decode cX9_isDay 5 = .ok (.invokestatic 128, 3) := by decide +kernel
theorem dX9_isDay_8 : decode cX9_isDay 8 = .ok (.ireturn, 1) := by decide +kernel
set_option maxHeartbeats 4000000 in
set_option maxRecDepth 100000 in
theorem t_X9_isDay (l : Launch) (dC : Nat → ClassId) (dI : Nat → Nat → Nat) (dA : Nat → ClassId) (L : List Nat) (h : hx_h) (sz : Nat) (i1 : Int32) (hT : hx_T T_tb L h)   : Met l yX9_isDay (Cond.code yX9_isDay cX9_isDay 1 (some .boolean) :: hx_all) ({ frames := 1, cells := 0, slots := 0, locals := 22 }) (va_Pc [.int i1] (hx_B T_tb (P_ty dA) (dC, dI) vwCl L h sz)) (va_Qi (fun (r : Int32) (u : List Nat × hx_h) => (r.toInt = 0 ∨ r.toInt = 1) ∧ hx_T T_tb u.1 u.2 ∧ hx_S T_tb [] L h u.1 u.2) (hx_E T_tb (P_ty dA) (dC, dI) vwCl (hx_A L sz)) (hx_A L sz)) 0 0 (hx_A L sz) := by
  refine hx_met (lv := [(0, .int i1)]) (by decide +kernel) rfl (Nat.le_of_ble_eq_true rfl) rfl ?_
  intro p e s m below meth c hx hb hml hr hlk hts0 hown hin hsz hW ls hl
  have hts : ∀ w ∈ hx_all, w.before _ s = true := fun w hw => hts0 w (List.mem_cons_of_mem _ hw)
  have hown : s.vm.findClass "SmallCourt" = some m.cls := hown
  have hM : hx_S T_tb [] L h L h := hx_S.rf
  refine lv_iload_n hx hb dX9_isDay_0 rfl (lv_at hl 0 rfl) ?_
  refine lv_iconst (v := 0) hx hb dX9_isDay_1 (by decide) ?_
  refine lv_sipush (v := 7999) hx hb dX9_isDay_2 (by decide) ?_
  refine hx_goi (hx_runS (As := [.int i1, .int (0 : Int32), .int (7999 : Int32)]) (rest := []) ⟨hx, hb, hml, hown, hts⟩ hW (t_X9_isWithin l dC dI dA L h s.heap.size i1 (0 : Int32) (7999 : Int32) hT) (va_cwS 3 hts (hx_gS kw_434 kw_432 kw_433 kw_94) rfl rfl rfl (by decide +kernel) ⟨Nat.le_of_ble_eq_true rfl, Nat.le_of_ble_eq_true rfl⟩) rfl hl.1 rfl (Nat.le_of_ble_eq_true rfl) dX9_isDay_5 ⟨Nat.le_of_ble_eq_true rfl, Nat.le_of_ble_eq_true rfl⟩) hW (fun r_3 L_1 h_2 H locs p_4 hW => ?_)
  obtain ⟨hr_5, hT, hs⟩ := p_4
  replace hT : hx_T T_tb L_1 h_2 := hT
  replace hs : hx_S T_tb [] L h L_1 h_2 := hs
  replace hM := hM.tr (hs.mono (by decide))
  exact hx_retz hx hb hr (hx_nar01 (by omega)) hlk hW ⟨(by omega), hT, hM⟩ dX9_isDay_8

def wLX9_isHousehold_0 : List Nat := [26, 3, 17, 39, 15, 184, 0, 128, 153, 0, 37, 27, 4, 16, 20, 184, 0, 128, 153, 0, 27, 28, 3, 16, 99, 184, 0, 128, 153, 0, 17, 29, 3, 16, 99, 184, 0, 128, 153, 0, 7, 4, 167, 0, 4, 3, 172]
theorem wX9_isHousehold_0 : (cX9_isHousehold.data.toList.map UInt8.toNat).drop 0 = wLX9_isHousehold_0 ++ ([]) := by decide +kernel
theorem dX9_isHousehold_0 : decode cX9_isHousehold 0 = .ok (.iload_n 0, 1) := dq_26 (hz_wg wX9_isHousehold_0 (j := 0) (n := 26) rfl)
theorem dX9_isHousehold_1 : decode cX9_isHousehold 1 = .ok (.iconst 0, 1) := dq_3 (hz_wg wX9_isHousehold_0 (j := 1) (n := 3) rfl)
theorem dX9_isHousehold_2 : decode cX9_isHousehold 2 = .ok (.sipush 9999, 3) := dq_17 (hz_wg wX9_isHousehold_0 (j := 2) (n := 17) rfl) (hz_wg wX9_isHousehold_0 (j := 3) (n := 39) rfl) (hz_wg wX9_isHousehold_0 (j := 4) (n := 15) rfl) (by decide)
theorem dX9_isHousehold_5 : decode cX9_isHousehold 5 = .ok (.invokestatic 128, 3) := dq_184 (hz_wg wX9_isHousehold_0 (j := 5) (n := 184) rfl) (hz_wg wX9_isHousehold_0 (j := 6) (n := 0) rfl) (hz_wg wX9_isHousehold_0 (j := 7) (n := 128) rfl) rfl
theorem dX9_isHousehold_8 : decode cX9_isHousehold 8 = .ok (.ifCond .eq 37, 3) := dq_153 (hz_wg wX9_isHousehold_0 (j := 8) (n := 153) rfl) (hz_wg wX9_isHousehold_0 (j := 9) (n := 0) rfl) (hz_wg wX9_isHousehold_0 (j := 10) (n := 37) rfl) (by decide)
theorem dX9_isHousehold_11 : decode cX9_isHousehold 11 = .ok (.iload_n 1, 1) := dq_27 (hz_wg wX9_isHousehold_0 (j := 11) (n := 27) rfl)
theorem dX9_isHousehold_12 : decode cX9_isHousehold 12 = .ok (.iconst 1, 1) := dq_4 (hz_wg wX9_isHousehold_0 (j := 12) (n := 4) rfl)
theorem dX9_isHousehold_13 : decode cX9_isHousehold 13 = .ok (.bipush 20, 2) := dq_16 (hz_wg wX9_isHousehold_0 (j := 13) (n := 16) rfl) (hz_wg wX9_isHousehold_0 (j := 14) (n := 20) rfl) (by decide)
theorem dX9_isHousehold_15 : decode cX9_isHousehold 15 = .ok (.invokestatic 128, 3) := dq_184 (hz_wg wX9_isHousehold_0 (j := 15) (n := 184) rfl) (hz_wg wX9_isHousehold_0 (j := 16) (n := 0) rfl) (hz_wg wX9_isHousehold_0 (j := 17) (n := 128) rfl) rfl
theorem dX9_isHousehold_18 : decode cX9_isHousehold 18 = .ok (.ifCond .eq 27, 3) := dq_153 (hz_wg wX9_isHousehold_0 (j := 18) (n := 153) rfl) (hz_wg wX9_isHousehold_0 (j := 19) (n := 0) rfl) (hz_wg wX9_isHousehold_0 (j := 20) (n := 27) rfl) (by decide)
theorem dX9_isHousehold_21 : decode cX9_isHousehold 21 = .ok (.iload_n 2, 1) := dq_28 (hz_wg wX9_isHousehold_0 (j := 21) (n := 28) rfl)
theorem dX9_isHousehold_22 : decode cX9_isHousehold 22 = .ok (.iconst 0, 1) := dq_3 (hz_wg wX9_isHousehold_0 (j := 22) (n := 3) rfl)
theorem dX9_isHousehold_23 : decode cX9_isHousehold 23 = .ok (.bipush 99, 2) := dq_16 (hz_wg wX9_isHousehold_0 (j := 23) (n := 16) rfl) (hz_wg wX9_isHousehold_0 (j := 24) (n := 99) rfl) (by decide)
theorem dX9_isHousehold_25 : decode cX9_isHousehold 25 = .ok (.invokestatic 128, 3) := dq_184 (hz_wg wX9_isHousehold_0 (j := 25) (n := 184) rfl) (hz_wg wX9_isHousehold_0 (j := 26) (n := 0) rfl) (hz_wg wX9_isHousehold_0 (j := 27) (n := 128) rfl) rfl
theorem dX9_isHousehold_28 : decode cX9_isHousehold 28 = .ok (.ifCond .eq 17, 3) := dq_153 (hz_wg wX9_isHousehold_0 (j := 28) (n := 153) rfl) (hz_wg wX9_isHousehold_0 (j := 29) (n := 0) rfl) (hz_wg wX9_isHousehold_0 (j := 30) (n := 17) rfl) (by decide)
theorem dX9_isHousehold_31 : decode cX9_isHousehold 31 = .ok (.iload_n 3, 1) := dq_29 (hz_wg wX9_isHousehold_0 (j := 31) (n := 29) rfl)
theorem dX9_isHousehold_32 : decode cX9_isHousehold 32 = .ok (.iconst 0, 1) := dq_3 (hz_wg wX9_isHousehold_0 (j := 32) (n := 3) rfl)
theorem dX9_isHousehold_33 : decode cX9_isHousehold 33 = .ok (.bipush 99, 2) := dq_16 (hz_wg wX9_isHousehold_0 (j := 33) (n := 16) rfl) (hz_wg wX9_isHousehold_0 (j := 34) (n := 99) rfl) (by decide)
theorem dX9_isHousehold_35 : decode cX9_isHousehold 35 = .ok (.invokestatic 128, 3) := dq_184 (hz_wg wX9_isHousehold_0 (j := 35) (n := 184) rfl) (hz_wg wX9_isHousehold_0 (j := 36) (n := 0) rfl) (hz_wg wX9_isHousehold_0 (j := 37) (n := 128) rfl) rfl
theorem dX9_isHousehold_38 : decode cX9_isHousehold 38 = .ok (.ifCond .eq 7, 3) := dq_153 (hz_wg wX9_isHousehold_0 (j := 38) (n := 153) rfl) (hz_wg wX9_isHousehold_0 (j := 39) (n := 0) rfl) (hz_wg wX9_isHousehold_0 (j := 40) (n := 7) rfl) (by decide)
theorem dX9_isHousehold_41 : decode cX9_isHousehold 41 = .ok (.iconst 1, 1) := dq_4 (hz_wg wX9_isHousehold_0 (j := 41) (n := 4) rfl)
theorem dX9_isHousehold_42 : decode cX9_isHousehold 42 = .ok (.goto 4, 3) := dq_167 (hz_wg wX9_isHousehold_0 (j := 42) (n := 167) rfl) (hz_wg wX9_isHousehold_0 (j := 43) (n := 0) rfl) (hz_wg wX9_isHousehold_0 (j := 44) (n := 4) rfl) (by decide)
theorem dX9_isHousehold_45 : decode cX9_isHousehold 45 = .ok (.iconst 0, 1) := dq_3 (hz_wg wX9_isHousehold_0 (j := 45) (n := 3) rfl)
theorem dX9_isHousehold_46 : decode cX9_isHousehold 46 = .ok (.ireturn, 1) := dq_172 (hz_wg wX9_isHousehold_0 (j := 46) (n := 172) rfl)
theorem dX2_isDone_0 : decode cX2_isDone 0 = .ok (.iload_n 0, 1) := by decide +kernel
theorem dX2_isDone_1 : decode cX2_isDone 1 = .ok (.iconst (-1), 1) := by decide +kernel
theorem dX2_isDone_2 : decode cX2_isDone 2 = .ok (.if_icmp .eq 12, 3) := by decide +kernel
theorem dX2_isDone_5 : decode cX2_isDone 5 = .ok (.iload_n 0, 1) := by decide +kernel
theorem dX2_isDone_6 : decode cX2_isDone 6 = .ok (.iload_n 1, 1) := by decide +kernel
theorem dX2_isDone_7 : decode cX2_isDone 7 = .ok (.if_icmp .gt 7, 3) := by decide +kernel
theorem dX2_isDone_10 : decode cX2_isDone 10 = .ok (.iconst 1, 1) := by decide +kernel
theorem dX2_isDone_11 : decode cX2_isDone 11 = .ok (.goto 4, 3) := by decide +kernel
theorem dX2_isDone_14 : decode cX2_isDone 14 = .ok (.iconst 0, 1) := by decide +kernel
theorem dX2_isDone_15 : decode cX2_isDone 15 = .ok (.ireturn, 1) := by decide +kernel
set_option maxHeartbeats 4000000 in
set_option maxRecDepth 100000 in
theorem t_X2_isDone (l : Launch) (dC : Nat → ClassId) (dI : Nat → Nat → Nat) (dA : Nat → ClassId) (L : List Nat) (h : hx_h) (sz : Nat) (i1 : Int32) (i2 : Int32) (hT : hx_T T_tb L h)   : Met l yX2_isDone (Cond.code yX2_isDone cX2_isDone 2 (some .boolean) :: hx_all) ({ frames := 0, cells := 0, slots := 0, locals := 0 }) (va_Pc [.int i1, .int i2] (hx_B T_tb (P_ty dA) (dC, dI) vwCl L h sz)) (va_Qi (fun (r : Int32) (u : List Nat × hx_h) => (r.toInt = 0 ∨ r.toInt = 1) ∧ hx_T T_tb u.1 u.2 ∧ hx_S T_tb [] L h u.1 u.2) (hx_E T_tb (P_ty dA) (dC, dI) vwCl (hx_A L sz)) (hx_A L sz)) 0 0 (hx_A L sz) := by
  refine hx_met (lv := [(0, .int i1), (1, .int i2)]) (by decide +kernel) rfl (Nat.le_of_ble_eq_true rfl) rfl ?_
  intro p e s m below meth c hx hb hml hr hlk hts0 hown hin hsz hW ls hl
  have hts : ∀ w ∈ hx_all, w.before _ s = true := fun w hw => hts0 w (List.mem_cons_of_mem _ hw)
  have hown : s.vm.findClass "SmallCourt$Claim" = some m.cls := hown
  have hM : hx_S T_tb [] L h L h := hx_S.rf
  refine lv_iload_n hx hb dX2_isDone_0 rfl (lv_at hl 0 rfl) ?_
  refine lv_iconst (v := -1) hx hb dX2_isDone_1 (by decide) ?_
  refine hb_icmp_eq (zx := i1.toInt) (zy := (-1)) (tgt := 14) hx hb rfl (by decide) dX2_isDone_2 (by decide) (fun c_1 => ?_) (fun c_1 => ?_)
  · skip
    refine lv_iconst (v := 0) hx hb dX2_isDone_14 (by decide) ?_
    exact hx_retz hx hb hr rfl hlk hW ⟨(by decide), hT, hM⟩ dX2_isDone_15
  · skip
    refine lv_iload_n hx hb dX2_isDone_5 rfl (lv_at hl 0 rfl) ?_
    refine lv_iload_n hx hb dX2_isDone_6 rfl (lv_at hl 1 rfl) ?_
    refine hb_icmp_gt (zx := i1.toInt) (zy := i2.toInt) (tgt := 14) hx hb rfl rfl dX2_isDone_7 (by decide) (fun c_2 => ?_) (fun c_2 => ?_)
    · skip
      refine lv_iconst (v := 0) hx hb dX2_isDone_14 (by decide) ?_
      exact hx_retz hx hb hr rfl hlk hW ⟨(by decide), hT, hM⟩ dX2_isDone_15
    · skip
      refine lv_iconst (v := 1) hx hb dX2_isDone_10 (by decide) ?_
      refine lv_goto (tgt := 15) hx hb dX2_isDone_11 (by decide) ?_
      exact hx_retz hx hb hr rfl hlk hW ⟨(by decide), hT, hM⟩ dX2_isDone_15

theorem dX0_addProof_0 : decode cX0_addProof 0 = .ok (.aload_n 0, 1) := by decide +kernel
theorem dX0_addProof_1 : decode cX0_addProof 1 = .ok (.getfield 38, 3) := by decide +kernel
theorem dX0_addProof_4 : decode cX0_addProof 4 = .ok (.sipush 160, 3) := by decide +kernel
theorem dX0_addProof_7 : decode cX0_addProof 7 = .ok (.if_icmp .ge 23, 3) := by decide +kernel
theorem dX0_addProof_10 : decode cX0_addProof 10 = .ok (.aload_n 0, 1) := by decide +kernel
theorem dX0_addProof_11 : decode cX0_addProof 11 = .ok (.getfield 15, 3) := by decide +kernel
theorem dX0_addProof_14 : decode cX0_addProof 14 = .ok (.aload_n 0, 1) := by decide +kernel
theorem dX0_addProof_15 : decode cX0_addProof 15 = .ok (.getfield 38, 3) := by decide +kernel
theorem dX0_addProof_18 : decode cX0_addProof 18 = .ok (.iload_n 1, 1) := by decide +kernel
theorem dX0_addProof_19 : decode cX0_addProof 19 = .ok (.iastore, 1) := by decide +kernel
theorem dX0_addProof_20 : decode cX0_addProof 20 = .ok (.aload_n 0, 1) := by decide +kernel
theorem dX0_addProof_21 : decode cX0_addProof 21 = .ok (.dup, 1) := by decide +kernel
theorem dX0_addProof_22 : decode cX0_addProof 22 = .ok (.getfield 38, 3) := by decide +kernel
theorem dX0_addProof_25 : decode cX0_addProof 25 = .ok (.iconst 1, 1) := by decide +kernel
theorem dX0_addProof_26 : decode cX0_addProof 26 = .ok (.iadd, 1) := by decide +kernel
theorem dX0_addProof_27 : decode cX0_addProof 27 = .ok (.putfield 38, 3) := by decide +kernel
theorem dX0_addProof_30 : decode cX0_addProof 30 = .ok (.return_, 1) := by decide +kernel
set_option maxHeartbeats 4000000 in
set_option maxRecDepth 100000 in
theorem t_X0_addProof (l : Launch) (dC : Nat → ClassId) (dI : Nat → Nat → Nat) (dA : Nat → ClassId) (L : List Nat) (h : hx_h) (sz : Nat) (x : Nat) (i1 : Int32) (hT : hx_T T_tb L h) (gx : hx_g L h x 0)  : Met l yX0_addProof (Cond.code yX0_addProof cX0_addProof 2 none :: hx_all) ({ frames := 0, cells := 0, slots := 0, locals := 0 }) (va_Pc [.ref x, .int i1] (hx_B T_tb (P_ty dA) (dC, dI) vwCl L h sz)) (va_Qv (fun (u : List Nat × hx_h) => hx_T T_tb u.1 u.2 ∧ hx_S T_tb [(0, 4), (12, 0)] L h u.1 u.2) (hx_E T_tb (P_ty dA) (dC, dI) vwCl (hx_A L sz)) (hx_A L sz)) 0 0 (hx_A L sz) := by
  refine hx_met (lv := [(0, .ref x), (1, .int i1)]) (by decide +kernel) rfl (Nat.le_of_ble_eq_true rfl) rfl ?_
  intro p e s m below meth c hx hb hml hr hlk hts0 hown hin hsz hW ls hl
  have hts : ∀ w ∈ hx_all, w.before _ s = true := fun w hw => hts0 w (List.mem_cons_of_mem _ hw)
  have hown : s.vm.findClass "SmallCourt$Act" = some m.cls := hown
  have hM : hx_S T_tb [(0, 4), (12, 0)] L h L h := hx_S.rf
  refine lv_aload_n hx hb dX0_addProof_0 rfl (lv_at hl 0 rfl) ?_
  refine hx_geti hx hb hts hC_0 hown hW hT gx tt_0 4 (by decide) rfl kw_173 ⟨rfl, rfl, rfl⟩ dX0_addProof_1 (fun x_1 ex_1 lx_1 ux_1 => ?_)
  have fx_1 := ex_1.symm
  refine lv_sipush (v := 160) hx hb dX0_addProof_4 (by decide) ?_
  refine hb_icmp_ge (zx := x_1.toInt) (zy := 160) (tgt := 30) hx hb rfl (by decide) dX0_addProof_7 (by decide) (fun c_2 => ?_) (fun c_2 => ?_)
  · skip
    exact hx_retv hx hb hr hlk hW ⟨hT, hM⟩ dX0_addProof_30
  · skip
    refine lv_aload_n hx hb dX0_addProof_10 rfl (lv_at hl 0 rfl) ?_
    refine hx_getn hx hb hts hC_0 hown hW hT gx tt_0 3 (by decide) rfl kw_172 ⟨rfl, rfl, rfl⟩ dX0_addProof_11 (fun q_3 fq_3 gq_3 => ?_)
    refine lv_aload_n hx hb dX0_addProof_14 rfl (lv_at hl 0 rfl) ?_
    refine hk_geti hx hb hts hC_0 hown hW gx tt_0 4 (by decide) rfl kw_173 ⟨rfl, rfl, rfl⟩ fx_1 dX0_addProof_15 ?_
    refine lv_iload_n hx hb dX0_addProof_18 rfl (lv_at hl 1 rfl) ?_
    refine hx_iast hx hb hW hT (hx_S.rf (M := [(12, 0)])) gq_3 tt_12 rfl ⟨by omega, by omega⟩ rfl (i32_r _) (List.mem_singleton.mpr rfl) dX0_addProof_19 (fun H locs h_4 eh_4 hW hT hs => ?_)
    replace fx_1 := (hs.o gx trivial rfl).1.trans fx_1
    replace fq_3 := (hs.o gx trivial rfl).2.trans fq_3
    replace hM := hM.tr (hs.mono (by decide))
    replace gx := gx.S hs
    replace gq_3 := gq_3.S hs
    refine lv_aload_n hx hb dX0_addProof_20 rfl (lv_at hl 0 rfl) ?_
    refine lv_dup hx hb dX0_addProof_21 rfl ?_
    refine hk_geti hx hb hts hC_0 hown hW gx tt_0 4 (by decide) rfl kw_173 ⟨rfl, rfl, rfl⟩ fx_1 dX0_addProof_22 ?_
    refine lv_iconst (v := 1) hx hb dX0_addProof_25 (by decide) ?_
    refine lv_iadd hx hb dX0_addProof_26 ?_
    have rg_5 := i32_r x_1
    refine lv_topi (fun x_6 ex_6 => ?_)
    have zx_6 : x_6.toInt = x_1.toInt + 1 := by rw [ex_6]; exact i32_add rfl (by decide) (by omega) (by omega)
    refine hx_puti hx hb hts hC_0 hown hW hT (hx_S.rf (M := [(0, 4)])) gx tt_0 4 (by decide) rfl kw_173 ⟨rfl, rfl, rfl⟩ rfl (x := x_6) ⟨by omega, by omega⟩ rfl rfl rfl (List.mem_singleton.mpr rfl) dX0_addProof_27 (fun H locs h_7 eh_7 hW hT hs => ?_)
    replace fq_3 := (hs.o gx trivial rfl).2.trans fq_3
    replace hM := hM.tr (hs.mono (by decide))
    replace gx := gx.S hs
    replace gq_3 := gq_3.S hs
    have f_8 : h_7.2.1 x 4 = x_6 := by rw [eh_7]; exact hx_pi_at _ _ _ _
    exact hx_retv hx hb hr hlk hW ⟨hT, hM⟩ dX0_addProof_30

theorem dX4_tell_0 : decode cX4_tell 0 = .ok (.aload_n 0, 1) := by decide +kernel
theorem dX4_tell_1 : decode cX4_tell 1 = .ok (.iload_n 1, 1) := by decide +kernel
theorem dX4_tell_2 : decode cX4_tell 2 = .ok (.putfield 21, 3) := by decide +kernel
theorem dX4_tell_5 : decode cX4_tell 5 = .ok (.aload_n 0, 1) := by decide +kernel
theorem dX4_tell_6 : decode cX4_tell 6 = .ok (.iload_n 2, 1) := by decide +kernel
theorem dX4_tell_7 : decode cX4_tell 7 = .ok (.putfield 24, 3) := by decide +kernel
theorem dX4_tell_10 : decode cX4_tell 10 = .ok (.aload_n 0, 1) := by decide +kernel
theorem dX4_tell_11 : decode cX4_tell 11 = .ok (.iload_n 3, 1) := by decide +kernel
theorem dX4_tell_12 : decode cX4_tell 12 = .ok (.putfield 27, 3) := by decide +kernel
theorem dX4_tell_15 : decode cX4_tell 15 = .ok (.aload_n 0, 1) := by decide +kernel
theorem dX4_tell_16 : decode cX4_tell 16 = .ok (.iload 4, 2) := by decide +kernel
theorem dX4_tell_18 : decode cX4_tell 18 = .ok (.putfield 30, 3) := by decide +kernel
theorem dX4_tell_21 : decode cX4_tell 21 = .ok (.return_, 1) := by decide +kernel
def wLX2_isOnBench_0 : List Nat := [42, 180, 0, 15, 3, 46, 27, 159, 0, 23, 42, 180, 0, 15, 4, 46, 27, 159, 0, 13, 42, 180, 0, 15, 5, 46, 27, 160, 0, 7, 4, 167, 0, 4, 3, 172]
theorem wX2_isOnBench_0 : (cX2_isOnBench.data.toList.map UInt8.toNat).drop 0 = wLX2_isOnBench_0 ++ ([]) := by decide +kernel
theorem dX2_isOnBench_0 : decode cX2_isOnBench 0 = .ok (.aload_n 0, 1) := dq_42 (hz_wg wX2_isOnBench_0 (j := 0) (n := 42) rfl)
theorem dX2_isOnBench_1 : decode cX2_isOnBench 1 = .ok (.getfield 15, 3) := dq_180 (hz_wg wX2_isOnBench_0 (j := 1) (n := 180) rfl) (hz_wg wX2_isOnBench_0 (j := 2) (n := 0) rfl) (hz_wg wX2_isOnBench_0 (j := 3) (n := 15) rfl) rfl
theorem dX2_isOnBench_4 : decode cX2_isOnBench 4 = .ok (.iconst 0, 1) := dq_3 (hz_wg wX2_isOnBench_0 (j := 4) (n := 3) rfl)
theorem dX2_isOnBench_5 : decode cX2_isOnBench 5 = .ok (.iaload, 1) := dq_46 (hz_wg wX2_isOnBench_0 (j := 5) (n := 46) rfl)
theorem dX2_isOnBench_6 : decode cX2_isOnBench 6 = .ok (.iload_n 1, 1) := dq_27 (hz_wg wX2_isOnBench_0 (j := 6) (n := 27) rfl)
theorem dX2_isOnBench_7 : decode cX2_isOnBench 7 = .ok (.if_icmp .eq 23, 3) := dq_159 (hz_wg wX2_isOnBench_0 (j := 7) (n := 159) rfl) (hz_wg wX2_isOnBench_0 (j := 8) (n := 0) rfl) (hz_wg wX2_isOnBench_0 (j := 9) (n := 23) rfl) (by decide)
theorem dX2_isOnBench_10 : decode cX2_isOnBench 10 = .ok (.aload_n 0, 1) := dq_42 (hz_wg wX2_isOnBench_0 (j := 10) (n := 42) rfl)
theorem dX2_isOnBench_11 : decode cX2_isOnBench 11 = .ok (.getfield 15, 3) := dq_180 (hz_wg wX2_isOnBench_0 (j := 11) (n := 180) rfl) (hz_wg wX2_isOnBench_0 (j := 12) (n := 0) rfl) (hz_wg wX2_isOnBench_0 (j := 13) (n := 15) rfl) rfl
theorem dX2_isOnBench_14 : decode cX2_isOnBench 14 = .ok (.iconst 1, 1) := dq_4 (hz_wg wX2_isOnBench_0 (j := 14) (n := 4) rfl)
theorem dX2_isOnBench_15 : decode cX2_isOnBench 15 = .ok (.iaload, 1) := dq_46 (hz_wg wX2_isOnBench_0 (j := 15) (n := 46) rfl)
theorem dX2_isOnBench_16 : decode cX2_isOnBench 16 = .ok (.iload_n 1, 1) := dq_27 (hz_wg wX2_isOnBench_0 (j := 16) (n := 27) rfl)
theorem dX2_isOnBench_17 : decode cX2_isOnBench 17 = .ok (.if_icmp .eq 13, 3) := dq_159 (hz_wg wX2_isOnBench_0 (j := 17) (n := 159) rfl) (hz_wg wX2_isOnBench_0 (j := 18) (n := 0) rfl) (hz_wg wX2_isOnBench_0 (j := 19) (n := 13) rfl) (by decide)
theorem dX2_isOnBench_20 : decode cX2_isOnBench 20 = .ok (.aload_n 0, 1) := dq_42 (hz_wg wX2_isOnBench_0 (j := 20) (n := 42) rfl)
theorem dX2_isOnBench_21 : decode cX2_isOnBench 21 = .ok (.getfield 15, 3) := dq_180 (hz_wg wX2_isOnBench_0 (j := 21) (n := 180) rfl) (hz_wg wX2_isOnBench_0 (j := 22) (n := 0) rfl) (hz_wg wX2_isOnBench_0 (j := 23) (n := 15) rfl) rfl
theorem dX2_isOnBench_24 : decode cX2_isOnBench 24 = .ok (.iconst 2, 1) := dq_5 (hz_wg wX2_isOnBench_0 (j := 24) (n := 5) rfl)
theorem dX2_isOnBench_25 : decode cX2_isOnBench 25 = .ok (.iaload, 1) := dq_46 (hz_wg wX2_isOnBench_0 (j := 25) (n := 46) rfl)
theorem dX2_isOnBench_26 : decode cX2_isOnBench 26 = .ok (.iload_n 1, 1) := dq_27 (hz_wg wX2_isOnBench_0 (j := 26) (n := 27) rfl)
theorem dX2_isOnBench_27 : decode cX2_isOnBench 27 = .ok (.if_icmp .ne 7, 3) := dq_160 (hz_wg wX2_isOnBench_0 (j := 27) (n := 160) rfl) (hz_wg wX2_isOnBench_0 (j := 28) (n := 0) rfl) (hz_wg wX2_isOnBench_0 (j := 29) (n := 7) rfl) (by decide)
theorem dX2_isOnBench_30 : decode cX2_isOnBench 30 = .ok (.iconst 1, 1) := dq_4 (hz_wg wX2_isOnBench_0 (j := 30) (n := 4) rfl)
theorem dX2_isOnBench_31 : decode cX2_isOnBench 31 = .ok (.goto 4, 3) := dq_167 (hz_wg wX2_isOnBench_0 (j := 31) (n := 167) rfl) (hz_wg wX2_isOnBench_0 (j := 32) (n := 0) rfl) (hz_wg wX2_isOnBench_0 (j := 33) (n := 4) rfl) (by decide)
theorem dX2_isOnBench_34 : decode cX2_isOnBench 34 = .ok (.iconst 0, 1) := dq_3 (hz_wg wX2_isOnBench_0 (j := 34) (n := 3) rfl)
theorem dX2_isOnBench_35 : decode cX2_isOnBench 35 = .ok (.ireturn, 1) := dq_172 (hz_wg wX2_isOnBench_0 (j := 35) (n := 172) rfl)
set_option maxHeartbeats 4000000 in
set_option maxRecDepth 100000 in
theorem t_X2_isOnBench (l : Launch) (dC : Nat → ClassId) (dI : Nat → Nat → Nat) (dA : Nat → ClassId) (L : List Nat) (h : hx_h) (sz : Nat) (x : Nat) (i1 : Int32) (hT : hx_T T_tb L h) (gx : hx_g L h x 2)  : Met l yX2_isOnBench (Cond.code yX2_isOnBench cX2_isOnBench 2 (some .boolean) :: hx_all) ({ frames := 0, cells := 0, slots := 0, locals := 0 }) (va_Pc [.ref x, .int i1] (hx_B T_tb (P_ty dA) (dC, dI) vwCl L h sz)) (va_Qi (fun (r : Int32) (u : List Nat × hx_h) => (r.toInt = 0 ∨ r.toInt = 1) ∧ hx_T T_tb u.1 u.2 ∧ hx_S T_tb [] L h u.1 u.2) (hx_E T_tb (P_ty dA) (dC, dI) vwCl (hx_A L sz)) (hx_A L sz)) 0 0 (hx_A L sz) := by
  refine hx_met (lv := [(0, .ref x), (1, .int i1)]) (by decide +kernel) rfl (Nat.le_of_ble_eq_true rfl) rfl ?_
  intro p e s m below meth c hx hb hml hr hlk hts0 hown hin hsz hW ls hl
  have hts : ∀ w ∈ hx_all, w.before _ s = true := fun w hw => hts0 w (List.mem_cons_of_mem _ hw)
  have hown : s.vm.findClass "SmallCourt$Claim" = some m.cls := hown
  have hM : hx_S T_tb [] L h L h := hx_S.rf
  refine lv_aload_n hx hb dX2_isOnBench_0 rfl (lv_at hl 0 rfl) ?_
  refine hx_getn hx hb hts hC_2 hown hW hT gx tt_2 5 (by decide) rfl kw_739 ⟨rfl, rfl, rfl⟩ dX2_isOnBench_1 (fun q_1 fq_1 gq_1 => ?_)
  refine lv_iconst (v := 0) hx hb dX2_isOnBench_4 (by decide) ?_
  refine hx_iald hx hb hW hT gq_1 tt_21 rfl (by decide) dX2_isOnBench_5 (fun x_2 ex_2 lx_2 ux_2 => ?_)
  refine lv_iload_n hx hb dX2_isOnBench_6 rfl (lv_at hl 1 rfl) ?_
  refine hb_icmp_eq (zx := x_2.toInt) (zy := i1.toInt) (tgt := 30) hx hb rfl rfl dX2_isOnBench_7 (by decide) (fun c_3 => ?_) (fun c_3 => ?_)
  · skip
    refine lv_iconst (v := 1) hx hb dX2_isOnBench_30 (by decide) ?_
    refine lv_goto (tgt := 35) hx hb dX2_isOnBench_31 (by decide) ?_
    exact hx_retz hx hb hr rfl hlk hW ⟨(by decide), hT, hM⟩ dX2_isOnBench_35
  · skip
    refine lv_aload_n hx hb dX2_isOnBench_10 rfl (lv_at hl 0 rfl) ?_
    refine hk_getr hx hb hts hC_2 hown hW gx tt_2 5 (by decide) rfl kw_739 ⟨rfl, rfl, rfl⟩ fq_1 dX2_isOnBench_11 ?_
    refine lv_iconst (v := 1) hx hb dX2_isOnBench_14 (by decide) ?_
    refine hx_iald hx hb hW hT gq_1 tt_21 rfl (by decide) dX2_isOnBench_15 (fun x_4 ex_4 lx_4 ux_4 => ?_)
    refine lv_iload_n hx hb dX2_isOnBench_16 rfl (lv_at hl 1 rfl) ?_
    refine hb_icmp_eq (zx := x_4.toInt) (zy := i1.toInt) (tgt := 30) hx hb rfl rfl dX2_isOnBench_17 (by decide) (fun c_5 => ?_) (fun c_5 => ?_)
    · skip
      refine lv_iconst (v := 1) hx hb dX2_isOnBench_30 (by decide) ?_
      refine lv_goto (tgt := 35) hx hb dX2_isOnBench_31 (by decide) ?_
      exact hx_retz hx hb hr rfl hlk hW ⟨(by decide), hT, hM⟩ dX2_isOnBench_35
    · skip
      refine lv_aload_n hx hb dX2_isOnBench_20 rfl (lv_at hl 0 rfl) ?_
      refine hk_getr hx hb hts hC_2 hown hW gx tt_2 5 (by decide) rfl kw_739 ⟨rfl, rfl, rfl⟩ fq_1 dX2_isOnBench_21 ?_
      refine lv_iconst (v := 2) hx hb dX2_isOnBench_24 (by decide) ?_
      refine hx_iald hx hb hW hT gq_1 tt_21 rfl (by decide) dX2_isOnBench_25 (fun x_6 ex_6 lx_6 ux_6 => ?_)
      refine lv_iload_n hx hb dX2_isOnBench_26 rfl (lv_at hl 1 rfl) ?_
      refine hb_icmp_ne (zx := x_6.toInt) (zy := i1.toInt) (tgt := 34) hx hb rfl rfl dX2_isOnBench_27 (by decide) (fun c_7 => ?_) (fun c_7 => ?_)
      · skip
        refine lv_iconst (v := 0) hx hb dX2_isOnBench_34 (by decide) ?_
        exact hx_retz hx hb hr rfl hlk hW ⟨(by decide), hT, hM⟩ dX2_isOnBench_35
      · skip
        refine lv_iconst (v := 1) hx hb dX2_isOnBench_30 (by decide) ?_
        refine lv_goto (tgt := 35) hx hb dX2_isOnBench_31 (by decide) ?_
        exact hx_retz hx hb hr rfl hlk hW ⟨(by decide), hT, hM⟩ dX2_isOnBench_35

def wLX5_addOpen_0 : List Nat := [42, 180, 0, 33, 7, 162, 0, 58, 42, 180, 0, 21, 42, 180, 0, 33, 43, 180, 0, 43, 79, 42, 180, 0, 24, 42, 180, 0, 33, 28, 79, 42, 180, 0, 27, 42, 180, 0, 33, 43, 180, 0, 48, 180, 0, 52, 6, 46, 28, 184, 0, 57, 79, 42, 89, 180, 0, 33, 4, 96, 181, 0, 33, 177]
theorem wX5_addOpen_0 : (cX5_addOpen.data.toList.map UInt8.toNat).drop 0 = wLX5_addOpen_0 ++ ([]) := by decide +kernel
theorem dX5_addOpen_0 : decode cX5_addOpen 0 = .ok (.aload_n 0, 1) := dq_42 (hz_wg wX5_addOpen_0 (j := 0) (n := 42) rfl)
theorem dX5_addOpen_1 : decode cX5_addOpen 1 = .ok (.getfield 33, 3) := dq_180 (hz_wg wX5_addOpen_0 (j := 1) (n := 180) rfl) (hz_wg wX5_addOpen_0 (j := 2) (n := 0) rfl) (hz_wg wX5_addOpen_0 (j := 3) (n := 33) rfl) rfl
theorem dX5_addOpen_4 : decode cX5_addOpen 4 = .ok (.iconst 4, 1) := dq_7 (hz_wg wX5_addOpen_0 (j := 4) (n := 7) rfl)
theorem dX5_addOpen_5 : decode cX5_addOpen 5 = .ok (.if_icmp .ge 58, 3) := dq_162 (hz_wg wX5_addOpen_0 (j := 5) (n := 162) rfl) (hz_wg wX5_addOpen_0 (j := 6) (n := 0) rfl) (hz_wg wX5_addOpen_0 (j := 7) (n := 58) rfl) (by decide)
theorem dX5_addOpen_8 : decode cX5_addOpen 8 = .ok (.aload_n 0, 1) := dq_42 (hz_wg wX5_addOpen_0 (j := 8) (n := 42) rfl)
theorem dX5_addOpen_9 : decode cX5_addOpen 9 = .ok (.getfield 21, 3) := dq_180 (hz_wg wX5_addOpen_0 (j := 9) (n := 180) rfl) (hz_wg wX5_addOpen_0 (j := 10) (n := 0) rfl) (hz_wg wX5_addOpen_0 (j := 11) (n := 21) rfl) rfl
theorem dX5_addOpen_12 : decode cX5_addOpen 12 = .ok (.aload_n 0, 1) := dq_42 (hz_wg wX5_addOpen_0 (j := 12) (n := 42) rfl)
theorem dX5_addOpen_13 : decode cX5_addOpen 13 = .ok (.getfield 33, 3) := dq_180 (hz_wg wX5_addOpen_0 (j := 13) (n := 180) rfl) (hz_wg wX5_addOpen_0 (j := 14) (n := 0) rfl) (hz_wg wX5_addOpen_0 (j := 15) (n := 33) rfl) rfl
theorem dX5_addOpen_16 : decode cX5_addOpen 16 = .ok (.aload_n 1, 1) := dq_43 (hz_wg wX5_addOpen_0 (j := 16) (n := 43) rfl)
theorem dX5_addOpen_17 : decode cX5_addOpen 17 = .ok (.getfield 43, 3) := dq_180 (hz_wg wX5_addOpen_0 (j := 17) (n := 180) rfl) (hz_wg wX5_addOpen_0 (j := 18) (n := 0) rfl) (hz_wg wX5_addOpen_0 (j := 19) (n := 43) rfl) rfl
theorem dX5_addOpen_20 : decode cX5_addOpen 20 = .ok (.iastore, 1) := dq_79 (hz_wg wX5_addOpen_0 (j := 20) (n := 79) rfl)
theorem dX5_addOpen_21 : decode cX5_addOpen 21 = .ok (.aload_n 0, 1) := dq_42 (hz_wg wX5_addOpen_0 (j := 21) (n := 42) rfl)
theorem dX5_addOpen_22 : decode cX5_addOpen 22 = .ok (.getfield 24, 3) := dq_180 (hz_wg wX5_addOpen_0 (j := 22) (n := 180) rfl) (hz_wg wX5_addOpen_0 (j := 23) (n := 0) rfl) (hz_wg wX5_addOpen_0 (j := 24) (n := 24) rfl) rfl
theorem dX5_addOpen_25 : decode cX5_addOpen 25 = .ok (.aload_n 0, 1) := dq_42 (hz_wg wX5_addOpen_0 (j := 25) (n := 42) rfl)
theorem dX5_addOpen_26 : decode cX5_addOpen 26 = .ok (.getfield 33, 3) := dq_180 (hz_wg wX5_addOpen_0 (j := 26) (n := 180) rfl) (hz_wg wX5_addOpen_0 (j := 27) (n := 0) rfl) (hz_wg wX5_addOpen_0 (j := 28) (n := 33) rfl) rfl
theorem dX5_addOpen_29 : decode cX5_addOpen 29 = .ok (.iload_n 2, 1) := dq_28 (hz_wg wX5_addOpen_0 (j := 29) (n := 28) rfl)
theorem dX5_addOpen_30 : decode cX5_addOpen 30 = .ok (.iastore, 1) := dq_79 (hz_wg wX5_addOpen_0 (j := 30) (n := 79) rfl)
theorem dX5_addOpen_31 : decode cX5_addOpen 31 = .ok (.aload_n 0, 1) := dq_42 (hz_wg wX5_addOpen_0 (j := 31) (n := 42) rfl)
theorem dX5_addOpen_32 : decode cX5_addOpen 32 = .ok (.getfield 27, 3) := dq_180 (hz_wg wX5_addOpen_0 (j := 32) (n := 180) rfl) (hz_wg wX5_addOpen_0 (j := 33) (n := 0) rfl) (hz_wg wX5_addOpen_0 (j := 34) (n := 27) rfl) rfl
theorem dX5_addOpen_35 : decode cX5_addOpen 35 = .ok (.aload_n 0, 1) := dq_42 (hz_wg wX5_addOpen_0 (j := 35) (n := 42) rfl)
theorem dX5_addOpen_36 : decode cX5_addOpen 36 = .ok (.getfield 33, 3) := dq_180 (hz_wg wX5_addOpen_0 (j := 36) (n := 180) rfl) (hz_wg wX5_addOpen_0 (j := 37) (n := 0) rfl) (hz_wg wX5_addOpen_0 (j := 38) (n := 33) rfl) rfl
theorem dX5_addOpen_39 : decode cX5_addOpen 39 = .ok (.aload_n 1, 1) := dq_43 (hz_wg wX5_addOpen_0 (j := 39) (n := 43) rfl)
theorem dX5_addOpen_40 : decode cX5_addOpen 40 = .ok (.getfield 48, 3) := dq_180 (hz_wg wX5_addOpen_0 (j := 40) (n := 180) rfl) (hz_wg wX5_addOpen_0 (j := 41) (n := 0) rfl) (hz_wg wX5_addOpen_0 (j := 42) (n := 48) rfl) rfl
theorem dX5_addOpen_43 : decode cX5_addOpen 43 = .ok (.getfield 52, 3) := dq_180 (hz_wg wX5_addOpen_0 (j := 43) (n := 180) rfl) (hz_wg wX5_addOpen_0 (j := 44) (n := 0) rfl) (hz_wg wX5_addOpen_0 (j := 45) (n := 52) rfl) rfl
theorem dX5_addOpen_46 : decode cX5_addOpen 46 = .ok (.iconst 3, 1) := dq_6 (hz_wg wX5_addOpen_0 (j := 46) (n := 6) rfl)
theorem dX5_addOpen_47 : decode cX5_addOpen 47 = .ok (.iaload, 1) := dq_46 (hz_wg wX5_addOpen_0 (j := 47) (n := 46) rfl)
theorem dX5_addOpen_48 : decode cX5_addOpen 48 = .ok (.iload_n 2, 1) := dq_28 (hz_wg wX5_addOpen_0 (j := 48) (n := 28) rfl)
theorem dX5_addOpen_49 : decode cX5_addOpen 49 = .ok (.invokestatic 57, 3) := dq_184 (hz_wg wX5_addOpen_0 (j := 49) (n := 184) rfl) (hz_wg wX5_addOpen_0 (j := 50) (n := 0) rfl) (hz_wg wX5_addOpen_0 (j := 51) (n := 57) rfl) rfl
theorem dX5_addOpen_52 : decode cX5_addOpen 52 = .ok (.iastore, 1) := dq_79 (hz_wg wX5_addOpen_0 (j := 52) (n := 79) rfl)
theorem dX5_addOpen_53 : decode cX5_addOpen 53 = .ok (.aload_n 0, 1) := dq_42 (hz_wg wX5_addOpen_0 (j := 53) (n := 42) rfl)
theorem dX5_addOpen_54 : decode cX5_addOpen 54 = .ok (.dup, 1) := dq_89 (hz_wg wX5_addOpen_0 (j := 54) (n := 89) rfl)
theorem dX5_addOpen_55 : decode cX5_addOpen 55 = .ok (.getfield 33, 3) := dq_180 (hz_wg wX5_addOpen_0 (j := 55) (n := 180) rfl) (hz_wg wX5_addOpen_0 (j := 56) (n := 0) rfl) (hz_wg wX5_addOpen_0 (j := 57) (n := 33) rfl) rfl
theorem dX5_addOpen_58 : decode cX5_addOpen 58 = .ok (.iconst 1, 1) := dq_4 (hz_wg wX5_addOpen_0 (j := 58) (n := 4) rfl)
theorem dX5_addOpen_59 : decode cX5_addOpen 59 = .ok (.iadd, 1) := dq_96 (hz_wg wX5_addOpen_0 (j := 59) (n := 96) rfl)
theorem dX5_addOpen_60 : decode cX5_addOpen 60 = .ok (.putfield 33, 3) := dq_181 (hz_wg wX5_addOpen_0 (j := 60) (n := 181) rfl) (hz_wg wX5_addOpen_0 (j := 61) (n := 0) rfl) (hz_wg wX5_addOpen_0 (j := 62) (n := 33) rfl) rfl
theorem dX5_addOpen_63 : decode cX5_addOpen 63 = .ok (.return_, 1) := dq_177 (hz_wg wX5_addOpen_0 (j := 63) (n := 177) rfl)
set_option maxHeartbeats 4000000 in
set_option maxRecDepth 100000 in
theorem t_X5_addOpen (l : Launch) (dC : Nat → ClassId) (dI : Nat → Nat → Nat) (dA : Nat → ClassId) (L : List Nat) (h : hx_h) (sz : Nat) (x : Nat) (v1 : Nat) (i1 : Int32) (hT : hx_T T_tb L h) (gx : hx_g L h x 5) (gv1 : hx_g L h v1 2)  : Met l yX5_addOpen (Cond.code yX5_addOpen cX5_addOpen 3 none :: hx_all) ({ frames := 1, cells := 0, slots := 0, locals := 21 }) (va_Pc [.ref x, .ref v1, .int i1] (hx_B T_tb (P_ty dA) (dC, dI) vwCl L h sz)) (va_Qv (fun (u : List Nat × hx_h) => hx_T T_tb u.1 u.2 ∧ hx_S T_tb [(5, 0), (30, 0), (31, 0), (32, 0)] L h u.1 u.2) (hx_E T_tb (P_ty dA) (dC, dI) vwCl (hx_A L sz)) (hx_A L sz)) 0 0 (hx_A L sz) := by
  refine hx_met (lv := [(0, .ref x), (1, .ref v1), (2, .int i1)]) (by decide +kernel) rfl (Nat.le_of_ble_eq_true rfl) rfl ?_
  intro p e s m below meth c hx hb hml hr hlk hts0 hown hin hsz hW ls hl
  have hts : ∀ w ∈ hx_all, w.before _ s = true := fun w hw => hts0 w (List.mem_cons_of_mem _ hw)
  have hown : s.vm.findClass "SmallCourt$Plan" = some m.cls := hown
  have hM : hx_S T_tb [(5, 0), (30, 0), (31, 0), (32, 0)] L h L h := hx_S.rf
  refine lv_aload_n hx hb dX5_addOpen_0 rfl (lv_at hl 0 rfl) ?_
  refine hx_geti hx hb hts hC_5 hown hW hT gx tt_5 0 (by decide) rfl kw_258 ⟨rfl, rfl, rfl⟩ dX5_addOpen_1 (fun x_1 ex_1 lx_1 ux_1 => ?_)
  have fx_1 := ex_1.symm
  refine lv_iconst (v := 4) hx hb dX5_addOpen_4 (by decide) ?_
  refine hb_icmp_ge (zx := x_1.toInt) (zy := 4) (tgt := 63) hx hb rfl (by decide) dX5_addOpen_5 (by decide) (fun c_2 => ?_) (fun c_2 => ?_)
  · skip
    exact hx_retv hx hb hr hlk hW ⟨hT, hM⟩ dX5_addOpen_63
  · skip
    refine lv_aload_n hx hb dX5_addOpen_8 rfl (lv_at hl 0 rfl) ?_
    refine hx_getn hx hb hts hC_5 hown hW hT gx tt_5 5 (by decide) rfl kw_268 ⟨rfl, rfl, rfl⟩ dX5_addOpen_9 (fun q_3 fq_3 gq_3 => ?_)
    refine lv_aload_n hx hb dX5_addOpen_12 rfl (lv_at hl 0 rfl) ?_
    refine hk_geti hx hb hts hC_5 hown hW gx tt_5 0 (by decide) rfl kw_258 ⟨rfl, rfl, rfl⟩ fx_1 dX5_addOpen_13 ?_
    refine lv_aload_n hx hb dX5_addOpen_16 rfl (lv_at hl 1 rfl) ?_
    refine hx_geti hx hb hts hC_2 hown hW hT gv1 tt_2 0 (by decide) rfl kw_722 ⟨rfl, rfl, rfl⟩ dX5_addOpen_17 (fun x_4 ex_4 lx_4 ux_4 => ?_)
    have fx_4 := ex_4.symm
    refine hx_iast hx hb hW hT (hx_S.rf (M := [(30, 0)])) gq_3 tt_30 rfl ⟨by omega, by omega⟩ rfl (i32_r _) (List.mem_singleton.mpr rfl) dX5_addOpen_20 (fun H locs h_5 eh_5 hW hT hs => ?_)
    replace fx_1 := (hs.o gx trivial rfl).1.trans fx_1
    replace fq_3 := (hs.o gx trivial rfl).2.trans fq_3
    replace fx_4 := (hs.o gv1 trivial rfl).1.trans fx_4
    replace hM := hM.tr (hs.mono (by decide))
    replace gx := gx.S hs
    replace gv1 := gv1.S hs
    replace gq_3 := gq_3.S hs
    refine lv_aload_n hx hb dX5_addOpen_21 rfl (lv_at hl 0 rfl) ?_
    refine hx_getn hx hb hts hC_5 hown hW hT gx tt_5 6 (by decide) rfl kw_269 ⟨rfl, rfl, rfl⟩ dX5_addOpen_22 (fun q_6 fq_6 gq_6 => ?_)
    refine lv_aload_n hx hb dX5_addOpen_25 rfl (lv_at hl 0 rfl) ?_
    refine hk_geti hx hb hts hC_5 hown hW gx tt_5 0 (by decide) rfl kw_258 ⟨rfl, rfl, rfl⟩ fx_1 dX5_addOpen_26 ?_
    refine lv_iload_n hx hb dX5_addOpen_29 rfl (lv_at hl 2 rfl) ?_
    refine hx_iast hx hb hW hT (hx_S.rf (M := [(31, 0)])) gq_6 tt_31 rfl ⟨by omega, by omega⟩ rfl (i32_r _) (List.mem_singleton.mpr rfl) dX5_addOpen_30 (fun H locs h_7 eh_7 hW hT hs => ?_)
    replace fx_1 := (hs.o gx trivial rfl).1.trans fx_1
    replace fq_3 := (hs.o gx trivial rfl).2.trans fq_3
    replace fx_4 := (hs.o gv1 trivial rfl).1.trans fx_4
    replace fq_6 := (hs.o gx trivial rfl).2.trans fq_6
    replace hM := hM.tr (hs.mono (by decide))
    replace gx := gx.S hs
    replace gv1 := gv1.S hs
    replace gq_3 := gq_3.S hs
    replace gq_6 := gq_6.S hs
    refine lv_aload_n hx hb dX5_addOpen_31 rfl (lv_at hl 0 rfl) ?_
    refine hx_getn hx hb hts hC_5 hown hW hT gx tt_5 7 (by decide) rfl kw_270 ⟨rfl, rfl, rfl⟩ dX5_addOpen_32 (fun q_8 fq_8 gq_8 => ?_)
    refine lv_aload_n hx hb dX5_addOpen_35 rfl (lv_at hl 0 rfl) ?_
    refine hk_geti hx hb hts hC_5 hown hW gx tt_5 0 (by decide) rfl kw_258 ⟨rfl, rfl, rfl⟩ fx_1 dX5_addOpen_36 ?_
    refine lv_aload_n hx hb dX5_addOpen_39 rfl (lv_at hl 1 rfl) ?_
    refine hx_getn hx hb hts hC_2 hown hW hT gv1 tt_2 3 (by decide) rfl kw_735 ⟨rfl, rfl, rfl⟩ dX5_addOpen_40 (fun q_9 fq_9 gq_9 => ?_)
    refine hx_getn hx hb hts hC_0 hown hW hT gq_9 tt_0 2 (by decide) rfl kw_169 ⟨rfl, rfl, rfl⟩ dX5_addOpen_43 (fun q_10 fq_10 gq_10 => ?_)
    refine lv_iconst (v := 3) hx hb dX5_addOpen_46 (by decide) ?_
    refine hx_iald hx hb hW hT gq_10 tt_11 rfl (by decide) dX5_addOpen_47 (fun x_11 ex_11 lx_11 ux_11 => ?_)
    refine lv_iload_n hx hb dX5_addOpen_48 rfl (lv_at hl 2 rfl) ?_
    refine va_mmin hx hb (hml.trans hl.1.symm) hown (hts _ kw_956) (hts _ kw_917) (hts _ kw_109) (hts _ kw_918) (Nat.le_of_ble_eq_true rfl) (Nat.le_of_ble_eq_true rfl) (Nat.le_of_ble_eq_true rfl) (Nat.le_of_ble_eq_true rfl) dX5_addOpen_49 ?_
    refine lv_topi (fun x_12 ex_12 => ?_)
    refine hx_iast hx hb hW hT (hx_S.rf (M := [(32, 0)])) gq_8 tt_32 rfl ⟨by omega, by omega⟩ rfl (i32_r _) (List.mem_singleton.mpr rfl) dX5_addOpen_52 (fun H locs h_13 eh_13 hW hT hs => ?_)
    replace fx_1 := (hs.o gx trivial rfl).1.trans fx_1
    replace fq_3 := (hs.o gx trivial rfl).2.trans fq_3
    replace fx_4 := (hs.o gv1 trivial rfl).1.trans fx_4
    replace fq_6 := (hs.o gx trivial rfl).2.trans fq_6
    replace fq_8 := (hs.o gx trivial rfl).2.trans fq_8
    replace fq_9 := (hs.o gv1 trivial rfl).2.trans fq_9
    replace fq_10 := (hs.o gq_9 trivial rfl).2.trans fq_10
    replace hM := hM.tr (hs.mono (by decide))
    replace gx := gx.S hs
    replace gv1 := gv1.S hs
    replace gq_3 := gq_3.S hs
    replace gq_6 := gq_6.S hs
    replace gq_8 := gq_8.S hs
    replace gq_9 := gq_9.S hs
    replace gq_10 := gq_10.S hs
    refine lv_aload_n hx hb dX5_addOpen_53 rfl (lv_at hl 0 rfl) ?_
    refine lv_dup hx hb dX5_addOpen_54 rfl ?_
    refine hk_geti hx hb hts hC_5 hown hW gx tt_5 0 (by decide) rfl kw_258 ⟨rfl, rfl, rfl⟩ fx_1 dX5_addOpen_55 ?_
    refine lv_iconst (v := 1) hx hb dX5_addOpen_58 (by decide) ?_
    refine lv_iadd hx hb dX5_addOpen_59 ?_
    have rg_14 := i32_r x_1
    refine lv_topi (fun x_15 ex_15 => ?_)
    have zx_15 : x_15.toInt = x_1.toInt + 1 := by rw [ex_15]; exact i32_add rfl (by decide) (by omega) (by omega)
    refine hx_puti hx hb hts hC_5 hown hW hT (hx_S.rf (M := [(5, 0)])) gx tt_5 0 (by decide) rfl kw_258 ⟨rfl, rfl, rfl⟩ rfl (x := x_15) ⟨by omega, by omega⟩ rfl rfl rfl (List.mem_singleton.mpr rfl) dX5_addOpen_60 (fun H locs h_16 eh_16 hW hT hs => ?_)
    replace fq_3 := (hs.o gx trivial rfl).2.trans fq_3
    replace fx_4 := (hs.o gv1 trivial rfl).1.trans fx_4
    replace fq_6 := (hs.o gx trivial rfl).2.trans fq_6
    replace fq_8 := (hs.o gx trivial rfl).2.trans fq_8
    replace fq_9 := (hs.o gv1 trivial rfl).2.trans fq_9
    replace fq_10 := (hs.o gq_9 trivial rfl).2.trans fq_10
    replace hM := hM.tr (hs.mono (by decide))
    replace gx := gx.S hs
    replace gv1 := gv1.S hs
    replace gq_3 := gq_3.S hs
    replace gq_6 := gq_6.S hs
    replace gq_8 := gq_8.S hs
    replace gq_9 := gq_9.S hs
    replace gq_10 := gq_10.S hs
    have f_17 : h_16.2.1 x 0 = x_15 := by rw [eh_16]; exact hx_pi_at _ _ _ _
    exact hx_retv hx hb hr hlk hW ⟨hT, hM⟩ dX5_addOpen_63

theorem dX4_meansBy_0 : decode cX4_meansBy 0 = .ok (.aload_n 0, 1) := by decide +kernel
theorem dX4_meansBy_1 : decode cX4_meansBy 1 = .ok (.getfield 21, 3) := by decide +kernel
theorem dX4_meansBy_4 : decode cX4_meansBy 4 = .ok (.aload_n 1, 1) := by decide +kernel
theorem dX4_meansBy_5 : decode cX4_meansBy 5 = .ok (.getfield 33, 3) := by decide +kernel
theorem dX4_meansBy_8 : decode cX4_meansBy 8 = .ok (.iconst 4, 1) := by decide +kernel
theorem dX4_meansBy_9 : decode cX4_meansBy 9 = .ok (.iaload, 1) := by decide +kernel
theorem dX4_meansBy_10 : decode cX4_meansBy 10 = .ok (.aload_n 0, 1) := by decide +kernel
theorem dX4_meansBy_11 : decode cX4_meansBy 11 = .ok (.getfield 24, 3) := by decide +kernel
theorem dX4_meansBy_14 : decode cX4_meansBy 14 = .ok (.imul, 1) := by decide +kernel
theorem dX4_meansBy_15 : decode cX4_meansBy 15 = .ok (.isub, 1) := by decide +kernel
theorem dX4_meansBy_16 : decode cX4_meansBy 16 = .ok (.ireturn, 1) := by decide +kernel
set_option maxHeartbeats 4000000 in
set_option maxRecDepth 100000 in
theorem t_X4_meansBy (l : Launch) (dC : Nat → ClassId) (dI : Nat → Nat → Nat) (dA : Nat → ClassId) (L : List Nat) (h : hx_h) (sz : Nat) (x : Nat) (v1 : Nat) (hT : hx_T T_tb L h) (gx : hx_g L h x 4) (gv1 : hx_g L h v1 0)  : Met l yX4_meansBy (Cond.code yX4_meansBy cX4_meansBy 2 (some .int) :: hx_all) ({ frames := 0, cells := 0, slots := 0, locals := 0 }) (va_Pc [.ref x, .ref v1] (hx_B T_tb (P_ty dA) (dC, dI) vwCl L h sz)) (va_Qi (fun (r : Int32) (u : List Nat × hx_h) => (True) ∧ hx_T T_tb u.1 u.2 ∧ hx_S T_tb [] L h u.1 u.2) (hx_E T_tb (P_ty dA) (dC, dI) vwCl (hx_A L sz)) (hx_A L sz)) 0 0 (hx_A L sz) := by
  refine hx_met (lv := [(0, .ref x), (1, .ref v1)]) (by decide +kernel) rfl (Nat.le_of_ble_eq_true rfl) rfl ?_
  intro p e s m below meth c hx hb hml hr hlk hts0 hown hin hsz hW ls hl
  have hts : ∀ w ∈ hx_all, w.before _ s = true := fun w hw => hts0 w (List.mem_cons_of_mem _ hw)
  have hown : s.vm.findClass "SmallCourt$Person" = some m.cls := hown
  have hM : hx_S T_tb [] L h L h := hx_S.rf
  refine lv_aload_n hx hb dX4_meansBy_0 rfl (lv_at hl 0 rfl) ?_
  refine hx_geti hx hb hts hC_4 hown hW hT gx tt_4 3 (by decide) rfl kw_616 ⟨rfl, rfl, rfl⟩ dX4_meansBy_1 (fun x_1 ex_1 lx_1 ux_1 => ?_)
  have fx_1 := ex_1.symm
  refine lv_aload_n hx hb dX4_meansBy_4 rfl (lv_at hl 1 rfl) ?_
  refine hx_getn hx hb hts hC_0 hown hW hT gv1 tt_0 2 (by decide) rfl kw_168 ⟨rfl, rfl, rfl⟩ dX4_meansBy_5 (fun q_2 fq_2 gq_2 => ?_)
  refine lv_iconst (v := 4) hx hb dX4_meansBy_8 (by decide) ?_
  refine hx_iald hx hb hW hT gq_2 tt_11 rfl (by decide) dX4_meansBy_9 (fun x_3 ex_3 lx_3 ux_3 => ?_)
  refine lv_aload_n hx hb dX4_meansBy_10 rfl (lv_at hl 0 rfl) ?_
  refine hx_geti hx hb hts hC_4 hown hW hT gx tt_4 4 (by decide) rfl kw_617 ⟨rfl, rfl, rfl⟩ dX4_meansBy_11 (fun x_4 ex_4 lx_4 ux_4 => ?_)
  have fx_4 := ex_4.symm
  refine lv_imul hx hb dX4_meansBy_14 ?_
  refine lv_topi (fun x_5 ex_5 => ?_)
  refine lv_isub hx hb dX4_meansBy_15 ?_
  have rg_6 := i32_r x_1
  have rg_7 := i32_r x_5
  refine lv_topi (fun x_8 ex_8 => ?_)
  exact hx_reti hx hb hr hlk hW ⟨trivial, hT, hM⟩ dX4_meansBy_16

def wLX2_costsBy_0 : List Nat := [42, 180, 0, 48, 43, 180, 0, 51, 16, 10, 46, 104, 43, 180, 0, 51, 16, 11, 46, 96, 62, 28, 153, 0, 15, 29, 43, 180, 0, 51, 16, 12, 46, 96, 167, 0, 4, 29, 172]
theorem wX2_costsBy_0 : (cX2_costsBy.data.toList.map UInt8.toNat).drop 0 = wLX2_costsBy_0 ++ ([]) := by decide +kernel
theorem dX2_costsBy_0 : decode cX2_costsBy 0 = .ok (.aload_n 0, 1) := dq_42 (hz_wg wX2_costsBy_0 (j := 0) (n := 42) rfl)
theorem dX2_costsBy_1 : decode cX2_costsBy 1 = .ok (.getfield 48, 3) := dq_180 (hz_wg wX2_costsBy_0 (j := 1) (n := 180) rfl) (hz_wg wX2_costsBy_0 (j := 2) (n := 0) rfl) (hz_wg wX2_costsBy_0 (j := 3) (n := 48) rfl) rfl
theorem dX2_costsBy_4 : decode cX2_costsBy 4 = .ok (.aload_n 1, 1) := dq_43 (hz_wg wX2_costsBy_0 (j := 4) (n := 43) rfl)
theorem dX2_costsBy_5 : decode cX2_costsBy 5 = .ok (.getfield 51, 3) := dq_180 (hz_wg wX2_costsBy_0 (j := 5) (n := 180) rfl) (hz_wg wX2_costsBy_0 (j := 6) (n := 0) rfl) (hz_wg wX2_costsBy_0 (j := 7) (n := 51) rfl) rfl
theorem dX2_costsBy_8 : decode cX2_costsBy 8 = .ok (.bipush 10, 2) := dq_16 (hz_wg wX2_costsBy_0 (j := 8) (n := 16) rfl) (hz_wg wX2_costsBy_0 (j := 9) (n := 10) rfl) (by decide)
theorem dX2_costsBy_10 : decode cX2_costsBy 10 = .ok (.iaload, 1) := dq_46 (hz_wg wX2_costsBy_0 (j := 10) (n := 46) rfl)
theorem dX2_costsBy_11 : decode cX2_costsBy 11 = .ok (.imul, 1) := dq_104 (hz_wg wX2_costsBy_0 (j := 11) (n := 104) rfl)
theorem dX2_costsBy_12 : decode cX2_costsBy 12 = .ok (.aload_n 1, 1) := dq_43 (hz_wg wX2_costsBy_0 (j := 12) (n := 43) rfl)
theorem dX2_costsBy_13 : decode cX2_costsBy 13 = .ok (.getfield 51, 3) := dq_180 (hz_wg wX2_costsBy_0 (j := 13) (n := 180) rfl) (hz_wg wX2_costsBy_0 (j := 14) (n := 0) rfl) (hz_wg wX2_costsBy_0 (j := 15) (n := 51) rfl) rfl
theorem dX2_costsBy_16 : decode cX2_costsBy 16 = .ok (.bipush 11, 2) := dq_16 (hz_wg wX2_costsBy_0 (j := 16) (n := 16) rfl) (hz_wg wX2_costsBy_0 (j := 17) (n := 11) rfl) (by decide)
theorem dX2_costsBy_18 : decode cX2_costsBy 18 = .ok (.iaload, 1) := dq_46 (hz_wg wX2_costsBy_0 (j := 18) (n := 46) rfl)
theorem dX2_costsBy_19 : decode cX2_costsBy 19 = .ok (.iadd, 1) := dq_96 (hz_wg wX2_costsBy_0 (j := 19) (n := 96) rfl)
theorem dX2_costsBy_20 : decode cX2_costsBy 20 = .ok (.istore_n 3, 1) := dq_62 (hz_wg wX2_costsBy_0 (j := 20) (n := 62) rfl)
theorem dX2_costsBy_21 : decode cX2_costsBy 21 = .ok (.iload_n 2, 1) := dq_28 (hz_wg wX2_costsBy_0 (j := 21) (n := 28) rfl)
theorem dX2_costsBy_22 : decode cX2_costsBy 22 = .ok (.ifCond .eq 15, 3) := dq_153 (hz_wg wX2_costsBy_0 (j := 22) (n := 153) rfl) (hz_wg wX2_costsBy_0 (j := 23) (n := 0) rfl) (hz_wg wX2_costsBy_0 (j := 24) (n := 15) rfl) (by decide)
theorem dX2_costsBy_25 : decode cX2_costsBy 25 = .ok (.iload_n 3, 1) := dq_29 (hz_wg wX2_costsBy_0 (j := 25) (n := 29) rfl)
theorem dX2_costsBy_26 : decode cX2_costsBy 26 = .ok (.aload_n 1, 1) := dq_43 (hz_wg wX2_costsBy_0 (j := 26) (n := 43) rfl)
theorem dX2_costsBy_27 : decode cX2_costsBy 27 = .ok (.getfield 51, 3) := dq_180 (hz_wg wX2_costsBy_0 (j := 27) (n := 180) rfl) (hz_wg wX2_costsBy_0 (j := 28) (n := 0) rfl) (hz_wg wX2_costsBy_0 (j := 29) (n := 51) rfl) rfl
theorem dX2_costsBy_30 : decode cX2_costsBy 30 = .ok (.bipush 12, 2) := dq_16 (hz_wg wX2_costsBy_0 (j := 30) (n := 16) rfl) (hz_wg wX2_costsBy_0 (j := 31) (n := 12) rfl) (by decide)
theorem dX2_costsBy_32 : decode cX2_costsBy 32 = .ok (.iaload, 1) := dq_46 (hz_wg wX2_costsBy_0 (j := 32) (n := 46) rfl)
theorem dX2_costsBy_33 : decode cX2_costsBy 33 = .ok (.iadd, 1) := dq_96 (hz_wg wX2_costsBy_0 (j := 33) (n := 96) rfl)
theorem dX2_costsBy_34 : decode cX2_costsBy 34 = .ok (.goto 4, 3) := dq_167 (hz_wg wX2_costsBy_0 (j := 34) (n := 167) rfl) (hz_wg wX2_costsBy_0 (j := 35) (n := 0) rfl) (hz_wg wX2_costsBy_0 (j := 36) (n := 4) rfl) (by decide)
theorem dX2_costsBy_37 : decode cX2_costsBy 37 = .ok (.iload_n 3, 1) := dq_29 (hz_wg wX2_costsBy_0 (j := 37) (n := 29) rfl)
theorem dX2_costsBy_38 : decode cX2_costsBy 38 = .ok (.ireturn, 1) := dq_172 (hz_wg wX2_costsBy_0 (j := 38) (n := 172) rfl)
set_option maxHeartbeats 4000000 in
set_option maxRecDepth 100000 in
theorem t_X2_costsBy (l : Launch) (dC : Nat → ClassId) (dI : Nat → Nat → Nat) (dA : Nat → ClassId) (L : List Nat) (h : hx_h) (sz : Nat) (x : Nat) (v1 : Nat) (i1 : Int32) (hT : hx_T T_tb L h) (gx : hx_g L h x 2) (gv1 : hx_g L h v1 0)  : Met l yX2_costsBy (Cond.code yX2_costsBy cX2_costsBy 4 (some .int) :: hx_all) ({ frames := 0, cells := 0, slots := 0, locals := 0 }) (va_Pc [.ref x, .ref v1, .int i1] (hx_B T_tb (P_ty dA) (dC, dI) vwCl L h sz)) (va_Qi (fun (r : Int32) (u : List Nat × hx_h) => (True) ∧ hx_T T_tb u.1 u.2 ∧ hx_S T_tb [] L h u.1 u.2) (hx_E T_tb (P_ty dA) (dC, dI) vwCl (hx_A L sz)) (hx_A L sz)) 0 0 (hx_A L sz) := by
  refine hx_met (lv := [(0, .ref x), (1, .ref v1), (2, .int i1)]) (by decide +kernel) rfl (Nat.le_of_ble_eq_true rfl) rfl ?_
  intro p e s m below meth c hx hb hml hr hlk hts0 hown hin hsz hW ls hl
  have hts : ∀ w ∈ hx_all, w.before _ s = true := fun w hw => hts0 w (List.mem_cons_of_mem _ hw)
  have hown : s.vm.findClass "SmallCourt$Claim" = some m.cls := hown
  have hM : hx_S T_tb [] L h L h := hx_S.rf
  refine lv_aload_n hx hb dX2_costsBy_0 rfl (lv_at hl 0 rfl) ?_
  refine hx_geti hx hb hts hC_2 hown hW hT gx tt_2 9 (by decide) rfl kw_744 ⟨rfl, rfl, rfl⟩ dX2_costsBy_1 (fun x_1 ex_1 lx_1 ux_1 => ?_)
  have fx_1 := ex_1.symm
  refine lv_aload_n hx hb dX2_costsBy_4 rfl (lv_at hl 1 rfl) ?_
  refine hx_getn hx hb hts hC_0 hown hW hT gv1 tt_0 2 (by decide) rfl kw_167 ⟨rfl, rfl, rfl⟩ dX2_costsBy_5 (fun q_2 fq_2 gq_2 => ?_)
  refine lv_bipush (v := 10) hx hb dX2_costsBy_8 (by decide) ?_
  refine hx_iald hx hb hW hT gq_2 tt_11 rfl (by decide) dX2_costsBy_10 (fun x_3 ex_3 lx_3 ux_3 => ?_)
  refine lv_imul hx hb dX2_costsBy_11 ?_
  refine lv_topi (fun x_4 ex_4 => ?_)
  refine lv_aload_n hx hb dX2_costsBy_12 rfl (lv_at hl 1 rfl) ?_
  refine hk_getr hx hb hts hC_0 hown hW gv1 tt_0 2 (by decide) rfl kw_167 ⟨rfl, rfl, rfl⟩ fq_2 dX2_costsBy_13 ?_
  refine lv_bipush (v := 11) hx hb dX2_costsBy_16 (by decide) ?_
  refine hx_iald hx hb hW hT gq_2 tt_11 rfl (by decide) dX2_costsBy_18 (fun x_5 ex_5 lx_5 ux_5 => ?_)
  refine lv_iadd hx hb dX2_costsBy_19 ?_
  have rg_6 := i32_r x_4
  have rg_7 := i32_r x_5
  refine lv_topi (fun x_8 ex_8 => ?_)
  refine lv_istore_n (lv' := [(3, .int x_8), (0, .ref x), (1, .ref v1), (2, .int i1)]) hx hb dX2_costsBy_20 rfl hl (by decide) rfl (fun ls hl => ?_)
  refine lv_iload_n hx hb dX2_costsBy_21 rfl (lv_at hl 3 rfl) ?_
  refine hb_if_eq (zx := i1.toInt) (tgt := 37) hx hb rfl dX2_costsBy_22 (by decide) (fun c_9 => ?_) (fun c_9 => ?_)
  · skip
    refine lv_iload_n hx hb dX2_costsBy_37 rfl (lv_at hl 0 rfl) ?_
    exact hx_reti hx hb hr hlk hW ⟨trivial, hT, hM⟩ dX2_costsBy_38
  · skip
    refine lv_iload_n hx hb dX2_costsBy_25 rfl (lv_at hl 0 rfl) ?_
    refine lv_aload_n hx hb dX2_costsBy_26 rfl (lv_at hl 2 rfl) ?_
    refine hk_getr hx hb hts hC_0 hown hW gv1 tt_0 2 (by decide) rfl kw_167 ⟨rfl, rfl, rfl⟩ fq_2 dX2_costsBy_27 ?_
    refine lv_bipush (v := 12) hx hb dX2_costsBy_30 (by decide) ?_
    refine hx_iald hx hb hW hT gq_2 tt_11 rfl (by decide) dX2_costsBy_32 (fun x_10 ex_10 lx_10 ux_10 => ?_)
    refine lv_iadd hx hb dX2_costsBy_33 ?_
    have rg_11 := i32_r x_8
    have rg_12 := i32_r x_10
    refine lv_topi (fun x_13 ex_13 => ?_)
    refine lv_goto (tgt := 38) hx hb dX2_costsBy_34 (by decide) ?_
    exact hx_reti hx hb hr hlk hW ⟨trivial, hT, hM⟩ dX2_costsBy_38
