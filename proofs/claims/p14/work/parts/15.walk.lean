theorem dX8_isIn_0 : decode cX8_isIn 0 = .ok (.iload_n 1, 1) := by decide +kernel
theorem dX8_isIn_1 : decode cX8_isIn 1 = .ok (.iload_n 0, 1) := by decide +kernel
theorem dX8_isIn_2 : decode cX8_isIn 2 = .ok (.ishr, 1) := by decide +kernel
theorem dX8_isIn_3 : decode cX8_isIn 3 = .ok (.iconst 1, 1) := by decide +kernel
theorem dX8_isIn_4 : decode cX8_isIn 4 = .ok (.iand, 1) := by decide +kernel
theorem dX8_isIn_5 : decode cX8_isIn 5 = .ok (.iconst 1, 1) := by decide +kernel
theorem dX8_isIn_6 : decode cX8_isIn 6 = .ok (.if_icmp .ne 7, 3) := by decide +kernel
theorem dX8_isIn_9 : decode cX8_isIn 9 = .ok (.iconst 1, 1) := by decide +kernel
theorem dX8_isIn_10 : decode cX8_isIn 10 = .ok (.goto 4, 3) := by decide +kernel
theorem dX8_isIn_13 : decode cX8_isIn 13 = .ok (.iconst 0, 1) := by decide +kernel
theorem dX8_isIn_14 : decode cX8_isIn 14 = .ok (.ireturn, 1) := by decide +kernel
set_option maxHeartbeats 4000000 in
set_option maxRecDepth 100000 in
theorem t_X8_isIn (l : Launch) (dC : Nat → ClassId) (dI : Nat → Nat → Nat) (dA : Nat → ClassId) (L : List Nat) (h : hx_h) (sz : Nat) (i1 : Int32) (i2 : Int32) (hT : hx_T T_tb L h)   : Met l yX8_isIn (Cond.code yX8_isIn cX8_isIn 2 (some .boolean) :: hx_all) ({ frames := 0, cells := 0, slots := 0, locals := 0 }) (va_Pc [.int i1, .int i2] (hx_B T_tb (P_ty dA) (dC, dI) vwCl L h sz)) (va_Qi (fun (r : Int32) (u : List Nat × hx_h) => (r.toInt = 0 ∨ r.toInt = 1) ∧ hx_T T_tb u.1 u.2 ∧ hx_S T_tb [] L h u.1 u.2) (hx_E T_tb (P_ty dA) (dC, dI) vwCl (hx_A L sz)) (hx_A L sz)) 0 0 (hx_A L sz) := by
  refine hx_met (lv := [(0, .int i1), (1, .int i2)]) (by decide +kernel) rfl (Nat.le_of_ble_eq_true rfl) rfl ?_
  intro p e s m below meth c hx hb hml hr hlk hts0 hown hin hsz hW ls hl
  have hts : ∀ w ∈ hx_all, w.before _ s = true := fun w hw => hts0 w (List.mem_cons_of_mem _ hw)
  have hown : s.vm.findClass "SmallCourt$Walk" = some m.cls := hown
  have hM : hx_S T_tb [] L h L h := hx_S.rf
  refine lv_iload_n hx hb dX8_isIn_0 rfl (lv_at hl 1 rfl) ?_
  refine lv_iload_n hx hb dX8_isIn_1 rfl (lv_at hl 0 rfl) ?_
  refine lv_ishr hx hb dX8_isIn_2 ?_
  refine lv_topi (fun x_1 ex_1 => ?_)
  refine lv_iconst (v := 1) hx hb dX8_isIn_3 (by decide) ?_
  refine lv_iand hx hb dX8_isIn_4 ?_
  refine lv_topi (fun x_2 ex_2 => ?_)
  have zx_2 : 0 ≤ x_2.toInt ∧ x_2.toInt ≤ 1 := by rw [ex_2]; exact hx_andR (by decide) (by decide)
  refine lv_iconst (v := 1) hx hb dX8_isIn_5 (by decide) ?_
  refine hb_icmp_ne (zx := x_2.toInt) (zy := 1) (tgt := 13) hx hb rfl (by decide) dX8_isIn_6 (by decide) (fun c_3 => ?_) (fun c_3 => ?_)
  · skip
    refine lv_iconst (v := 0) hx hb dX8_isIn_13 (by decide) ?_
    exact hx_retz hx hb hr rfl hlk hW ⟨(by decide), hT, hM⟩ dX8_isIn_14
  · skip
    refine lv_iconst (v := 1) hx hb dX8_isIn_9 (by decide) ?_
    refine lv_goto (tgt := 14) hx hb dX8_isIn_10 (by decide) ?_
    exact hx_retz hx hb hr rfl hlk hW ⟨(by decide), hT, hM⟩ dX8_isIn_14

theorem dX8_between_0 : decode cX8_between 0 = .ok (.aload_n 0, 1) := by decide +kernel
theorem dX8_between_1 : decode cX8_between 1 = .ok (.getfield 71, 3) := by decide +kernel
theorem dX8_between_4 : decode cX8_between 4 = .ok (.aload_n 1, 1) := by decide +kernel
theorem dX8_between_5 : decode cX8_between 5 = .ok (.getfield 71, 3) := by decide +kernel
theorem dX8_between_8 : decode cX8_between 8 = .ok (.isub, 1) := by decide +kernel
theorem dX8_between_9 : decode cX8_between 9 = .ok (.invokestatic 76, 3) := by decide +kernel
theorem dX8_between_12 : decode cX8_between 12 = .ok (.aload_n 0, 1) := by decide +kernel
theorem dX8_between_13 : decode cX8_between 13 = .ok (.getfield 79, 3) := by decide +kernel
theorem dX8_between_16 : decode cX8_between 16 = .ok (.aload_n 1, 1) := by decide +kernel
theorem dX8_between_17 : decode cX8_between 17 = .ok (.getfield 79, 3) := by decide +kernel
theorem dX8_between_20 : decode cX8_between 20 = .ok (.isub, 1) := by decide +kernel
theorem dX8_between_21 : decode cX8_between 21 = .ok (.invokestatic 76, 3) := by decide +kernel
theorem dX8_between_24 : decode cX8_between 24 = .ok (.iadd, 1) := by decide +kernel
theorem dX8_between_25 : decode cX8_between 25 = .ok (.ireturn, 1) := by decide +kernel
set_option maxHeartbeats 4000000 in
set_option maxRecDepth 100000 in
theorem t_X8_between (l : Launch) (dC : Nat → ClassId) (dI : Nat → Nat → Nat) (dA : Nat → ClassId) (L : List Nat) (h : hx_h) (sz : Nat) (v1 : Nat) (v2 : Nat) (hT : hx_T T_tb L h) (gv1 : hx_g L h v1 4) (gv2 : hx_g L h v2 4)  : Met l yX8_between (Cond.code yX8_between cX8_between 2 (some .int) :: hx_all) ({ frames := 1, cells := 0, slots := 0, locals := 21 }) (va_Pc [.ref v1, .ref v2] (hx_B T_tb (P_ty dA) (dC, dI) vwCl L h sz)) (va_Qi (fun (r : Int32) (u : List Nat × hx_h) => (True) ∧ hx_T T_tb u.1 u.2 ∧ hx_S T_tb [] L h u.1 u.2) (hx_E T_tb (P_ty dA) (dC, dI) vwCl (hx_A L sz)) (hx_A L sz)) 0 0 (hx_A L sz) := by
  refine hx_met (lv := [(0, .ref v1), (1, .ref v2)]) (by decide +kernel) rfl (Nat.le_of_ble_eq_true rfl) rfl ?_
  intro p e s m below meth c hx hb hml hr hlk hts0 hown hin hsz hW ls hl
  have hts : ∀ w ∈ hx_all, w.before _ s = true := fun w hw => hts0 w (List.mem_cons_of_mem _ hw)
  have hown : s.vm.findClass "SmallCourt$Walk" = some m.cls := hown
  have hM : hx_S T_tb [] L h L h := hx_S.rf
  refine lv_aload_n hx hb dX8_between_0 rfl (lv_at hl 0 rfl) ?_
  refine hx_geti hx hb hts hC_4 hown hW hT gv1 tt_4 5 (by decide) rfl kw_619 ⟨rfl, rfl, rfl⟩ dX8_between_1 (fun x_1 ex_1 lx_1 ux_1 => ?_)
  have fx_1 := ex_1.symm
  refine lv_aload_n hx hb dX8_between_4 rfl (lv_at hl 1 rfl) ?_
  refine hx_geti hx hb hts hC_4 hown hW hT gv2 tt_4 5 (by decide) rfl kw_619 ⟨rfl, rfl, rfl⟩ dX8_between_5 (fun x_2 ex_2 lx_2 ux_2 => ?_)
  have fx_2 := ex_2.symm
  refine lv_isub hx hb dX8_between_8 ?_
  have rg_3 := i32_r x_1
  have rg_4 := i32_r x_2
  refine lv_topi (fun x_5 ex_5 => ?_)
  refine va_mabs hx hb (hml.trans hl.1.symm) hown (hts _ kw_1063) (hts _ kw_706) (hts _ kw_109) (hts _ kw_707) (Nat.le_of_ble_eq_true rfl) (Nat.le_of_ble_eq_true rfl) (Nat.le_of_ble_eq_true rfl) (Nat.le_of_ble_eq_true rfl) dX8_between_9 ?_
  refine lv_topi (fun x_6 ex_6 => ?_)
  refine lv_aload_n hx hb dX8_between_12 rfl (lv_at hl 0 rfl) ?_
  refine hx_geti hx hb hts hC_4 hown hW hT gv1 tt_4 6 (by decide) rfl kw_621 ⟨rfl, rfl, rfl⟩ dX8_between_13 (fun x_7 ex_7 lx_7 ux_7 => ?_)
  have fx_7 := ex_7.symm
  refine lv_aload_n hx hb dX8_between_16 rfl (lv_at hl 1 rfl) ?_
  refine hx_geti hx hb hts hC_4 hown hW hT gv2 tt_4 6 (by decide) rfl kw_621 ⟨rfl, rfl, rfl⟩ dX8_between_17 (fun x_8 ex_8 lx_8 ux_8 => ?_)
  have fx_8 := ex_8.symm
  refine lv_isub hx hb dX8_between_20 ?_
  have rg_9 := i32_r x_7
  have rg_10 := i32_r x_8
  refine lv_topi (fun x_11 ex_11 => ?_)
  refine va_mabs hx hb (hml.trans hl.1.symm) hown (hts _ kw_1063) (hts _ kw_706) (hts _ kw_109) (hts _ kw_707) (Nat.le_of_ble_eq_true rfl) (Nat.le_of_ble_eq_true rfl) (Nat.le_of_ble_eq_true rfl) (Nat.le_of_ble_eq_true rfl) dX8_between_21 ?_
  refine lv_topi (fun x_12 ex_12 => ?_)
  refine lv_iadd hx hb dX8_between_24 ?_
  have rg_13 := i32_r x_6
  have rg_14 := i32_r x_12
  refine lv_topi (fun x_15 ex_15 => ?_)
  exact hx_reti hx hb hr hlk hW ⟨trivial, hT, hM⟩ dX8_between_25
