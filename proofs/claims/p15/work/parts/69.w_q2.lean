
set_option maxHeartbeats 4000000 in
set_option maxRecDepth 100000 in
theorem t_X10_compareOf_v (l : Launch) (dC : Nat → ClassId) (dI : Nat → Nat → Nat) (dA : Nat → ClassId) (L : List Nat) (h : hx_h) (sz : Nat) (i1 : Int32) (i2 : Int32) (i3 : Int32) (hT : hx_T T_tb L h)  (hi1 : 0 ≤ i1.toInt ∧ i1.toInt ≤ 7) (hi2 : 0 ≤ i2.toInt ∧ i2.toInt ≤ 4) (hi3 : 0 ≤ i3.toInt ∧ i3.toInt ≤ 10007) : Met l yX10_compareOf (Cond.code yX10_compareOf cX10_compareOf 3 (some .int) :: hx_all) ({ frames := 0, cells := 0, slots := 0, locals := 0 }) (va_Pc [.int i1, .int i2, .int i3] (hx_B T_tb (P_ty dA) (dC, dI) vwCl L h sz)) (va_Qi (fun (r : Int32) (u : List Nat × hx_h) => (hx_okc r.toInt = true ∧ r.toInt = 1000000 * (1 + i1.toInt) + 100000 * i2.toInt + i3.toInt) ∧ hx_T T_tb u.1 u.2 ∧ hx_S T_tb [] L h u.1 u.2) (hx_E T_tb (P_ty dA) (dC, dI) vwCl (hx_A L sz)) (hx_A L sz)) 0 0 (hx_A L sz) := by
  refine hx_met (lv := [(0, .int i1), (1, .int i2), (2, .int i3)]) (by decide +kernel) rfl (Nat.le_of_ble_eq_true rfl) rfl ?_
  intro p e s m below meth c hx hb hml hr hlk hts0 hown hin hsz hW ls hl
  have hts : ∀ w ∈ hx_all, w.before _ s = true := fun w hw => hts0 w (List.mem_cons_of_mem _ hw)
  have hown : s.vm.findClass "SmallCourtModel" = some m.cls := hown
  have hM : hx_S T_tb [] L h L h := hx_S.rf
  refine lv_ldcw (v := 1000000) hx hb hown (hts _ kw_1133) dX10_compareOf_0 ?_
  refine lv_iconst (v := 1) hx hb dX10_compareOf_3 (by decide) ?_
  refine lv_iload_n hx hb dX10_compareOf_4 rfl (lv_at hl 0 rfl) ?_
  refine lv_iadd hx hb dX10_compareOf_5 ?_
  have rg_1 := i32_r i1
  refine lv_topi (fun x_2 ex_2 => ?_)
  have zx_2 : x_2.toInt = 1 + i1.toInt := by rw [ex_2]; exact i32_add (by decide) rfl (by omega) (by omega)
  refine lv_imul hx hb dX10_compareOf_6 ?_
  refine lv_topi (fun x_3 ex_3 => ?_)
  have zx_3 : x_3.toInt = 1000000 * x_2.toInt := by rw [ex_3]; exact i32_mul (by decide) rfl rfl (by omega) (by omega)
  refine lv_ldcw (v := 100000) hx hb hown (hts _ kw_1134) dX10_compareOf_7 ?_
  refine lv_iload_n hx hb dX10_compareOf_10 rfl (lv_at hl 1 rfl) ?_
  refine lv_imul hx hb dX10_compareOf_11 ?_
  refine lv_topi (fun x_4 ex_4 => ?_)
  have zx_4 : x_4.toInt = 100000 * i2.toInt := by rw [ex_4]; exact i32_mul (by decide) rfl rfl (by omega) (by omega)
  refine lv_iadd hx hb dX10_compareOf_12 ?_
  have rg_5 := i32_r x_3
  have rg_6 := i32_r x_4
  refine lv_topi (fun x_7 ex_7 => ?_)
  have zx_7 : x_7.toInt = x_3.toInt + x_4.toInt := by rw [ex_7]; exact i32_add rfl rfl (by omega) (by omega)
  refine lv_iload_n hx hb dX10_compareOf_13 rfl (lv_at hl 2 rfl) ?_
  refine lv_iadd hx hb dX10_compareOf_14 ?_
  have rg_8 := i32_r x_7
  have rg_9 := i32_r i3
  refine lv_topi (fun x_10 ex_10 => ?_)
  have zx_10 : x_10.toInt = x_7.toInt + i3.toInt := by rw [ex_10]; exact i32_add rfl rfl (by omega) (by omega)
  exact hx_reti hx hb hr hlk hW ⟨⟨(hx_okc_i (by omega) (by omega) (by omega)), by omega⟩, hT, hM⟩ dX10_compareOf_15

