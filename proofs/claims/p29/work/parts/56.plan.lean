
set_option maxHeartbeats 4000000 in
set_option maxRecDepth 100000 in
theorem t_X10_ruleOf_2 (l : Launch) (dC : Nat → ClassId) (dI : Nat → Nat → Nat) (dA : Nat → ClassId) (L : List Nat) (h : hx_h) (sz : Nat) (x : Nat) (i1 : Int32) (i2 : Int32) (hT : hx_T T_tb L h) (gx : hx_g L h x 10) (ql : Nat) (gql : hx_g L h ql 50) (f_x_3 : h.2.2 x 3 = some ql) (rf : Nat → Int32) (af_ql : h.2.1 ql = rf) (hi1 : 0 ≤ i1.toInt ∧ i1.toInt ≤ 8) (hi2 : 0 ≤ i2.toInt ∧ i2.toInt ≤ 12) : Met l yX10_ruleOf (Cond.code yX10_ruleOf cX10_ruleOf 3 (some .int) :: hx_all) ({ frames := 0, cells := 0, slots := 0, locals := 0 }) (va_Pc [.ref x, .int i1, .int i2] (hx_B T_tb (P_ty dA) (dC, dI) vwCl L h sz)) (va_Qi (fun (r : Int32) (u : List Nat × hx_h) => (0 ≤ r.toInt ∧ r.toInt ≤ 9999 ∧ r = rf (13 * i1.toInt.toNat + i2.toInt.toNat)) ∧ hx_T T_tb u.1 u.2 ∧ hx_S T_tb [] L h u.1 u.2) (hx_E T_tb (P_ty dA) (dC, dI) vwCl (hx_A L sz)) (hx_A L sz)) 0 0 (hx_A L sz) := by
  refine hx_met (lv := [(0, .ref x), (1, .int i1), (2, .int i2)]) (by decide +kernel) rfl (Nat.le_of_ble_eq_true rfl) rfl ?_
  intro p e s m below meth c hx hb hml hr hlk hts0 hown hin hsz hW ls hl
  have hts : ∀ w ∈ hx_all, w.before _ s = true := fun w hw => hts0 w (List.mem_cons_of_mem _ hw)
  have hown : s.vm.findClass "SmallCourtModel" = some m.cls := hown
  have hM : hx_S T_tb [] L h L h := hx_S.rf
  refine lv_aload_n hx hb dX10_ruleOf_0 rfl (lv_at hl 0 rfl) ?_
  refine hk_getr hx hb hts hC_10 hown hW (gx.S hM) tt_10 3 (by decide) rfl kw_1146 ⟨rfl, rfl, rfl⟩ ((hM.o gx trivial rfl).2.trans f_x_3) dX10_ruleOf_1 ?_
  refine lv_bipush (v := 13) hx hb dX10_ruleOf_4 (by decide) ?_
  refine lv_iload_n hx hb dX10_ruleOf_6 rfl (lv_at hl 1 rfl) ?_
  refine lv_imul hx hb dX10_ruleOf_7 ?_
  refine lv_topi (fun x_1 ex_1 => ?_)
  have zx_1 : x_1.toInt = 13 * i1.toInt := by rw [ex_1]; exact i32_mul (by decide) rfl rfl (by omega) (by omega)
  refine lv_iload_n hx hb dX10_ruleOf_8 rfl (lv_at hl 2 rfl) ?_
  refine lv_iadd hx hb dX10_ruleOf_9 ?_
  have rg_2 := i32_r x_1
  have rg_3 := i32_r i2
  refine lv_topi (fun x_4 ex_4 => ?_)
  have zx_4 : x_4.toInt = x_1.toInt + i2.toInt := by rw [ex_4]; exact i32_add rfl rfl (by omega) (by omega)
  refine hx_iald hx hb hW hT (gql.S hM) tt_50 rfl ⟨by omega, by omega⟩ dX10_ruleOf_10 (fun x_5 ex_5 lx_5 ux_5 => ?_)
  have ax_5 : x_5 = rf x_4.toNatClampNeg := ex_5.trans (congrFun (hx_afS hM gql rfl af_ql) _)
  exact hx_reti hx hb hr hlk hW ⟨⟨by omega, by omega, ax_5.trans (congrArg rf (by unfold Int32.toNatClampNeg; omega))⟩, hT, hM⟩ dX10_ruleOf_11

theorem dX10_weeksOf_0 : decode cX10_weeksOf 0 = .ok (.aload_n 0, 1) := by decide +kernel
theorem dX10_weeksOf_1 : decode cX10_weeksOf 1 = .ok (.getfield 177, 3) := by decide +kernel
theorem dX10_weeksOf_4 : decode cX10_weeksOf 4 = .ok (.iload_n 1, 1) := by decide +kernel
theorem dX10_weeksOf_5 : decode cX10_weeksOf 5 = .ok (.iaload, 1) := by decide +kernel
theorem dX10_weeksOf_6 : decode cX10_weeksOf 6 = .ok (.iload_n 2, 1) := by decide +kernel
theorem dX10_weeksOf_7 : decode cX10_weeksOf 7 = .ok (.iload_n 3, 1) := by decide +kernel
theorem dX10_weeksOf_8 : decode cX10_weeksOf 8 = .ok (.imul, 1) := by decide +kernel
theorem dX10_weeksOf_9 : decode cX10_weeksOf 9 = .ok (.iadd, 1) := by decide +kernel
theorem dX10_weeksOf_10 : decode cX10_weeksOf 10 = .ok (.istore 4, 2) := by decide +kernel
theorem dX10_weeksOf_12 : decode cX10_weeksOf 12 = .ok (.aload_n 0, 1) := by decide +kernel
theorem dX10_weeksOf_13 : decode cX10_weeksOf 13 = .ok (.getfield 174, 3) := by decide +kernel
theorem dX10_weeksOf_16 : decode cX10_weeksOf 16 = .ok (.iload_n 1, 1) := by decide +kernel
theorem dX10_weeksOf_17 : decode cX10_weeksOf 17 = .ok (.iaload, 1) := by decide +kernel
theorem dX10_weeksOf_18 : decode cX10_weeksOf 18 = .ok (.iload 4, 2) := by decide +kernel
theorem dX10_weeksOf_20 : decode cX10_weeksOf 20 = .ok (.iadd, 1) := by decide +kernel
theorem dX10_weeksOf_21 : decode cX10_weeksOf 21 = .ok (.iconst 1, 1) := by decide +kernel
theorem dX10_weeksOf_22 : decode cX10_weeksOf 22 = .ok (.isub, 1) := by decide +kernel
theorem dX10_weeksOf_23 : decode cX10_weeksOf 23 = .ok (.iload 4, 2) := by decide +kernel
theorem dX10_weeksOf_25 : decode cX10_weeksOf 25 = .ok (.idiv, 1) := by decide +kernel
theorem dX10_weeksOf_26 : decode cX10_weeksOf 26 = .ok (.ireturn, 1) := by decide +kernel
set_option maxHeartbeats 4000000 in
set_option maxRecDepth 100000 in
theorem t_X10_weeksOf (l : Launch) (dC : Nat → ClassId) (dI : Nat → Nat → Nat) (dA : Nat → ClassId) (L : List Nat) (h : hx_h) (sz : Nat) (x : Nat) (i1 : Int32) (i2 : Int32) (i3 : Int32) (hT : hx_T T_tb L h) (gx : hx_g L h x 10) (f0 : Int32) (f_x_75 : h.2.1 x 75 = f0) (hi1 : 0 ≤ i1.toInt ∧ i1.toInt < f0.toInt) (hi2 : 0 ≤ i2.toInt ∧ i2.toInt ≤ 12) (hi3 : 1 ≤ i3.toInt ∧ i3.toInt ≤ 99) (qf : Nat) (gqf : hx_g L h qf 104) (f_x_78 : h.2.2 x 78 = some qf) (pi_x_75 : ∀ j : Nat, (j : Int) < (h.2.1 x 75).toInt → 1 ≤ (h.2.1 qf j).toInt) : Met l yX10_weeksOf (Cond.code yX10_weeksOf cX10_weeksOf 5 (some .int) :: hx_all) ({ frames := 0, cells := 0, slots := 0, locals := 0 }) (va_Pc [.ref x, .int i1, .int i2, .int i3] (hx_B T_tb (P_ty dA) (dC, dI) vwCl L h sz)) (va_Qi (fun (r : Int32) (u : List Nat × hx_h) => (True) ∧ hx_T T_tb u.1 u.2 ∧ hx_S T_tb [] L h u.1 u.2) (hx_E T_tb (P_ty dA) (dC, dI) vwCl (hx_A L sz)) (hx_A L sz)) 0 0 (hx_A L sz) := by
  refine hx_met (lv := [(0, .ref x), (1, .int i1), (2, .int i2), (3, .int i3)]) (by decide +kernel) rfl (Nat.le_of_ble_eq_true rfl) rfl ?_
  intro p e s m below meth c hx hb hml hr hlk hts0 hown hin hsz hW ls hl
  have hts : ∀ w ∈ hx_all, w.before _ s = true := fun w hw => hts0 w (List.mem_cons_of_mem _ hw)
  have hown : s.vm.findClass "SmallCourtModel" = some m.cls := hown
  have hM : hx_S T_tb [] L h L h := hx_S.rf
  have b_f0 := hT.gi gx tt_10 (k := 75) rfl
  rw [f_x_75] at b_f0
  have b_f0 : 0 ≤ f0.toInt ∧ f0.toInt ≤ 4 := b_f0
  refine lv_aload_n hx hb dX10_weeksOf_0 rfl (lv_at hl 0 rfl) ?_
  refine hk_getr hx hb hts hC_10 hown hW (gx.S hM) tt_10 78 (by decide) rfl kw_1221 ⟨rfl, rfl, rfl⟩ ((hM.o gx trivial rfl).2.trans f_x_78) dX10_weeksOf_1 ?_
  refine lv_iload_n hx hb dX10_weeksOf_4 rfl (lv_at hl 1 rfl) ?_
  refine hx_iald hx hb hW hT (gqf.S hM) tt_104 rfl ⟨by omega, by omega⟩ dX10_weeksOf_5 (fun x_1 ex_1 lx_1 ux_1 => ?_)
  have px_1 : 1 ≤ x_1.toInt := by rw [ex_1]; exact pi_x_75 _ (by rw [((hM.o gx trivial rfl).1.trans f_x_75)]; exact hx_tnI (by omega) (by omega))
  refine lv_iload_n hx hb dX10_weeksOf_6 rfl (lv_at hl 2 rfl) ?_
  refine lv_iload_n hx hb dX10_weeksOf_7 rfl (lv_at hl 3 rfl) ?_
  refine lv_imul hx hb dX10_weeksOf_8 ?_
  refine lv_topi (fun x_2 ex_2 => ?_)
  have zx_2 : 0 ≤ x_2.toInt ∧ x_2.toInt ≤ 1188 := by rw [ex_2]; exact hx_mulb (A := 12) (B := 99) (by omega) (by omega) (by omega) (by omega) (by decide)
  refine lv_iadd hx hb dX10_weeksOf_9 ?_
  have rg_3 := i32_r x_1
  have rg_4 := i32_r x_2
  refine lv_topi (fun x_5 ex_5 => ?_)
  have zx_5 : x_5.toInt = x_1.toInt + x_2.toInt := by rw [ex_5]; exact i32_add rfl rfl (by omega) (by omega)
  refine lv_istore (lv' := [(4, .int x_5), (0, .ref x), (1, .int i1), (2, .int i2), (3, .int i3)]) hx hb dX10_weeksOf_10 hl (by decide) rfl (fun ls hl => ?_)
  refine lv_aload_n hx hb dX10_weeksOf_12 rfl (lv_at hl 1 rfl) ?_
  refine hx_getn hx hb hts hC_10 hown hW hT (gx.S hM) tt_10 77 (by decide) rfl kw_1220 ⟨rfl, rfl, rfl⟩ dX10_weeksOf_13 (fun q_6 fq_6 gq_6 => ?_)
  refine lv_iload_n hx hb dX10_weeksOf_16 rfl (lv_at hl 2 rfl) ?_
  refine hx_iald hx hb hW hT gq_6 tt_103 rfl ⟨by omega, by omega⟩ dX10_weeksOf_17 (fun x_7 ex_7 lx_7 ux_7 => ?_)
  refine lv_iload hx hb dX10_weeksOf_18 (lv_at hl 0 rfl) ?_
  refine lv_iadd hx hb dX10_weeksOf_20 ?_
  have rg_8 := i32_r x_7
  have rg_9 := i32_r x_5
  refine lv_topi (fun x_10 ex_10 => ?_)
  refine lv_iconst (v := 1) hx hb dX10_weeksOf_21 (by decide) ?_
  refine lv_isub hx hb dX10_weeksOf_22 ?_
  have rg_11 := i32_r x_10
  refine lv_topi (fun x_12 ex_12 => ?_)
  refine lv_iload hx hb dX10_weeksOf_23 (lv_at hl 0 rfl) ?_
  refine lv_idiv hx hb dX10_weeksOf_25 (hx_ne0 (by omega)) ?_
  refine lv_topi (fun x_13 ex_13 => ?_)
  exact hx_reti hx hb hr hlk hW ⟨trivial, hT, hM⟩ dX10_weeksOf_26

def wLX10_plan_0 : List Nat := [42, 27, 182, 1, 92, 153, 0, 13, 28, 4, 16, 99, 184, 0, 228, 154, 0, 5, 2, 172, 42, 3, 181, 1, 172, 3, 62, 29, 42, 180, 1, 111, 162, 0, 123, 42, 180, 0, 84, 29, 46, 27, 160, 0, 107, 42, 29, 182, 1, 163, 154, 0, 6, 167, 0, 96, 42, 180, 1, 172, 7, 160, 0, 5]
def wLX10_plan_1 : List Nat := [2, 172, 42, 42, 180, 0, 102, 29, 46, 5, 182, 1, 77, 54, 4, 42, 180, 0, 171, 42, 180, 1, 172, 29, 79, 42, 180, 0, 174, 42, 180, 1, 172, 42, 180, 1, 145, 79, 42, 180, 0, 177, 42, 180, 1, 172, 21, 4, 42, 180, 1, 145, 162, 0, 8, 21, 4, 167, 0, 7, 42, 180, 1, 145]
def wLX10_plan_2 : List Nat := [79, 42, 180, 0, 180, 42, 180, 1, 172, 3, 79, 42, 89, 180, 1, 172, 4, 96, 181, 1, 172, 132, 3, 1, 167, 255, 131, 42, 27, 42, 42, 180, 0, 232, 182, 1, 74, 182, 1, 166, 62, 42, 180, 1, 172, 154, 0, 7, 3, 167, 0, 6, 19, 1, 175, 54, 4, 19, 1, 175, 54, 5, 42, 180]
def wLX10_plan_3 : List Nat := [1, 172, 158, 0, 7, 4, 167, 0, 4, 3, 54, 6, 21, 6, 153, 0, 228, 3, 54, 7, 3, 54, 8, 3, 54, 9, 3, 54, 10, 21, 10, 42, 180, 1, 172, 162, 0, 70, 42, 21, 10, 42, 180, 0, 180, 21, 10, 46, 28, 182, 1, 176, 54, 11, 21, 7, 42, 180, 0, 177, 21, 10, 46, 42]
def wLX10_plan_4 : List Nat := [180, 0, 180, 21, 10, 46, 28, 104, 96, 96, 54, 7, 21, 11, 21, 8, 164, 0, 8, 21, 11, 167, 0, 5, 21, 8, 54, 8, 21, 9, 21, 11, 96, 54, 9, 132, 10, 1, 167, 255, 183, 21, 7, 29, 163, 0, 64, 21, 8, 21, 4, 161, 0, 17, 21, 8, 21, 4, 160, 0, 50, 21, 9, 21]
def wLX10_plan_5 : List Nat := [5, 162, 0, 43, 21, 8, 54, 4, 21, 9, 54, 5, 3, 54, 10, 21, 10, 42, 180, 1, 172, 162, 0, 23, 42, 180, 0, 183, 21, 10, 42, 180, 0, 180, 21, 10, 46, 79, 132, 10, 1, 167, 255, 230, 42, 180, 1, 172, 4, 100, 54, 10, 21, 10, 155, 0, 29, 42, 180, 0, 180, 21, 10, 46]
def wLX10_plan_6 : List Nat := [16, 12, 160, 0, 17, 42, 180, 0, 180, 21, 10, 3, 79, 132, 10, 255, 167, 255, 228, 21, 10, 155, 0, 7, 4, 167, 0, 4, 3, 54, 6, 21, 6, 153, 0, 14, 42, 180, 0, 180, 21, 10, 92, 46, 4, 96, 79, 167, 255, 29, 21, 4, 19, 1, 175, 160, 0, 6, 16, 254, 172, 42, 42, 180]
def wLX10_plan_7 : List Nat := [1, 172, 181, 1, 179, 3, 54, 7, 21, 7, 42, 180, 1, 172, 162, 0, 68, 42, 180, 0, 165, 21, 7, 42, 180, 0, 171, 21, 7, 46, 79, 42, 180, 0, 168, 21, 7, 42, 180, 0, 177, 21, 7, 46, 42, 180, 0, 183, 21, 7, 46, 28, 104, 96, 79, 42, 180, 0, 186, 21, 7, 42, 21, 7]
def wLX10_plan_8 : List Nat := [42, 180, 0, 183, 21, 7, 46, 28, 182, 1, 176, 79, 132, 7, 1, 167, 255, 185, 21, 4, 172]
theorem wX10_plan_0 : (cX10_plan.data.toList.map UInt8.toNat).drop 0 = wLX10_plan_0 ++ (wLX10_plan_1 ++ (wLX10_plan_2 ++ (wLX10_plan_3 ++ (wLX10_plan_4 ++ (wLX10_plan_5 ++ (wLX10_plan_6 ++ (wLX10_plan_7 ++ (wLX10_plan_8 ++ ([]))))))))) := by decide +kernel
theorem wX10_plan_1 : (cX10_plan.data.toList.map UInt8.toNat).drop 64 = wLX10_plan_1 ++ (wLX10_plan_2 ++ (wLX10_plan_3 ++ (wLX10_plan_4 ++ (wLX10_plan_5 ++ (wLX10_plan_6 ++ (wLX10_plan_7 ++ (wLX10_plan_8 ++ ([])))))))) := hz_wn wX10_plan_0 rfl
theorem wX10_plan_2 : (cX10_plan.data.toList.map UInt8.toNat).drop 128 = wLX10_plan_2 ++ (wLX10_plan_3 ++ (wLX10_plan_4 ++ (wLX10_plan_5 ++ (wLX10_plan_6 ++ (wLX10_plan_7 ++ (wLX10_plan_8 ++ ([]))))))) := hz_wn wX10_plan_1 rfl
theorem wX10_plan_3 : (cX10_plan.data.toList.map UInt8.toNat).drop 192 = wLX10_plan_3 ++ (wLX10_plan_4 ++ (wLX10_plan_5 ++ (wLX10_plan_6 ++ (wLX10_plan_7 ++ (wLX10_plan_8 ++ ([])))))) := hz_wn wX10_plan_2 rfl
theorem wX10_plan_4 : (cX10_plan.data.toList.map UInt8.toNat).drop 256 = wLX10_plan_4 ++ (wLX10_plan_5 ++ (wLX10_plan_6 ++ (wLX10_plan_7 ++ (wLX10_plan_8 ++ ([]))))) := hz_wn wX10_plan_3 rfl
theorem wX10_plan_5 : (cX10_plan.data.toList.map UInt8.toNat).drop 320 = wLX10_plan_5 ++ (wLX10_plan_6 ++ (wLX10_plan_7 ++ (wLX10_plan_8 ++ ([])))) := hz_wn wX10_plan_4 rfl
theorem wX10_plan_6 : (cX10_plan.data.toList.map UInt8.toNat).drop 384 = wLX10_plan_6 ++ (wLX10_plan_7 ++ (wLX10_plan_8 ++ ([]))) := hz_wn wX10_plan_5 rfl
theorem wX10_plan_7 : (cX10_plan.data.toList.map UInt8.toNat).drop 448 = wLX10_plan_7 ++ (wLX10_plan_8 ++ ([])) := hz_wn wX10_plan_6 rfl
theorem wX10_plan_8 : (cX10_plan.data.toList.map UInt8.toNat).drop 512 = wLX10_plan_8 ++ ([]) := hz_wn wX10_plan_7 rfl
theorem dX10_plan_0 : decode cX10_plan 0 = .ok (.aload_n 0, 1) := dq_42 (hz_wg wX10_plan_0 (j := 0) (n := 42) rfl)
theorem dX10_plan_1 : decode cX10_plan 1 = .ok (.iload_n 1, 1) := dq_27 (hz_wg wX10_plan_0 (j := 1) (n := 27) rfl)
theorem dX10_plan_2 : decode cX10_plan 2 = .ok (.invokevirtual 348, 3) := dq_182 (hz_wg wX10_plan_0 (j := 2) (n := 182) rfl) (hz_wg wX10_plan_0 (j := 3) (n := 1) rfl) (hz_wg wX10_plan_0 (j := 4) (n := 92) rfl) rfl
theorem dX10_plan_5 : decode cX10_plan 5 = .ok (.ifCond .eq 13, 3) := dq_153 (hz_wg wX10_plan_0 (j := 5) (n := 153) rfl) (hz_wg wX10_plan_0 (j := 6) (n := 0) rfl) (hz_wg wX10_plan_0 (j := 7) (n := 13) rfl) (by decide)
theorem dX10_plan_8 : decode cX10_plan 8 = .ok (.iload_n 2, 1) := dq_28 (hz_wg wX10_plan_0 (j := 8) (n := 28) rfl)
theorem dX10_plan_9 : decode cX10_plan 9 = .ok (.iconst 1, 1) := dq_4 (hz_wg wX10_plan_0 (j := 9) (n := 4) rfl)
theorem dX10_plan_10 : decode cX10_plan 10 = .ok (.bipush 99, 2) := dq_16 (hz_wg wX10_plan_0 (j := 10) (n := 16) rfl) (hz_wg wX10_plan_0 (j := 11) (n := 99) rfl) (by decide)
theorem dX10_plan_12 : decode cX10_plan 12 = .ok (.invokestatic 228, 3) := dq_184 (hz_wg wX10_plan_0 (j := 12) (n := 184) rfl) (hz_wg wX10_plan_0 (j := 13) (n := 0) rfl) (hz_wg wX10_plan_0 (j := 14) (n := 228) rfl) rfl
theorem dX10_plan_15 : decode cX10_plan 15 = .ok (.ifCond .ne 5, 3) := dq_154 (hz_wg wX10_plan_0 (j := 15) (n := 154) rfl) (hz_wg wX10_plan_0 (j := 16) (n := 0) rfl) (hz_wg wX10_plan_0 (j := 17) (n := 5) rfl) (by decide)
theorem dX10_plan_18 : decode cX10_plan 18 = .ok (.iconst (-1), 1) := dq_2 (hz_wg wX10_plan_0 (j := 18) (n := 2) rfl)
theorem dX10_plan_19 : decode cX10_plan 19 = .ok (.ireturn, 1) := dq_172 (hz_wg wX10_plan_0 (j := 19) (n := 172) rfl)
theorem dX10_plan_20 : decode cX10_plan 20 = .ok (.aload_n 0, 1) := dq_42 (hz_wg wX10_plan_0 (j := 20) (n := 42) rfl)
theorem dX10_plan_21 : decode cX10_plan 21 = .ok (.iconst 0, 1) := dq_3 (hz_wg wX10_plan_0 (j := 21) (n := 3) rfl)
theorem dX10_plan_22 : decode cX10_plan 22 = .ok (.putfield 428, 3) := dq_181 (hz_wg wX10_plan_0 (j := 22) (n := 181) rfl) (hz_wg wX10_plan_0 (j := 23) (n := 1) rfl) (hz_wg wX10_plan_0 (j := 24) (n := 172) rfl) rfl
theorem dX10_plan_25 : decode cX10_plan 25 = .ok (.iconst 0, 1) := dq_3 (hz_wg wX10_plan_0 (j := 25) (n := 3) rfl)
theorem dX10_plan_26 : decode cX10_plan 26 = .ok (.istore_n 3, 1) := dq_62 (hz_wg wX10_plan_0 (j := 26) (n := 62) rfl)
theorem dX10_plan_27 : decode cX10_plan 27 = .ok (.iload_n 3, 1) := dq_29 (hz_wg wX10_plan_0 (j := 27) (n := 29) rfl)
theorem dX10_plan_28 : decode cX10_plan 28 = .ok (.aload_n 0, 1) := dq_42 (hz_wg wX10_plan_0 (j := 28) (n := 42) rfl)
theorem dX10_plan_29 : decode cX10_plan 29 = .ok (.getfield 367, 3) := dq_180 (hz_wg wX10_plan_0 (j := 29) (n := 180) rfl) (hz_wg wX10_plan_0 (j := 30) (n := 1) rfl) (hz_wg wX10_plan_0 (j := 31) (n := 111) rfl) rfl
theorem dX10_plan_32 : decode cX10_plan 32 = .ok (.if_icmp .ge 123, 3) := dq_162 (hz_wg wX10_plan_0 (j := 32) (n := 162) rfl) (hz_wg wX10_plan_0 (j := 33) (n := 0) rfl) (hz_wg wX10_plan_0 (j := 34) (n := 123) rfl) (by decide)
theorem dX10_plan_35 : decode cX10_plan 35 = .ok (.aload_n 0, 1) := dq_42 (hz_wg wX10_plan_0 (j := 35) (n := 42) rfl)
theorem dX10_plan_36 : decode cX10_plan 36 = .ok (.getfield 84, 3) := dq_180 (hz_wg wX10_plan_0 (j := 36) (n := 180) rfl) (hz_wg wX10_plan_0 (j := 37) (n := 0) rfl) (hz_wg wX10_plan_0 (j := 38) (n := 84) rfl) rfl
theorem dX10_plan_39 : decode cX10_plan 39 = .ok (.iload_n 3, 1) := dq_29 (hz_wg wX10_plan_0 (j := 39) (n := 29) rfl)
theorem dX10_plan_40 : decode cX10_plan 40 = .ok (.iaload, 1) := dq_46 (hz_wg wX10_plan_0 (j := 40) (n := 46) rfl)
theorem dX10_plan_41 : decode cX10_plan 41 = .ok (.iload_n 1, 1) := dq_27 (hz_wg wX10_plan_0 (j := 41) (n := 27) rfl)
theorem dX10_plan_42 : decode cX10_plan 42 = .ok (.if_icmp .ne 107, 3) := dq_160 (hz_wg wX10_plan_0 (j := 42) (n := 160) rfl) (hz_wg wX10_plan_0 (j := 43) (n := 0) rfl) (hz_wg wX10_plan_0 (j := 44) (n := 107) rfl) (by decide)
theorem dX10_plan_45 : decode cX10_plan 45 = .ok (.aload_n 0, 1) := dq_42 (hz_wg wX10_plan_0 (j := 45) (n := 42) rfl)
theorem dX10_plan_46 : decode cX10_plan 46 = .ok (.iload_n 3, 1) := dq_29 (hz_wg wX10_plan_0 (j := 46) (n := 29) rfl)
theorem dX10_plan_47 : decode cX10_plan 47 = .ok (.invokevirtual 419, 3) := dq_182 (hz_wg wX10_plan_0 (j := 47) (n := 182) rfl) (hz_wg wX10_plan_0 (j := 48) (n := 1) rfl) (hz_wg wX10_plan_0 (j := 49) (n := 163) rfl) rfl
theorem dX10_plan_50 : decode cX10_plan 50 = .ok (.ifCond .ne 6, 3) := dq_154 (hz_wg wX10_plan_0 (j := 50) (n := 154) rfl) (hz_wg wX10_plan_0 (j := 51) (n := 0) rfl) (hz_wg wX10_plan_0 (j := 52) (n := 6) rfl) (by decide)
theorem dX10_plan_53 : decode cX10_plan 53 = .ok (.goto 96, 3) := dq_167 (hz_wg wX10_plan_0 (j := 53) (n := 167) rfl) (hz_wg wX10_plan_0 (j := 54) (n := 0) rfl) (hz_wg wX10_plan_0 (j := 55) (n := 96) rfl) (by decide)
theorem dX10_plan_56 : decode cX10_plan 56 = .ok (.aload_n 0, 1) := dq_42 (hz_wg wX10_plan_0 (j := 56) (n := 42) rfl)
theorem dX10_plan_57 : decode cX10_plan 57 = .ok (.getfield 428, 3) := dq_180 (hz_wg wX10_plan_0 (j := 57) (n := 180) rfl) (hz_wg wX10_plan_0 (j := 58) (n := 1) rfl) (hz_wg wX10_plan_0 (j := 59) (n := 172) rfl) rfl
theorem dX10_plan_60 : decode cX10_plan 60 = .ok (.iconst 4, 1) := dq_7 (hz_wg wX10_plan_0 (j := 60) (n := 7) rfl)
theorem dX10_plan_61 : decode cX10_plan 61 = .ok (.if_icmp .ne 5, 3) := dq_160 (hz_wg wX10_plan_0 (j := 61) (n := 160) rfl) (hz_wg wX10_plan_0 (j := 62) (n := 0) rfl) (hz_wg wX10_plan_0 (j := 63) (n := 5) rfl) (by decide)
theorem dX10_plan_64 : decode cX10_plan 64 = .ok (.iconst (-1), 1) := dq_2 (hz_wg wX10_plan_1 (j := 0) (n := 2) rfl)
theorem dX10_plan_65 : decode cX10_plan 65 = .ok (.ireturn, 1) := dq_172 (hz_wg wX10_plan_1 (j := 1) (n := 172) rfl)
theorem dX10_plan_66 : decode cX10_plan 66 = .ok (.aload_n 0, 1) := dq_42 (hz_wg wX10_plan_1 (j := 2) (n := 42) rfl)
theorem dX10_plan_67 : decode cX10_plan 67 = .ok (.aload_n 0, 1) := dq_42 (hz_wg wX10_plan_1 (j := 3) (n := 42) rfl)
theorem dX10_plan_68 : decode cX10_plan 68 = .ok (.getfield 102, 3) := dq_180 (hz_wg wX10_plan_1 (j := 4) (n := 180) rfl) (hz_wg wX10_plan_1 (j := 5) (n := 0) rfl) (hz_wg wX10_plan_1 (j := 6) (n := 102) rfl) rfl
theorem dX10_plan_71 : decode cX10_plan 71 = .ok (.iload_n 3, 1) := dq_29 (hz_wg wX10_plan_1 (j := 7) (n := 29) rfl)
theorem dX10_plan_72 : decode cX10_plan 72 = .ok (.iaload, 1) := dq_46 (hz_wg wX10_plan_1 (j := 8) (n := 46) rfl)
theorem dX10_plan_73 : decode cX10_plan 73 = .ok (.iconst 2, 1) := dq_5 (hz_wg wX10_plan_1 (j := 9) (n := 5) rfl)
theorem dX10_plan_74 : decode cX10_plan 74 = .ok (.invokevirtual 333, 3) := dq_182 (hz_wg wX10_plan_1 (j := 10) (n := 182) rfl) (hz_wg wX10_plan_1 (j := 11) (n := 1) rfl) (hz_wg wX10_plan_1 (j := 12) (n := 77) rfl) rfl
theorem dX10_plan_77 : decode cX10_plan 77 = .ok (.istore 4, 2) := dq_54 (hz_wg wX10_plan_1 (j := 13) (n := 54) rfl) (hz_wg wX10_plan_1 (j := 14) (n := 4) rfl)
theorem dX10_plan_79 : decode cX10_plan 79 = .ok (.aload_n 0, 1) := dq_42 (hz_wg wX10_plan_1 (j := 15) (n := 42) rfl)
theorem dX10_plan_80 : decode cX10_plan 80 = .ok (.getfield 171, 3) := dq_180 (hz_wg wX10_plan_1 (j := 16) (n := 180) rfl) (hz_wg wX10_plan_1 (j := 17) (n := 0) rfl) (hz_wg wX10_plan_1 (j := 18) (n := 171) rfl) rfl
theorem dX10_plan_83 : decode cX10_plan 83 = .ok (.aload_n 0, 1) := dq_42 (hz_wg wX10_plan_1 (j := 19) (n := 42) rfl)
theorem dX10_plan_84 : decode cX10_plan 84 = .ok (.getfield 428, 3) := dq_180 (hz_wg wX10_plan_1 (j := 20) (n := 180) rfl) (hz_wg wX10_plan_1 (j := 21) (n := 1) rfl) (hz_wg wX10_plan_1 (j := 22) (n := 172) rfl) rfl
theorem dX10_plan_87 : decode cX10_plan 87 = .ok (.iload_n 3, 1) := dq_29 (hz_wg wX10_plan_1 (j := 23) (n := 29) rfl)
theorem dX10_plan_88 : decode cX10_plan 88 = .ok (.iastore, 1) := dq_79 (hz_wg wX10_plan_1 (j := 24) (n := 79) rfl)
theorem dX10_plan_89 : decode cX10_plan 89 = .ok (.aload_n 0, 1) := dq_42 (hz_wg wX10_plan_1 (j := 25) (n := 42) rfl)
theorem dX10_plan_90 : decode cX10_plan 90 = .ok (.getfield 174, 3) := dq_180 (hz_wg wX10_plan_1 (j := 26) (n := 180) rfl) (hz_wg wX10_plan_1 (j := 27) (n := 0) rfl) (hz_wg wX10_plan_1 (j := 28) (n := 174) rfl) rfl
theorem dX10_plan_93 : decode cX10_plan 93 = .ok (.aload_n 0, 1) := dq_42 (hz_wg wX10_plan_1 (j := 29) (n := 42) rfl)
theorem dX10_plan_94 : decode cX10_plan 94 = .ok (.getfield 428, 3) := dq_180 (hz_wg wX10_plan_1 (j := 30) (n := 180) rfl) (hz_wg wX10_plan_1 (j := 31) (n := 1) rfl) (hz_wg wX10_plan_1 (j := 32) (n := 172) rfl) rfl
theorem dX10_plan_97 : decode cX10_plan 97 = .ok (.aload_n 0, 1) := dq_42 (hz_wg wX10_plan_1 (j := 33) (n := 42) rfl)
theorem dX10_plan_98 : decode cX10_plan 98 = .ok (.getfield 401, 3) := dq_180 (hz_wg wX10_plan_1 (j := 34) (n := 180) rfl) (hz_wg wX10_plan_1 (j := 35) (n := 1) rfl) (hz_wg wX10_plan_1 (j := 36) (n := 145) rfl) rfl
theorem dX10_plan_101 : decode cX10_plan 101 = .ok (.iastore, 1) := dq_79 (hz_wg wX10_plan_1 (j := 37) (n := 79) rfl)
theorem dX10_plan_102 : decode cX10_plan 102 = .ok (.aload_n 0, 1) := dq_42 (hz_wg wX10_plan_1 (j := 38) (n := 42) rfl)
theorem dX10_plan_103 : decode cX10_plan 103 = .ok (.getfield 177, 3) := dq_180 (hz_wg wX10_plan_1 (j := 39) (n := 180) rfl) (hz_wg wX10_plan_1 (j := 40) (n := 0) rfl) (hz_wg wX10_plan_1 (j := 41) (n := 177) rfl) rfl
theorem dX10_plan_106 : decode cX10_plan 106 = .ok (.aload_n 0, 1) := dq_42 (hz_wg wX10_plan_1 (j := 42) (n := 42) rfl)
theorem dX10_plan_107 : decode cX10_plan 107 = .ok (.getfield 428, 3) := dq_180 (hz_wg wX10_plan_1 (j := 43) (n := 180) rfl) (hz_wg wX10_plan_1 (j := 44) (n := 1) rfl) (hz_wg wX10_plan_1 (j := 45) (n := 172) rfl) rfl
theorem dX10_plan_110 : decode cX10_plan 110 = .ok (.iload 4, 2) := dq_21 (hz_wg wX10_plan_1 (j := 46) (n := 21) rfl) (hz_wg wX10_plan_1 (j := 47) (n := 4) rfl)
theorem dX10_plan_112 : decode cX10_plan 112 = .ok (.aload_n 0, 1) := dq_42 (hz_wg wX10_plan_1 (j := 48) (n := 42) rfl)
theorem dX10_plan_113 : decode cX10_plan 113 = .ok (.getfield 401, 3) := dq_180 (hz_wg wX10_plan_1 (j := 49) (n := 180) rfl) (hz_wg wX10_plan_1 (j := 50) (n := 1) rfl) (hz_wg wX10_plan_1 (j := 51) (n := 145) rfl) rfl
theorem dX10_plan_116 : decode cX10_plan 116 = .ok (.if_icmp .ge 8, 3) := dq_162 (hz_wg wX10_plan_1 (j := 52) (n := 162) rfl) (hz_wg wX10_plan_1 (j := 53) (n := 0) rfl) (hz_wg wX10_plan_1 (j := 54) (n := 8) rfl) (by decide)
theorem dX10_plan_119 : decode cX10_plan 119 = .ok (.iload 4, 2) := dq_21 (hz_wg wX10_plan_1 (j := 55) (n := 21) rfl) (hz_wg wX10_plan_1 (j := 56) (n := 4) rfl)
theorem dX10_plan_121 : decode cX10_plan 121 = .ok (.goto 7, 3) := dq_167 (hz_wg wX10_plan_1 (j := 57) (n := 167) rfl) (hz_wg wX10_plan_1 (j := 58) (n := 0) rfl) (hz_wg wX10_plan_1 (j := 59) (n := 7) rfl) (by decide)
theorem dX10_plan_124 : decode cX10_plan 124 = .ok (.aload_n 0, 1) := dq_42 (hz_wg wX10_plan_1 (j := 60) (n := 42) rfl)
theorem dX10_plan_125 : decode cX10_plan 125 = .ok (.getfield 401, 3) := dq_180 (hz_wg wX10_plan_1 (j := 61) (n := 180) rfl) (hz_wg wX10_plan_1 (j := 62) (n := 1) rfl) (hz_wg wX10_plan_1 (j := 63) (n := 145) rfl) rfl
theorem dX10_plan_128 : decode cX10_plan 128 = .ok (.iastore, 1) := dq_79 (hz_wg wX10_plan_2 (j := 0) (n := 79) rfl)
theorem dX10_plan_129 : decode cX10_plan 129 = .ok (.aload_n 0, 1) := dq_42 (hz_wg wX10_plan_2 (j := 1) (n := 42) rfl)
theorem dX10_plan_130 : decode cX10_plan 130 = .ok (.getfield 180, 3) := dq_180 (hz_wg wX10_plan_2 (j := 2) (n := 180) rfl) (hz_wg wX10_plan_2 (j := 3) (n := 0) rfl) (hz_wg wX10_plan_2 (j := 4) (n := 180) rfl) rfl
theorem dX10_plan_133 : decode cX10_plan 133 = .ok (.aload_n 0, 1) := dq_42 (hz_wg wX10_plan_2 (j := 5) (n := 42) rfl)
theorem dX10_plan_134 : decode cX10_plan 134 = .ok (.getfield 428, 3) := dq_180 (hz_wg wX10_plan_2 (j := 6) (n := 180) rfl) (hz_wg wX10_plan_2 (j := 7) (n := 1) rfl) (hz_wg wX10_plan_2 (j := 8) (n := 172) rfl) rfl
theorem dX10_plan_137 : decode cX10_plan 137 = .ok (.iconst 0, 1) := dq_3 (hz_wg wX10_plan_2 (j := 9) (n := 3) rfl)
theorem dX10_plan_138 : decode cX10_plan 138 = .ok (.iastore, 1) := dq_79 (hz_wg wX10_plan_2 (j := 10) (n := 79) rfl)
theorem dX10_plan_139 : decode cX10_plan 139 = .ok (.aload_n 0, 1) := dq_42 (hz_wg wX10_plan_2 (j := 11) (n := 42) rfl)
theorem dX10_plan_140 : decode cX10_plan 140 = .ok (.dup, 1) := dq_89 (hz_wg wX10_plan_2 (j := 12) (n := 89) rfl)
theorem dX10_plan_141 : decode cX10_plan 141 = .ok (.getfield 428, 3) := dq_180 (hz_wg wX10_plan_2 (j := 13) (n := 180) rfl) (hz_wg wX10_plan_2 (j := 14) (n := 1) rfl) (hz_wg wX10_plan_2 (j := 15) (n := 172) rfl) rfl
theorem dX10_plan_144 : decode cX10_plan 144 = .ok (.iconst 1, 1) := dq_4 (hz_wg wX10_plan_2 (j := 16) (n := 4) rfl)
theorem dX10_plan_145 : decode cX10_plan 145 = .ok (.iadd, 1) := dq_96 (hz_wg wX10_plan_2 (j := 17) (n := 96) rfl)
theorem dX10_plan_146 : decode cX10_plan 146 = .ok (.putfield 428, 3) := dq_181 (hz_wg wX10_plan_2 (j := 18) (n := 181) rfl) (hz_wg wX10_plan_2 (j := 19) (n := 1) rfl) (hz_wg wX10_plan_2 (j := 20) (n := 172) rfl) rfl
theorem dX10_plan_149 : decode cX10_plan 149 = .ok (.iinc 3 1, 3) := dq_132 (hz_wg wX10_plan_2 (j := 21) (n := 132) rfl) (hz_wg wX10_plan_2 (j := 22) (n := 3) rfl) (hz_wg wX10_plan_2 (j := 23) (n := 1) rfl) (by decide)
theorem dX10_plan_152 : decode cX10_plan 152 = .ok (.goto (-125), 3) := dq_167 (hz_wg wX10_plan_2 (j := 24) (n := 167) rfl) (hz_wg wX10_plan_2 (j := 25) (n := 255) rfl) (hz_wg wX10_plan_2 (j := 26) (n := 131) rfl) (by decide)
theorem dX10_plan_155 : decode cX10_plan 155 = .ok (.aload_n 0, 1) := dq_42 (hz_wg wX10_plan_2 (j := 27) (n := 42) rfl)
theorem dX10_plan_156 : decode cX10_plan 156 = .ok (.iload_n 1, 1) := dq_27 (hz_wg wX10_plan_2 (j := 28) (n := 27) rfl)
theorem dX10_plan_157 : decode cX10_plan 157 = .ok (.aload_n 0, 1) := dq_42 (hz_wg wX10_plan_2 (j := 29) (n := 42) rfl)
theorem dX10_plan_158 : decode cX10_plan 158 = .ok (.aload_n 0, 1) := dq_42 (hz_wg wX10_plan_2 (j := 30) (n := 42) rfl)
theorem dX10_plan_159 : decode cX10_plan 159 = .ok (.getfield 232, 3) := dq_180 (hz_wg wX10_plan_2 (j := 31) (n := 180) rfl) (hz_wg wX10_plan_2 (j := 32) (n := 0) rfl) (hz_wg wX10_plan_2 (j := 33) (n := 232) rfl) rfl
theorem dX10_plan_162 : decode cX10_plan 162 = .ok (.invokevirtual 330, 3) := dq_182 (hz_wg wX10_plan_2 (j := 34) (n := 182) rfl) (hz_wg wX10_plan_2 (j := 35) (n := 1) rfl) (hz_wg wX10_plan_2 (j := 36) (n := 74) rfl) rfl
theorem dX10_plan_165 : decode cX10_plan 165 = .ok (.invokevirtual 422, 3) := dq_182 (hz_wg wX10_plan_2 (j := 37) (n := 182) rfl) (hz_wg wX10_plan_2 (j := 38) (n := 1) rfl) (hz_wg wX10_plan_2 (j := 39) (n := 166) rfl) rfl
theorem dX10_plan_168 : decode cX10_plan 168 = .ok (.istore_n 3, 1) := dq_62 (hz_wg wX10_plan_2 (j := 40) (n := 62) rfl)
theorem dX10_plan_169 : decode cX10_plan 169 = .ok (.aload_n 0, 1) := dq_42 (hz_wg wX10_plan_2 (j := 41) (n := 42) rfl)
theorem dX10_plan_170 : decode cX10_plan 170 = .ok (.getfield 428, 3) := dq_180 (hz_wg wX10_plan_2 (j := 42) (n := 180) rfl) (hz_wg wX10_plan_2 (j := 43) (n := 1) rfl) (hz_wg wX10_plan_2 (j := 44) (n := 172) rfl) rfl
theorem dX10_plan_173 : decode cX10_plan 173 = .ok (.ifCond .ne 7, 3) := dq_154 (hz_wg wX10_plan_2 (j := 45) (n := 154) rfl) (hz_wg wX10_plan_2 (j := 46) (n := 0) rfl) (hz_wg wX10_plan_2 (j := 47) (n := 7) rfl) (by decide)
theorem dX10_plan_176 : decode cX10_plan 176 = .ok (.iconst 0, 1) := dq_3 (hz_wg wX10_plan_2 (j := 48) (n := 3) rfl)
theorem dX10_plan_177 : decode cX10_plan 177 = .ok (.goto 6, 3) := dq_167 (hz_wg wX10_plan_2 (j := 49) (n := 167) rfl) (hz_wg wX10_plan_2 (j := 50) (n := 0) rfl) (hz_wg wX10_plan_2 (j := 51) (n := 6) rfl) (by decide)
theorem dX10_plan_180 : decode cX10_plan 180 = .ok (.ldc_w 431, 3) := dq_19 (hz_wg wX10_plan_2 (j := 52) (n := 19) rfl) (hz_wg wX10_plan_2 (j := 53) (n := 1) rfl) (hz_wg wX10_plan_2 (j := 54) (n := 175) rfl) rfl
theorem dX10_plan_183 : decode cX10_plan 183 = .ok (.istore 4, 2) := dq_54 (hz_wg wX10_plan_2 (j := 55) (n := 54) rfl) (hz_wg wX10_plan_2 (j := 56) (n := 4) rfl)
theorem dX10_plan_185 : decode cX10_plan 185 = .ok (.ldc_w 431, 3) := dq_19 (hz_wg wX10_plan_2 (j := 57) (n := 19) rfl) (hz_wg wX10_plan_2 (j := 58) (n := 1) rfl) (hz_wg wX10_plan_2 (j := 59) (n := 175) rfl) rfl
theorem dX10_plan_188 : decode cX10_plan 188 = .ok (.istore 5, 2) := dq_54 (hz_wg wX10_plan_2 (j := 60) (n := 54) rfl) (hz_wg wX10_plan_2 (j := 61) (n := 5) rfl)
theorem dX10_plan_190 : decode cX10_plan 190 = .ok (.aload_n 0, 1) := dq_42 (hz_wg wX10_plan_2 (j := 62) (n := 42) rfl)
theorem dX10_plan_191 : decode cX10_plan 191 = .ok (.getfield 428, 3) := dq_180 (hz_wg wX10_plan_2 (j := 63) (n := 180) rfl) (hz_wg wX10_plan_3 (j := 0) (n := 1) rfl) (hz_wg wX10_plan_3 (j := 1) (n := 172) rfl) rfl
theorem dX10_plan_194 : decode cX10_plan 194 = .ok (.ifCond .le 7, 3) := dq_158 (hz_wg wX10_plan_3 (j := 2) (n := 158) rfl) (hz_wg wX10_plan_3 (j := 3) (n := 0) rfl) (hz_wg wX10_plan_3 (j := 4) (n := 7) rfl) (by decide)
theorem dX10_plan_197 : decode cX10_plan 197 = .ok (.iconst 1, 1) := dq_4 (hz_wg wX10_plan_3 (j := 5) (n := 4) rfl)
theorem dX10_plan_198 : decode cX10_plan 198 = .ok (.goto 4, 3) := dq_167 (hz_wg wX10_plan_3 (j := 6) (n := 167) rfl) (hz_wg wX10_plan_3 (j := 7) (n := 0) rfl) (hz_wg wX10_plan_3 (j := 8) (n := 4) rfl) (by decide)
theorem dX10_plan_201 : decode cX10_plan 201 = .ok (.iconst 0, 1) := dq_3 (hz_wg wX10_plan_3 (j := 9) (n := 3) rfl)
theorem dX10_plan_202 : decode cX10_plan 202 = .ok (.istore 6, 2) := dq_54 (hz_wg wX10_plan_3 (j := 10) (n := 54) rfl) (hz_wg wX10_plan_3 (j := 11) (n := 6) rfl)
theorem dX10_plan_204 : decode cX10_plan 204 = .ok (.iload 6, 2) := dq_21 (hz_wg wX10_plan_3 (j := 12) (n := 21) rfl) (hz_wg wX10_plan_3 (j := 13) (n := 6) rfl)
theorem dX10_plan_206 : decode cX10_plan 206 = .ok (.ifCond .eq 228, 3) := dq_153 (hz_wg wX10_plan_3 (j := 14) (n := 153) rfl) (hz_wg wX10_plan_3 (j := 15) (n := 0) rfl) (hz_wg wX10_plan_3 (j := 16) (n := 228) rfl) (by decide)
theorem dX10_plan_209 : decode cX10_plan 209 = .ok (.iconst 0, 1) := dq_3 (hz_wg wX10_plan_3 (j := 17) (n := 3) rfl)
theorem dX10_plan_210 : decode cX10_plan 210 = .ok (.istore 7, 2) := dq_54 (hz_wg wX10_plan_3 (j := 18) (n := 54) rfl) (hz_wg wX10_plan_3 (j := 19) (n := 7) rfl)
theorem dX10_plan_212 : decode cX10_plan 212 = .ok (.iconst 0, 1) := dq_3 (hz_wg wX10_plan_3 (j := 20) (n := 3) rfl)
theorem dX10_plan_213 : decode cX10_plan 213 = .ok (.istore 8, 2) := dq_54 (hz_wg wX10_plan_3 (j := 21) (n := 54) rfl) (hz_wg wX10_plan_3 (j := 22) (n := 8) rfl)
theorem dX10_plan_215 : decode cX10_plan 215 = .ok (.iconst 0, 1) := dq_3 (hz_wg wX10_plan_3 (j := 23) (n := 3) rfl)
theorem dX10_plan_216 : decode cX10_plan 216 = .ok (.istore 9, 2) := dq_54 (hz_wg wX10_plan_3 (j := 24) (n := 54) rfl) (hz_wg wX10_plan_3 (j := 25) (n := 9) rfl)
theorem dX10_plan_218 : decode cX10_plan 218 = .ok (.iconst 0, 1) := dq_3 (hz_wg wX10_plan_3 (j := 26) (n := 3) rfl)
theorem dX10_plan_219 : decode cX10_plan 219 = .ok (.istore 10, 2) := dq_54 (hz_wg wX10_plan_3 (j := 27) (n := 54) rfl) (hz_wg wX10_plan_3 (j := 28) (n := 10) rfl)
theorem dX10_plan_221 : decode cX10_plan 221 = .ok (.iload 10, 2) := dq_21 (hz_wg wX10_plan_3 (j := 29) (n := 21) rfl) (hz_wg wX10_plan_3 (j := 30) (n := 10) rfl)
theorem dX10_plan_223 : decode cX10_plan 223 = .ok (.aload_n 0, 1) := dq_42 (hz_wg wX10_plan_3 (j := 31) (n := 42) rfl)
theorem dX10_plan_224 : decode cX10_plan 224 = .ok (.getfield 428, 3) := dq_180 (hz_wg wX10_plan_3 (j := 32) (n := 180) rfl) (hz_wg wX10_plan_3 (j := 33) (n := 1) rfl) (hz_wg wX10_plan_3 (j := 34) (n := 172) rfl) rfl
theorem dX10_plan_227 : decode cX10_plan 227 = .ok (.if_icmp .ge 70, 3) := dq_162 (hz_wg wX10_plan_3 (j := 35) (n := 162) rfl) (hz_wg wX10_plan_3 (j := 36) (n := 0) rfl) (hz_wg wX10_plan_3 (j := 37) (n := 70) rfl) (by decide)
theorem dX10_plan_230 : decode cX10_plan 230 = .ok (.aload_n 0, 1) := dq_42 (hz_wg wX10_plan_3 (j := 38) (n := 42) rfl)
theorem dX10_plan_231 : decode cX10_plan 231 = .ok (.iload 10, 2) := dq_21 (hz_wg wX10_plan_3 (j := 39) (n := 21) rfl) (hz_wg wX10_plan_3 (j := 40) (n := 10) rfl)
theorem dX10_plan_233 : decode cX10_plan 233 = .ok (.aload_n 0, 1) := dq_42 (hz_wg wX10_plan_3 (j := 41) (n := 42) rfl)
theorem dX10_plan_234 : decode cX10_plan 234 = .ok (.getfield 180, 3) := dq_180 (hz_wg wX10_plan_3 (j := 42) (n := 180) rfl) (hz_wg wX10_plan_3 (j := 43) (n := 0) rfl) (hz_wg wX10_plan_3 (j := 44) (n := 180) rfl) rfl
theorem dX10_plan_237 : decode cX10_plan 237 = .ok (.iload 10, 2) := dq_21 (hz_wg wX10_plan_3 (j := 45) (n := 21) rfl) (hz_wg wX10_plan_3 (j := 46) (n := 10) rfl)
theorem dX10_plan_239 : decode cX10_plan 239 = .ok (.iaload, 1) := dq_46 (hz_wg wX10_plan_3 (j := 47) (n := 46) rfl)
theorem dX10_plan_240 : decode cX10_plan 240 = .ok (.iload_n 2, 1) := dq_28 (hz_wg wX10_plan_3 (j := 48) (n := 28) rfl)
theorem dX10_plan_241 : decode cX10_plan 241 = .ok (.invokevirtual 432, 3) := dq_182 (hz_wg wX10_plan_3 (j := 49) (n := 182) rfl) (hz_wg wX10_plan_3 (j := 50) (n := 1) rfl) (hz_wg wX10_plan_3 (j := 51) (n := 176) rfl) rfl
theorem dX10_plan_244 : decode cX10_plan 244 = .ok (.istore 11, 2) := dq_54 (hz_wg wX10_plan_3 (j := 52) (n := 54) rfl) (hz_wg wX10_plan_3 (j := 53) (n := 11) rfl)
theorem dX10_plan_246 : decode cX10_plan 246 = .ok (.iload 7, 2) := dq_21 (hz_wg wX10_plan_3 (j := 54) (n := 21) rfl) (hz_wg wX10_plan_3 (j := 55) (n := 7) rfl)
theorem dX10_plan_248 : decode cX10_plan 248 = .ok (.aload_n 0, 1) := dq_42 (hz_wg wX10_plan_3 (j := 56) (n := 42) rfl)
theorem dX10_plan_249 : decode cX10_plan 249 = .ok (.getfield 177, 3) := dq_180 (hz_wg wX10_plan_3 (j := 57) (n := 180) rfl) (hz_wg wX10_plan_3 (j := 58) (n := 0) rfl) (hz_wg wX10_plan_3 (j := 59) (n := 177) rfl) rfl
theorem dX10_plan_252 : decode cX10_plan 252 = .ok (.iload 10, 2) := dq_21 (hz_wg wX10_plan_3 (j := 60) (n := 21) rfl) (hz_wg wX10_plan_3 (j := 61) (n := 10) rfl)
theorem dX10_plan_254 : decode cX10_plan 254 = .ok (.iaload, 1) := dq_46 (hz_wg wX10_plan_3 (j := 62) (n := 46) rfl)
theorem dX10_plan_255 : decode cX10_plan 255 = .ok (.aload_n 0, 1) := dq_42 (hz_wg wX10_plan_3 (j := 63) (n := 42) rfl)
theorem dX10_plan_256 : decode cX10_plan 256 = .ok (.getfield 180, 3) := dq_180 (hz_wg wX10_plan_4 (j := 0) (n := 180) rfl) (hz_wg wX10_plan_4 (j := 1) (n := 0) rfl) (hz_wg wX10_plan_4 (j := 2) (n := 180) rfl) rfl
theorem dX10_plan_259 : decode cX10_plan 259 = .ok (.iload 10, 2) := dq_21 (hz_wg wX10_plan_4 (j := 3) (n := 21) rfl) (hz_wg wX10_plan_4 (j := 4) (n := 10) rfl)
theorem dX10_plan_261 : decode cX10_plan 261 = .ok (.iaload, 1) := dq_46 (hz_wg wX10_plan_4 (j := 5) (n := 46) rfl)
theorem dX10_plan_262 : decode cX10_plan 262 = .ok (.iload_n 2, 1) := dq_28 (hz_wg wX10_plan_4 (j := 6) (n := 28) rfl)
theorem dX10_plan_263 : decode cX10_plan 263 = .ok (.imul, 1) := dq_104 (hz_wg wX10_plan_4 (j := 7) (n := 104) rfl)
theorem dX10_plan_264 : decode cX10_plan 264 = .ok (.iadd, 1) := dq_96 (hz_wg wX10_plan_4 (j := 8) (n := 96) rfl)
theorem dX10_plan_265 : decode cX10_plan 265 = .ok (.iadd, 1) := dq_96 (hz_wg wX10_plan_4 (j := 9) (n := 96) rfl)
theorem dX10_plan_266 : decode cX10_plan 266 = .ok (.istore 7, 2) := dq_54 (hz_wg wX10_plan_4 (j := 10) (n := 54) rfl) (hz_wg wX10_plan_4 (j := 11) (n := 7) rfl)
theorem dX10_plan_268 : decode cX10_plan 268 = .ok (.iload 11, 2) := dq_21 (hz_wg wX10_plan_4 (j := 12) (n := 21) rfl) (hz_wg wX10_plan_4 (j := 13) (n := 11) rfl)
theorem dX10_plan_270 : decode cX10_plan 270 = .ok (.iload 8, 2) := dq_21 (hz_wg wX10_plan_4 (j := 14) (n := 21) rfl) (hz_wg wX10_plan_4 (j := 15) (n := 8) rfl)
theorem dX10_plan_272 : decode cX10_plan 272 = .ok (.if_icmp .le 8, 3) := dq_164 (hz_wg wX10_plan_4 (j := 16) (n := 164) rfl) (hz_wg wX10_plan_4 (j := 17) (n := 0) rfl) (hz_wg wX10_plan_4 (j := 18) (n := 8) rfl) (by decide)
theorem dX10_plan_275 : decode cX10_plan 275 = .ok (.iload 11, 2) := dq_21 (hz_wg wX10_plan_4 (j := 19) (n := 21) rfl) (hz_wg wX10_plan_4 (j := 20) (n := 11) rfl)
theorem dX10_plan_277 : decode cX10_plan 277 = .ok (.goto 5, 3) := dq_167 (hz_wg wX10_plan_4 (j := 21) (n := 167) rfl) (hz_wg wX10_plan_4 (j := 22) (n := 0) rfl) (hz_wg wX10_plan_4 (j := 23) (n := 5) rfl) (by decide)
theorem dX10_plan_280 : decode cX10_plan 280 = .ok (.iload 8, 2) := dq_21 (hz_wg wX10_plan_4 (j := 24) (n := 21) rfl) (hz_wg wX10_plan_4 (j := 25) (n := 8) rfl)
theorem dX10_plan_282 : decode cX10_plan 282 = .ok (.istore 8, 2) := dq_54 (hz_wg wX10_plan_4 (j := 26) (n := 54) rfl) (hz_wg wX10_plan_4 (j := 27) (n := 8) rfl)
theorem dX10_plan_284 : decode cX10_plan 284 = .ok (.iload 9, 2) := dq_21 (hz_wg wX10_plan_4 (j := 28) (n := 21) rfl) (hz_wg wX10_plan_4 (j := 29) (n := 9) rfl)
theorem dX10_plan_286 : decode cX10_plan 286 = .ok (.iload 11, 2) := dq_21 (hz_wg wX10_plan_4 (j := 30) (n := 21) rfl) (hz_wg wX10_plan_4 (j := 31) (n := 11) rfl)
theorem dX10_plan_288 : decode cX10_plan 288 = .ok (.iadd, 1) := dq_96 (hz_wg wX10_plan_4 (j := 32) (n := 96) rfl)
theorem dX10_plan_289 : decode cX10_plan 289 = .ok (.istore 9, 2) := dq_54 (hz_wg wX10_plan_4 (j := 33) (n := 54) rfl) (hz_wg wX10_plan_4 (j := 34) (n := 9) rfl)
theorem dX10_plan_291 : decode cX10_plan 291 = .ok (.iinc 10 1, 3) := dq_132 (hz_wg wX10_plan_4 (j := 35) (n := 132) rfl) (hz_wg wX10_plan_4 (j := 36) (n := 10) rfl) (hz_wg wX10_plan_4 (j := 37) (n := 1) rfl) (by decide)
theorem dX10_plan_294 : decode cX10_plan 294 = .ok (.goto (-73), 3) := dq_167 (hz_wg wX10_plan_4 (j := 38) (n := 167) rfl) (hz_wg wX10_plan_4 (j := 39) (n := 255) rfl) (hz_wg wX10_plan_4 (j := 40) (n := 183) rfl) (by decide)
theorem dX10_plan_297 : decode cX10_plan 297 = .ok (.iload 7, 2) := dq_21 (hz_wg wX10_plan_4 (j := 41) (n := 21) rfl) (hz_wg wX10_plan_4 (j := 42) (n := 7) rfl)
theorem dX10_plan_299 : decode cX10_plan 299 = .ok (.iload_n 3, 1) := dq_29 (hz_wg wX10_plan_4 (j := 43) (n := 29) rfl)
theorem dX10_plan_300 : decode cX10_plan 300 = .ok (.if_icmp .gt 64, 3) := dq_163 (hz_wg wX10_plan_4 (j := 44) (n := 163) rfl) (hz_wg wX10_plan_4 (j := 45) (n := 0) rfl) (hz_wg wX10_plan_4 (j := 46) (n := 64) rfl) (by decide)
theorem dX10_plan_303 : decode cX10_plan 303 = .ok (.iload 8, 2) := dq_21 (hz_wg wX10_plan_4 (j := 47) (n := 21) rfl) (hz_wg wX10_plan_4 (j := 48) (n := 8) rfl)
theorem dX10_plan_305 : decode cX10_plan 305 = .ok (.iload 4, 2) := dq_21 (hz_wg wX10_plan_4 (j := 49) (n := 21) rfl) (hz_wg wX10_plan_4 (j := 50) (n := 4) rfl)
theorem dX10_plan_307 : decode cX10_plan 307 = .ok (.if_icmp .lt 17, 3) := dq_161 (hz_wg wX10_plan_4 (j := 51) (n := 161) rfl) (hz_wg wX10_plan_4 (j := 52) (n := 0) rfl) (hz_wg wX10_plan_4 (j := 53) (n := 17) rfl) (by decide)
theorem dX10_plan_310 : decode cX10_plan 310 = .ok (.iload 8, 2) := dq_21 (hz_wg wX10_plan_4 (j := 54) (n := 21) rfl) (hz_wg wX10_plan_4 (j := 55) (n := 8) rfl)
theorem dX10_plan_312 : decode cX10_plan 312 = .ok (.iload 4, 2) := dq_21 (hz_wg wX10_plan_4 (j := 56) (n := 21) rfl) (hz_wg wX10_plan_4 (j := 57) (n := 4) rfl)
theorem dX10_plan_314 : decode cX10_plan 314 = .ok (.if_icmp .ne 50, 3) := dq_160 (hz_wg wX10_plan_4 (j := 58) (n := 160) rfl) (hz_wg wX10_plan_4 (j := 59) (n := 0) rfl) (hz_wg wX10_plan_4 (j := 60) (n := 50) rfl) (by decide)
theorem dX10_plan_317 : decode cX10_plan 317 = .ok (.iload 9, 2) := dq_21 (hz_wg wX10_plan_4 (j := 61) (n := 21) rfl) (hz_wg wX10_plan_4 (j := 62) (n := 9) rfl)
theorem dX10_plan_319 : decode cX10_plan 319 = .ok (.iload 5, 2) := dq_21 (hz_wg wX10_plan_4 (j := 63) (n := 21) rfl) (hz_wg wX10_plan_5 (j := 0) (n := 5) rfl)
theorem dX10_plan_321 : decode cX10_plan 321 = .ok (.if_icmp .ge 43, 3) := dq_162 (hz_wg wX10_plan_5 (j := 1) (n := 162) rfl) (hz_wg wX10_plan_5 (j := 2) (n := 0) rfl) (hz_wg wX10_plan_5 (j := 3) (n := 43) rfl) (by decide)
theorem dX10_plan_324 : decode cX10_plan 324 = .ok (.iload 8, 2) := dq_21 (hz_wg wX10_plan_5 (j := 4) (n := 21) rfl) (hz_wg wX10_plan_5 (j := 5) (n := 8) rfl)
theorem dX10_plan_326 : decode cX10_plan 326 = .ok (.istore 4, 2) := dq_54 (hz_wg wX10_plan_5 (j := 6) (n := 54) rfl) (hz_wg wX10_plan_5 (j := 7) (n := 4) rfl)
theorem dX10_plan_328 : decode cX10_plan 328 = .ok (.iload 9, 2) := dq_21 (hz_wg wX10_plan_5 (j := 8) (n := 21) rfl) (hz_wg wX10_plan_5 (j := 9) (n := 9) rfl)
theorem dX10_plan_330 : decode cX10_plan 330 = .ok (.istore 5, 2) := dq_54 (hz_wg wX10_plan_5 (j := 10) (n := 54) rfl) (hz_wg wX10_plan_5 (j := 11) (n := 5) rfl)
theorem dX10_plan_332 : decode cX10_plan 332 = .ok (.iconst 0, 1) := dq_3 (hz_wg wX10_plan_5 (j := 12) (n := 3) rfl)
theorem dX10_plan_333 : decode cX10_plan 333 = .ok (.istore 10, 2) := dq_54 (hz_wg wX10_plan_5 (j := 13) (n := 54) rfl) (hz_wg wX10_plan_5 (j := 14) (n := 10) rfl)
theorem dX10_plan_335 : decode cX10_plan 335 = .ok (.iload 10, 2) := dq_21 (hz_wg wX10_plan_5 (j := 15) (n := 21) rfl) (hz_wg wX10_plan_5 (j := 16) (n := 10) rfl)
theorem dX10_plan_337 : decode cX10_plan 337 = .ok (.aload_n 0, 1) := dq_42 (hz_wg wX10_plan_5 (j := 17) (n := 42) rfl)
theorem dX10_plan_338 : decode cX10_plan 338 = .ok (.getfield 428, 3) := dq_180 (hz_wg wX10_plan_5 (j := 18) (n := 180) rfl) (hz_wg wX10_plan_5 (j := 19) (n := 1) rfl) (hz_wg wX10_plan_5 (j := 20) (n := 172) rfl) rfl
theorem dX10_plan_341 : decode cX10_plan 341 = .ok (.if_icmp .ge 23, 3) := dq_162 (hz_wg wX10_plan_5 (j := 21) (n := 162) rfl) (hz_wg wX10_plan_5 (j := 22) (n := 0) rfl) (hz_wg wX10_plan_5 (j := 23) (n := 23) rfl) (by decide)
theorem dX10_plan_344 : decode cX10_plan 344 = .ok (.aload_n 0, 1) := dq_42 (hz_wg wX10_plan_5 (j := 24) (n := 42) rfl)
theorem dX10_plan_345 : decode cX10_plan 345 = .ok (.getfield 183, 3) := dq_180 (hz_wg wX10_plan_5 (j := 25) (n := 180) rfl) (hz_wg wX10_plan_5 (j := 26) (n := 0) rfl) (hz_wg wX10_plan_5 (j := 27) (n := 183) rfl) rfl
theorem dX10_plan_348 : decode cX10_plan 348 = .ok (.iload 10, 2) := dq_21 (hz_wg wX10_plan_5 (j := 28) (n := 21) rfl) (hz_wg wX10_plan_5 (j := 29) (n := 10) rfl)
theorem dX10_plan_350 : decode cX10_plan 350 = .ok (.aload_n 0, 1) := dq_42 (hz_wg wX10_plan_5 (j := 30) (n := 42) rfl)
theorem dX10_plan_351 : decode cX10_plan 351 = .ok (.getfield 180, 3) := dq_180 (hz_wg wX10_plan_5 (j := 31) (n := 180) rfl) (hz_wg wX10_plan_5 (j := 32) (n := 0) rfl) (hz_wg wX10_plan_5 (j := 33) (n := 180) rfl) rfl
theorem dX10_plan_354 : decode cX10_plan 354 = .ok (.iload 10, 2) := dq_21 (hz_wg wX10_plan_5 (j := 34) (n := 21) rfl) (hz_wg wX10_plan_5 (j := 35) (n := 10) rfl)
theorem dX10_plan_356 : decode cX10_plan 356 = .ok (.iaload, 1) := dq_46 (hz_wg wX10_plan_5 (j := 36) (n := 46) rfl)
theorem dX10_plan_357 : decode cX10_plan 357 = .ok (.iastore, 1) := dq_79 (hz_wg wX10_plan_5 (j := 37) (n := 79) rfl)
theorem dX10_plan_358 : decode cX10_plan 358 = .ok (.iinc 10 1, 3) := dq_132 (hz_wg wX10_plan_5 (j := 38) (n := 132) rfl) (hz_wg wX10_plan_5 (j := 39) (n := 10) rfl) (hz_wg wX10_plan_5 (j := 40) (n := 1) rfl) (by decide)
theorem dX10_plan_361 : decode cX10_plan 361 = .ok (.goto (-26), 3) := dq_167 (hz_wg wX10_plan_5 (j := 41) (n := 167) rfl) (hz_wg wX10_plan_5 (j := 42) (n := 255) rfl) (hz_wg wX10_plan_5 (j := 43) (n := 230) rfl) (by decide)
theorem dX10_plan_364 : decode cX10_plan 364 = .ok (.aload_n 0, 1) := dq_42 (hz_wg wX10_plan_5 (j := 44) (n := 42) rfl)
theorem dX10_plan_365 : decode cX10_plan 365 = .ok (.getfield 428, 3) := dq_180 (hz_wg wX10_plan_5 (j := 45) (n := 180) rfl) (hz_wg wX10_plan_5 (j := 46) (n := 1) rfl) (hz_wg wX10_plan_5 (j := 47) (n := 172) rfl) rfl
theorem dX10_plan_368 : decode cX10_plan 368 = .ok (.iconst 1, 1) := dq_4 (hz_wg wX10_plan_5 (j := 48) (n := 4) rfl)
theorem dX10_plan_369 : decode cX10_plan 369 = .ok (.isub, 1) := dq_100 (hz_wg wX10_plan_5 (j := 49) (n := 100) rfl)
theorem dX10_plan_370 : decode cX10_plan 370 = .ok (.istore 10, 2) := dq_54 (hz_wg wX10_plan_5 (j := 50) (n := 54) rfl) (hz_wg wX10_plan_5 (j := 51) (n := 10) rfl)
theorem dX10_plan_372 : decode cX10_plan 372 = .ok (.iload 10, 2) := dq_21 (hz_wg wX10_plan_5 (j := 52) (n := 21) rfl) (hz_wg wX10_plan_5 (j := 53) (n := 10) rfl)
theorem dX10_plan_374 : decode cX10_plan 374 = .ok (.ifCond .lt 29, 3) := dq_155 (hz_wg wX10_plan_5 (j := 54) (n := 155) rfl) (hz_wg wX10_plan_5 (j := 55) (n := 0) rfl) (hz_wg wX10_plan_5 (j := 56) (n := 29) rfl) (by decide)
theorem dX10_plan_377 : decode cX10_plan 377 = .ok (.aload_n 0, 1) := dq_42 (hz_wg wX10_plan_5 (j := 57) (n := 42) rfl)
theorem dX10_plan_378 : decode cX10_plan 378 = .ok (.getfield 180, 3) := dq_180 (hz_wg wX10_plan_5 (j := 58) (n := 180) rfl) (hz_wg wX10_plan_5 (j := 59) (n := 0) rfl) (hz_wg wX10_plan_5 (j := 60) (n := 180) rfl) rfl
theorem dX10_plan_381 : decode cX10_plan 381 = .ok (.iload 10, 2) := dq_21 (hz_wg wX10_plan_5 (j := 61) (n := 21) rfl) (hz_wg wX10_plan_5 (j := 62) (n := 10) rfl)
theorem dX10_plan_383 : decode cX10_plan 383 = .ok (.iaload, 1) := dq_46 (hz_wg wX10_plan_5 (j := 63) (n := 46) rfl)
theorem dX10_plan_384 : decode cX10_plan 384 = .ok (.bipush 12, 2) := dq_16 (hz_wg wX10_plan_6 (j := 0) (n := 16) rfl) (hz_wg wX10_plan_6 (j := 1) (n := 12) rfl) (by decide)
theorem dX10_plan_386 : decode cX10_plan 386 = .ok (.if_icmp .ne 17, 3) := dq_160 (hz_wg wX10_plan_6 (j := 2) (n := 160) rfl) (hz_wg wX10_plan_6 (j := 3) (n := 0) rfl) (hz_wg wX10_plan_6 (j := 4) (n := 17) rfl) (by decide)
theorem dX10_plan_389 : decode cX10_plan 389 = .ok (.aload_n 0, 1) := dq_42 (hz_wg wX10_plan_6 (j := 5) (n := 42) rfl)
theorem dX10_plan_390 : decode cX10_plan 390 = .ok (.getfield 180, 3) := dq_180 (hz_wg wX10_plan_6 (j := 6) (n := 180) rfl) (hz_wg wX10_plan_6 (j := 7) (n := 0) rfl) (hz_wg wX10_plan_6 (j := 8) (n := 180) rfl) rfl
theorem dX10_plan_393 : decode cX10_plan 393 = .ok (.iload 10, 2) := dq_21 (hz_wg wX10_plan_6 (j := 9) (n := 21) rfl) (hz_wg wX10_plan_6 (j := 10) (n := 10) rfl)
theorem dX10_plan_395 : decode cX10_plan 395 = .ok (.iconst 0, 1) := dq_3 (hz_wg wX10_plan_6 (j := 11) (n := 3) rfl)
theorem dX10_plan_396 : decode cX10_plan 396 = .ok (.iastore, 1) := dq_79 (hz_wg wX10_plan_6 (j := 12) (n := 79) rfl)
theorem dX10_plan_397 : decode cX10_plan 397 = .ok (.iinc 10 (-1), 3) := dq_132 (hz_wg wX10_plan_6 (j := 13) (n := 132) rfl) (hz_wg wX10_plan_6 (j := 14) (n := 10) rfl) (hz_wg wX10_plan_6 (j := 15) (n := 255) rfl) (by decide)
theorem dX10_plan_400 : decode cX10_plan 400 = .ok (.goto (-28), 3) := dq_167 (hz_wg wX10_plan_6 (j := 16) (n := 167) rfl) (hz_wg wX10_plan_6 (j := 17) (n := 255) rfl) (hz_wg wX10_plan_6 (j := 18) (n := 228) rfl) (by decide)
theorem dX10_plan_403 : decode cX10_plan 403 = .ok (.iload 10, 2) := dq_21 (hz_wg wX10_plan_6 (j := 19) (n := 21) rfl) (hz_wg wX10_plan_6 (j := 20) (n := 10) rfl)
theorem dX10_plan_405 : decode cX10_plan 405 = .ok (.ifCond .lt 7, 3) := dq_155 (hz_wg wX10_plan_6 (j := 21) (n := 155) rfl) (hz_wg wX10_plan_6 (j := 22) (n := 0) rfl) (hz_wg wX10_plan_6 (j := 23) (n := 7) rfl) (by decide)
theorem dX10_plan_408 : decode cX10_plan 408 = .ok (.iconst 1, 1) := dq_4 (hz_wg wX10_plan_6 (j := 24) (n := 4) rfl)
theorem dX10_plan_409 : decode cX10_plan 409 = .ok (.goto 4, 3) := dq_167 (hz_wg wX10_plan_6 (j := 25) (n := 167) rfl) (hz_wg wX10_plan_6 (j := 26) (n := 0) rfl) (hz_wg wX10_plan_6 (j := 27) (n := 4) rfl) (by decide)
theorem dX10_plan_412 : decode cX10_plan 412 = .ok (.iconst 0, 1) := dq_3 (hz_wg wX10_plan_6 (j := 28) (n := 3) rfl)
theorem dX10_plan_413 : decode cX10_plan 413 = .ok (.istore 6, 2) := dq_54 (hz_wg wX10_plan_6 (j := 29) (n := 54) rfl) (hz_wg wX10_plan_6 (j := 30) (n := 6) rfl)
theorem dX10_plan_415 : decode cX10_plan 415 = .ok (.iload 6, 2) := dq_21 (hz_wg wX10_plan_6 (j := 31) (n := 21) rfl) (hz_wg wX10_plan_6 (j := 32) (n := 6) rfl)
theorem dX10_plan_417 : decode cX10_plan 417 = .ok (.ifCond .eq 14, 3) := dq_153 (hz_wg wX10_plan_6 (j := 33) (n := 153) rfl) (hz_wg wX10_plan_6 (j := 34) (n := 0) rfl) (hz_wg wX10_plan_6 (j := 35) (n := 14) rfl) (by decide)
theorem dX10_plan_420 : decode cX10_plan 420 = .ok (.aload_n 0, 1) := dq_42 (hz_wg wX10_plan_6 (j := 36) (n := 42) rfl)
theorem dX10_plan_421 : decode cX10_plan 421 = .ok (.getfield 180, 3) := dq_180 (hz_wg wX10_plan_6 (j := 37) (n := 180) rfl) (hz_wg wX10_plan_6 (j := 38) (n := 0) rfl) (hz_wg wX10_plan_6 (j := 39) (n := 180) rfl) rfl
theorem dX10_plan_424 : decode cX10_plan 424 = .ok (.iload 10, 2) := dq_21 (hz_wg wX10_plan_6 (j := 40) (n := 21) rfl) (hz_wg wX10_plan_6 (j := 41) (n := 10) rfl)
theorem dX10_plan_426 : decode cX10_plan 426 = .ok (.dup2, 1) := dq_92 (hz_wg wX10_plan_6 (j := 42) (n := 92) rfl)
theorem dX10_plan_427 : decode cX10_plan 427 = .ok (.iaload, 1) := dq_46 (hz_wg wX10_plan_6 (j := 43) (n := 46) rfl)
theorem dX10_plan_428 : decode cX10_plan 428 = .ok (.iconst 1, 1) := dq_4 (hz_wg wX10_plan_6 (j := 44) (n := 4) rfl)
theorem dX10_plan_429 : decode cX10_plan 429 = .ok (.iadd, 1) := dq_96 (hz_wg wX10_plan_6 (j := 45) (n := 96) rfl)
theorem dX10_plan_430 : decode cX10_plan 430 = .ok (.iastore, 1) := dq_79 (hz_wg wX10_plan_6 (j := 46) (n := 79) rfl)
theorem dX10_plan_431 : decode cX10_plan 431 = .ok (.goto (-227), 3) := dq_167 (hz_wg wX10_plan_6 (j := 47) (n := 167) rfl) (hz_wg wX10_plan_6 (j := 48) (n := 255) rfl) (hz_wg wX10_plan_6 (j := 49) (n := 29) rfl) (by decide)
theorem dX10_plan_434 : decode cX10_plan 434 = .ok (.iload 4, 2) := dq_21 (hz_wg wX10_plan_6 (j := 50) (n := 21) rfl) (hz_wg wX10_plan_6 (j := 51) (n := 4) rfl)
theorem dX10_plan_436 : decode cX10_plan 436 = .ok (.ldc_w 431, 3) := dq_19 (hz_wg wX10_plan_6 (j := 52) (n := 19) rfl) (hz_wg wX10_plan_6 (j := 53) (n := 1) rfl) (hz_wg wX10_plan_6 (j := 54) (n := 175) rfl) rfl
theorem dX10_plan_439 : decode cX10_plan 439 = .ok (.if_icmp .ne 6, 3) := dq_160 (hz_wg wX10_plan_6 (j := 55) (n := 160) rfl) (hz_wg wX10_plan_6 (j := 56) (n := 0) rfl) (hz_wg wX10_plan_6 (j := 57) (n := 6) rfl) (by decide)
theorem dX10_plan_442 : decode cX10_plan 442 = .ok (.bipush (-2), 2) := dq_16 (hz_wg wX10_plan_6 (j := 58) (n := 16) rfl) (hz_wg wX10_plan_6 (j := 59) (n := 254) rfl) (by decide)
theorem dX10_plan_444 : decode cX10_plan 444 = .ok (.ireturn, 1) := dq_172 (hz_wg wX10_plan_6 (j := 60) (n := 172) rfl)
theorem dX10_plan_445 : decode cX10_plan 445 = .ok (.aload_n 0, 1) := dq_42 (hz_wg wX10_plan_6 (j := 61) (n := 42) rfl)
theorem dX10_plan_446 : decode cX10_plan 446 = .ok (.aload_n 0, 1) := dq_42 (hz_wg wX10_plan_6 (j := 62) (n := 42) rfl)
theorem dX10_plan_447 : decode cX10_plan 447 = .ok (.getfield 428, 3) := dq_180 (hz_wg wX10_plan_6 (j := 63) (n := 180) rfl) (hz_wg wX10_plan_7 (j := 0) (n := 1) rfl) (hz_wg wX10_plan_7 (j := 1) (n := 172) rfl) rfl
theorem dX10_plan_450 : decode cX10_plan 450 = .ok (.putfield 435, 3) := dq_181 (hz_wg wX10_plan_7 (j := 2) (n := 181) rfl) (hz_wg wX10_plan_7 (j := 3) (n := 1) rfl) (hz_wg wX10_plan_7 (j := 4) (n := 179) rfl) rfl
theorem dX10_plan_453 : decode cX10_plan 453 = .ok (.iconst 0, 1) := dq_3 (hz_wg wX10_plan_7 (j := 5) (n := 3) rfl)
theorem dX10_plan_454 : decode cX10_plan 454 = .ok (.istore 7, 2) := dq_54 (hz_wg wX10_plan_7 (j := 6) (n := 54) rfl) (hz_wg wX10_plan_7 (j := 7) (n := 7) rfl)
theorem dX10_plan_456 : decode cX10_plan 456 = .ok (.iload 7, 2) := dq_21 (hz_wg wX10_plan_7 (j := 8) (n := 21) rfl) (hz_wg wX10_plan_7 (j := 9) (n := 7) rfl)
theorem dX10_plan_458 : decode cX10_plan 458 = .ok (.aload_n 0, 1) := dq_42 (hz_wg wX10_plan_7 (j := 10) (n := 42) rfl)
theorem dX10_plan_459 : decode cX10_plan 459 = .ok (.getfield 428, 3) := dq_180 (hz_wg wX10_plan_7 (j := 11) (n := 180) rfl) (hz_wg wX10_plan_7 (j := 12) (n := 1) rfl) (hz_wg wX10_plan_7 (j := 13) (n := 172) rfl) rfl
theorem dX10_plan_462 : decode cX10_plan 462 = .ok (.if_icmp .ge 68, 3) := dq_162 (hz_wg wX10_plan_7 (j := 14) (n := 162) rfl) (hz_wg wX10_plan_7 (j := 15) (n := 0) rfl) (hz_wg wX10_plan_7 (j := 16) (n := 68) rfl) (by decide)
theorem dX10_plan_465 : decode cX10_plan 465 = .ok (.aload_n 0, 1) := dq_42 (hz_wg wX10_plan_7 (j := 17) (n := 42) rfl)
theorem dX10_plan_466 : decode cX10_plan 466 = .ok (.getfield 165, 3) := dq_180 (hz_wg wX10_plan_7 (j := 18) (n := 180) rfl) (hz_wg wX10_plan_7 (j := 19) (n := 0) rfl) (hz_wg wX10_plan_7 (j := 20) (n := 165) rfl) rfl
theorem dX10_plan_469 : decode cX10_plan 469 = .ok (.iload 7, 2) := dq_21 (hz_wg wX10_plan_7 (j := 21) (n := 21) rfl) (hz_wg wX10_plan_7 (j := 22) (n := 7) rfl)
theorem dX10_plan_471 : decode cX10_plan 471 = .ok (.aload_n 0, 1) := dq_42 (hz_wg wX10_plan_7 (j := 23) (n := 42) rfl)
theorem dX10_plan_472 : decode cX10_plan 472 = .ok (.getfield 171, 3) := dq_180 (hz_wg wX10_plan_7 (j := 24) (n := 180) rfl) (hz_wg wX10_plan_7 (j := 25) (n := 0) rfl) (hz_wg wX10_plan_7 (j := 26) (n := 171) rfl) rfl
theorem dX10_plan_475 : decode cX10_plan 475 = .ok (.iload 7, 2) := dq_21 (hz_wg wX10_plan_7 (j := 27) (n := 21) rfl) (hz_wg wX10_plan_7 (j := 28) (n := 7) rfl)
theorem dX10_plan_477 : decode cX10_plan 477 = .ok (.iaload, 1) := dq_46 (hz_wg wX10_plan_7 (j := 29) (n := 46) rfl)
theorem dX10_plan_478 : decode cX10_plan 478 = .ok (.iastore, 1) := dq_79 (hz_wg wX10_plan_7 (j := 30) (n := 79) rfl)
theorem dX10_plan_479 : decode cX10_plan 479 = .ok (.aload_n 0, 1) := dq_42 (hz_wg wX10_plan_7 (j := 31) (n := 42) rfl)
theorem dX10_plan_480 : decode cX10_plan 480 = .ok (.getfield 168, 3) := dq_180 (hz_wg wX10_plan_7 (j := 32) (n := 180) rfl) (hz_wg wX10_plan_7 (j := 33) (n := 0) rfl) (hz_wg wX10_plan_7 (j := 34) (n := 168) rfl) rfl
theorem dX10_plan_483 : decode cX10_plan 483 = .ok (.iload 7, 2) := dq_21 (hz_wg wX10_plan_7 (j := 35) (n := 21) rfl) (hz_wg wX10_plan_7 (j := 36) (n := 7) rfl)
theorem dX10_plan_485 : decode cX10_plan 485 = .ok (.aload_n 0, 1) := dq_42 (hz_wg wX10_plan_7 (j := 37) (n := 42) rfl)
theorem dX10_plan_486 : decode cX10_plan 486 = .ok (.getfield 177, 3) := dq_180 (hz_wg wX10_plan_7 (j := 38) (n := 180) rfl) (hz_wg wX10_plan_7 (j := 39) (n := 0) rfl) (hz_wg wX10_plan_7 (j := 40) (n := 177) rfl) rfl
theorem dX10_plan_489 : decode cX10_plan 489 = .ok (.iload 7, 2) := dq_21 (hz_wg wX10_plan_7 (j := 41) (n := 21) rfl) (hz_wg wX10_plan_7 (j := 42) (n := 7) rfl)
theorem dX10_plan_491 : decode cX10_plan 491 = .ok (.iaload, 1) := dq_46 (hz_wg wX10_plan_7 (j := 43) (n := 46) rfl)
theorem dX10_plan_492 : decode cX10_plan 492 = .ok (.aload_n 0, 1) := dq_42 (hz_wg wX10_plan_7 (j := 44) (n := 42) rfl)
theorem dX10_plan_493 : decode cX10_plan 493 = .ok (.getfield 183, 3) := dq_180 (hz_wg wX10_plan_7 (j := 45) (n := 180) rfl) (hz_wg wX10_plan_7 (j := 46) (n := 0) rfl) (hz_wg wX10_plan_7 (j := 47) (n := 183) rfl) rfl
theorem dX10_plan_496 : decode cX10_plan 496 = .ok (.iload 7, 2) := dq_21 (hz_wg wX10_plan_7 (j := 48) (n := 21) rfl) (hz_wg wX10_plan_7 (j := 49) (n := 7) rfl)
theorem dX10_plan_498 : decode cX10_plan 498 = .ok (.iaload, 1) := dq_46 (hz_wg wX10_plan_7 (j := 50) (n := 46) rfl)
theorem dX10_plan_499 : decode cX10_plan 499 = .ok (.iload_n 2, 1) := dq_28 (hz_wg wX10_plan_7 (j := 51) (n := 28) rfl)
theorem dX10_plan_500 : decode cX10_plan 500 = .ok (.imul, 1) := dq_104 (hz_wg wX10_plan_7 (j := 52) (n := 104) rfl)
theorem dX10_plan_501 : decode cX10_plan 501 = .ok (.iadd, 1) := dq_96 (hz_wg wX10_plan_7 (j := 53) (n := 96) rfl)
theorem dX10_plan_502 : decode cX10_plan 502 = .ok (.iastore, 1) := dq_79 (hz_wg wX10_plan_7 (j := 54) (n := 79) rfl)
theorem dX10_plan_503 : decode cX10_plan 503 = .ok (.aload_n 0, 1) := dq_42 (hz_wg wX10_plan_7 (j := 55) (n := 42) rfl)
theorem dX10_plan_504 : decode cX10_plan 504 = .ok (.getfield 186, 3) := dq_180 (hz_wg wX10_plan_7 (j := 56) (n := 180) rfl) (hz_wg wX10_plan_7 (j := 57) (n := 0) rfl) (hz_wg wX10_plan_7 (j := 58) (n := 186) rfl) rfl
theorem dX10_plan_507 : decode cX10_plan 507 = .ok (.iload 7, 2) := dq_21 (hz_wg wX10_plan_7 (j := 59) (n := 21) rfl) (hz_wg wX10_plan_7 (j := 60) (n := 7) rfl)
theorem dX10_plan_509 : decode cX10_plan 509 = .ok (.aload_n 0, 1) := dq_42 (hz_wg wX10_plan_7 (j := 61) (n := 42) rfl)
theorem dX10_plan_510 : decode cX10_plan 510 = .ok (.iload 7, 2) := dq_21 (hz_wg wX10_plan_7 (j := 62) (n := 21) rfl) (hz_wg wX10_plan_7 (j := 63) (n := 7) rfl)
theorem dX10_plan_512 : decode cX10_plan 512 = .ok (.aload_n 0, 1) := dq_42 (hz_wg wX10_plan_8 (j := 0) (n := 42) rfl)
theorem dX10_plan_513 : decode cX10_plan 513 = .ok (.getfield 183, 3) := dq_180 (hz_wg wX10_plan_8 (j := 1) (n := 180) rfl) (hz_wg wX10_plan_8 (j := 2) (n := 0) rfl) (hz_wg wX10_plan_8 (j := 3) (n := 183) rfl) rfl
theorem dX10_plan_516 : decode cX10_plan 516 = .ok (.iload 7, 2) := dq_21 (hz_wg wX10_plan_8 (j := 4) (n := 21) rfl) (hz_wg wX10_plan_8 (j := 5) (n := 7) rfl)
theorem dX10_plan_518 : decode cX10_plan 518 = .ok (.iaload, 1) := dq_46 (hz_wg wX10_plan_8 (j := 6) (n := 46) rfl)
theorem dX10_plan_519 : decode cX10_plan 519 = .ok (.iload_n 2, 1) := dq_28 (hz_wg wX10_plan_8 (j := 7) (n := 28) rfl)
theorem dX10_plan_520 : decode cX10_plan 520 = .ok (.invokevirtual 432, 3) := dq_182 (hz_wg wX10_plan_8 (j := 8) (n := 182) rfl) (hz_wg wX10_plan_8 (j := 9) (n := 1) rfl) (hz_wg wX10_plan_8 (j := 10) (n := 176) rfl) rfl
theorem dX10_plan_523 : decode cX10_plan 523 = .ok (.iastore, 1) := dq_79 (hz_wg wX10_plan_8 (j := 11) (n := 79) rfl)
theorem dX10_plan_524 : decode cX10_plan 524 = .ok (.iinc 7 1, 3) := dq_132 (hz_wg wX10_plan_8 (j := 12) (n := 132) rfl) (hz_wg wX10_plan_8 (j := 13) (n := 7) rfl) (hz_wg wX10_plan_8 (j := 14) (n := 1) rfl) (by decide)
theorem dX10_plan_527 : decode cX10_plan 527 = .ok (.goto (-71), 3) := dq_167 (hz_wg wX10_plan_8 (j := 15) (n := 167) rfl) (hz_wg wX10_plan_8 (j := 16) (n := 255) rfl) (hz_wg wX10_plan_8 (j := 17) (n := 185) rfl) (by decide)
theorem dX10_plan_530 : decode cX10_plan 530 = .ok (.iload 4, 2) := dq_21 (hz_wg wX10_plan_8 (j := 18) (n := 21) rfl) (hz_wg wX10_plan_8 (j := 19) (n := 4) rfl)
theorem dX10_plan_532 : decode cX10_plan 532 = .ok (.ireturn, 1) := dq_172 (hz_wg wX10_plan_8 (j := 20) (n := 172) rfl)
set_option maxHeartbeats 4000000 in
set_option maxRecDepth 100000 in
theorem t_X10_plan (l : Launch) (dC : Nat → ClassId) (dI : Nat → Nat → Nat) (dA : Nat → ClassId) (L : List Nat) (h : hx_h) (sz : Nat) (x : Nat) (i1 : Int32) (i2 : Int32) (hT : hx_T T_tb L h) (gx : hx_g L h x 10) (ql : Nat) (gql : hx_g L h ql 50) (f_x_3 : h.2.2 x 3 = some ql) (qc : Nat) (gqc : hx_g L h qc 79) (f_x_44 : h.2.2 x 44 = some qc) (qf : Nat) (gqf : hx_g L h qf 104) (f_x_78 : h.2.2 x 78 = some qf) (qm : Nat) (gqm : hx_g L h qm 105) (f_x_79 : h.2.2 x 79 = some qm) (rf : Nat → Int32) (af_ql : h.2.1 ql = rf) (plf : Nat → Int32) (af_qc : h.2.1 qc = plf) (a0 : Int32) (f_x_1 : h.2.1 x 1 = a0) (c0 : Int32) (f_x_36 : h.2.1 x 36 = c0) (hWK : hx_WK rf a0.toInt) (hPL : hx_PL plf c0.toInt a0.toInt) : Met l yX10_plan (Cond.code yX10_plan cX10_plan 12 (some .int) :: hx_all) ({ frames := 3, cells := 0, slots := 0, locals := 71 }) (va_Pc [.ref x, .int i1, .int i2] (hx_B T_tb (P_ty dA) (dC, dI) vwCl L h sz)) (va_Qi (fun (r : Int32) (u : List Nat × hx_h) => (True) ∧ hx_T T_tb u.1 u.2 ∧ hx_S T_tb [(10, 67), (10, 68), (10, 69), (10, 70), (10, 71), (10, 72), (10, 75), (100, 0), (101, 0), (102, 0), (103, 0), (104, 0), (105, 0), (106, 0), (107, 0)] L h u.1 u.2) (hx_E T_tb (P_ty dA) (dC, dI) vwCl (hx_A L sz)) (hx_A L sz)) 0 0 (hx_A L sz) := by
  refine hx_met (lv := [(0, .ref x), (1, .int i1), (2, .int i2)]) (by decide +kernel) rfl (Nat.le_of_ble_eq_true rfl) rfl ?_
  intro p e s m below meth c hx hb hml hr hlk hts0 hown hin hsz hW ls hl
  have hts : ∀ w ∈ hx_all, w.before _ s = true := fun w hw => hts0 w (List.mem_cons_of_mem _ hw)
  have hown : s.vm.findClass "SmallCourtModel" = some m.cls := hown
  have hM : hx_S T_tb [(10, 67), (10, 68), (10, 69), (10, 70), (10, 71), (10, 72), (10, 75), (100, 0), (101, 0), (102, 0), (103, 0), (104, 0), (105, 0), (106, 0), (107, 0)] L h L h := hx_S.rf
  have b_a0 := hT.gi gx tt_10 (k := 1) rfl
  rw [f_x_1] at b_a0
  have b_a0 : 0 ≤ a0.toInt ∧ a0.toInt ≤ 8 := b_a0
  have b_c0 := hT.gi gx tt_10 (k := 36) rfl
  rw [f_x_36] at b_c0
  have b_c0 : 0 ≤ c0.toInt ∧ c0.toInt ≤ 100 := b_c0
  refine lv_aload_n hx hb dX10_plan_0 rfl (lv_at hl 0 rfl) ?_
  refine lv_iload_n hx hb dX10_plan_1 rfl (lv_at hl 1 rfl) ?_
  obtain ⟨fv_1, efv_1⟩ : ∃ y : Int32, y = h.2.1 x 20 := ⟨_, rfl⟩
  have bfv_1 := hT.gi (gx.S hM) tt_10 (k := 20) rfl
  rw [← efv_1] at bfv_1
  have bfv_1 : 0 ≤ fv_1.toInt ∧ fv_1.toInt ≤ 40 := bfv_1
  have ffv_1 := efv_1.symm
  refine hx_goi (hx_runV (As := [.int i1]) (rest := []) ⟨hx, hb, hml, hown, hts⟩ hW (gx.S hM) tt_10 (T := TX10) (N := 98) rfl (t_X10_isPerson l dC dI dA L h s.heap.size x i1 hT (gx.S hM) fv_1 ffv_1) (cwV 1 hts (hx_gV kw_1552 kw_1549 kw_1551 kw_68 kw_103) rfl rfl rfl (by decide +kernel) ⟨Nat.le_of_ble_eq_true rfl, Nat.le_of_ble_eq_true rfl⟩) rfl hl.1 rfl (Nat.le_of_ble_eq_true rfl) dX10_plan_2 ⟨Nat.le_of_ble_eq_true rfl, Nat.le_of_ble_eq_true rfl⟩) hW (fun r_4 L_2 h_3 H locs p_5 hW => ?_)
  obtain ⟨hr_6, hT, hs⟩ := p_5
  replace hT : hx_T T_tb L_2 h_3 := hT
  replace hs : hx_S T_tb [] L h L_2 h_3 := hs
  replace ffv_1 := (hs.o (gx.S hM) trivial rfl).1.trans ffv_1
  replace hM := hM.tr (hs.mono (by decide))
  refine hb_if_eq (zx := r_4.toInt) (tgt := 18) hx hb rfl dX10_plan_5 (by decide) (fun c_7 => ?_) (fun c_7 => ?_)
  · skip
    replace hr_6 := hr_6.resolve_right (fun z9 => absurd (c_7.symm.trans z9.1) (by decide))
    replace hr_6 := hr_6.2
    refine lv_iconst (v := -1) hx hb dX10_plan_18 (by decide) ?_
    exact hx_reti hx hb hr hlk hW ⟨trivial, hT, hM⟩ dX10_plan_19
  · skip
    replace hr_6 := hr_6.resolve_left (fun z9 => c_7 z9.1)
    replace c_7 := hr_6.1
    replace hr_6 := hr_6.2
    refine lv_iload_n hx hb dX10_plan_8 rfl (lv_at hl 2 rfl) ?_
    refine lv_iconst (v := 1) hx hb dX10_plan_9 (by decide) ?_
    refine lv_bipush (v := 99) hx hb dX10_plan_10 (by decide) ?_
    have zc_99 : (99 : Int32).toInt = 99 := by decide
    have zc_1 : (1 : Int32).toInt = 1 := by decide
    refine hx_goi (hx_runS (As := [.int i2, .int (1 : Int32), .int (99 : Int32)]) (rest := []) ⟨hx, hb, hml, hown, hts⟩ hW (t_X10_in l dC dI dA L_2 h_3 H.size i2 (1 : Int32) (99 : Int32) hT) (va_cwS 3 hts (hx_gS kw_1445 kw_1443 kw_1444 kw_103) rfl rfl rfl (by decide +kernel) ⟨Nat.le_of_ble_eq_true rfl, Nat.le_of_ble_eq_true rfl⟩) rfl hl.1 rfl (Nat.le_of_ble_eq_true rfl) dX10_plan_12 ⟨Nat.le_of_ble_eq_true rfl, Nat.le_of_ble_eq_true rfl⟩) hW (fun r_10 L_8 h_9 H locs p_11 hW => ?_)
    obtain ⟨hr_12, hT, hs⟩ := p_11
    replace hT : hx_T T_tb L_8 h_9 := hT
    replace hs : hx_S T_tb [] L_2 h_3 L_8 h_9 := hs
    replace ffv_1 := (hs.o (gx.S hM) trivial rfl).1.trans ffv_1
    replace hM := hM.tr (hs.mono (by decide))
    refine hb_if_ne (zx := r_10.toInt) (tgt := 20) hx hb rfl dX10_plan_15 (by decide) (fun c_13 => ?_) (fun c_13 => ?_)
    · skip
      replace hr_12 := hr_12.resolve_left (fun z9 => c_13 z9.1)
      replace c_13 := hr_12.1
      replace hr_12 := hr_12.2
      refine lv_aload_n hx hb dX10_plan_20 rfl (lv_at hl 0 rfl) ?_
      refine lv_iconst (v := 0) hx hb dX10_plan_21 (by decide) ?_
      refine hx_puti hx hb hts hC_10 hown hW hT (hx_S.rf (M := [(10, 75)])) (gx.S hM) tt_10 75 (by decide) rfl kw_1218 ⟨rfl, rfl, rfl⟩ rfl (x := (0 : Int32)) (by decide) rfl rfl rfl (List.mem_singleton.mpr rfl) dX10_plan_22 (fun H locs h_14 eh_14 hW hT hs => ?_)
      replace ffv_1 := (hs.o (gx.S hM) trivial rfl).1.trans ffv_1
      replace hM := hM.tr (hs.mono (by decide))
      have f_15 : h_14.2.1 x 75 = (0 : Int32) := by rw [eh_14]; exact hx_pi_at _ _ _ _
      have pi0 : ∀ j : Nat, (j : Int) < (h_14.2.1 x 75).toInt → 1 ≤ (h_14.2.1 qf j).toInt := by
        intro j hj; rw [f_15] at hj; have z0 : (0 : Int32).toInt = 0 := (by decide); omega
      refine lv_iconst (v := 0) hx hb dX10_plan_25 (by decide) ?_
      refine lv_istore_n (lv' := [(3, .int (0 : Int32)), (0, .ref x), (1, .int i1), (2, .int i2)]) hx hb dX10_plan_26 rfl hl (by decide) rfl (fun ls hl => ?_)
      have loop27 : ∀ (n27 : Nat) (iv27_3 fw27_x_75 : Int32) (H : Heap) (locs : List Loc) (hL1 : List Nat) (hl1 : hx_h), 0 ≤ iv27_3.toInt → iv27_3.toInt ≤ 100 → 0 ≤ fw27_x_75.toInt → fw27_x_75.toInt ≤ 4 → ∀ (ls : Array Slot), 100 - iv27_3.toInt < (n27 : Int) → hx_W T_tb (P_ty dA) (dC, dI) vwCl (hx_A L sz) s.heap hL1 hl1 s H locs → hx_T T_tb hL1 hl1 → hx_S T_tb [(10, 67), (10, 68), (10, 69), (10, 70), (10, 71), (10, 72), (10, 75), (100, 0), (101, 0), (102, 0), (103, 0), (104, 0), (105, 0), (106, 0), (107, 0)] L h hL1 hl1 → hl1.2.1 x 75 = fw27_x_75 → hl1.2.1 x 20 = fv_1 → (∀ j : Nat, (j : Int) < (hl1.2.1 x 75).toInt → 1 ≤ (hl1.2.1 qf j).toInt) → lv_has ls 12 [(3, .int iv27_3), (0, .ref x), (1, .int i1), (2, .int i2)] → W p l e ({ frames := 3, cells := 0, slots := 0, locals := 71 }) s m ([.ref x, .int i1, .int i2] : List Value).toArray below meth c H locs 0 0 (MQ below (va_Qi (fun (r : Int32) (u : List Nat × hx_h) => (True) ∧ hx_T T_tb u.1 u.2 ∧ hx_S T_tb [(10, 67), (10, 68), (10, 69), (10, 70), (10, 71), (10, 72), (10, 75), (100, 0), (101, 0), (102, 0), (103, 0), (104, 0), (105, 0), (106, 0), (107, 0)] L h u.1 u.2) (hx_E T_tb (P_ty dA) (dC, dI) vwCl (hx_A L sz)) (hx_A L sz)) ([.ref x, .int i1, .int i2] : List Value).toArray s 0 0 (hx_A L sz)) (F0 m 27 ls []) := by
        intro n27
        induction n27 with
        | zero => intro iv27_3 fw27_x_75 H locs hL1 hl1 bliv27_3 buiv27_3 blfw27_x_75 bufw27_x_75  ls hn27; exfalso; omega
        | succ n27 ih27 =>
          intro iv27_3 fw27_x_75 H locs hL1 hl1 bliv27_3 buiv27_3 blfw27_x_75 bufw27_x_75  ls hn27 hW hT hM ffw27_x_75 ffv_1 pi0 hl
          refine lv_iload_n hx hb dX10_plan_27 rfl (lv_at hl 0 rfl) ?_
          refine lv_aload_n hx hb dX10_plan_28 rfl (lv_at hl 1 rfl) ?_
          refine hk_geti hx hb hts hC_10 hown hW (gx.S hM) tt_10 36 (by decide) rfl kw_1179 ⟨rfl, rfl, rfl⟩ ((hM.o gx trivial rfl).1.trans f_x_36) dX10_plan_29 ?_
          refine hb_icmp_ge (zx := iv27_3.toInt) (zy := c0.toInt) (tgt := 155) hx hb rfl rfl dX10_plan_32 (by decide) (fun c_16 => ?_) (fun c_16 => ?_)
          · skip
            refine lv_aload_n hx hb dX10_plan_155 rfl (lv_at hl 1 rfl) ?_
            refine lv_iload_n hx hb dX10_plan_156 rfl (lv_at hl 2 rfl) ?_
            refine lv_aload_n hx hb dX10_plan_157 rfl (lv_at hl 1 rfl) ?_
            refine lv_aload_n hx hb dX10_plan_158 rfl (lv_at hl 1 rfl) ?_
            refine hx_geti hx hb hts hC_10 hown hW hT (gx.S hM) tt_10 0 (by decide) rfl kw_1143 ⟨rfl, rfl, rfl⟩ dX10_plan_159 (fun x_17 ex_17 lx_17 ux_17 => ?_)
            have fx_17 := ex_17.symm
            refine hx_goi (hx_runV (As := [.int x_17]) (rest := [.int i1, .ref x]) ⟨hx, hb, hml, hown, hts⟩ hW (gx.S hM) tt_10 (T := TX10) (N := 98) rfl (t_X10_inForce l dC dI dA hL1 hl1 H.size x x_17 hT (gx.S hM) a0 ((hM.o gx trivial rfl).1.trans f_x_1)) (cwV 1 hts (hx_gV kw_1529 kw_1526 kw_1528 kw_65 kw_103) rfl rfl rfl (by decide +kernel) ⟨Nat.le_of_ble_eq_true rfl, Nat.le_of_ble_eq_true rfl⟩) rfl hl.1 rfl (Nat.le_of_ble_eq_true rfl) dX10_plan_162 ⟨Nat.le_of_ble_eq_true rfl, Nat.le_of_ble_eq_true rfl⟩) hW (fun r_20 L_18 h_19 H locs p_21 hW => ?_)
            obtain ⟨hr_22, hT, hs⟩ := p_21
            replace hT : hx_T T_tb L_18 h_19 := hT
            replace hs : hx_S T_tb [] hL1 hl1 L_18 h_19 := hs
            replace ffv_1 := (hs.o (gx.S hM) trivial rfl).1.trans ffv_1
            replace ffw27_x_75 := (hs.o (gx.S hM) trivial rfl).1.trans ffw27_x_75
            replace fx_17 := (hs.o (gx.S hM) trivial rfl).1.trans fx_17
            replace pi0 : ∀ j : Nat, (j : Int) < (h_19.2.1 x 75).toInt → 1 ≤ (h_19.2.1 qf j).toInt := by
              intro j hj; rw [(hs.o (gx.S hM) trivial rfl).1] at hj; rw [(hs.a (gqf.S hM) rfl j).1]; exact pi0 j hj
            replace hM := hM.tr (hs.mono (by decide))
            refine hx_goi (hx_runV (As := [.int i1, .int r_20]) (rest := []) ⟨hx, hb, hml, hown, hts⟩ hW (gx.S hM) tt_10 (T := TX10) (N := 98) rfl (t_X10_means l dC dI dA L_18 h_19 H.size x i1 r_20 hT (gx.S hM) ⟨by omega, by omega⟩ ⟨by omega, by omega⟩) (cwV 2 hts (hx_gV kw_1645 kw_1642 kw_1644 kw_83 kw_103) rfl rfl rfl (by decide +kernel) ⟨Nat.le_of_ble_eq_true rfl, Nat.le_of_ble_eq_true rfl⟩) rfl hl.1 rfl (Nat.le_of_ble_eq_true rfl) dX10_plan_165 ⟨Nat.le_of_ble_eq_true rfl, Nat.le_of_ble_eq_true rfl⟩) hW (fun r_25 L_23 h_24 H locs p_26 hW => ?_)
            obtain ⟨hr_27, hT, hs⟩ := p_26
            replace hT : hx_T T_tb L_23 h_24 := hT
            replace hs : hx_S T_tb [] L_18 h_19 L_23 h_24 := hs
            replace ffv_1 := (hs.o (gx.S hM) trivial rfl).1.trans ffv_1
            replace ffw27_x_75 := (hs.o (gx.S hM) trivial rfl).1.trans ffw27_x_75
            replace fx_17 := (hs.o (gx.S hM) trivial rfl).1.trans fx_17
            replace pi0 : ∀ j : Nat, (j : Int) < (h_24.2.1 x 75).toInt → 1 ≤ (h_24.2.1 qf j).toInt := by
              intro j hj; rw [(hs.o (gx.S hM) trivial rfl).1] at hj; rw [(hs.a (gqf.S hM) rfl j).1]; exact pi0 j hj
            replace hM := hM.tr (hs.mono (by decide))
            refine lv_istore_n (lv' := [(3, .int r_25), (0, .ref x), (1, .int i1), (2, .int i2)]) hx hb dX10_plan_168 rfl hl (by decide) rfl (fun ls hl => ?_)
            refine lv_aload_n hx hb dX10_plan_169 rfl (lv_at hl 1 rfl) ?_
            refine hk_geti hx hb hts hC_10 hown hW (gx.S hM) tt_10 75 (by decide) rfl kw_1218 ⟨rfl, rfl, rfl⟩ ffw27_x_75 dX10_plan_170 ?_
            refine hb_if_ne (zx := fw27_x_75.toInt) (tgt := 180) hx hb rfl dX10_plan_173 (by decide) (fun c_28 => ?_) (fun c_28 => ?_)
            · skip
              refine lv_ldcw (v := 1000000000) hx hb hown (hts _ kw_1678) dX10_plan_180 ?_
              refine lv_istore (lv' := [(4, .int (1000000000 : Int32)), (3, .int r_25), (0, .ref x), (1, .int i1), (2, .int i2)]) hx hb dX10_plan_183 hl (by decide) rfl (fun ls hl => ?_)
              refine lv_ldcw (v := 1000000000) hx hb hown (hts _ kw_1678) dX10_plan_185 ?_
              refine lv_istore (lv' := [(5, .int (1000000000 : Int32)), (4, .int (1000000000 : Int32)), (3, .int r_25), (0, .ref x), (1, .int i1), (2, .int i2)]) hx hb dX10_plan_188 hl (by decide) rfl (fun ls hl => ?_)
              refine lv_aload_n hx hb dX10_plan_190 rfl (lv_at hl 3 rfl) ?_
              refine hk_geti hx hb hts hC_10 hown hW (gx.S hM) tt_10 75 (by decide) rfl kw_1218 ⟨rfl, rfl, rfl⟩ ffw27_x_75 dX10_plan_191 ?_
              refine hb_if_le (zx := fw27_x_75.toInt) (tgt := 201) hx hb rfl dX10_plan_194 (by decide) (fun c_29 => by exfalso; omega) (fun c_29 => ?_)
              refine lv_iconst (v := 1) hx hb dX10_plan_197 (by decide) ?_
              refine lv_goto (tgt := 202) hx hb dX10_plan_198 (by decide) ?_
              obtain ⟨fa_30, nfa_30⟩ : ∃ g : Nat → Int32, h_24.2.1 qm = g := ⟨_, rfl⟩
              have hm12 : hx_m12 fa_30 := (fun k hk => by have q := hT.ei (gqm.S hM) tt_105 (k := k) hk; rw [nfa_30] at q; exact q)
              have hvb := hx_V_b hm12
              refine lv_istore (lv' := [(6, .int (1 : Int32)), (5, .int (1000000000 : Int32)), (4, .int (1000000000 : Int32)), (3, .int r_25), (0, .ref x), (1, .int i1), (2, .int i2)]) hx hb dX10_plan_202 hl (by decide) rfl (fun ls hl => ?_)
              have loop204 : ∀ (n204 : Nat) (iv204_4 iv204_5 iv204_6 : Int32) (ia204_qm : Nat → Int32) (H : Heap) (locs : List Loc) (hL1 : List Nat) (hl1 : hx_h), -2147483648 ≤ iv204_4.toInt → iv204_4.toInt ≤ 2147483647 → -2147483648 ≤ iv204_5.toInt → iv204_5.toInt ≤ 2147483647 → 0 ≤ iv204_6.toInt → iv204_6.toInt ≤ 1 → (hx_m12 ia204_qm) → ∀ (ls : Array Slot), (iv204_6.toInt = 0 ∧ 0 < (n204 : Int)) ∨ 28562 - hx_V ia204_qm < (n204 : Int) → hx_W T_tb (P_ty dA) (dC, dI) vwCl (hx_A L sz) s.heap hL1 hl1 s H locs → hx_T T_tb hL1 hl1 → hx_S T_tb [(10, 67), (10, 68), (10, 69), (10, 70), (10, 71), (10, 72), (10, 75), (100, 0), (101, 0), (102, 0), (103, 0), (104, 0), (105, 0), (106, 0), (107, 0)] L h hL1 hl1 → hl1.2.1 x 20 = fv_1 → hl1.2.1 x 75 = fw27_x_75 → hl1.2.1 x 0 = x_17 → (∀ j : Nat, (j : Int) < (hl1.2.1 x 75).toInt → 1 ≤ (hl1.2.1 qf j).toInt) → hl1.2.1 qm = ia204_qm → lv_has ls 12 [(6, .int iv204_6), (5, .int iv204_5), (4, .int iv204_4), (3, .int r_25), (0, .ref x), (1, .int i1), (2, .int i2)] → W p l e ({ frames := 3, cells := 0, slots := 0, locals := 71 }) s m ([.ref x, .int i1, .int i2] : List Value).toArray below meth c H locs 0 0 (MQ below (va_Qi (fun (r : Int32) (u : List Nat × hx_h) => (True) ∧ hx_T T_tb u.1 u.2 ∧ hx_S T_tb [(10, 67), (10, 68), (10, 69), (10, 70), (10, 71), (10, 72), (10, 75), (100, 0), (101, 0), (102, 0), (103, 0), (104, 0), (105, 0), (106, 0), (107, 0)] L h u.1 u.2) (hx_E T_tb (P_ty dA) (dC, dI) vwCl (hx_A L sz)) (hx_A L sz)) ([.ref x, .int i1, .int i2] : List Value).toArray s 0 0 (hx_A L sz)) (F0 m 204 ls []) := by
                intro n204
                induction n204 with
                | zero => intro iv204_4 iv204_5 iv204_6 ia204_qm H locs hL1 hl1 bliv204_4 buiv204_4 bliv204_5 buiv204_5 bliv204_6 buiv204_6 vi204_0 ls hn204; exfalso; have hvbz := hx_V_b vi204_0; omega
                | succ n204 ih204 =>
                  intro iv204_4 iv204_5 iv204_6 ia204_qm H locs hL1 hl1 bliv204_4 buiv204_4 bliv204_5 buiv204_5 bliv204_6 buiv204_6 vi204_0 ls hn204 hW hT hM ffv_1 ffw27_x_75 fx_17 pi0 nia204_qm hl
                  refine lv_iload hx hb dX10_plan_204 (lv_at hl 0 rfl) ?_
                  have hvb0 := hx_V_b vi204_0
                  refine hb_if_eq (zx := iv204_6.toInt) (tgt := 434) hx hb rfl dX10_plan_206 (by decide) (fun c_31 => ?_) (fun c_31 => ?_)
                  · skip
                    refine lv_iload hx hb dX10_plan_434 (lv_at hl 2 rfl) ?_
                    refine lv_ldcw (v := 1000000000) hx hb hown (hts _ kw_1678) dX10_plan_436 ?_
                    refine hb_icmp_ne (zx := iv204_4.toInt) (zy := 1000000000) (tgt := 445) hx hb rfl (by decide) dX10_plan_439 (by decide) (fun c_32 => ?_) (fun c_32 => ?_)
                    · skip
                      refine lv_aload_n hx hb dX10_plan_445 rfl (lv_at hl 4 rfl) ?_
                      refine lv_aload_n hx hb dX10_plan_446 rfl (lv_at hl 4 rfl) ?_
                      refine hk_geti hx hb hts hC_10 hown hW (gx.S hM) tt_10 75 (by decide) rfl kw_1218 ⟨rfl, rfl, rfl⟩ ffw27_x_75 dX10_plan_447 ?_
                      refine hx_puti hx hb hts hC_10 hown hW hT (hx_S.rf (M := [(10, 72)])) (gx.S hM) tt_10 72 (by decide) rfl kw_1215 ⟨rfl, rfl, rfl⟩ rfl (x := fw27_x_75) ⟨by omega, by omega⟩ rfl rfl rfl (List.mem_singleton.mpr rfl) dX10_plan_450 (fun H locs h_33 eh_33 hW hT hs => ?_)
                      replace ffv_1 := (hs.o (gx.S hM) trivial rfl).1.trans ffv_1
                      replace ffw27_x_75 := (hs.o (gx.S hM) trivial rfl).1.trans ffw27_x_75
                      replace fx_17 := (hs.o (gx.S hM) trivial rfl).1.trans fx_17
                      replace nia204_qm : h_33.2.1 qm = ia204_qm := (funext fun j => (hs.a (gqm.S hM) rfl j).1).trans nia204_qm
                      replace pi0 : ∀ j : Nat, (j : Int) < (h_33.2.1 x 75).toInt → 1 ≤ (h_33.2.1 qf j).toInt := by
                        intro j hj; rw [(hs.o (gx.S hM) trivial rfl).1] at hj; rw [(hs.a (gqf.S hM) rfl j).1]; exact pi0 j hj
                      replace hM := hM.tr (hs.mono (by decide))
                      have f_34 : h_33.2.1 x 72 = fw27_x_75 := by rw [eh_33]; exact hx_pi_at _ _ _ _
                      refine lv_iconst (v := 0) hx hb dX10_plan_453 (by decide) ?_
                      refine lv_istore (lv' := [(7, .int (0 : Int32)), (6, .int iv204_6), (5, .int iv204_5), (4, .int iv204_4), (3, .int r_25), (0, .ref x), (1, .int i1), (2, .int i2)]) hx hb dX10_plan_454 hl (by decide) rfl (fun ls hl => ?_)
                      have loop456 : ∀ (n456 : Nat) (iv456_7 : Int32) (H : Heap) (locs : List Loc) (hL1 : List Nat) (hl1 : hx_h), 0 ≤ iv456_7.toInt → iv456_7.toInt ≤ 4 → ∀ (ls : Array Slot), 4 - iv456_7.toInt < (n456 : Int) → hx_W T_tb (P_ty dA) (dC, dI) vwCl (hx_A L sz) s.heap hL1 hl1 s H locs → hx_T T_tb hL1 hl1 → hx_S T_tb [(10, 67), (10, 68), (10, 69), (10, 70), (10, 71), (10, 72), (10, 75), (100, 0), (101, 0), (102, 0), (103, 0), (104, 0), (105, 0), (106, 0), (107, 0)] L h hL1 hl1 → hl1.2.1 x 20 = fv_1 → hl1.2.1 x 75 = fw27_x_75 → hl1.2.1 x 0 = x_17 → (∀ j : Nat, (j : Int) < (hl1.2.1 x 75).toInt → 1 ≤ (hl1.2.1 qf j).toInt) → lv_has ls 12 [(7, .int iv456_7), (6, .int iv204_6), (5, .int iv204_5), (4, .int iv204_4), (3, .int r_25), (0, .ref x), (1, .int i1), (2, .int i2)] → W p l e ({ frames := 3, cells := 0, slots := 0, locals := 71 }) s m ([.ref x, .int i1, .int i2] : List Value).toArray below meth c H locs 0 0 (MQ below (va_Qi (fun (r : Int32) (u : List Nat × hx_h) => (True) ∧ hx_T T_tb u.1 u.2 ∧ hx_S T_tb [(10, 67), (10, 68), (10, 69), (10, 70), (10, 71), (10, 72), (10, 75), (100, 0), (101, 0), (102, 0), (103, 0), (104, 0), (105, 0), (106, 0), (107, 0)] L h u.1 u.2) (hx_E T_tb (P_ty dA) (dC, dI) vwCl (hx_A L sz)) (hx_A L sz)) ([.ref x, .int i1, .int i2] : List Value).toArray s 0 0 (hx_A L sz)) (F0 m 456 ls []) := by
                        intro n456
                        induction n456 with
                        | zero => intro iv456_7 H locs hL1 hl1 bliv456_7 buiv456_7  ls hn456; exfalso; omega
                        | succ n456 ih456 =>
                          intro iv456_7 H locs hL1 hl1 bliv456_7 buiv456_7  ls hn456 hW hT hM ffv_1 ffw27_x_75 fx_17 pi0 hl
                          refine lv_iload hx hb dX10_plan_456 (lv_at hl 0 rfl) ?_
                          refine lv_aload_n hx hb dX10_plan_458 rfl (lv_at hl 5 rfl) ?_
                          refine hk_geti hx hb hts hC_10 hown hW (gx.S hM) tt_10 75 (by decide) rfl kw_1218 ⟨rfl, rfl, rfl⟩ ffw27_x_75 dX10_plan_459 ?_
                          refine hb_icmp_ge (zx := iv456_7.toInt) (zy := fw27_x_75.toInt) (tgt := 530) hx hb rfl rfl dX10_plan_462 (by decide) (fun c_35 => ?_) (fun c_35 => ?_)
                          · skip
                            refine lv_iload hx hb dX10_plan_530 (lv_at hl 3 rfl) ?_
                            exact hx_reti hx hb hr hlk hW ⟨trivial, hT, hM⟩ dX10_plan_532
                          · skip
                            refine lv_aload_n hx hb dX10_plan_465 rfl (lv_at hl 5 rfl) ?_
                            refine hx_getn hx hb hts hC_10 hown hW hT (gx.S hM) tt_10 73 (by decide) rfl kw_1216 ⟨rfl, rfl, rfl⟩ dX10_plan_466 (fun q_36 fq_36 gq_36 => ?_)
                            refine lv_iload hx hb dX10_plan_469 (lv_at hl 0 rfl) ?_
                            refine lv_aload_n hx hb dX10_plan_471 rfl (lv_at hl 5 rfl) ?_
                            refine hx_getn hx hb hts hC_10 hown hW hT (gx.S hM) tt_10 76 (by decide) rfl kw_1219 ⟨rfl, rfl, rfl⟩ dX10_plan_472 (fun q_37 fq_37 gq_37 => ?_)
                            refine lv_iload hx hb dX10_plan_475 (lv_at hl 0 rfl) ?_
                            refine hx_iald hx hb hW hT gq_37 tt_102 rfl ⟨by omega, by omega⟩ dX10_plan_477 (fun x_38 ex_38 lx_38 ux_38 => ?_)
                            refine hx_iast hx hb hW hT (hx_S.rf (M := [(100, 0)])) gq_36 tt_100 rfl ⟨by omega, by omega⟩ rfl (i32_r _) (List.mem_singleton.mpr rfl) dX10_plan_478 (fun H locs h_39 eh_39 hW hT hs => ?_)
                            replace ffv_1 := (hs.o (gx.S hM) trivial rfl).1.trans ffv_1
                            replace ffw27_x_75 := (hs.o (gx.S hM) trivial rfl).1.trans ffw27_x_75
                            replace fx_17 := (hs.o (gx.S hM) trivial rfl).1.trans fx_17
                            replace fq_36 := (hs.o (gx.S hM) trivial rfl).2.trans fq_36
                            replace fq_37 := (hs.o (gx.S hM) trivial rfl).2.trans fq_37
                            replace ex_38 := ex_38.trans (hs.a gq_37 rfl _).1.symm
                            replace pi0 : ∀ j : Nat, (j : Int) < (h_39.2.1 x 75).toInt → 1 ≤ (h_39.2.1 qf j).toInt := by
                              intro j hj; rw [(hs.o (gx.S hM) trivial rfl).1] at hj; rw [(hs.a (gqf.S hM) rfl j).1]; exact pi0 j hj
                            replace hM := hM.tr (hs.mono (by decide))
                            replace gq_36 := gq_36.S hs
                            replace gq_37 := gq_37.S hs
                            refine lv_aload_n hx hb dX10_plan_479 rfl (lv_at hl 5 rfl) ?_
                            refine hx_getn hx hb hts hC_10 hown hW hT (gx.S hM) tt_10 74 (by decide) rfl kw_1217 ⟨rfl, rfl, rfl⟩ dX10_plan_480 (fun q_40 fq_40 gq_40 => ?_)
                            refine lv_iload hx hb dX10_plan_483 (lv_at hl 0 rfl) ?_
                            refine lv_aload_n hx hb dX10_plan_485 rfl (lv_at hl 5 rfl) ?_
                            refine hk_getr hx hb hts hC_10 hown hW (gx.S hM) tt_10 78 (by decide) rfl kw_1221 ⟨rfl, rfl, rfl⟩ ((hM.o gx trivial rfl).2.trans f_x_78) dX10_plan_486 ?_
                            refine lv_iload hx hb dX10_plan_489 (lv_at hl 0 rfl) ?_
                            refine hx_iald hx hb hW hT (gqf.S hM) tt_104 rfl ⟨by omega, by omega⟩ dX10_plan_491 (fun x_41 ex_41 lx_41 ux_41 => ?_)
                            have px_41 : 1 ≤ x_41.toInt := by rw [ex_41]; exact pi0 _ (by rw [ffw27_x_75]; exact hx_tnI (by omega) (by omega))
                            refine lv_aload_n hx hb dX10_plan_492 rfl (lv_at hl 5 rfl) ?_
                            refine hx_getn hx hb hts hC_10 hown hW hT (gx.S hM) tt_10 80 (by decide) rfl kw_1223 ⟨rfl, rfl, rfl⟩ dX10_plan_493 (fun q_42 fq_42 gq_42 => ?_)
                            refine lv_iload hx hb dX10_plan_496 (lv_at hl 0 rfl) ?_
                            refine hx_iald hx hb hW hT gq_42 tt_106 rfl ⟨by omega, by omega⟩ dX10_plan_498 (fun x_43 ex_43 lx_43 ux_43 => ?_)
                            refine lv_iload_n hx hb dX10_plan_499 rfl (lv_at hl 7 rfl) ?_
                            refine lv_imul hx hb dX10_plan_500 ?_
                            refine lv_topi (fun x_44 ex_44 => ?_)
                            have mx_44 : x_43.toInt = 0 → x_44.toInt = 0 := fun z => by rw [ex_44]; exact hx_mul0 z
                            refine lv_iadd hx hb dX10_plan_501 ?_
                            have rg_45 := i32_r x_41
                            have rg_46 := i32_r x_44
                            refine lv_topi (fun x_47 ex_47 => ?_)
                            refine hx_iast hx hb hW hT (hx_S.rf (M := [(101, 0)])) gq_40 tt_101 rfl ⟨by omega, by omega⟩ rfl (i32_r _) (List.mem_singleton.mpr rfl) dX10_plan_502 (fun H locs h_48 eh_48 hW hT hs => ?_)
                            replace ffv_1 := (hs.o (gx.S hM) trivial rfl).1.trans ffv_1
                            replace ffw27_x_75 := (hs.o (gx.S hM) trivial rfl).1.trans ffw27_x_75
                            replace fx_17 := (hs.o (gx.S hM) trivial rfl).1.trans fx_17
                            replace fq_36 := (hs.o (gx.S hM) trivial rfl).2.trans fq_36
                            replace fq_37 := (hs.o (gx.S hM) trivial rfl).2.trans fq_37
                            replace fq_40 := (hs.o (gx.S hM) trivial rfl).2.trans fq_40
                            replace fq_42 := (hs.o (gx.S hM) trivial rfl).2.trans fq_42
                            replace ex_38 := ex_38.trans (hs.a gq_37 rfl _).1.symm
                            replace ex_41 := ex_41.trans (hs.a (gqf.S hM) rfl _).1.symm
                            replace ex_43 := ex_43.trans (hs.a gq_42 rfl _).1.symm
                            replace pi0 : ∀ j : Nat, (j : Int) < (h_48.2.1 x 75).toInt → 1 ≤ (h_48.2.1 qf j).toInt := by
                              intro j hj; rw [(hs.o (gx.S hM) trivial rfl).1] at hj; rw [(hs.a (gqf.S hM) rfl j).1]; exact pi0 j hj
                            replace hM := hM.tr (hs.mono (by decide))
                            replace gq_36 := gq_36.S hs
                            replace gq_37 := gq_37.S hs
                            replace gq_40 := gq_40.S hs
                            replace gq_42 := gq_42.S hs
                            refine lv_aload_n hx hb dX10_plan_503 rfl (lv_at hl 5 rfl) ?_
                            refine hx_getn hx hb hts hC_10 hown hW hT (gx.S hM) tt_10 81 (by decide) rfl kw_1224 ⟨rfl, rfl, rfl⟩ dX10_plan_504 (fun q_49 fq_49 gq_49 => ?_)
                            refine lv_iload hx hb dX10_plan_507 (lv_at hl 0 rfl) ?_
                            refine lv_aload_n hx hb dX10_plan_509 rfl (lv_at hl 5 rfl) ?_
                            refine lv_iload hx hb dX10_plan_510 (lv_at hl 0 rfl) ?_
                            refine lv_aload_n hx hb dX10_plan_512 rfl (lv_at hl 5 rfl) ?_
                            refine hk_getr hx hb hts hC_10 hown hW (gx.S hM) tt_10 80 (by decide) rfl kw_1223 ⟨rfl, rfl, rfl⟩ fq_42 dX10_plan_513 ?_
                            refine lv_iload hx hb dX10_plan_516 (lv_at hl 0 rfl) ?_
                            refine hx_iald hx hb hW hT gq_42 tt_106 rfl ⟨by omega, by omega⟩ dX10_plan_518 (fun x_50 ex_50 lx_50 ux_50 => ?_)
                            obtain rfl : x_43 = x_50 := ex_43.trans ex_50.symm
                            refine lv_iload_n hx hb dX10_plan_519 rfl (lv_at hl 7 rfl) ?_
                            refine hx_goi (hx_runV (As := [.int iv456_7, .int x_43, .int i2]) (rest := [.int iv456_7, .ref q_49]) ⟨hx, hb, hml, hown, hts⟩ hW (gx.S hM) tt_10 (T := TX10) (N := 98) rfl (t_X10_weeksOf l dC dI dA hL1 h_48 H.size x iv456_7 x_43 i2 hT (gx.S hM) fw27_x_75 ffw27_x_75 ⟨by omega, by omega⟩ ⟨by omega, by omega⟩ ⟨by omega, by omega⟩ qf (gqf.S hM) ((hM.o gx trivial rfl).2.trans f_x_78) pi0) (cwV 3 hts (hx_gV kw_1682 kw_1679 kw_1681 kw_85 kw_103) rfl rfl rfl (by decide +kernel) ⟨Nat.le_of_ble_eq_true rfl, Nat.le_of_ble_eq_true rfl⟩) rfl hl.1 rfl (Nat.le_of_ble_eq_true rfl) dX10_plan_520 ⟨Nat.le_of_ble_eq_true rfl, Nat.le_of_ble_eq_true rfl⟩) hW (fun r_53 L_51 h_52 H locs p_54 hW => ?_)
                            obtain ⟨hr_55, hT, hs⟩ := p_54
                            replace hT : hx_T T_tb L_51 h_52 := hT
                            replace hs : hx_S T_tb [] hL1 h_48 L_51 h_52 := hs
                            replace ffv_1 := (hs.o (gx.S hM) trivial rfl).1.trans ffv_1
                            replace ffw27_x_75 := (hs.o (gx.S hM) trivial rfl).1.trans ffw27_x_75
                            replace fx_17 := (hs.o (gx.S hM) trivial rfl).1.trans fx_17
                            replace fq_36 := (hs.o (gx.S hM) trivial rfl).2.trans fq_36
                            replace fq_37 := (hs.o (gx.S hM) trivial rfl).2.trans fq_37
                            replace fq_40 := (hs.o (gx.S hM) trivial rfl).2.trans fq_40
                            replace fq_42 := (hs.o (gx.S hM) trivial rfl).2.trans fq_42
                            replace fq_49 := (hs.o (gx.S hM) trivial rfl).2.trans fq_49
                            replace ex_38 := ex_38.trans (hs.a gq_37 rfl _).1.symm
                            replace ex_41 := ex_41.trans (hs.a (gqf.S hM) rfl _).1.symm
                            replace ex_43 := ex_43.trans (hs.a gq_42 rfl _).1.symm
                            replace pi0 : ∀ j : Nat, (j : Int) < (h_52.2.1 x 75).toInt → 1 ≤ (h_52.2.1 qf j).toInt := by
                              intro j hj; rw [(hs.o (gx.S hM) trivial rfl).1] at hj; rw [(hs.a (gqf.S hM) rfl j).1]; exact pi0 j hj
                            replace hM := hM.tr (hs.mono (by decide))
                            replace gq_36 := gq_36.S hs
                            replace gq_37 := gq_37.S hs
                            replace gq_40 := gq_40.S hs
                            replace gq_42 := gq_42.S hs
                            replace gq_49 := gq_49.S hs
                            refine hx_iast hx hb hW hT (hx_S.rf (M := [(107, 0)])) gq_49 tt_107 rfl ⟨by omega, by omega⟩ rfl (i32_r _) (List.mem_singleton.mpr rfl) dX10_plan_523 (fun H locs h_56 eh_56 hW hT hs => ?_)
                            replace ffv_1 := (hs.o (gx.S hM) trivial rfl).1.trans ffv_1
                            replace ffw27_x_75 := (hs.o (gx.S hM) trivial rfl).1.trans ffw27_x_75
                            replace fx_17 := (hs.o (gx.S hM) trivial rfl).1.trans fx_17
                            replace fq_36 := (hs.o (gx.S hM) trivial rfl).2.trans fq_36
                            replace fq_37 := (hs.o (gx.S hM) trivial rfl).2.trans fq_37
                            replace fq_40 := (hs.o (gx.S hM) trivial rfl).2.trans fq_40
                            replace fq_42 := (hs.o (gx.S hM) trivial rfl).2.trans fq_42
                            replace fq_49 := (hs.o (gx.S hM) trivial rfl).2.trans fq_49
                            replace ex_38 := ex_38.trans (hs.a gq_37 rfl _).1.symm
                            replace ex_41 := ex_41.trans (hs.a (gqf.S hM) rfl _).1.symm
                            replace ex_43 := ex_43.trans (hs.a gq_42 rfl _).1.symm
                            replace pi0 : ∀ j : Nat, (j : Int) < (h_56.2.1 x 75).toInt → 1 ≤ (h_56.2.1 qf j).toInt := by
                              intro j hj; rw [(hs.o (gx.S hM) trivial rfl).1] at hj; rw [(hs.a (gqf.S hM) rfl j).1]; exact pi0 j hj
                            replace hM := hM.tr (hs.mono (by decide))
                            replace gq_36 := gq_36.S hs
                            replace gq_37 := gq_37.S hs
                            replace gq_40 := gq_40.S hs
                            replace gq_42 := gq_42.S hs
                            replace gq_49 := gq_49.S hs
                            obtain ⟨x_57, ex_57⟩ : ∃ y : Int32, y = iv456_7 + Int32.ofInt 1 := ⟨_, rfl⟩
                            have rg_58 := i32_r iv456_7
                            have zx_57 : x_57.toInt = iv456_7.toInt + (1) := by rw [ex_57]; exact i32_add rfl (by decide) (by omega) (by omega)
                            refine lv_iinc (v := x_57) (lv' := [(7, .int x_57), (6, .int iv204_6), (5, .int iv204_5), (4, .int iv204_4), (3, .int r_25), (0, .ref x), (1, .int i1), (2, .int i2)]) hx hb dX10_plan_524 hl (k := 0) rfl ex_57.symm (by decide) rfl (fun ls hl => ?_)
                            refine lv_goto (tgt := 456) hx hb dX10_plan_527 (by decide) ?_
                            exact ih456 x_57 _ _ L_51 h_56 (by omega) (by omega)  ls (by omega) hW hT hM ffv_1 ffw27_x_75 fx_17 pi0 (lv_sub hl [0, 1, 2, 3, 4, 5, 6, 7] rfl)
                      have zk_0 : (0 : Int32).toInt = 0 := by decide
                      exact loop456 5 (0 : Int32) _ _ hL1 h_33 (by decide) (by decide)  ls (by omega) hW hT hM ffv_1 ffw27_x_75 fx_17 pi0 hl
                    · skip
                      refine lv_bipush (v := -2) hx hb dX10_plan_442 (by decide) ?_
                      exact hx_reti hx hb hr hlk hW ⟨trivial, hT, hM⟩ dX10_plan_444
                  · skip
                    refine lv_iconst (v := 0) hx hb dX10_plan_209 (by decide) ?_
                    refine lv_istore (lv' := [(7, .int (0 : Int32)), (6, .int iv204_6), (5, .int iv204_5), (4, .int iv204_4), (3, .int r_25), (0, .ref x), (1, .int i1), (2, .int i2)]) hx hb dX10_plan_210 hl (by decide) rfl (fun ls hl => ?_)
                    refine lv_iconst (v := 0) hx hb dX10_plan_212 (by decide) ?_
                    refine lv_istore (lv' := [(8, .int (0 : Int32)), (7, .int (0 : Int32)), (6, .int iv204_6), (5, .int iv204_5), (4, .int iv204_4), (3, .int r_25), (0, .ref x), (1, .int i1), (2, .int i2)]) hx hb dX10_plan_213 hl (by decide) rfl (fun ls hl => ?_)
                    refine lv_iconst (v := 0) hx hb dX10_plan_215 (by decide) ?_
                    refine lv_istore (lv' := [(9, .int (0 : Int32)), (8, .int (0 : Int32)), (7, .int (0 : Int32)), (6, .int iv204_6), (5, .int iv204_5), (4, .int iv204_4), (3, .int r_25), (0, .ref x), (1, .int i1), (2, .int i2)]) hx hb dX10_plan_216 hl (by decide) rfl (fun ls hl => ?_)
                    refine lv_iconst (v := 0) hx hb dX10_plan_218 (by decide) ?_
                    refine lv_istore (lv' := [(10, .int (0 : Int32)), (9, .int (0 : Int32)), (8, .int (0 : Int32)), (7, .int (0 : Int32)), (6, .int iv204_6), (5, .int iv204_5), (4, .int iv204_4), (3, .int r_25), (0, .ref x), (1, .int i1), (2, .int i2)]) hx hb dX10_plan_219 hl (by decide) rfl (fun ls hl => ?_)
                    have loop221 : ∀ (n221 : Nat) (iv221_7 iv221_8 iv221_9 iv221_10 : Int32) (H : Heap) (locs : List Loc) (hL1 : List Nat) (hl1 : hx_h), -2147483648 ≤ iv221_7.toInt → iv221_7.toInt ≤ 2147483647 → -2147483648 ≤ iv221_8.toInt → iv221_8.toInt ≤ 2147483647 → -2147483648 ≤ iv221_9.toInt → iv221_9.toInt ≤ 2147483647 → 0 ≤ iv221_10.toInt → iv221_10.toInt ≤ 4 → ∀ (ls : Array Slot), 4 - iv221_10.toInt < (n221 : Int) → hx_W T_tb (P_ty dA) (dC, dI) vwCl (hx_A L sz) s.heap hL1 hl1 s H locs → hx_T T_tb hL1 hl1 → hx_S T_tb [(10, 67), (10, 68), (10, 69), (10, 70), (10, 71), (10, 72), (10, 75), (100, 0), (101, 0), (102, 0), (103, 0), (104, 0), (105, 0), (106, 0), (107, 0)] L h hL1 hl1 → hl1.2.1 x 20 = fv_1 → hl1.2.1 x 75 = fw27_x_75 → hl1.2.1 x 0 = x_17 → (∀ j : Nat, (j : Int) < (hl1.2.1 x 75).toInt → 1 ≤ (hl1.2.1 qf j).toInt) → hl1.2.1 qm = ia204_qm → lv_has ls 12 [(10, .int iv221_10), (9, .int iv221_9), (8, .int iv221_8), (7, .int iv221_7), (6, .int iv204_6), (5, .int iv204_5), (4, .int iv204_4), (3, .int r_25), (0, .ref x), (1, .int i1), (2, .int i2)] → W p l e ({ frames := 3, cells := 0, slots := 0, locals := 71 }) s m ([.ref x, .int i1, .int i2] : List Value).toArray below meth c H locs 0 0 (MQ below (va_Qi (fun (r : Int32) (u : List Nat × hx_h) => (True) ∧ hx_T T_tb u.1 u.2 ∧ hx_S T_tb [(10, 67), (10, 68), (10, 69), (10, 70), (10, 71), (10, 72), (10, 75), (100, 0), (101, 0), (102, 0), (103, 0), (104, 0), (105, 0), (106, 0), (107, 0)] L h u.1 u.2) (hx_E T_tb (P_ty dA) (dC, dI) vwCl (hx_A L sz)) (hx_A L sz)) ([.ref x, .int i1, .int i2] : List Value).toArray s 0 0 (hx_A L sz)) (F0 m 221 ls []) := by
                      intro n221
                      induction n221 with
                      | zero => intro iv221_7 iv221_8 iv221_9 iv221_10 H locs hL1 hl1 bliv221_7 buiv221_7 bliv221_8 buiv221_8 bliv221_9 buiv221_9 bliv221_10 buiv221_10  ls hn221; exfalso; omega
                      | succ n221 ih221 =>
                        intro iv221_7 iv221_8 iv221_9 iv221_10 H locs hL1 hl1 bliv221_7 buiv221_7 bliv221_8 buiv221_8 bliv221_9 buiv221_9 bliv221_10 buiv221_10  ls hn221 hW hT hM ffv_1 ffw27_x_75 fx_17 pi0 nia204_qm hl
                        refine lv_iload hx hb dX10_plan_221 (lv_at hl 0 rfl) ?_
                        refine lv_aload_n hx hb dX10_plan_223 rfl (lv_at hl 8 rfl) ?_
                        refine hk_geti hx hb hts hC_10 hown hW (gx.S hM) tt_10 75 (by decide) rfl kw_1218 ⟨rfl, rfl, rfl⟩ ffw27_x_75 dX10_plan_224 ?_
                        refine hb_icmp_ge (zx := iv221_10.toInt) (zy := fw27_x_75.toInt) (tgt := 297) hx hb rfl rfl dX10_plan_227 (by decide) (fun c_59 => ?_) (fun c_59 => ?_)
                        · skip
                          refine lv_iload hx hb dX10_plan_297 (lv_at hl 3 rfl) ?_
                          refine lv_iload_n hx hb dX10_plan_299 rfl (lv_at hl 7 rfl) ?_
                          refine hb_icmp_gt (zx := iv221_7.toInt) (zy := r_25.toInt) (tgt := 364) hx hb rfl rfl dX10_plan_300 (by decide) (fun c_60 => ?_) (fun c_60 => ?_)
                          · skip
                            refine lv_aload_n hx hb dX10_plan_364 rfl (lv_at hl 8 rfl) ?_
                            refine hk_geti hx hb hts hC_10 hown hW (gx.S hM) tt_10 75 (by decide) rfl kw_1218 ⟨rfl, rfl, rfl⟩ ffw27_x_75 dX10_plan_365 ?_
                            refine lv_iconst (v := 1) hx hb dX10_plan_368 (by decide) ?_
                            refine lv_isub hx hb dX10_plan_369 ?_
                            have rg_61 := i32_r fw27_x_75
                            refine lv_topi (fun x_62 ex_62 => ?_)
                            have zx_62 : x_62.toInt = fw27_x_75.toInt - 1 := by rw [ex_62]; exact i32_sub rfl (by decide) (by omega) (by omega)
                            refine lv_istore (lv' := [(10, .int x_62), (9, .int iv221_9), (8, .int iv221_8), (7, .int iv221_7), (6, .int iv204_6), (5, .int iv204_5), (4, .int iv204_4), (3, .int r_25), (0, .ref x), (1, .int i1), (2, .int i2)]) hx hb dX10_plan_370 hl (by decide) rfl (fun ls hl => ?_)
                            have loop372 : ∀ (n372 : Nat) (iv372_10 : Int32) (ia372_qm : Nat → Int32) (H : Heap) (locs : List Loc) (hL1 : List Nat) (hl1 : hx_h), -1 ≤ iv372_10.toInt → iv372_10.toInt ≤ 3 → (hx_V ia372_qm + hx_w iv372_10.toInt = hx_V ia204_qm + hx_w (fw27_x_75.toInt - 1)) → (iv372_10.toInt < fw27_x_75.toInt) → ∀ (ls : Array Slot), iv372_10.toInt + 1 < (n372 : Int) → hx_W T_tb (P_ty dA) (dC, dI) vwCl (hx_A L sz) s.heap hL1 hl1 s H locs → hx_T T_tb hL1 hl1 → hx_S T_tb [(10, 67), (10, 68), (10, 69), (10, 70), (10, 71), (10, 72), (10, 75), (100, 0), (101, 0), (102, 0), (103, 0), (104, 0), (105, 0), (106, 0), (107, 0)] L h hL1 hl1 → hl1.2.1 x 20 = fv_1 → hl1.2.1 x 75 = fw27_x_75 → hl1.2.1 x 0 = x_17 → (∀ j : Nat, (j : Int) < (hl1.2.1 x 75).toInt → 1 ≤ (hl1.2.1 qf j).toInt) → hl1.2.1 qm = ia372_qm → lv_has ls 12 [(10, .int iv372_10), (9, .int iv221_9), (8, .int iv221_8), (7, .int iv221_7), (6, .int iv204_6), (5, .int iv204_5), (4, .int iv204_4), (3, .int r_25), (0, .ref x), (1, .int i1), (2, .int i2)] → W p l e ({ frames := 3, cells := 0, slots := 0, locals := 71 }) s m ([.ref x, .int i1, .int i2] : List Value).toArray below meth c H locs 0 0 (MQ below (va_Qi (fun (r : Int32) (u : List Nat × hx_h) => (True) ∧ hx_T T_tb u.1 u.2 ∧ hx_S T_tb [(10, 67), (10, 68), (10, 69), (10, 70), (10, 71), (10, 72), (10, 75), (100, 0), (101, 0), (102, 0), (103, 0), (104, 0), (105, 0), (106, 0), (107, 0)] L h u.1 u.2) (hx_E T_tb (P_ty dA) (dC, dI) vwCl (hx_A L sz)) (hx_A L sz)) ([.ref x, .int i1, .int i2] : List Value).toArray s 0 0 (hx_A L sz)) (F0 m 372 ls []) := by
                              intro n372
                              induction n372 with
                              | zero => intro iv372_10 ia372_qm H locs hL1 hl1 bliv372_10 buiv372_10 vi372_0 vi372_1 ls hn372; exfalso; omega
                              | succ n372 ih372 =>
                                intro iv372_10 ia372_qm H locs hL1 hl1 bliv372_10 buiv372_10 vi372_0 vi372_1 ls hn372 hW hT hM ffv_1 ffw27_x_75 fx_17 pi0 nia372_qm hl
                                refine lv_iload hx hb dX10_plan_372 (lv_at hl 0 rfl) ?_
                                refine hb_if_lt (zx := iv372_10.toInt) (tgt := 403) hx hb rfl dX10_plan_374 (by decide) (fun c_63 => ?_) (fun c_63 => ?_)
                                · skip
                                  refine lv_iload hx hb dX10_plan_403 (lv_at hl 0 rfl) ?_
                                  refine hb_if_lt (zx := iv372_10.toInt) (tgt := 412) hx hb rfl dX10_plan_405 (by decide) (fun c_64 => ?_) (fun c_64 => by exfalso; omega)
                                  refine lv_iconst (v := 0) hx hb dX10_plan_412 (by decide) ?_
                                  refine lv_istore (lv' := [(6, .int (0 : Int32)), (10, .int iv372_10), (9, .int iv221_9), (8, .int iv221_8), (7, .int iv221_7), (5, .int iv204_5), (4, .int iv204_4), (3, .int r_25), (0, .ref x), (1, .int i1), (2, .int i2)]) hx hb dX10_plan_413 hl (by decide) rfl (fun ls hl => ?_)
                                  refine lv_iload hx hb dX10_plan_415 (lv_at hl 0 rfl) ?_
                                  refine hb_if_eq (zx := 0) (tgt := 431) hx hb (by decide) dX10_plan_417 (by decide) (fun c_65 => ?_) (fun c_65 => absurd c_65 (by decide))
                                  have hm12 : hx_m12 ia372_qm := (fun k hk => by have q := hT.ei (gqm.S hM) tt_105 (k := k) hk; rw [nia372_qm] at q; exact q)
                                  have hvb := hx_V_b hm12
                                  refine lv_goto (tgt := 204) hx hb dX10_plan_431 (by decide) ?_
                                  have zk_0 : (0 : Int32).toInt = 0 := by decide
                                  exact ih204 iv204_4 iv204_5 (0 : Int32) ia372_qm _ _ hL1 hl1 (i32_r _).1 (i32_r _).2 (i32_r _).1 (i32_r _).2 (by decide) (by decide) hm12 ls (by omega) hW hT hM ffv_1 ffw27_x_75 fx_17 pi0 nia372_qm (lv_sub hl [0, 5, 6, 7, 8, 9, 10] rfl)
                                · skip
                                  refine lv_aload_n hx hb dX10_plan_377 rfl (lv_at hl 8 rfl) ?_
                                  refine hk_getr hx hb hts hC_10 hown hW (gx.S hM) tt_10 79 (by decide) rfl kw_1222 ⟨rfl, rfl, rfl⟩ ((hM.o gx trivial rfl).2.trans f_x_79) dX10_plan_378 ?_
                                  refine lv_iload hx hb dX10_plan_381 (lv_at hl 0 rfl) ?_
                                  refine hx_iald hx hb hW hT (gqm.S hM) tt_105 rfl ⟨by omega, by omega⟩ dX10_plan_383 (fun x_66 ex_66 lx_66 ux_66 => ?_)
                                  have ax_66 : x_66 = ia372_qm iv372_10.toNatClampNeg := ex_66.trans (congrFun nia372_qm _)
                                  refine lv_bipush (v := 12) hx hb dX10_plan_384 (by decide) ?_
                                  refine hb_icmp_ne (zx := x_66.toInt) (zy := 12) (tgt := 403) hx hb rfl (by decide) dX10_plan_386 (by decide) (fun c_67 => ?_) (fun c_67 => ?_)
                                  · skip
                                    refine lv_iload hx hb dX10_plan_403 (lv_at hl 0 rfl) ?_
                                    refine hb_if_lt (zx := iv372_10.toInt) (tgt := 412) hx hb rfl dX10_plan_405 (by decide) (fun c_68 => by exfalso; omega) (fun c_68 => ?_)
                                    refine lv_iconst (v := 1) hx hb dX10_plan_408 (by decide) ?_
                                    refine lv_goto (tgt := 413) hx hb dX10_plan_409 (by decide) ?_
                                    refine lv_istore (lv' := [(6, .int (1 : Int32)), (10, .int iv372_10), (9, .int iv221_9), (8, .int iv221_8), (7, .int iv221_7), (5, .int iv204_5), (4, .int iv204_4), (3, .int r_25), (0, .ref x), (1, .int i1), (2, .int i2)]) hx hb dX10_plan_413 hl (by decide) rfl (fun ls hl => ?_)
                                    refine lv_iload hx hb dX10_plan_415 (lv_at hl 0 rfl) ?_
                                    refine hb_if_eq (zx := 1) (tgt := 431) hx hb (by decide) dX10_plan_417 (by decide) (fun c_69 => absurd c_69 (by decide)) (fun c_69 => ?_)
                                    refine lv_aload_n hx hb dX10_plan_420 rfl (lv_at hl 8 rfl) ?_
                                    refine hk_getr hx hb hts hC_10 hown hW (gx.S hM) tt_10 79 (by decide) rfl kw_1222 ⟨rfl, rfl, rfl⟩ ((hM.o gx trivial rfl).2.trans f_x_79) dX10_plan_421 ?_
                                    refine lv_iload hx hb dX10_plan_424 (lv_at hl 1 rfl) ?_
                                    refine lv_dup2_11 hx hb dX10_plan_426 rfl rfl ?_
                                    refine hx_iald hx hb hW hT (gqm.S hM) tt_105 rfl ⟨by omega, by omega⟩ dX10_plan_427 (fun x_70 ex_70 lx_70 ux_70 => ?_)
                                    have ax_70 : x_70 = ia372_qm iv372_10.toNatClampNeg := ex_70.trans (congrFun nia372_qm _)
                                    obtain rfl : x_66 = x_70 := ex_66.trans ex_70.symm
                                    refine lv_iconst (v := 1) hx hb dX10_plan_428 (by decide) ?_
                                    refine lv_iadd hx hb dX10_plan_429 ?_
                                    have rg_71 := i32_r x_66
                                    refine lv_topi (fun x_72 ex_72 => ?_)
                                    have zx_72 : x_72.toInt = x_66.toInt + 1 := by rw [ex_72]; exact i32_add rfl (by decide) (by omega) (by omega)
                                    have nia372_qmO := nia372_qm
                                    refine hx_iast hx hb hW hT (hx_S.rf (M := [(105, 0)])) (gqm.S hM) tt_105 rfl ⟨by omega, by omega⟩ rfl ⟨by omega, by omega⟩ (List.mem_singleton.mpr rfl) dX10_plan_430 (fun H locs h_73 eh_73 hW hT hs => ?_)
                                    replace ffv_1 := (hs.o (gx.S hM) trivial rfl).1.trans ffv_1
                                    replace ffw27_x_75 := (hs.o (gx.S hM) trivial rfl).1.trans ffw27_x_75
                                    replace fx_17 := (hs.o (gx.S hM) trivial rfl).1.trans fx_17
                                    replace pi0 : ∀ j : Nat, (j : Int) < (h_73.2.1 x 75).toInt → 1 ≤ (h_73.2.1 qf j).toInt := by
                                      intro j hj; rw [(hs.o (gx.S hM) trivial rfl).1] at hj; rw [(hs.a (gqf.S hM) rfl j).1]; exact pi0 j hj
                                    replace hM := hM.tr (hs.mono (by decide))
                                    obtain ⟨fa_74, dfa_74⟩ : ∃ g : Nat → Int32, g = hx_up ia372_qm iv372_10.toNatClampNeg x_72 := ⟨_, rfl⟩
                                    have nfa_74 : h_73.2.1 qm = fa_74 := by rw [eh_73, dfa_74, ← nia372_qmO]; exact hx_pi_fun _ _ _ _
                                    have hvq := (hx_V_up (by omega) (by omega) ax_66 dfa_74).2 (by omega)
                                    have hwq := hx_w_b (i := (fw27_x_75.toInt - 1 : Int))
                                    have hm12 : hx_m12 fa_74 := (fun k hk => by have q := hT.ei (gqm.S hM) tt_105 (k := k) hk; rw [nfa_74] at q; exact q)
                                    have hvb := hx_V_b hm12
                                    refine lv_goto (tgt := 204) hx hb dX10_plan_431 (by decide) ?_
                                    have zk_1 : (1 : Int32).toInt = 1 := by decide
                                    exact ih204 iv204_4 iv204_5 (1 : Int32) fa_74 _ _ hL1 h_73 (i32_r _).1 (i32_r _).2 (i32_r _).1 (i32_r _).2 (by decide) (by decide) hm12 ls (by omega) hW hT hM ffv_1 ffw27_x_75 fx_17 pi0 nfa_74 (lv_sub hl [0, 5, 6, 7, 8, 9, 10] rfl)
                                  · skip
                                    refine lv_aload_n hx hb dX10_plan_389 rfl (lv_at hl 8 rfl) ?_
                                    refine hk_getr hx hb hts hC_10 hown hW (gx.S hM) tt_10 79 (by decide) rfl kw_1222 ⟨rfl, rfl, rfl⟩ ((hM.o gx trivial rfl).2.trans f_x_79) dX10_plan_390 ?_
                                    refine lv_iload hx hb dX10_plan_393 (lv_at hl 0 rfl) ?_
                                    refine lv_iconst (v := 0) hx hb dX10_plan_395 (by decide) ?_
                                    have nia372_qmO := nia372_qm
                                    refine hx_iast hx hb hW hT (hx_S.rf (M := [(105, 0)])) (gqm.S hM) tt_105 rfl ⟨by omega, by omega⟩ rfl (by decide) (List.mem_singleton.mpr rfl) dX10_plan_396 (fun H locs h_75 eh_75 hW hT hs => ?_)
                                    replace ffv_1 := (hs.o (gx.S hM) trivial rfl).1.trans ffv_1
                                    replace ffw27_x_75 := (hs.o (gx.S hM) trivial rfl).1.trans ffw27_x_75
                                    replace fx_17 := (hs.o (gx.S hM) trivial rfl).1.trans fx_17
                                    replace pi0 : ∀ j : Nat, (j : Int) < (h_75.2.1 x 75).toInt → 1 ≤ (h_75.2.1 qf j).toInt := by
                                      intro j hj; rw [(hs.o (gx.S hM) trivial rfl).1] at hj; rw [(hs.a (gqf.S hM) rfl j).1]; exact pi0 j hj
                                    replace hM := hM.tr (hs.mono (by decide))
                                    obtain ⟨fa_76, dfa_76⟩ : ∃ g : Nat → Int32, g = hx_up ia372_qm iv372_10.toNatClampNeg (0 : Int32) := ⟨_, rfl⟩
                                    have nfa_76 : h_75.2.1 qm = fa_76 := by rw [eh_75, dfa_76, ← nia372_qmO]; exact hx_pi_fun _ _ _ _
                                    obtain ⟨x_77, ex_77⟩ : ∃ y : Int32, y = iv372_10 + Int32.ofInt (-1) := ⟨_, rfl⟩
                                    have rg_78 := i32_r iv372_10
                                    have zx_77 : x_77.toInt = iv372_10.toInt + (-1) := by rw [ex_77]; exact i32_add rfl (by decide) (by omega) (by omega)
                                    refine lv_iinc (v := x_77) (lv' := [(10, .int x_77), (9, .int iv221_9), (8, .int iv221_8), (7, .int iv221_7), (6, .int iv204_6), (5, .int iv204_5), (4, .int iv204_4), (3, .int r_25), (0, .ref x), (1, .int i1), (2, .int i2)]) hx hb dX10_plan_397 hl (k := 0) rfl ex_77.symm (by decide) rfl (fun ls hl => ?_)
                                    refine lv_goto (tgt := 372) hx hb dX10_plan_400 (by decide) ?_
                                    exact ih372 x_77 fa_76 _ _ hL1 h_75 (by omega) (by omega) (by have q := (hx_V_up (by omega) (by omega) ax_66 dfa_76).1 (by omega) (by decide); rw [show x_77.toInt = iv372_10.toInt - 1 from by omega]; omega) (by omega) ls (by omega) hW hT hM ffv_1 ffw27_x_75 fx_17 pi0 nfa_76 (lv_sub hl [0, 1, 2, 3, 4, 5, 6, 7, 8, 9, 10] rfl)
                            exact loop372 5 x_62 ia204_qm _ _ hL1 hl1 (by omega) (by omega) (by rw [zx_62]) (by omega) ls (by omega) hW hT hM ffv_1 ffw27_x_75 fx_17 pi0 nia204_qm hl
                          · skip
                            refine lv_iload hx hb dX10_plan_303 (lv_at hl 2 rfl) ?_
                            refine lv_iload hx hb dX10_plan_305 (lv_at hl 6 rfl) ?_
                            refine hb_icmp_lt (zx := iv221_8.toInt) (zy := iv204_4.toInt) (tgt := 324) hx hb rfl rfl dX10_plan_307 (by decide) (fun c_79 => ?_) (fun c_79 => ?_)
                            · skip
                              refine lv_iload hx hb dX10_plan_324 (lv_at hl 2 rfl) ?_
                              refine lv_istore (lv' := [(4, .int iv221_8), (10, .int iv221_10), (9, .int iv221_9), (8, .int iv221_8), (7, .int iv221_7), (6, .int iv204_6), (5, .int iv204_5), (3, .int r_25), (0, .ref x), (1, .int i1), (2, .int i2)]) hx hb dX10_plan_326 hl (by decide) rfl (fun ls hl => ?_)
                              refine lv_iload hx hb dX10_plan_328 (lv_at hl 2 rfl) ?_
                              refine lv_istore (lv' := [(5, .int iv221_9), (4, .int iv221_8), (10, .int iv221_10), (9, .int iv221_9), (8, .int iv221_8), (7, .int iv221_7), (6, .int iv204_6), (3, .int r_25), (0, .ref x), (1, .int i1), (2, .int i2)]) hx hb dX10_plan_330 hl (by decide) rfl (fun ls hl => ?_)
                              refine lv_iconst (v := 0) hx hb dX10_plan_332 (by decide) ?_
                              refine lv_istore (lv' := [(10, .int (0 : Int32)), (5, .int iv221_9), (4, .int iv221_8), (9, .int iv221_9), (8, .int iv221_8), (7, .int iv221_7), (6, .int iv204_6), (3, .int r_25), (0, .ref x), (1, .int i1), (2, .int i2)]) hx hb dX10_plan_333 hl (by decide) rfl (fun ls hl => ?_)
                              have loop335 : ∀ (n335 : Nat) (iv335_10 : Int32) (H : Heap) (locs : List Loc) (hL1 : List Nat) (hl1 : hx_h), 0 ≤ iv335_10.toInt → iv335_10.toInt ≤ 4 → ∀ (ls : Array Slot), 4 - iv335_10.toInt < (n335 : Int) → hx_W T_tb (P_ty dA) (dC, dI) vwCl (hx_A L sz) s.heap hL1 hl1 s H locs → hx_T T_tb hL1 hl1 → hx_S T_tb [(10, 67), (10, 68), (10, 69), (10, 70), (10, 71), (10, 72), (10, 75), (100, 0), (101, 0), (102, 0), (103, 0), (104, 0), (105, 0), (106, 0), (107, 0)] L h hL1 hl1 → hl1.2.1 x 20 = fv_1 → hl1.2.1 x 75 = fw27_x_75 → hl1.2.1 x 0 = x_17 → (∀ j : Nat, (j : Int) < (hl1.2.1 x 75).toInt → 1 ≤ (hl1.2.1 qf j).toInt) → hl1.2.1 qm = ia204_qm → lv_has ls 12 [(10, .int iv335_10), (5, .int iv221_9), (4, .int iv221_8), (9, .int iv221_9), (8, .int iv221_8), (7, .int iv221_7), (6, .int iv204_6), (3, .int r_25), (0, .ref x), (1, .int i1), (2, .int i2)] → W p l e ({ frames := 3, cells := 0, slots := 0, locals := 71 }) s m ([.ref x, .int i1, .int i2] : List Value).toArray below meth c H locs 0 0 (MQ below (va_Qi (fun (r : Int32) (u : List Nat × hx_h) => (True) ∧ hx_T T_tb u.1 u.2 ∧ hx_S T_tb [(10, 67), (10, 68), (10, 69), (10, 70), (10, 71), (10, 72), (10, 75), (100, 0), (101, 0), (102, 0), (103, 0), (104, 0), (105, 0), (106, 0), (107, 0)] L h u.1 u.2) (hx_E T_tb (P_ty dA) (dC, dI) vwCl (hx_A L sz)) (hx_A L sz)) ([.ref x, .int i1, .int i2] : List Value).toArray s 0 0 (hx_A L sz)) (F0 m 335 ls []) := by
                                intro n335
                                induction n335 with
                                | zero => intro iv335_10 H locs hL1 hl1 bliv335_10 buiv335_10  ls hn335; exfalso; omega
                                | succ n335 ih335 =>
                                  intro iv335_10 H locs hL1 hl1 bliv335_10 buiv335_10  ls hn335 hW hT hM ffv_1 ffw27_x_75 fx_17 pi0 nia204_qm hl
                                  refine lv_iload hx hb dX10_plan_335 (lv_at hl 0 rfl) ?_
                                  refine lv_aload_n hx hb dX10_plan_337 rfl (lv_at hl 8 rfl) ?_
                                  refine hk_geti hx hb hts hC_10 hown hW (gx.S hM) tt_10 75 (by decide) rfl kw_1218 ⟨rfl, rfl, rfl⟩ ffw27_x_75 dX10_plan_338 ?_
                                  refine hb_icmp_ge (zx := iv335_10.toInt) (zy := fw27_x_75.toInt) (tgt := 364) hx hb rfl rfl dX10_plan_341 (by decide) (fun c_80 => ?_) (fun c_80 => ?_)
                                  · skip
                                    refine lv_aload_n hx hb dX10_plan_364 rfl (lv_at hl 8 rfl) ?_
                                    refine hk_geti hx hb hts hC_10 hown hW (gx.S hM) tt_10 75 (by decide) rfl kw_1218 ⟨rfl, rfl, rfl⟩ ffw27_x_75 dX10_plan_365 ?_
                                    refine lv_iconst (v := 1) hx hb dX10_plan_368 (by decide) ?_
                                    refine lv_isub hx hb dX10_plan_369 ?_
                                    have rg_81 := i32_r fw27_x_75
                                    refine lv_topi (fun x_82 ex_82 => ?_)
                                    have zx_82 : x_82.toInt = fw27_x_75.toInt - 1 := by rw [ex_82]; exact i32_sub rfl (by decide) (by omega) (by omega)
                                    refine lv_istore (lv' := [(10, .int x_82), (5, .int iv221_9), (4, .int iv221_8), (9, .int iv221_9), (8, .int iv221_8), (7, .int iv221_7), (6, .int iv204_6), (3, .int r_25), (0, .ref x), (1, .int i1), (2, .int i2)]) hx hb dX10_plan_370 hl (by decide) rfl (fun ls hl => ?_)
                                    have loop372 : ∀ (n372 : Nat) (iv372_10 : Int32) (ia372_qm : Nat → Int32) (H : Heap) (locs : List Loc) (hL1 : List Nat) (hl1 : hx_h), -1 ≤ iv372_10.toInt → iv372_10.toInt ≤ 3 → (hx_V ia372_qm + hx_w iv372_10.toInt = hx_V ia204_qm + hx_w (fw27_x_75.toInt - 1)) → (iv372_10.toInt < fw27_x_75.toInt) → ∀ (ls : Array Slot), iv372_10.toInt + 1 < (n372 : Int) → hx_W T_tb (P_ty dA) (dC, dI) vwCl (hx_A L sz) s.heap hL1 hl1 s H locs → hx_T T_tb hL1 hl1 → hx_S T_tb [(10, 67), (10, 68), (10, 69), (10, 70), (10, 71), (10, 72), (10, 75), (100, 0), (101, 0), (102, 0), (103, 0), (104, 0), (105, 0), (106, 0), (107, 0)] L h hL1 hl1 → hl1.2.1 x 20 = fv_1 → hl1.2.1 x 75 = fw27_x_75 → hl1.2.1 x 0 = x_17 → (∀ j : Nat, (j : Int) < (hl1.2.1 x 75).toInt → 1 ≤ (hl1.2.1 qf j).toInt) → hl1.2.1 qm = ia372_qm → lv_has ls 12 [(10, .int iv372_10), (5, .int iv221_9), (4, .int iv221_8), (9, .int iv221_9), (8, .int iv221_8), (7, .int iv221_7), (6, .int iv204_6), (3, .int r_25), (0, .ref x), (1, .int i1), (2, .int i2)] → W p l e ({ frames := 3, cells := 0, slots := 0, locals := 71 }) s m ([.ref x, .int i1, .int i2] : List Value).toArray below meth c H locs 0 0 (MQ below (va_Qi (fun (r : Int32) (u : List Nat × hx_h) => (True) ∧ hx_T T_tb u.1 u.2 ∧ hx_S T_tb [(10, 67), (10, 68), (10, 69), (10, 70), (10, 71), (10, 72), (10, 75), (100, 0), (101, 0), (102, 0), (103, 0), (104, 0), (105, 0), (106, 0), (107, 0)] L h u.1 u.2) (hx_E T_tb (P_ty dA) (dC, dI) vwCl (hx_A L sz)) (hx_A L sz)) ([.ref x, .int i1, .int i2] : List Value).toArray s 0 0 (hx_A L sz)) (F0 m 372 ls []) := by
                                      intro n372
                                      induction n372 with
                                      | zero => intro iv372_10 ia372_qm H locs hL1 hl1 bliv372_10 buiv372_10 vi372_0 vi372_1 ls hn372; exfalso; omega
                                      | succ n372 ih372 =>
                                        intro iv372_10 ia372_qm H locs hL1 hl1 bliv372_10 buiv372_10 vi372_0 vi372_1 ls hn372 hW hT hM ffv_1 ffw27_x_75 fx_17 pi0 nia372_qm hl
                                        refine lv_iload hx hb dX10_plan_372 (lv_at hl 0 rfl) ?_
                                        refine hb_if_lt (zx := iv372_10.toInt) (tgt := 403) hx hb rfl dX10_plan_374 (by decide) (fun c_83 => ?_) (fun c_83 => ?_)
                                        · skip
                                          refine lv_iload hx hb dX10_plan_403 (lv_at hl 0 rfl) ?_
                                          refine hb_if_lt (zx := iv372_10.toInt) (tgt := 412) hx hb rfl dX10_plan_405 (by decide) (fun c_84 => ?_) (fun c_84 => by exfalso; omega)
                                          refine lv_iconst (v := 0) hx hb dX10_plan_412 (by decide) ?_
                                          refine lv_istore (lv' := [(6, .int (0 : Int32)), (10, .int iv372_10), (5, .int iv221_9), (4, .int iv221_8), (9, .int iv221_9), (8, .int iv221_8), (7, .int iv221_7), (3, .int r_25), (0, .ref x), (1, .int i1), (2, .int i2)]) hx hb dX10_plan_413 hl (by decide) rfl (fun ls hl => ?_)
                                          refine lv_iload hx hb dX10_plan_415 (lv_at hl 0 rfl) ?_
                                          refine hb_if_eq (zx := 0) (tgt := 431) hx hb (by decide) dX10_plan_417 (by decide) (fun c_85 => ?_) (fun c_85 => absurd c_85 (by decide))
                                          have hm12 : hx_m12 ia372_qm := (fun k hk => by have q := hT.ei (gqm.S hM) tt_105 (k := k) hk; rw [nia372_qm] at q; exact q)
                                          have hvb := hx_V_b hm12
                                          refine lv_goto (tgt := 204) hx hb dX10_plan_431 (by decide) ?_
                                          have zk_0 : (0 : Int32).toInt = 0 := by decide
                                          exact ih204 iv221_8 iv221_9 (0 : Int32) ia372_qm _ _ hL1 hl1 (i32_r _).1 (i32_r _).2 (i32_r _).1 (i32_r _).2 (by decide) (by decide) hm12 ls (by omega) hW hT hM ffv_1 ffw27_x_75 fx_17 pi0 nia372_qm (lv_sub hl [0, 2, 3, 7, 8, 9, 10] rfl)
                                        · skip
                                          refine lv_aload_n hx hb dX10_plan_377 rfl (lv_at hl 8 rfl) ?_
                                          refine hk_getr hx hb hts hC_10 hown hW (gx.S hM) tt_10 79 (by decide) rfl kw_1222 ⟨rfl, rfl, rfl⟩ ((hM.o gx trivial rfl).2.trans f_x_79) dX10_plan_378 ?_
                                          refine lv_iload hx hb dX10_plan_381 (lv_at hl 0 rfl) ?_
                                          refine hx_iald hx hb hW hT (gqm.S hM) tt_105 rfl ⟨by omega, by omega⟩ dX10_plan_383 (fun x_86 ex_86 lx_86 ux_86 => ?_)
                                          have ax_86 : x_86 = ia372_qm iv372_10.toNatClampNeg := ex_86.trans (congrFun nia372_qm _)
                                          refine lv_bipush (v := 12) hx hb dX10_plan_384 (by decide) ?_
                                          refine hb_icmp_ne (zx := x_86.toInt) (zy := 12) (tgt := 403) hx hb rfl (by decide) dX10_plan_386 (by decide) (fun c_87 => ?_) (fun c_87 => ?_)
                                          · skip
                                            refine lv_iload hx hb dX10_plan_403 (lv_at hl 0 rfl) ?_
                                            refine hb_if_lt (zx := iv372_10.toInt) (tgt := 412) hx hb rfl dX10_plan_405 (by decide) (fun c_88 => by exfalso; omega) (fun c_88 => ?_)
                                            refine lv_iconst (v := 1) hx hb dX10_plan_408 (by decide) ?_
                                            refine lv_goto (tgt := 413) hx hb dX10_plan_409 (by decide) ?_
                                            refine lv_istore (lv' := [(6, .int (1 : Int32)), (10, .int iv372_10), (5, .int iv221_9), (4, .int iv221_8), (9, .int iv221_9), (8, .int iv221_8), (7, .int iv221_7), (3, .int r_25), (0, .ref x), (1, .int i1), (2, .int i2)]) hx hb dX10_plan_413 hl (by decide) rfl (fun ls hl => ?_)
                                            refine lv_iload hx hb dX10_plan_415 (lv_at hl 0 rfl) ?_
                                            refine hb_if_eq (zx := 1) (tgt := 431) hx hb (by decide) dX10_plan_417 (by decide) (fun c_89 => absurd c_89 (by decide)) (fun c_89 => ?_)
                                            refine lv_aload_n hx hb dX10_plan_420 rfl (lv_at hl 8 rfl) ?_
                                            refine hk_getr hx hb hts hC_10 hown hW (gx.S hM) tt_10 79 (by decide) rfl kw_1222 ⟨rfl, rfl, rfl⟩ ((hM.o gx trivial rfl).2.trans f_x_79) dX10_plan_421 ?_
                                            refine lv_iload hx hb dX10_plan_424 (lv_at hl 1 rfl) ?_
                                            refine lv_dup2_11 hx hb dX10_plan_426 rfl rfl ?_
                                            refine hx_iald hx hb hW hT (gqm.S hM) tt_105 rfl ⟨by omega, by omega⟩ dX10_plan_427 (fun x_90 ex_90 lx_90 ux_90 => ?_)
                                            have ax_90 : x_90 = ia372_qm iv372_10.toNatClampNeg := ex_90.trans (congrFun nia372_qm _)
                                            obtain rfl : x_86 = x_90 := ex_86.trans ex_90.symm
                                            refine lv_iconst (v := 1) hx hb dX10_plan_428 (by decide) ?_
                                            refine lv_iadd hx hb dX10_plan_429 ?_
                                            have rg_91 := i32_r x_86
                                            refine lv_topi (fun x_92 ex_92 => ?_)
                                            have zx_92 : x_92.toInt = x_86.toInt + 1 := by rw [ex_92]; exact i32_add rfl (by decide) (by omega) (by omega)
                                            have nia372_qmO := nia372_qm
                                            refine hx_iast hx hb hW hT (hx_S.rf (M := [(105, 0)])) (gqm.S hM) tt_105 rfl ⟨by omega, by omega⟩ rfl ⟨by omega, by omega⟩ (List.mem_singleton.mpr rfl) dX10_plan_430 (fun H locs h_93 eh_93 hW hT hs => ?_)
                                            replace ffv_1 := (hs.o (gx.S hM) trivial rfl).1.trans ffv_1
                                            replace ffw27_x_75 := (hs.o (gx.S hM) trivial rfl).1.trans ffw27_x_75
                                            replace fx_17 := (hs.o (gx.S hM) trivial rfl).1.trans fx_17
                                            replace pi0 : ∀ j : Nat, (j : Int) < (h_93.2.1 x 75).toInt → 1 ≤ (h_93.2.1 qf j).toInt := by
                                              intro j hj; rw [(hs.o (gx.S hM) trivial rfl).1] at hj; rw [(hs.a (gqf.S hM) rfl j).1]; exact pi0 j hj
                                            replace hM := hM.tr (hs.mono (by decide))
                                            obtain ⟨fa_94, dfa_94⟩ : ∃ g : Nat → Int32, g = hx_up ia372_qm iv372_10.toNatClampNeg x_92 := ⟨_, rfl⟩
                                            have nfa_94 : h_93.2.1 qm = fa_94 := by rw [eh_93, dfa_94, ← nia372_qmO]; exact hx_pi_fun _ _ _ _
                                            have hvq := (hx_V_up (by omega) (by omega) ax_86 dfa_94).2 (by omega)
                                            have hwq := hx_w_b (i := (fw27_x_75.toInt - 1 : Int))
                                            have hm12 : hx_m12 fa_94 := (fun k hk => by have q := hT.ei (gqm.S hM) tt_105 (k := k) hk; rw [nfa_94] at q; exact q)
                                            have hvb := hx_V_b hm12
                                            refine lv_goto (tgt := 204) hx hb dX10_plan_431 (by decide) ?_
                                            have zk_1 : (1 : Int32).toInt = 1 := by decide
                                            exact ih204 iv221_8 iv221_9 (1 : Int32) fa_94 _ _ hL1 h_93 (i32_r _).1 (i32_r _).2 (i32_r _).1 (i32_r _).2 (by decide) (by decide) hm12 ls (by omega) hW hT hM ffv_1 ffw27_x_75 fx_17 pi0 nfa_94 (lv_sub hl [0, 2, 3, 7, 8, 9, 10] rfl)
                                          · skip
                                            refine lv_aload_n hx hb dX10_plan_389 rfl (lv_at hl 8 rfl) ?_
                                            refine hk_getr hx hb hts hC_10 hown hW (gx.S hM) tt_10 79 (by decide) rfl kw_1222 ⟨rfl, rfl, rfl⟩ ((hM.o gx trivial rfl).2.trans f_x_79) dX10_plan_390 ?_
                                            refine lv_iload hx hb dX10_plan_393 (lv_at hl 0 rfl) ?_
                                            refine lv_iconst (v := 0) hx hb dX10_plan_395 (by decide) ?_
                                            have nia372_qmO := nia372_qm
                                            refine hx_iast hx hb hW hT (hx_S.rf (M := [(105, 0)])) (gqm.S hM) tt_105 rfl ⟨by omega, by omega⟩ rfl (by decide) (List.mem_singleton.mpr rfl) dX10_plan_396 (fun H locs h_95 eh_95 hW hT hs => ?_)
                                            replace ffv_1 := (hs.o (gx.S hM) trivial rfl).1.trans ffv_1
                                            replace ffw27_x_75 := (hs.o (gx.S hM) trivial rfl).1.trans ffw27_x_75
                                            replace fx_17 := (hs.o (gx.S hM) trivial rfl).1.trans fx_17
                                            replace pi0 : ∀ j : Nat, (j : Int) < (h_95.2.1 x 75).toInt → 1 ≤ (h_95.2.1 qf j).toInt := by
                                              intro j hj; rw [(hs.o (gx.S hM) trivial rfl).1] at hj; rw [(hs.a (gqf.S hM) rfl j).1]; exact pi0 j hj
                                            replace hM := hM.tr (hs.mono (by decide))
                                            obtain ⟨fa_96, dfa_96⟩ : ∃ g : Nat → Int32, g = hx_up ia372_qm iv372_10.toNatClampNeg (0 : Int32) := ⟨_, rfl⟩
                                            have nfa_96 : h_95.2.1 qm = fa_96 := by rw [eh_95, dfa_96, ← nia372_qmO]; exact hx_pi_fun _ _ _ _
                                            obtain ⟨x_97, ex_97⟩ : ∃ y : Int32, y = iv372_10 + Int32.ofInt (-1) := ⟨_, rfl⟩
                                            have rg_98 := i32_r iv372_10
                                            have zx_97 : x_97.toInt = iv372_10.toInt + (-1) := by rw [ex_97]; exact i32_add rfl (by decide) (by omega) (by omega)
                                            refine lv_iinc (v := x_97) (lv' := [(10, .int x_97), (5, .int iv221_9), (4, .int iv221_8), (9, .int iv221_9), (8, .int iv221_8), (7, .int iv221_7), (6, .int iv204_6), (3, .int r_25), (0, .ref x), (1, .int i1), (2, .int i2)]) hx hb dX10_plan_397 hl (k := 0) rfl ex_97.symm (by decide) rfl (fun ls hl => ?_)
                                            refine lv_goto (tgt := 372) hx hb dX10_plan_400 (by decide) ?_
                                            exact ih372 x_97 fa_96 _ _ hL1 h_95 (by omega) (by omega) (by have q := (hx_V_up (by omega) (by omega) ax_86 dfa_96).1 (by omega) (by decide); rw [show x_97.toInt = iv372_10.toInt - 1 from by omega]; omega) (by omega) ls (by omega) hW hT hM ffv_1 ffw27_x_75 fx_17 pi0 nfa_96 (lv_sub hl [0, 1, 2, 3, 4, 5, 6, 7, 8, 9, 10] rfl)
                                    exact loop372 5 x_82 ia204_qm _ _ hL1 hl1 (by omega) (by omega) (by rw [zx_82]) (by omega) ls (by omega) hW hT hM ffv_1 ffw27_x_75 fx_17 pi0 nia204_qm hl
                                  · skip
                                    refine lv_aload_n hx hb dX10_plan_344 rfl (lv_at hl 8 rfl) ?_
                                    refine hx_getn hx hb hts hC_10 hown hW hT (gx.S hM) tt_10 80 (by decide) rfl kw_1223 ⟨rfl, rfl, rfl⟩ dX10_plan_345 (fun q_99 fq_99 gq_99 => ?_)
                                    refine lv_iload hx hb dX10_plan_348 (lv_at hl 0 rfl) ?_
                                    refine lv_aload_n hx hb dX10_plan_350 rfl (lv_at hl 8 rfl) ?_
                                    refine hk_getr hx hb hts hC_10 hown hW (gx.S hM) tt_10 79 (by decide) rfl kw_1222 ⟨rfl, rfl, rfl⟩ ((hM.o gx trivial rfl).2.trans f_x_79) dX10_plan_351 ?_
                                    refine lv_iload hx hb dX10_plan_354 (lv_at hl 0 rfl) ?_
                                    refine hx_iald hx hb hW hT (gqm.S hM) tt_105 rfl ⟨by omega, by omega⟩ dX10_plan_356 (fun x_100 ex_100 lx_100 ux_100 => ?_)
                                    have ax_100 : x_100 = ia204_qm iv335_10.toNatClampNeg := ex_100.trans (congrFun nia204_qm _)
                                    refine hx_iast hx hb hW hT (hx_S.rf (M := [(106, 0)])) gq_99 tt_106 rfl ⟨by omega, by omega⟩ rfl ⟨by omega, by omega⟩ (List.mem_singleton.mpr rfl) dX10_plan_357 (fun H locs h_101 eh_101 hW hT hs => ?_)
                                    replace ffv_1 := (hs.o (gx.S hM) trivial rfl).1.trans ffv_1
                                    replace ffw27_x_75 := (hs.o (gx.S hM) trivial rfl).1.trans ffw27_x_75
                                    replace fx_17 := (hs.o (gx.S hM) trivial rfl).1.trans fx_17
                                    replace fq_99 := (hs.o (gx.S hM) trivial rfl).2.trans fq_99
                                    replace nia204_qm : h_101.2.1 qm = ia204_qm := (funext fun j => (hs.a (gqm.S hM) rfl j).1).trans nia204_qm
                                    replace ex_100 := ex_100.trans (hs.a (gqm.S hM) rfl _).1.symm
                                    replace pi0 : ∀ j : Nat, (j : Int) < (h_101.2.1 x 75).toInt → 1 ≤ (h_101.2.1 qf j).toInt := by
                                      intro j hj; rw [(hs.o (gx.S hM) trivial rfl).1] at hj; rw [(hs.a (gqf.S hM) rfl j).1]; exact pi0 j hj
                                    replace hM := hM.tr (hs.mono (by decide))
                                    replace gq_99 := gq_99.S hs
                                    obtain ⟨x_102, ex_102⟩ : ∃ y : Int32, y = iv335_10 + Int32.ofInt 1 := ⟨_, rfl⟩
                                    have rg_103 := i32_r iv335_10
                                    have zx_102 : x_102.toInt = iv335_10.toInt + (1) := by rw [ex_102]; exact i32_add rfl (by decide) (by omega) (by omega)
                                    refine lv_iinc (v := x_102) (lv' := [(10, .int x_102), (5, .int iv221_9), (4, .int iv221_8), (9, .int iv221_9), (8, .int iv221_8), (7, .int iv221_7), (6, .int iv204_6), (3, .int r_25), (0, .ref x), (1, .int i1), (2, .int i2)]) hx hb dX10_plan_358 hl (k := 0) rfl ex_102.symm (by decide) rfl (fun ls hl => ?_)
                                    refine lv_goto (tgt := 335) hx hb dX10_plan_361 (by decide) ?_
                                    exact ih335 x_102 _ _ hL1 h_101 (by omega) (by omega)  ls (by omega) hW hT hM ffv_1 ffw27_x_75 fx_17 pi0 nia204_qm (lv_sub hl [0, 1, 2, 3, 4, 5, 6, 7, 8, 9, 10] rfl)
                              have zk_0 : (0 : Int32).toInt = 0 := by decide
                              exact loop335 5 (0 : Int32) _ _ hL1 hl1 (by decide) (by decide)  ls (by omega) hW hT hM ffv_1 ffw27_x_75 fx_17 pi0 nia204_qm hl
                            · skip
                              refine lv_iload hx hb dX10_plan_310 (lv_at hl 2 rfl) ?_
                              refine lv_iload hx hb dX10_plan_312 (lv_at hl 6 rfl) ?_
                              refine hb_icmp_ne (zx := iv221_8.toInt) (zy := iv204_4.toInt) (tgt := 364) hx hb rfl rfl dX10_plan_314 (by decide) (fun c_104 => ?_) (fun c_104 => ?_)
                              · skip
                                refine lv_aload_n hx hb dX10_plan_364 rfl (lv_at hl 8 rfl) ?_
                                refine hk_geti hx hb hts hC_10 hown hW (gx.S hM) tt_10 75 (by decide) rfl kw_1218 ⟨rfl, rfl, rfl⟩ ffw27_x_75 dX10_plan_365 ?_
                                refine lv_iconst (v := 1) hx hb dX10_plan_368 (by decide) ?_
                                refine lv_isub hx hb dX10_plan_369 ?_
                                have rg_105 := i32_r fw27_x_75
                                refine lv_topi (fun x_106 ex_106 => ?_)
                                have zx_106 : x_106.toInt = fw27_x_75.toInt - 1 := by rw [ex_106]; exact i32_sub rfl (by decide) (by omega) (by omega)
                                refine lv_istore (lv' := [(10, .int x_106), (9, .int iv221_9), (8, .int iv221_8), (7, .int iv221_7), (6, .int iv204_6), (5, .int iv204_5), (4, .int iv204_4), (3, .int r_25), (0, .ref x), (1, .int i1), (2, .int i2)]) hx hb dX10_plan_370 hl (by decide) rfl (fun ls hl => ?_)
                                have loop372 : ∀ (n372 : Nat) (iv372_10 : Int32) (ia372_qm : Nat → Int32) (H : Heap) (locs : List Loc) (hL1 : List Nat) (hl1 : hx_h), -1 ≤ iv372_10.toInt → iv372_10.toInt ≤ 3 → (hx_V ia372_qm + hx_w iv372_10.toInt = hx_V ia204_qm + hx_w (fw27_x_75.toInt - 1)) → (iv372_10.toInt < fw27_x_75.toInt) → ∀ (ls : Array Slot), iv372_10.toInt + 1 < (n372 : Int) → hx_W T_tb (P_ty dA) (dC, dI) vwCl (hx_A L sz) s.heap hL1 hl1 s H locs → hx_T T_tb hL1 hl1 → hx_S T_tb [(10, 67), (10, 68), (10, 69), (10, 70), (10, 71), (10, 72), (10, 75), (100, 0), (101, 0), (102, 0), (103, 0), (104, 0), (105, 0), (106, 0), (107, 0)] L h hL1 hl1 → hl1.2.1 x 20 = fv_1 → hl1.2.1 x 75 = fw27_x_75 → hl1.2.1 x 0 = x_17 → (∀ j : Nat, (j : Int) < (hl1.2.1 x 75).toInt → 1 ≤ (hl1.2.1 qf j).toInt) → hl1.2.1 qm = ia372_qm → lv_has ls 12 [(10, .int iv372_10), (9, .int iv221_9), (8, .int iv221_8), (7, .int iv221_7), (6, .int iv204_6), (5, .int iv204_5), (4, .int iv204_4), (3, .int r_25), (0, .ref x), (1, .int i1), (2, .int i2)] → W p l e ({ frames := 3, cells := 0, slots := 0, locals := 71 }) s m ([.ref x, .int i1, .int i2] : List Value).toArray below meth c H locs 0 0 (MQ below (va_Qi (fun (r : Int32) (u : List Nat × hx_h) => (True) ∧ hx_T T_tb u.1 u.2 ∧ hx_S T_tb [(10, 67), (10, 68), (10, 69), (10, 70), (10, 71), (10, 72), (10, 75), (100, 0), (101, 0), (102, 0), (103, 0), (104, 0), (105, 0), (106, 0), (107, 0)] L h u.1 u.2) (hx_E T_tb (P_ty dA) (dC, dI) vwCl (hx_A L sz)) (hx_A L sz)) ([.ref x, .int i1, .int i2] : List Value).toArray s 0 0 (hx_A L sz)) (F0 m 372 ls []) := by
                                  intro n372
                                  induction n372 with
                                  | zero => intro iv372_10 ia372_qm H locs hL1 hl1 bliv372_10 buiv372_10 vi372_0 vi372_1 ls hn372; exfalso; omega
                                  | succ n372 ih372 =>
                                    intro iv372_10 ia372_qm H locs hL1 hl1 bliv372_10 buiv372_10 vi372_0 vi372_1 ls hn372 hW hT hM ffv_1 ffw27_x_75 fx_17 pi0 nia372_qm hl
                                    refine lv_iload hx hb dX10_plan_372 (lv_at hl 0 rfl) ?_
                                    refine hb_if_lt (zx := iv372_10.toInt) (tgt := 403) hx hb rfl dX10_plan_374 (by decide) (fun c_107 => ?_) (fun c_107 => ?_)
                                    · skip
                                      refine lv_iload hx hb dX10_plan_403 (lv_at hl 0 rfl) ?_
                                      refine hb_if_lt (zx := iv372_10.toInt) (tgt := 412) hx hb rfl dX10_plan_405 (by decide) (fun c_108 => ?_) (fun c_108 => by exfalso; omega)
                                      refine lv_iconst (v := 0) hx hb dX10_plan_412 (by decide) ?_
                                      refine lv_istore (lv' := [(6, .int (0 : Int32)), (10, .int iv372_10), (9, .int iv221_9), (8, .int iv221_8), (7, .int iv221_7), (5, .int iv204_5), (4, .int iv204_4), (3, .int r_25), (0, .ref x), (1, .int i1), (2, .int i2)]) hx hb dX10_plan_413 hl (by decide) rfl (fun ls hl => ?_)
                                      refine lv_iload hx hb dX10_plan_415 (lv_at hl 0 rfl) ?_
                                      refine hb_if_eq (zx := 0) (tgt := 431) hx hb (by decide) dX10_plan_417 (by decide) (fun c_109 => ?_) (fun c_109 => absurd c_109 (by decide))
                                      have hm12 : hx_m12 ia372_qm := (fun k hk => by have q := hT.ei (gqm.S hM) tt_105 (k := k) hk; rw [nia372_qm] at q; exact q)
                                      have hvb := hx_V_b hm12
                                      refine lv_goto (tgt := 204) hx hb dX10_plan_431 (by decide) ?_
                                      have zk_0 : (0 : Int32).toInt = 0 := by decide
                                      exact ih204 iv204_4 iv204_5 (0 : Int32) ia372_qm _ _ hL1 hl1 (i32_r _).1 (i32_r _).2 (i32_r _).1 (i32_r _).2 (by decide) (by decide) hm12 ls (by omega) hW hT hM ffv_1 ffw27_x_75 fx_17 pi0 nia372_qm (lv_sub hl [0, 5, 6, 7, 8, 9, 10] rfl)
                                    · skip
                                      refine lv_aload_n hx hb dX10_plan_377 rfl (lv_at hl 8 rfl) ?_
                                      refine hk_getr hx hb hts hC_10 hown hW (gx.S hM) tt_10 79 (by decide) rfl kw_1222 ⟨rfl, rfl, rfl⟩ ((hM.o gx trivial rfl).2.trans f_x_79) dX10_plan_378 ?_
                                      refine lv_iload hx hb dX10_plan_381 (lv_at hl 0 rfl) ?_
                                      refine hx_iald hx hb hW hT (gqm.S hM) tt_105 rfl ⟨by omega, by omega⟩ dX10_plan_383 (fun x_110 ex_110 lx_110 ux_110 => ?_)
                                      have ax_110 : x_110 = ia372_qm iv372_10.toNatClampNeg := ex_110.trans (congrFun nia372_qm _)
                                      refine lv_bipush (v := 12) hx hb dX10_plan_384 (by decide) ?_
                                      refine hb_icmp_ne (zx := x_110.toInt) (zy := 12) (tgt := 403) hx hb rfl (by decide) dX10_plan_386 (by decide) (fun c_111 => ?_) (fun c_111 => ?_)
                                      · skip
                                        refine lv_iload hx hb dX10_plan_403 (lv_at hl 0 rfl) ?_
                                        refine hb_if_lt (zx := iv372_10.toInt) (tgt := 412) hx hb rfl dX10_plan_405 (by decide) (fun c_112 => by exfalso; omega) (fun c_112 => ?_)
                                        refine lv_iconst (v := 1) hx hb dX10_plan_408 (by decide) ?_
                                        refine lv_goto (tgt := 413) hx hb dX10_plan_409 (by decide) ?_
                                        refine lv_istore (lv' := [(6, .int (1 : Int32)), (10, .int iv372_10), (9, .int iv221_9), (8, .int iv221_8), (7, .int iv221_7), (5, .int iv204_5), (4, .int iv204_4), (3, .int r_25), (0, .ref x), (1, .int i1), (2, .int i2)]) hx hb dX10_plan_413 hl (by decide) rfl (fun ls hl => ?_)
                                        refine lv_iload hx hb dX10_plan_415 (lv_at hl 0 rfl) ?_
                                        refine hb_if_eq (zx := 1) (tgt := 431) hx hb (by decide) dX10_plan_417 (by decide) (fun c_113 => absurd c_113 (by decide)) (fun c_113 => ?_)
                                        refine lv_aload_n hx hb dX10_plan_420 rfl (lv_at hl 8 rfl) ?_
                                        refine hk_getr hx hb hts hC_10 hown hW (gx.S hM) tt_10 79 (by decide) rfl kw_1222 ⟨rfl, rfl, rfl⟩ ((hM.o gx trivial rfl).2.trans f_x_79) dX10_plan_421 ?_
                                        refine lv_iload hx hb dX10_plan_424 (lv_at hl 1 rfl) ?_
                                        refine lv_dup2_11 hx hb dX10_plan_426 rfl rfl ?_
                                        refine hx_iald hx hb hW hT (gqm.S hM) tt_105 rfl ⟨by omega, by omega⟩ dX10_plan_427 (fun x_114 ex_114 lx_114 ux_114 => ?_)
                                        have ax_114 : x_114 = ia372_qm iv372_10.toNatClampNeg := ex_114.trans (congrFun nia372_qm _)
                                        obtain rfl : x_110 = x_114 := ex_110.trans ex_114.symm
                                        refine lv_iconst (v := 1) hx hb dX10_plan_428 (by decide) ?_
                                        refine lv_iadd hx hb dX10_plan_429 ?_
                                        have rg_115 := i32_r x_110
                                        refine lv_topi (fun x_116 ex_116 => ?_)
                                        have zx_116 : x_116.toInt = x_110.toInt + 1 := by rw [ex_116]; exact i32_add rfl (by decide) (by omega) (by omega)
                                        have nia372_qmO := nia372_qm
                                        refine hx_iast hx hb hW hT (hx_S.rf (M := [(105, 0)])) (gqm.S hM) tt_105 rfl ⟨by omega, by omega⟩ rfl ⟨by omega, by omega⟩ (List.mem_singleton.mpr rfl) dX10_plan_430 (fun H locs h_117 eh_117 hW hT hs => ?_)
                                        replace ffv_1 := (hs.o (gx.S hM) trivial rfl).1.trans ffv_1
                                        replace ffw27_x_75 := (hs.o (gx.S hM) trivial rfl).1.trans ffw27_x_75
                                        replace fx_17 := (hs.o (gx.S hM) trivial rfl).1.trans fx_17
                                        replace pi0 : ∀ j : Nat, (j : Int) < (h_117.2.1 x 75).toInt → 1 ≤ (h_117.2.1 qf j).toInt := by
                                          intro j hj; rw [(hs.o (gx.S hM) trivial rfl).1] at hj; rw [(hs.a (gqf.S hM) rfl j).1]; exact pi0 j hj
                                        replace hM := hM.tr (hs.mono (by decide))
                                        obtain ⟨fa_118, dfa_118⟩ : ∃ g : Nat → Int32, g = hx_up ia372_qm iv372_10.toNatClampNeg x_116 := ⟨_, rfl⟩
                                        have nfa_118 : h_117.2.1 qm = fa_118 := by rw [eh_117, dfa_118, ← nia372_qmO]; exact hx_pi_fun _ _ _ _
                                        have hvq := (hx_V_up (by omega) (by omega) ax_110 dfa_118).2 (by omega)
                                        have hwq := hx_w_b (i := (fw27_x_75.toInt - 1 : Int))
                                        have hm12 : hx_m12 fa_118 := (fun k hk => by have q := hT.ei (gqm.S hM) tt_105 (k := k) hk; rw [nfa_118] at q; exact q)
                                        have hvb := hx_V_b hm12
                                        refine lv_goto (tgt := 204) hx hb dX10_plan_431 (by decide) ?_
                                        have zk_1 : (1 : Int32).toInt = 1 := by decide
                                        exact ih204 iv204_4 iv204_5 (1 : Int32) fa_118 _ _ hL1 h_117 (i32_r _).1 (i32_r _).2 (i32_r _).1 (i32_r _).2 (by decide) (by decide) hm12 ls (by omega) hW hT hM ffv_1 ffw27_x_75 fx_17 pi0 nfa_118 (lv_sub hl [0, 5, 6, 7, 8, 9, 10] rfl)
                                      · skip
                                        refine lv_aload_n hx hb dX10_plan_389 rfl (lv_at hl 8 rfl) ?_
                                        refine hk_getr hx hb hts hC_10 hown hW (gx.S hM) tt_10 79 (by decide) rfl kw_1222 ⟨rfl, rfl, rfl⟩ ((hM.o gx trivial rfl).2.trans f_x_79) dX10_plan_390 ?_
                                        refine lv_iload hx hb dX10_plan_393 (lv_at hl 0 rfl) ?_
                                        refine lv_iconst (v := 0) hx hb dX10_plan_395 (by decide) ?_
                                        have nia372_qmO := nia372_qm
                                        refine hx_iast hx hb hW hT (hx_S.rf (M := [(105, 0)])) (gqm.S hM) tt_105 rfl ⟨by omega, by omega⟩ rfl (by decide) (List.mem_singleton.mpr rfl) dX10_plan_396 (fun H locs h_119 eh_119 hW hT hs => ?_)
                                        replace ffv_1 := (hs.o (gx.S hM) trivial rfl).1.trans ffv_1
                                        replace ffw27_x_75 := (hs.o (gx.S hM) trivial rfl).1.trans ffw27_x_75
                                        replace fx_17 := (hs.o (gx.S hM) trivial rfl).1.trans fx_17
                                        replace pi0 : ∀ j : Nat, (j : Int) < (h_119.2.1 x 75).toInt → 1 ≤ (h_119.2.1 qf j).toInt := by
                                          intro j hj; rw [(hs.o (gx.S hM) trivial rfl).1] at hj; rw [(hs.a (gqf.S hM) rfl j).1]; exact pi0 j hj
                                        replace hM := hM.tr (hs.mono (by decide))
                                        obtain ⟨fa_120, dfa_120⟩ : ∃ g : Nat → Int32, g = hx_up ia372_qm iv372_10.toNatClampNeg (0 : Int32) := ⟨_, rfl⟩
                                        have nfa_120 : h_119.2.1 qm = fa_120 := by rw [eh_119, dfa_120, ← nia372_qmO]; exact hx_pi_fun _ _ _ _
                                        obtain ⟨x_121, ex_121⟩ : ∃ y : Int32, y = iv372_10 + Int32.ofInt (-1) := ⟨_, rfl⟩
                                        have rg_122 := i32_r iv372_10
                                        have zx_121 : x_121.toInt = iv372_10.toInt + (-1) := by rw [ex_121]; exact i32_add rfl (by decide) (by omega) (by omega)
                                        refine lv_iinc (v := x_121) (lv' := [(10, .int x_121), (9, .int iv221_9), (8, .int iv221_8), (7, .int iv221_7), (6, .int iv204_6), (5, .int iv204_5), (4, .int iv204_4), (3, .int r_25), (0, .ref x), (1, .int i1), (2, .int i2)]) hx hb dX10_plan_397 hl (k := 0) rfl ex_121.symm (by decide) rfl (fun ls hl => ?_)
                                        refine lv_goto (tgt := 372) hx hb dX10_plan_400 (by decide) ?_
                                        exact ih372 x_121 fa_120 _ _ hL1 h_119 (by omega) (by omega) (by have q := (hx_V_up (by omega) (by omega) ax_110 dfa_120).1 (by omega) (by decide); rw [show x_121.toInt = iv372_10.toInt - 1 from by omega]; omega) (by omega) ls (by omega) hW hT hM ffv_1 ffw27_x_75 fx_17 pi0 nfa_120 (lv_sub hl [0, 1, 2, 3, 4, 5, 6, 7, 8, 9, 10] rfl)
                                exact loop372 5 x_106 ia204_qm _ _ hL1 hl1 (by omega) (by omega) (by rw [zx_106]) (by omega) ls (by omega) hW hT hM ffv_1 ffw27_x_75 fx_17 pi0 nia204_qm hl
                              · skip
                                refine lv_iload hx hb dX10_plan_317 (lv_at hl 1 rfl) ?_
                                refine lv_iload hx hb dX10_plan_319 (lv_at hl 5 rfl) ?_
                                refine hb_icmp_ge (zx := iv221_9.toInt) (zy := iv204_5.toInt) (tgt := 364) hx hb rfl rfl dX10_plan_321 (by decide) (fun c_123 => ?_) (fun c_123 => ?_)
                                · skip
                                  refine lv_aload_n hx hb dX10_plan_364 rfl (lv_at hl 8 rfl) ?_
                                  refine hk_geti hx hb hts hC_10 hown hW (gx.S hM) tt_10 75 (by decide) rfl kw_1218 ⟨rfl, rfl, rfl⟩ ffw27_x_75 dX10_plan_365 ?_
                                  refine lv_iconst (v := 1) hx hb dX10_plan_368 (by decide) ?_
                                  refine lv_isub hx hb dX10_plan_369 ?_
                                  have rg_124 := i32_r fw27_x_75
                                  refine lv_topi (fun x_125 ex_125 => ?_)
                                  have zx_125 : x_125.toInt = fw27_x_75.toInt - 1 := by rw [ex_125]; exact i32_sub rfl (by decide) (by omega) (by omega)
                                  refine lv_istore (lv' := [(10, .int x_125), (9, .int iv221_9), (8, .int iv221_8), (7, .int iv221_7), (6, .int iv204_6), (5, .int iv204_5), (4, .int iv204_4), (3, .int r_25), (0, .ref x), (1, .int i1), (2, .int i2)]) hx hb dX10_plan_370 hl (by decide) rfl (fun ls hl => ?_)
                                  have loop372 : ∀ (n372 : Nat) (iv372_10 : Int32) (ia372_qm : Nat → Int32) (H : Heap) (locs : List Loc) (hL1 : List Nat) (hl1 : hx_h), -1 ≤ iv372_10.toInt → iv372_10.toInt ≤ 3 → (hx_V ia372_qm + hx_w iv372_10.toInt = hx_V ia204_qm + hx_w (fw27_x_75.toInt - 1)) → (iv372_10.toInt < fw27_x_75.toInt) → ∀ (ls : Array Slot), iv372_10.toInt + 1 < (n372 : Int) → hx_W T_tb (P_ty dA) (dC, dI) vwCl (hx_A L sz) s.heap hL1 hl1 s H locs → hx_T T_tb hL1 hl1 → hx_S T_tb [(10, 67), (10, 68), (10, 69), (10, 70), (10, 71), (10, 72), (10, 75), (100, 0), (101, 0), (102, 0), (103, 0), (104, 0), (105, 0), (106, 0), (107, 0)] L h hL1 hl1 → hl1.2.1 x 20 = fv_1 → hl1.2.1 x 75 = fw27_x_75 → hl1.2.1 x 0 = x_17 → (∀ j : Nat, (j : Int) < (hl1.2.1 x 75).toInt → 1 ≤ (hl1.2.1 qf j).toInt) → hl1.2.1 qm = ia372_qm → lv_has ls 12 [(10, .int iv372_10), (9, .int iv221_9), (8, .int iv221_8), (7, .int iv221_7), (6, .int iv204_6), (5, .int iv204_5), (4, .int iv204_4), (3, .int r_25), (0, .ref x), (1, .int i1), (2, .int i2)] → W p l e ({ frames := 3, cells := 0, slots := 0, locals := 71 }) s m ([.ref x, .int i1, .int i2] : List Value).toArray below meth c H locs 0 0 (MQ below (va_Qi (fun (r : Int32) (u : List Nat × hx_h) => (True) ∧ hx_T T_tb u.1 u.2 ∧ hx_S T_tb [(10, 67), (10, 68), (10, 69), (10, 70), (10, 71), (10, 72), (10, 75), (100, 0), (101, 0), (102, 0), (103, 0), (104, 0), (105, 0), (106, 0), (107, 0)] L h u.1 u.2) (hx_E T_tb (P_ty dA) (dC, dI) vwCl (hx_A L sz)) (hx_A L sz)) ([.ref x, .int i1, .int i2] : List Value).toArray s 0 0 (hx_A L sz)) (F0 m 372 ls []) := by
                                    intro n372
                                    induction n372 with
                                    | zero => intro iv372_10 ia372_qm H locs hL1 hl1 bliv372_10 buiv372_10 vi372_0 vi372_1 ls hn372; exfalso; omega
                                    | succ n372 ih372 =>
                                      intro iv372_10 ia372_qm H locs hL1 hl1 bliv372_10 buiv372_10 vi372_0 vi372_1 ls hn372 hW hT hM ffv_1 ffw27_x_75 fx_17 pi0 nia372_qm hl
                                      refine lv_iload hx hb dX10_plan_372 (lv_at hl 0 rfl) ?_
                                      refine hb_if_lt (zx := iv372_10.toInt) (tgt := 403) hx hb rfl dX10_plan_374 (by decide) (fun c_126 => ?_) (fun c_126 => ?_)
                                      · skip
                                        refine lv_iload hx hb dX10_plan_403 (lv_at hl 0 rfl) ?_
                                        refine hb_if_lt (zx := iv372_10.toInt) (tgt := 412) hx hb rfl dX10_plan_405 (by decide) (fun c_127 => ?_) (fun c_127 => by exfalso; omega)
                                        refine lv_iconst (v := 0) hx hb dX10_plan_412 (by decide) ?_
                                        refine lv_istore (lv' := [(6, .int (0 : Int32)), (10, .int iv372_10), (9, .int iv221_9), (8, .int iv221_8), (7, .int iv221_7), (5, .int iv204_5), (4, .int iv204_4), (3, .int r_25), (0, .ref x), (1, .int i1), (2, .int i2)]) hx hb dX10_plan_413 hl (by decide) rfl (fun ls hl => ?_)
                                        refine lv_iload hx hb dX10_plan_415 (lv_at hl 0 rfl) ?_
                                        refine hb_if_eq (zx := 0) (tgt := 431) hx hb (by decide) dX10_plan_417 (by decide) (fun c_128 => ?_) (fun c_128 => absurd c_128 (by decide))
                                        have hm12 : hx_m12 ia372_qm := (fun k hk => by have q := hT.ei (gqm.S hM) tt_105 (k := k) hk; rw [nia372_qm] at q; exact q)
                                        have hvb := hx_V_b hm12
                                        refine lv_goto (tgt := 204) hx hb dX10_plan_431 (by decide) ?_
                                        have zk_0 : (0 : Int32).toInt = 0 := by decide
                                        exact ih204 iv204_4 iv204_5 (0 : Int32) ia372_qm _ _ hL1 hl1 (i32_r _).1 (i32_r _).2 (i32_r _).1 (i32_r _).2 (by decide) (by decide) hm12 ls (by omega) hW hT hM ffv_1 ffw27_x_75 fx_17 pi0 nia372_qm (lv_sub hl [0, 5, 6, 7, 8, 9, 10] rfl)
                                      · skip
                                        refine lv_aload_n hx hb dX10_plan_377 rfl (lv_at hl 8 rfl) ?_
                                        refine hk_getr hx hb hts hC_10 hown hW (gx.S hM) tt_10 79 (by decide) rfl kw_1222 ⟨rfl, rfl, rfl⟩ ((hM.o gx trivial rfl).2.trans f_x_79) dX10_plan_378 ?_
                                        refine lv_iload hx hb dX10_plan_381 (lv_at hl 0 rfl) ?_
                                        refine hx_iald hx hb hW hT (gqm.S hM) tt_105 rfl ⟨by omega, by omega⟩ dX10_plan_383 (fun x_129 ex_129 lx_129 ux_129 => ?_)
                                        have ax_129 : x_129 = ia372_qm iv372_10.toNatClampNeg := ex_129.trans (congrFun nia372_qm _)
                                        refine lv_bipush (v := 12) hx hb dX10_plan_384 (by decide) ?_
                                        refine hb_icmp_ne (zx := x_129.toInt) (zy := 12) (tgt := 403) hx hb rfl (by decide) dX10_plan_386 (by decide) (fun c_130 => ?_) (fun c_130 => ?_)
                                        · skip
                                          refine lv_iload hx hb dX10_plan_403 (lv_at hl 0 rfl) ?_
                                          refine hb_if_lt (zx := iv372_10.toInt) (tgt := 412) hx hb rfl dX10_plan_405 (by decide) (fun c_131 => by exfalso; omega) (fun c_131 => ?_)
                                          refine lv_iconst (v := 1) hx hb dX10_plan_408 (by decide) ?_
                                          refine lv_goto (tgt := 413) hx hb dX10_plan_409 (by decide) ?_
                                          refine lv_istore (lv' := [(6, .int (1 : Int32)), (10, .int iv372_10), (9, .int iv221_9), (8, .int iv221_8), (7, .int iv221_7), (5, .int iv204_5), (4, .int iv204_4), (3, .int r_25), (0, .ref x), (1, .int i1), (2, .int i2)]) hx hb dX10_plan_413 hl (by decide) rfl (fun ls hl => ?_)
                                          refine lv_iload hx hb dX10_plan_415 (lv_at hl 0 rfl) ?_
                                          refine hb_if_eq (zx := 1) (tgt := 431) hx hb (by decide) dX10_plan_417 (by decide) (fun c_132 => absurd c_132 (by decide)) (fun c_132 => ?_)
                                          refine lv_aload_n hx hb dX10_plan_420 rfl (lv_at hl 8 rfl) ?_
                                          refine hk_getr hx hb hts hC_10 hown hW (gx.S hM) tt_10 79 (by decide) rfl kw_1222 ⟨rfl, rfl, rfl⟩ ((hM.o gx trivial rfl).2.trans f_x_79) dX10_plan_421 ?_
                                          refine lv_iload hx hb dX10_plan_424 (lv_at hl 1 rfl) ?_
                                          refine lv_dup2_11 hx hb dX10_plan_426 rfl rfl ?_
                                          refine hx_iald hx hb hW hT (gqm.S hM) tt_105 rfl ⟨by omega, by omega⟩ dX10_plan_427 (fun x_133 ex_133 lx_133 ux_133 => ?_)
                                          have ax_133 : x_133 = ia372_qm iv372_10.toNatClampNeg := ex_133.trans (congrFun nia372_qm _)
                                          obtain rfl : x_129 = x_133 := ex_129.trans ex_133.symm
                                          refine lv_iconst (v := 1) hx hb dX10_plan_428 (by decide) ?_
                                          refine lv_iadd hx hb dX10_plan_429 ?_
                                          have rg_134 := i32_r x_129
                                          refine lv_topi (fun x_135 ex_135 => ?_)
                                          have zx_135 : x_135.toInt = x_129.toInt + 1 := by rw [ex_135]; exact i32_add rfl (by decide) (by omega) (by omega)
                                          have nia372_qmO := nia372_qm
                                          refine hx_iast hx hb hW hT (hx_S.rf (M := [(105, 0)])) (gqm.S hM) tt_105 rfl ⟨by omega, by omega⟩ rfl ⟨by omega, by omega⟩ (List.mem_singleton.mpr rfl) dX10_plan_430 (fun H locs h_136 eh_136 hW hT hs => ?_)
                                          replace ffv_1 := (hs.o (gx.S hM) trivial rfl).1.trans ffv_1
                                          replace ffw27_x_75 := (hs.o (gx.S hM) trivial rfl).1.trans ffw27_x_75
                                          replace fx_17 := (hs.o (gx.S hM) trivial rfl).1.trans fx_17
                                          replace pi0 : ∀ j : Nat, (j : Int) < (h_136.2.1 x 75).toInt → 1 ≤ (h_136.2.1 qf j).toInt := by
                                            intro j hj; rw [(hs.o (gx.S hM) trivial rfl).1] at hj; rw [(hs.a (gqf.S hM) rfl j).1]; exact pi0 j hj
                                          replace hM := hM.tr (hs.mono (by decide))
                                          obtain ⟨fa_137, dfa_137⟩ : ∃ g : Nat → Int32, g = hx_up ia372_qm iv372_10.toNatClampNeg x_135 := ⟨_, rfl⟩
                                          have nfa_137 : h_136.2.1 qm = fa_137 := by rw [eh_136, dfa_137, ← nia372_qmO]; exact hx_pi_fun _ _ _ _
                                          have hvq := (hx_V_up (by omega) (by omega) ax_129 dfa_137).2 (by omega)
                                          have hwq := hx_w_b (i := (fw27_x_75.toInt - 1 : Int))
                                          have hm12 : hx_m12 fa_137 := (fun k hk => by have q := hT.ei (gqm.S hM) tt_105 (k := k) hk; rw [nfa_137] at q; exact q)
                                          have hvb := hx_V_b hm12
                                          refine lv_goto (tgt := 204) hx hb dX10_plan_431 (by decide) ?_
                                          have zk_1 : (1 : Int32).toInt = 1 := by decide
                                          exact ih204 iv204_4 iv204_5 (1 : Int32) fa_137 _ _ hL1 h_136 (i32_r _).1 (i32_r _).2 (i32_r _).1 (i32_r _).2 (by decide) (by decide) hm12 ls (by omega) hW hT hM ffv_1 ffw27_x_75 fx_17 pi0 nfa_137 (lv_sub hl [0, 5, 6, 7, 8, 9, 10] rfl)
                                        · skip
                                          refine lv_aload_n hx hb dX10_plan_389 rfl (lv_at hl 8 rfl) ?_
                                          refine hk_getr hx hb hts hC_10 hown hW (gx.S hM) tt_10 79 (by decide) rfl kw_1222 ⟨rfl, rfl, rfl⟩ ((hM.o gx trivial rfl).2.trans f_x_79) dX10_plan_390 ?_
                                          refine lv_iload hx hb dX10_plan_393 (lv_at hl 0 rfl) ?_
                                          refine lv_iconst (v := 0) hx hb dX10_plan_395 (by decide) ?_
                                          have nia372_qmO := nia372_qm
                                          refine hx_iast hx hb hW hT (hx_S.rf (M := [(105, 0)])) (gqm.S hM) tt_105 rfl ⟨by omega, by omega⟩ rfl (by decide) (List.mem_singleton.mpr rfl) dX10_plan_396 (fun H locs h_138 eh_138 hW hT hs => ?_)
                                          replace ffv_1 := (hs.o (gx.S hM) trivial rfl).1.trans ffv_1
                                          replace ffw27_x_75 := (hs.o (gx.S hM) trivial rfl).1.trans ffw27_x_75
                                          replace fx_17 := (hs.o (gx.S hM) trivial rfl).1.trans fx_17
                                          replace pi0 : ∀ j : Nat, (j : Int) < (h_138.2.1 x 75).toInt → 1 ≤ (h_138.2.1 qf j).toInt := by
                                            intro j hj; rw [(hs.o (gx.S hM) trivial rfl).1] at hj; rw [(hs.a (gqf.S hM) rfl j).1]; exact pi0 j hj
                                          replace hM := hM.tr (hs.mono (by decide))
                                          obtain ⟨fa_139, dfa_139⟩ : ∃ g : Nat → Int32, g = hx_up ia372_qm iv372_10.toNatClampNeg (0 : Int32) := ⟨_, rfl⟩
                                          have nfa_139 : h_138.2.1 qm = fa_139 := by rw [eh_138, dfa_139, ← nia372_qmO]; exact hx_pi_fun _ _ _ _
                                          obtain ⟨x_140, ex_140⟩ : ∃ y : Int32, y = iv372_10 + Int32.ofInt (-1) := ⟨_, rfl⟩
                                          have rg_141 := i32_r iv372_10
                                          have zx_140 : x_140.toInt = iv372_10.toInt + (-1) := by rw [ex_140]; exact i32_add rfl (by decide) (by omega) (by omega)
                                          refine lv_iinc (v := x_140) (lv' := [(10, .int x_140), (9, .int iv221_9), (8, .int iv221_8), (7, .int iv221_7), (6, .int iv204_6), (5, .int iv204_5), (4, .int iv204_4), (3, .int r_25), (0, .ref x), (1, .int i1), (2, .int i2)]) hx hb dX10_plan_397 hl (k := 0) rfl ex_140.symm (by decide) rfl (fun ls hl => ?_)
                                          refine lv_goto (tgt := 372) hx hb dX10_plan_400 (by decide) ?_
                                          exact ih372 x_140 fa_139 _ _ hL1 h_138 (by omega) (by omega) (by have q := (hx_V_up (by omega) (by omega) ax_129 dfa_139).1 (by omega) (by decide); rw [show x_140.toInt = iv372_10.toInt - 1 from by omega]; omega) (by omega) ls (by omega) hW hT hM ffv_1 ffw27_x_75 fx_17 pi0 nfa_139 (lv_sub hl [0, 1, 2, 3, 4, 5, 6, 7, 8, 9, 10] rfl)
                                  exact loop372 5 x_125 ia204_qm _ _ hL1 hl1 (by omega) (by omega) (by rw [zx_125]) (by omega) ls (by omega) hW hT hM ffv_1 ffw27_x_75 fx_17 pi0 nia204_qm hl
                                · skip
                                  refine lv_iload hx hb dX10_plan_324 (lv_at hl 2 rfl) ?_
                                  refine lv_istore (lv' := [(4, .int iv221_8), (10, .int iv221_10), (9, .int iv221_9), (8, .int iv221_8), (7, .int iv221_7), (6, .int iv204_6), (5, .int iv204_5), (3, .int r_25), (0, .ref x), (1, .int i1), (2, .int i2)]) hx hb dX10_plan_326 hl (by decide) rfl (fun ls hl => ?_)
                                  refine lv_iload hx hb dX10_plan_328 (lv_at hl 2 rfl) ?_
                                  refine lv_istore (lv' := [(5, .int iv221_9), (4, .int iv221_8), (10, .int iv221_10), (9, .int iv221_9), (8, .int iv221_8), (7, .int iv221_7), (6, .int iv204_6), (3, .int r_25), (0, .ref x), (1, .int i1), (2, .int i2)]) hx hb dX10_plan_330 hl (by decide) rfl (fun ls hl => ?_)
                                  refine lv_iconst (v := 0) hx hb dX10_plan_332 (by decide) ?_
                                  refine lv_istore (lv' := [(10, .int (0 : Int32)), (5, .int iv221_9), (4, .int iv221_8), (9, .int iv221_9), (8, .int iv221_8), (7, .int iv221_7), (6, .int iv204_6), (3, .int r_25), (0, .ref x), (1, .int i1), (2, .int i2)]) hx hb dX10_plan_333 hl (by decide) rfl (fun ls hl => ?_)
                                  have loop335 : ∀ (n335 : Nat) (iv335_10 : Int32) (H : Heap) (locs : List Loc) (hL1 : List Nat) (hl1 : hx_h), 0 ≤ iv335_10.toInt → iv335_10.toInt ≤ 4 → ∀ (ls : Array Slot), 4 - iv335_10.toInt < (n335 : Int) → hx_W T_tb (P_ty dA) (dC, dI) vwCl (hx_A L sz) s.heap hL1 hl1 s H locs → hx_T T_tb hL1 hl1 → hx_S T_tb [(10, 67), (10, 68), (10, 69), (10, 70), (10, 71), (10, 72), (10, 75), (100, 0), (101, 0), (102, 0), (103, 0), (104, 0), (105, 0), (106, 0), (107, 0)] L h hL1 hl1 → hl1.2.1 x 20 = fv_1 → hl1.2.1 x 75 = fw27_x_75 → hl1.2.1 x 0 = x_17 → (∀ j : Nat, (j : Int) < (hl1.2.1 x 75).toInt → 1 ≤ (hl1.2.1 qf j).toInt) → hl1.2.1 qm = ia204_qm → lv_has ls 12 [(10, .int iv335_10), (5, .int iv221_9), (4, .int iv221_8), (9, .int iv221_9), (8, .int iv221_8), (7, .int iv221_7), (6, .int iv204_6), (3, .int r_25), (0, .ref x), (1, .int i1), (2, .int i2)] → W p l e ({ frames := 3, cells := 0, slots := 0, locals := 71 }) s m ([.ref x, .int i1, .int i2] : List Value).toArray below meth c H locs 0 0 (MQ below (va_Qi (fun (r : Int32) (u : List Nat × hx_h) => (True) ∧ hx_T T_tb u.1 u.2 ∧ hx_S T_tb [(10, 67), (10, 68), (10, 69), (10, 70), (10, 71), (10, 72), (10, 75), (100, 0), (101, 0), (102, 0), (103, 0), (104, 0), (105, 0), (106, 0), (107, 0)] L h u.1 u.2) (hx_E T_tb (P_ty dA) (dC, dI) vwCl (hx_A L sz)) (hx_A L sz)) ([.ref x, .int i1, .int i2] : List Value).toArray s 0 0 (hx_A L sz)) (F0 m 335 ls []) := by
                                    intro n335
                                    induction n335 with
                                    | zero => intro iv335_10 H locs hL1 hl1 bliv335_10 buiv335_10  ls hn335; exfalso; omega
                                    | succ n335 ih335 =>
                                      intro iv335_10 H locs hL1 hl1 bliv335_10 buiv335_10  ls hn335 hW hT hM ffv_1 ffw27_x_75 fx_17 pi0 nia204_qm hl
                                      refine lv_iload hx hb dX10_plan_335 (lv_at hl 0 rfl) ?_
                                      refine lv_aload_n hx hb dX10_plan_337 rfl (lv_at hl 8 rfl) ?_
                                      refine hk_geti hx hb hts hC_10 hown hW (gx.S hM) tt_10 75 (by decide) rfl kw_1218 ⟨rfl, rfl, rfl⟩ ffw27_x_75 dX10_plan_338 ?_
                                      refine hb_icmp_ge (zx := iv335_10.toInt) (zy := fw27_x_75.toInt) (tgt := 364) hx hb rfl rfl dX10_plan_341 (by decide) (fun c_142 => ?_) (fun c_142 => ?_)
                                      · skip
                                        refine lv_aload_n hx hb dX10_plan_364 rfl (lv_at hl 8 rfl) ?_
                                        refine hk_geti hx hb hts hC_10 hown hW (gx.S hM) tt_10 75 (by decide) rfl kw_1218 ⟨rfl, rfl, rfl⟩ ffw27_x_75 dX10_plan_365 ?_
                                        refine lv_iconst (v := 1) hx hb dX10_plan_368 (by decide) ?_
                                        refine lv_isub hx hb dX10_plan_369 ?_
                                        have rg_143 := i32_r fw27_x_75
                                        refine lv_topi (fun x_144 ex_144 => ?_)
                                        have zx_144 : x_144.toInt = fw27_x_75.toInt - 1 := by rw [ex_144]; exact i32_sub rfl (by decide) (by omega) (by omega)
                                        refine lv_istore (lv' := [(10, .int x_144), (5, .int iv221_9), (4, .int iv221_8), (9, .int iv221_9), (8, .int iv221_8), (7, .int iv221_7), (6, .int iv204_6), (3, .int r_25), (0, .ref x), (1, .int i1), (2, .int i2)]) hx hb dX10_plan_370 hl (by decide) rfl (fun ls hl => ?_)
                                        have loop372 : ∀ (n372 : Nat) (iv372_10 : Int32) (ia372_qm : Nat → Int32) (H : Heap) (locs : List Loc) (hL1 : List Nat) (hl1 : hx_h), -1 ≤ iv372_10.toInt → iv372_10.toInt ≤ 3 → (hx_V ia372_qm + hx_w iv372_10.toInt = hx_V ia204_qm + hx_w (fw27_x_75.toInt - 1)) → (iv372_10.toInt < fw27_x_75.toInt) → ∀ (ls : Array Slot), iv372_10.toInt + 1 < (n372 : Int) → hx_W T_tb (P_ty dA) (dC, dI) vwCl (hx_A L sz) s.heap hL1 hl1 s H locs → hx_T T_tb hL1 hl1 → hx_S T_tb [(10, 67), (10, 68), (10, 69), (10, 70), (10, 71), (10, 72), (10, 75), (100, 0), (101, 0), (102, 0), (103, 0), (104, 0), (105, 0), (106, 0), (107, 0)] L h hL1 hl1 → hl1.2.1 x 20 = fv_1 → hl1.2.1 x 75 = fw27_x_75 → hl1.2.1 x 0 = x_17 → (∀ j : Nat, (j : Int) < (hl1.2.1 x 75).toInt → 1 ≤ (hl1.2.1 qf j).toInt) → hl1.2.1 qm = ia372_qm → lv_has ls 12 [(10, .int iv372_10), (5, .int iv221_9), (4, .int iv221_8), (9, .int iv221_9), (8, .int iv221_8), (7, .int iv221_7), (6, .int iv204_6), (3, .int r_25), (0, .ref x), (1, .int i1), (2, .int i2)] → W p l e ({ frames := 3, cells := 0, slots := 0, locals := 71 }) s m ([.ref x, .int i1, .int i2] : List Value).toArray below meth c H locs 0 0 (MQ below (va_Qi (fun (r : Int32) (u : List Nat × hx_h) => (True) ∧ hx_T T_tb u.1 u.2 ∧ hx_S T_tb [(10, 67), (10, 68), (10, 69), (10, 70), (10, 71), (10, 72), (10, 75), (100, 0), (101, 0), (102, 0), (103, 0), (104, 0), (105, 0), (106, 0), (107, 0)] L h u.1 u.2) (hx_E T_tb (P_ty dA) (dC, dI) vwCl (hx_A L sz)) (hx_A L sz)) ([.ref x, .int i1, .int i2] : List Value).toArray s 0 0 (hx_A L sz)) (F0 m 372 ls []) := by
                                          intro n372
                                          induction n372 with
                                          | zero => intro iv372_10 ia372_qm H locs hL1 hl1 bliv372_10 buiv372_10 vi372_0 vi372_1 ls hn372; exfalso; omega
                                          | succ n372 ih372 =>
                                            intro iv372_10 ia372_qm H locs hL1 hl1 bliv372_10 buiv372_10 vi372_0 vi372_1 ls hn372 hW hT hM ffv_1 ffw27_x_75 fx_17 pi0 nia372_qm hl
                                            refine lv_iload hx hb dX10_plan_372 (lv_at hl 0 rfl) ?_
                                            refine hb_if_lt (zx := iv372_10.toInt) (tgt := 403) hx hb rfl dX10_plan_374 (by decide) (fun c_145 => ?_) (fun c_145 => ?_)
                                            · skip
                                              refine lv_iload hx hb dX10_plan_403 (lv_at hl 0 rfl) ?_
                                              refine hb_if_lt (zx := iv372_10.toInt) (tgt := 412) hx hb rfl dX10_plan_405 (by decide) (fun c_146 => ?_) (fun c_146 => by exfalso; omega)
                                              refine lv_iconst (v := 0) hx hb dX10_plan_412 (by decide) ?_
                                              refine lv_istore (lv' := [(6, .int (0 : Int32)), (10, .int iv372_10), (5, .int iv221_9), (4, .int iv221_8), (9, .int iv221_9), (8, .int iv221_8), (7, .int iv221_7), (3, .int r_25), (0, .ref x), (1, .int i1), (2, .int i2)]) hx hb dX10_plan_413 hl (by decide) rfl (fun ls hl => ?_)
                                              refine lv_iload hx hb dX10_plan_415 (lv_at hl 0 rfl) ?_
                                              refine hb_if_eq (zx := 0) (tgt := 431) hx hb (by decide) dX10_plan_417 (by decide) (fun c_147 => ?_) (fun c_147 => absurd c_147 (by decide))
                                              have hm12 : hx_m12 ia372_qm := (fun k hk => by have q := hT.ei (gqm.S hM) tt_105 (k := k) hk; rw [nia372_qm] at q; exact q)
                                              have hvb := hx_V_b hm12
                                              refine lv_goto (tgt := 204) hx hb dX10_plan_431 (by decide) ?_
                                              have zk_0 : (0 : Int32).toInt = 0 := by decide
                                              exact ih204 iv221_8 iv221_9 (0 : Int32) ia372_qm _ _ hL1 hl1 (i32_r _).1 (i32_r _).2 (i32_r _).1 (i32_r _).2 (by decide) (by decide) hm12 ls (by omega) hW hT hM ffv_1 ffw27_x_75 fx_17 pi0 nia372_qm (lv_sub hl [0, 2, 3, 7, 8, 9, 10] rfl)
                                            · skip
                                              refine lv_aload_n hx hb dX10_plan_377 rfl (lv_at hl 8 rfl) ?_
                                              refine hk_getr hx hb hts hC_10 hown hW (gx.S hM) tt_10 79 (by decide) rfl kw_1222 ⟨rfl, rfl, rfl⟩ ((hM.o gx trivial rfl).2.trans f_x_79) dX10_plan_378 ?_
                                              refine lv_iload hx hb dX10_plan_381 (lv_at hl 0 rfl) ?_
                                              refine hx_iald hx hb hW hT (gqm.S hM) tt_105 rfl ⟨by omega, by omega⟩ dX10_plan_383 (fun x_148 ex_148 lx_148 ux_148 => ?_)
                                              have ax_148 : x_148 = ia372_qm iv372_10.toNatClampNeg := ex_148.trans (congrFun nia372_qm _)
                                              refine lv_bipush (v := 12) hx hb dX10_plan_384 (by decide) ?_
                                              refine hb_icmp_ne (zx := x_148.toInt) (zy := 12) (tgt := 403) hx hb rfl (by decide) dX10_plan_386 (by decide) (fun c_149 => ?_) (fun c_149 => ?_)
                                              · skip
                                                refine lv_iload hx hb dX10_plan_403 (lv_at hl 0 rfl) ?_
                                                refine hb_if_lt (zx := iv372_10.toInt) (tgt := 412) hx hb rfl dX10_plan_405 (by decide) (fun c_150 => by exfalso; omega) (fun c_150 => ?_)
                                                refine lv_iconst (v := 1) hx hb dX10_plan_408 (by decide) ?_
                                                refine lv_goto (tgt := 413) hx hb dX10_plan_409 (by decide) ?_
                                                refine lv_istore (lv' := [(6, .int (1 : Int32)), (10, .int iv372_10), (5, .int iv221_9), (4, .int iv221_8), (9, .int iv221_9), (8, .int iv221_8), (7, .int iv221_7), (3, .int r_25), (0, .ref x), (1, .int i1), (2, .int i2)]) hx hb dX10_plan_413 hl (by decide) rfl (fun ls hl => ?_)
                                                refine lv_iload hx hb dX10_plan_415 (lv_at hl 0 rfl) ?_
                                                refine hb_if_eq (zx := 1) (tgt := 431) hx hb (by decide) dX10_plan_417 (by decide) (fun c_151 => absurd c_151 (by decide)) (fun c_151 => ?_)
                                                refine lv_aload_n hx hb dX10_plan_420 rfl (lv_at hl 8 rfl) ?_
                                                refine hk_getr hx hb hts hC_10 hown hW (gx.S hM) tt_10 79 (by decide) rfl kw_1222 ⟨rfl, rfl, rfl⟩ ((hM.o gx trivial rfl).2.trans f_x_79) dX10_plan_421 ?_
                                                refine lv_iload hx hb dX10_plan_424 (lv_at hl 1 rfl) ?_
                                                refine lv_dup2_11 hx hb dX10_plan_426 rfl rfl ?_
                                                refine hx_iald hx hb hW hT (gqm.S hM) tt_105 rfl ⟨by omega, by omega⟩ dX10_plan_427 (fun x_152 ex_152 lx_152 ux_152 => ?_)
                                                have ax_152 : x_152 = ia372_qm iv372_10.toNatClampNeg := ex_152.trans (congrFun nia372_qm _)
                                                obtain rfl : x_148 = x_152 := ex_148.trans ex_152.symm
                                                refine lv_iconst (v := 1) hx hb dX10_plan_428 (by decide) ?_
                                                refine lv_iadd hx hb dX10_plan_429 ?_
                                                have rg_153 := i32_r x_148
                                                refine lv_topi (fun x_154 ex_154 => ?_)
                                                have zx_154 : x_154.toInt = x_148.toInt + 1 := by rw [ex_154]; exact i32_add rfl (by decide) (by omega) (by omega)
                                                have nia372_qmO := nia372_qm
                                                refine hx_iast hx hb hW hT (hx_S.rf (M := [(105, 0)])) (gqm.S hM) tt_105 rfl ⟨by omega, by omega⟩ rfl ⟨by omega, by omega⟩ (List.mem_singleton.mpr rfl) dX10_plan_430 (fun H locs h_155 eh_155 hW hT hs => ?_)
                                                replace ffv_1 := (hs.o (gx.S hM) trivial rfl).1.trans ffv_1
                                                replace ffw27_x_75 := (hs.o (gx.S hM) trivial rfl).1.trans ffw27_x_75
                                                replace fx_17 := (hs.o (gx.S hM) trivial rfl).1.trans fx_17
                                                replace pi0 : ∀ j : Nat, (j : Int) < (h_155.2.1 x 75).toInt → 1 ≤ (h_155.2.1 qf j).toInt := by
                                                  intro j hj; rw [(hs.o (gx.S hM) trivial rfl).1] at hj; rw [(hs.a (gqf.S hM) rfl j).1]; exact pi0 j hj
                                                replace hM := hM.tr (hs.mono (by decide))
                                                obtain ⟨fa_156, dfa_156⟩ : ∃ g : Nat → Int32, g = hx_up ia372_qm iv372_10.toNatClampNeg x_154 := ⟨_, rfl⟩
                                                have nfa_156 : h_155.2.1 qm = fa_156 := by rw [eh_155, dfa_156, ← nia372_qmO]; exact hx_pi_fun _ _ _ _
                                                have hvq := (hx_V_up (by omega) (by omega) ax_148 dfa_156).2 (by omega)
                                                have hwq := hx_w_b (i := (fw27_x_75.toInt - 1 : Int))
                                                have hm12 : hx_m12 fa_156 := (fun k hk => by have q := hT.ei (gqm.S hM) tt_105 (k := k) hk; rw [nfa_156] at q; exact q)
                                                have hvb := hx_V_b hm12
                                                refine lv_goto (tgt := 204) hx hb dX10_plan_431 (by decide) ?_
                                                have zk_1 : (1 : Int32).toInt = 1 := by decide
                                                exact ih204 iv221_8 iv221_9 (1 : Int32) fa_156 _ _ hL1 h_155 (i32_r _).1 (i32_r _).2 (i32_r _).1 (i32_r _).2 (by decide) (by decide) hm12 ls (by omega) hW hT hM ffv_1 ffw27_x_75 fx_17 pi0 nfa_156 (lv_sub hl [0, 2, 3, 7, 8, 9, 10] rfl)
                                              · skip
                                                refine lv_aload_n hx hb dX10_plan_389 rfl (lv_at hl 8 rfl) ?_
                                                refine hk_getr hx hb hts hC_10 hown hW (gx.S hM) tt_10 79 (by decide) rfl kw_1222 ⟨rfl, rfl, rfl⟩ ((hM.o gx trivial rfl).2.trans f_x_79) dX10_plan_390 ?_
                                                refine lv_iload hx hb dX10_plan_393 (lv_at hl 0 rfl) ?_
                                                refine lv_iconst (v := 0) hx hb dX10_plan_395 (by decide) ?_
                                                have nia372_qmO := nia372_qm
                                                refine hx_iast hx hb hW hT (hx_S.rf (M := [(105, 0)])) (gqm.S hM) tt_105 rfl ⟨by omega, by omega⟩ rfl (by decide) (List.mem_singleton.mpr rfl) dX10_plan_396 (fun H locs h_157 eh_157 hW hT hs => ?_)
                                                replace ffv_1 := (hs.o (gx.S hM) trivial rfl).1.trans ffv_1
                                                replace ffw27_x_75 := (hs.o (gx.S hM) trivial rfl).1.trans ffw27_x_75
                                                replace fx_17 := (hs.o (gx.S hM) trivial rfl).1.trans fx_17
                                                replace pi0 : ∀ j : Nat, (j : Int) < (h_157.2.1 x 75).toInt → 1 ≤ (h_157.2.1 qf j).toInt := by
                                                  intro j hj; rw [(hs.o (gx.S hM) trivial rfl).1] at hj; rw [(hs.a (gqf.S hM) rfl j).1]; exact pi0 j hj
                                                replace hM := hM.tr (hs.mono (by decide))
                                                obtain ⟨fa_158, dfa_158⟩ : ∃ g : Nat → Int32, g = hx_up ia372_qm iv372_10.toNatClampNeg (0 : Int32) := ⟨_, rfl⟩
                                                have nfa_158 : h_157.2.1 qm = fa_158 := by rw [eh_157, dfa_158, ← nia372_qmO]; exact hx_pi_fun _ _ _ _
                                                obtain ⟨x_159, ex_159⟩ : ∃ y : Int32, y = iv372_10 + Int32.ofInt (-1) := ⟨_, rfl⟩
                                                have rg_160 := i32_r iv372_10
                                                have zx_159 : x_159.toInt = iv372_10.toInt + (-1) := by rw [ex_159]; exact i32_add rfl (by decide) (by omega) (by omega)
                                                refine lv_iinc (v := x_159) (lv' := [(10, .int x_159), (5, .int iv221_9), (4, .int iv221_8), (9, .int iv221_9), (8, .int iv221_8), (7, .int iv221_7), (6, .int iv204_6), (3, .int r_25), (0, .ref x), (1, .int i1), (2, .int i2)]) hx hb dX10_plan_397 hl (k := 0) rfl ex_159.symm (by decide) rfl (fun ls hl => ?_)
                                                refine lv_goto (tgt := 372) hx hb dX10_plan_400 (by decide) ?_
                                                exact ih372 x_159 fa_158 _ _ hL1 h_157 (by omega) (by omega) (by have q := (hx_V_up (by omega) (by omega) ax_148 dfa_158).1 (by omega) (by decide); rw [show x_159.toInt = iv372_10.toInt - 1 from by omega]; omega) (by omega) ls (by omega) hW hT hM ffv_1 ffw27_x_75 fx_17 pi0 nfa_158 (lv_sub hl [0, 1, 2, 3, 4, 5, 6, 7, 8, 9, 10] rfl)
                                        exact loop372 5 x_144 ia204_qm _ _ hL1 hl1 (by omega) (by omega) (by rw [zx_144]) (by omega) ls (by omega) hW hT hM ffv_1 ffw27_x_75 fx_17 pi0 nia204_qm hl
                                      · skip
                                        refine lv_aload_n hx hb dX10_plan_344 rfl (lv_at hl 8 rfl) ?_
                                        refine hx_getn hx hb hts hC_10 hown hW hT (gx.S hM) tt_10 80 (by decide) rfl kw_1223 ⟨rfl, rfl, rfl⟩ dX10_plan_345 (fun q_161 fq_161 gq_161 => ?_)
                                        refine lv_iload hx hb dX10_plan_348 (lv_at hl 0 rfl) ?_
                                        refine lv_aload_n hx hb dX10_plan_350 rfl (lv_at hl 8 rfl) ?_
                                        refine hk_getr hx hb hts hC_10 hown hW (gx.S hM) tt_10 79 (by decide) rfl kw_1222 ⟨rfl, rfl, rfl⟩ ((hM.o gx trivial rfl).2.trans f_x_79) dX10_plan_351 ?_
                                        refine lv_iload hx hb dX10_plan_354 (lv_at hl 0 rfl) ?_
                                        refine hx_iald hx hb hW hT (gqm.S hM) tt_105 rfl ⟨by omega, by omega⟩ dX10_plan_356 (fun x_162 ex_162 lx_162 ux_162 => ?_)
                                        have ax_162 : x_162 = ia204_qm iv335_10.toNatClampNeg := ex_162.trans (congrFun nia204_qm _)
                                        refine hx_iast hx hb hW hT (hx_S.rf (M := [(106, 0)])) gq_161 tt_106 rfl ⟨by omega, by omega⟩ rfl ⟨by omega, by omega⟩ (List.mem_singleton.mpr rfl) dX10_plan_357 (fun H locs h_163 eh_163 hW hT hs => ?_)
                                        replace ffv_1 := (hs.o (gx.S hM) trivial rfl).1.trans ffv_1
                                        replace ffw27_x_75 := (hs.o (gx.S hM) trivial rfl).1.trans ffw27_x_75
                                        replace fx_17 := (hs.o (gx.S hM) trivial rfl).1.trans fx_17
                                        replace fq_161 := (hs.o (gx.S hM) trivial rfl).2.trans fq_161
                                        replace nia204_qm : h_163.2.1 qm = ia204_qm := (funext fun j => (hs.a (gqm.S hM) rfl j).1).trans nia204_qm
                                        replace ex_162 := ex_162.trans (hs.a (gqm.S hM) rfl _).1.symm
                                        replace pi0 : ∀ j : Nat, (j : Int) < (h_163.2.1 x 75).toInt → 1 ≤ (h_163.2.1 qf j).toInt := by
                                          intro j hj; rw [(hs.o (gx.S hM) trivial rfl).1] at hj; rw [(hs.a (gqf.S hM) rfl j).1]; exact pi0 j hj
                                        replace hM := hM.tr (hs.mono (by decide))
                                        replace gq_161 := gq_161.S hs
                                        obtain ⟨x_164, ex_164⟩ : ∃ y : Int32, y = iv335_10 + Int32.ofInt 1 := ⟨_, rfl⟩
                                        have rg_165 := i32_r iv335_10
                                        have zx_164 : x_164.toInt = iv335_10.toInt + (1) := by rw [ex_164]; exact i32_add rfl (by decide) (by omega) (by omega)
                                        refine lv_iinc (v := x_164) (lv' := [(10, .int x_164), (5, .int iv221_9), (4, .int iv221_8), (9, .int iv221_9), (8, .int iv221_8), (7, .int iv221_7), (6, .int iv204_6), (3, .int r_25), (0, .ref x), (1, .int i1), (2, .int i2)]) hx hb dX10_plan_358 hl (k := 0) rfl ex_164.symm (by decide) rfl (fun ls hl => ?_)
                                        refine lv_goto (tgt := 335) hx hb dX10_plan_361 (by decide) ?_
                                        exact ih335 x_164 _ _ hL1 h_163 (by omega) (by omega)  ls (by omega) hW hT hM ffv_1 ffw27_x_75 fx_17 pi0 nia204_qm (lv_sub hl [0, 1, 2, 3, 4, 5, 6, 7, 8, 9, 10] rfl)
                                  have zk_0 : (0 : Int32).toInt = 0 := by decide
                                  exact loop335 5 (0 : Int32) _ _ hL1 hl1 (by decide) (by decide)  ls (by omega) hW hT hM ffv_1 ffw27_x_75 fx_17 pi0 nia204_qm hl
                        · skip
                          refine lv_aload_n hx hb dX10_plan_230 rfl (lv_at hl 8 rfl) ?_
                          refine lv_iload hx hb dX10_plan_231 (lv_at hl 0 rfl) ?_
                          refine lv_aload_n hx hb dX10_plan_233 rfl (lv_at hl 8 rfl) ?_
                          refine hk_getr hx hb hts hC_10 hown hW (gx.S hM) tt_10 79 (by decide) rfl kw_1222 ⟨rfl, rfl, rfl⟩ ((hM.o gx trivial rfl).2.trans f_x_79) dX10_plan_234 ?_
                          refine lv_iload hx hb dX10_plan_237 (lv_at hl 0 rfl) ?_
                          refine hx_iald hx hb hW hT (gqm.S hM) tt_105 rfl ⟨by omega, by omega⟩ dX10_plan_239 (fun x_166 ex_166 lx_166 ux_166 => ?_)
                          have ax_166 : x_166 = ia204_qm iv221_10.toNatClampNeg := ex_166.trans (congrFun nia204_qm _)
                          refine lv_iload_n hx hb dX10_plan_240 rfl (lv_at hl 10 rfl) ?_
                          refine hx_goi (hx_runV (As := [.int iv221_10, .int x_166, .int i2]) (rest := []) ⟨hx, hb, hml, hown, hts⟩ hW (gx.S hM) tt_10 (T := TX10) (N := 98) rfl (t_X10_weeksOf l dC dI dA hL1 hl1 H.size x iv221_10 x_166 i2 hT (gx.S hM) fw27_x_75 ffw27_x_75 ⟨by omega, by omega⟩ ⟨by omega, by omega⟩ ⟨by omega, by omega⟩ qf (gqf.S hM) ((hM.o gx trivial rfl).2.trans f_x_78) pi0) (cwV 3 hts (hx_gV kw_1682 kw_1679 kw_1681 kw_85 kw_103) rfl rfl rfl (by decide +kernel) ⟨Nat.le_of_ble_eq_true rfl, Nat.le_of_ble_eq_true rfl⟩) rfl hl.1 rfl (Nat.le_of_ble_eq_true rfl) dX10_plan_241 ⟨Nat.le_of_ble_eq_true rfl, Nat.le_of_ble_eq_true rfl⟩) hW (fun r_169 L_167 h_168 H locs p_170 hW => ?_)
                          obtain ⟨hr_171, hT, hs⟩ := p_170
                          replace hT : hx_T T_tb L_167 h_168 := hT
                          replace hs : hx_S T_tb [] hL1 hl1 L_167 h_168 := hs
                          replace ffv_1 := (hs.o (gx.S hM) trivial rfl).1.trans ffv_1
                          replace ffw27_x_75 := (hs.o (gx.S hM) trivial rfl).1.trans ffw27_x_75
                          replace fx_17 := (hs.o (gx.S hM) trivial rfl).1.trans fx_17
                          replace nia204_qm : h_168.2.1 qm = ia204_qm := (funext fun j => (hs.a (gqm.S hM) rfl j).1).trans nia204_qm
                          replace ex_166 := ex_166.trans (hs.a (gqm.S hM) rfl _).1.symm
                          replace pi0 : ∀ j : Nat, (j : Int) < (h_168.2.1 x 75).toInt → 1 ≤ (h_168.2.1 qf j).toInt := by
                            intro j hj; rw [(hs.o (gx.S hM) trivial rfl).1] at hj; rw [(hs.a (gqf.S hM) rfl j).1]; exact pi0 j hj
                          replace hM := hM.tr (hs.mono (by decide))
                          refine lv_istore (lv' := [(11, .int r_169), (10, .int iv221_10), (9, .int iv221_9), (8, .int iv221_8), (7, .int iv221_7), (6, .int iv204_6), (5, .int iv204_5), (4, .int iv204_4), (3, .int r_25), (0, .ref x), (1, .int i1), (2, .int i2)]) hx hb dX10_plan_244 hl (by decide) rfl (fun ls hl => ?_)
                          refine lv_iload hx hb dX10_plan_246 (lv_at hl 4 rfl) ?_
                          refine lv_aload_n hx hb dX10_plan_248 rfl (lv_at hl 9 rfl) ?_
                          refine hk_getr hx hb hts hC_10 hown hW (gx.S hM) tt_10 78 (by decide) rfl kw_1221 ⟨rfl, rfl, rfl⟩ ((hM.o gx trivial rfl).2.trans f_x_78) dX10_plan_249 ?_
                          refine lv_iload hx hb dX10_plan_252 (lv_at hl 1 rfl) ?_
                          refine hx_iald hx hb hW hT (gqf.S hM) tt_104 rfl ⟨by omega, by omega⟩ dX10_plan_254 (fun x_172 ex_172 lx_172 ux_172 => ?_)
                          have px_172 : 1 ≤ x_172.toInt := by rw [ex_172]; exact pi0 _ (by rw [ffw27_x_75]; exact hx_tnI (by omega) (by omega))
                          refine lv_aload_n hx hb dX10_plan_255 rfl (lv_at hl 9 rfl) ?_
                          refine hk_getr hx hb hts hC_10 hown hW (gx.S hM) tt_10 79 (by decide) rfl kw_1222 ⟨rfl, rfl, rfl⟩ ((hM.o gx trivial rfl).2.trans f_x_79) dX10_plan_256 ?_
                          refine lv_iload hx hb dX10_plan_259 (lv_at hl 1 rfl) ?_
                          refine hx_iald hx hb hW hT (gqm.S hM) tt_105 rfl ⟨by omega, by omega⟩ dX10_plan_261 (fun x_173 ex_173 lx_173 ux_173 => ?_)
                          have ax_173 : x_173 = ia204_qm iv221_10.toNatClampNeg := ex_173.trans (congrFun nia204_qm _)
                          obtain rfl : x_166 = x_173 := ex_166.trans ex_173.symm
                          refine lv_iload_n hx hb dX10_plan_262 rfl (lv_at hl 11 rfl) ?_
                          refine lv_imul hx hb dX10_plan_263 ?_
                          refine lv_topi (fun x_174 ex_174 => ?_)
                          have mx_174 : x_166.toInt = 0 → x_174.toInt = 0 := fun z => by rw [ex_174]; exact hx_mul0 z
                          refine lv_iadd hx hb dX10_plan_264 ?_
                          have rg_175 := i32_r x_172
                          have rg_176 := i32_r x_174
                          refine lv_topi (fun x_177 ex_177 => ?_)
                          refine lv_iadd hx hb dX10_plan_265 ?_
                          have rg_178 := i32_r iv221_7
                          have rg_179 := i32_r x_177
                          refine lv_topi (fun x_180 ex_180 => ?_)
                          refine lv_istore (lv' := [(7, .int x_180), (11, .int r_169), (10, .int iv221_10), (9, .int iv221_9), (8, .int iv221_8), (6, .int iv204_6), (5, .int iv204_5), (4, .int iv204_4), (3, .int r_25), (0, .ref x), (1, .int i1), (2, .int i2)]) hx hb dX10_plan_266 hl (by decide) rfl (fun ls hl => ?_)
                          refine lv_iload hx hb dX10_plan_268 (lv_at hl 1 rfl) ?_
                          refine lv_iload hx hb dX10_plan_270 (lv_at hl 4 rfl) ?_
                          refine hb_icmp_le (zx := r_169.toInt) (zy := iv221_8.toInt) (tgt := 280) hx hb rfl rfl dX10_plan_272 (by decide) (fun c_181 => ?_) (fun c_181 => ?_)
                          · skip
                            refine lv_iload hx hb dX10_plan_280 (lv_at hl 4 rfl) ?_
                            refine lv_istore (lv' := [(8, .int iv221_8), (7, .int x_180), (11, .int r_169), (10, .int iv221_10), (9, .int iv221_9), (6, .int iv204_6), (5, .int iv204_5), (4, .int iv204_4), (3, .int r_25), (0, .ref x), (1, .int i1), (2, .int i2)]) hx hb dX10_plan_282 hl (by decide) rfl (fun ls hl => ?_)
                            refine lv_iload hx hb dX10_plan_284 (lv_at hl 4 rfl) ?_
                            refine lv_iload hx hb dX10_plan_286 (lv_at hl 2 rfl) ?_
                            refine lv_iadd hx hb dX10_plan_288 ?_
                            have rg_182 := i32_r iv221_9
                            have rg_183 := i32_r r_169
                            refine lv_topi (fun x_184 ex_184 => ?_)
                            refine lv_istore (lv' := [(9, .int x_184), (8, .int iv221_8), (7, .int x_180), (11, .int r_169), (10, .int iv221_10), (6, .int iv204_6), (5, .int iv204_5), (4, .int iv204_4), (3, .int r_25), (0, .ref x), (1, .int i1), (2, .int i2)]) hx hb dX10_plan_289 hl (by decide) rfl (fun ls hl => ?_)
                            obtain ⟨x_185, ex_185⟩ : ∃ y : Int32, y = iv221_10 + Int32.ofInt 1 := ⟨_, rfl⟩
                            have rg_186 := i32_r iv221_10
                            have zx_185 : x_185.toInt = iv221_10.toInt + (1) := by rw [ex_185]; exact i32_add rfl (by decide) (by omega) (by omega)
                            refine lv_iinc (v := x_185) (lv' := [(10, .int x_185), (9, .int x_184), (8, .int iv221_8), (7, .int x_180), (11, .int r_169), (6, .int iv204_6), (5, .int iv204_5), (4, .int iv204_4), (3, .int r_25), (0, .ref x), (1, .int i1), (2, .int i2)]) hx hb dX10_plan_291 hl (k := 4) rfl ex_185.symm (by decide) rfl (fun ls hl => ?_)
                            refine lv_goto (tgt := 221) hx hb dX10_plan_294 (by decide) ?_
                            exact ih221 x_180 iv221_8 x_184 x_185 _ _ L_167 h_168 (i32_r _).1 (i32_r _).2 (i32_r _).1 (i32_r _).2 (i32_r _).1 (i32_r _).2 (by omega) (by omega)  ls (by omega) hW hT hM ffv_1 ffw27_x_75 fx_17 pi0 nia204_qm (lv_sub hl [0, 1, 2, 3, 5, 6, 7, 8, 9, 10, 11] rfl)
                          · skip
                            refine lv_iload hx hb dX10_plan_275 (lv_at hl 1 rfl) ?_
                            refine lv_goto (tgt := 282) hx hb dX10_plan_277 (by decide) ?_
                            refine lv_istore (lv' := [(8, .int r_169), (7, .int x_180), (11, .int r_169), (10, .int iv221_10), (9, .int iv221_9), (6, .int iv204_6), (5, .int iv204_5), (4, .int iv204_4), (3, .int r_25), (0, .ref x), (1, .int i1), (2, .int i2)]) hx hb dX10_plan_282 hl (by decide) rfl (fun ls hl => ?_)
                            refine lv_iload hx hb dX10_plan_284 (lv_at hl 4 rfl) ?_
                            refine lv_iload hx hb dX10_plan_286 (lv_at hl 2 rfl) ?_
                            refine lv_iadd hx hb dX10_plan_288 ?_
                            have rg_187 := i32_r iv221_9
                            have rg_188 := i32_r r_169
                            refine lv_topi (fun x_189 ex_189 => ?_)
                            refine lv_istore (lv' := [(9, .int x_189), (8, .int r_169), (7, .int x_180), (11, .int r_169), (10, .int iv221_10), (6, .int iv204_6), (5, .int iv204_5), (4, .int iv204_4), (3, .int r_25), (0, .ref x), (1, .int i1), (2, .int i2)]) hx hb dX10_plan_289 hl (by decide) rfl (fun ls hl => ?_)
                            obtain ⟨x_190, ex_190⟩ : ∃ y : Int32, y = iv221_10 + Int32.ofInt 1 := ⟨_, rfl⟩
                            have rg_191 := i32_r iv221_10
                            have zx_190 : x_190.toInt = iv221_10.toInt + (1) := by rw [ex_190]; exact i32_add rfl (by decide) (by omega) (by omega)
                            refine lv_iinc (v := x_190) (lv' := [(10, .int x_190), (9, .int x_189), (8, .int r_169), (7, .int x_180), (11, .int r_169), (6, .int iv204_6), (5, .int iv204_5), (4, .int iv204_4), (3, .int r_25), (0, .ref x), (1, .int i1), (2, .int i2)]) hx hb dX10_plan_291 hl (k := 4) rfl ex_190.symm (by decide) rfl (fun ls hl => ?_)
                            refine lv_goto (tgt := 221) hx hb dX10_plan_294 (by decide) ?_
                            exact ih221 x_180 r_169 x_189 x_190 _ _ L_167 h_168 (i32_r _).1 (i32_r _).2 (i32_r _).1 (i32_r _).2 (i32_r _).1 (i32_r _).2 (by omega) (by omega)  ls (by omega) hW hT hM ffv_1 ffw27_x_75 fx_17 pi0 nia204_qm (lv_sub hl [0, 1, 2, 3, 5, 6, 7, 8, 9, 10, 11] rfl)
                    have zk_0 : (0 : Int32).toInt = 0 := by decide
                    have zk_0 : (0 : Int32).toInt = 0 := by decide
                    have zk_0 : (0 : Int32).toInt = 0 := by decide
                    have zk_0 : (0 : Int32).toInt = 0 := by decide
                    exact loop221 5 (0 : Int32) (0 : Int32) (0 : Int32) (0 : Int32) _ _ hL1 hl1 (by decide) (by decide) (by decide) (by decide) (by decide) (by decide) (by decide) (by decide)  ls (by omega) hW hT hM ffv_1 ffw27_x_75 fx_17 pi0 nia204_qm hl
              have zk_1000000000 : (1000000000 : Int32).toInt = 1000000000 := by decide
              have zk_1000000000 : (1000000000 : Int32).toInt = 1000000000 := by decide
              have zk_1 : (1 : Int32).toInt = 1 := by decide
              exact loop204 28564 (1000000000 : Int32) (1000000000 : Int32) (1 : Int32) fa_30 _ _ L_23 h_24 (by decide) (by decide) (by decide) (by decide) (by decide) (by decide) hm12 ls (by omega) hW hT hM ffv_1 ffw27_x_75 fx_17 pi0 nfa_30 hl
            · skip
              refine lv_iconst (v := 0) hx hb dX10_plan_176 (by decide) ?_
              refine lv_goto (tgt := 183) hx hb dX10_plan_177 (by decide) ?_
              refine lv_istore (lv' := [(4, .int (0 : Int32)), (3, .int r_25), (0, .ref x), (1, .int i1), (2, .int i2)]) hx hb dX10_plan_183 hl (by decide) rfl (fun ls hl => ?_)
              refine lv_ldcw (v := 1000000000) hx hb hown (hts _ kw_1678) dX10_plan_185 ?_
              refine lv_istore (lv' := [(5, .int (1000000000 : Int32)), (4, .int (0 : Int32)), (3, .int r_25), (0, .ref x), (1, .int i1), (2, .int i2)]) hx hb dX10_plan_188 hl (by decide) rfl (fun ls hl => ?_)
              refine lv_aload_n hx hb dX10_plan_190 rfl (lv_at hl 3 rfl) ?_
              refine hk_geti hx hb hts hC_10 hown hW (gx.S hM) tt_10 75 (by decide) rfl kw_1218 ⟨rfl, rfl, rfl⟩ ffw27_x_75 dX10_plan_191 ?_
              refine hb_if_le (zx := fw27_x_75.toInt) (tgt := 201) hx hb rfl dX10_plan_194 (by decide) (fun c_192 => ?_) (fun c_192 => by exfalso; omega)
              refine lv_iconst (v := 0) hx hb dX10_plan_201 (by decide) ?_
              obtain ⟨fa_193, nfa_193⟩ : ∃ g : Nat → Int32, h_24.2.1 qm = g := ⟨_, rfl⟩
              have hm12 : hx_m12 fa_193 := (fun k hk => by have q := hT.ei (gqm.S hM) tt_105 (k := k) hk; rw [nfa_193] at q; exact q)
              have hvb := hx_V_b hm12
              refine lv_istore (lv' := [(6, .int (0 : Int32)), (5, .int (1000000000 : Int32)), (4, .int (0 : Int32)), (3, .int r_25), (0, .ref x), (1, .int i1), (2, .int i2)]) hx hb dX10_plan_202 hl (by decide) rfl (fun ls hl => ?_)
              have loop204 : ∀ (n204 : Nat) (iv204_4 iv204_5 iv204_6 : Int32) (ia204_qm : Nat → Int32) (H : Heap) (locs : List Loc) (hL1 : List Nat) (hl1 : hx_h), -2147483648 ≤ iv204_4.toInt → iv204_4.toInt ≤ 2147483647 → -2147483648 ≤ iv204_5.toInt → iv204_5.toInt ≤ 2147483647 → 0 ≤ iv204_6.toInt → iv204_6.toInt ≤ 1 → (hx_m12 ia204_qm) → ∀ (ls : Array Slot), (iv204_6.toInt = 0 ∧ 0 < (n204 : Int)) ∨ 28562 - hx_V ia204_qm < (n204 : Int) → hx_W T_tb (P_ty dA) (dC, dI) vwCl (hx_A L sz) s.heap hL1 hl1 s H locs → hx_T T_tb hL1 hl1 → hx_S T_tb [(10, 67), (10, 68), (10, 69), (10, 70), (10, 71), (10, 72), (10, 75), (100, 0), (101, 0), (102, 0), (103, 0), (104, 0), (105, 0), (106, 0), (107, 0)] L h hL1 hl1 → hl1.2.1 x 20 = fv_1 → hl1.2.1 x 75 = fw27_x_75 → hl1.2.1 x 0 = x_17 → (∀ j : Nat, (j : Int) < (hl1.2.1 x 75).toInt → 1 ≤ (hl1.2.1 qf j).toInt) → hl1.2.1 qm = ia204_qm → lv_has ls 12 [(6, .int iv204_6), (5, .int iv204_5), (4, .int iv204_4), (3, .int r_25), (0, .ref x), (1, .int i1), (2, .int i2)] → W p l e ({ frames := 3, cells := 0, slots := 0, locals := 71 }) s m ([.ref x, .int i1, .int i2] : List Value).toArray below meth c H locs 0 0 (MQ below (va_Qi (fun (r : Int32) (u : List Nat × hx_h) => (True) ∧ hx_T T_tb u.1 u.2 ∧ hx_S T_tb [(10, 67), (10, 68), (10, 69), (10, 70), (10, 71), (10, 72), (10, 75), (100, 0), (101, 0), (102, 0), (103, 0), (104, 0), (105, 0), (106, 0), (107, 0)] L h u.1 u.2) (hx_E T_tb (P_ty dA) (dC, dI) vwCl (hx_A L sz)) (hx_A L sz)) ([.ref x, .int i1, .int i2] : List Value).toArray s 0 0 (hx_A L sz)) (F0 m 204 ls []) := by
                intro n204
                induction n204 with
                | zero => intro iv204_4 iv204_5 iv204_6 ia204_qm H locs hL1 hl1 bliv204_4 buiv204_4 bliv204_5 buiv204_5 bliv204_6 buiv204_6 vi204_0 ls hn204; exfalso; have hvbz := hx_V_b vi204_0; omega
                | succ n204 ih204 =>
                  intro iv204_4 iv204_5 iv204_6 ia204_qm H locs hL1 hl1 bliv204_4 buiv204_4 bliv204_5 buiv204_5 bliv204_6 buiv204_6 vi204_0 ls hn204 hW hT hM ffv_1 ffw27_x_75 fx_17 pi0 nia204_qm hl
                  refine lv_iload hx hb dX10_plan_204 (lv_at hl 0 rfl) ?_
                  have hvb0 := hx_V_b vi204_0
                  refine hb_if_eq (zx := iv204_6.toInt) (tgt := 434) hx hb rfl dX10_plan_206 (by decide) (fun c_194 => ?_) (fun c_194 => ?_)
                  · skip
                    refine lv_iload hx hb dX10_plan_434 (lv_at hl 2 rfl) ?_
                    refine lv_ldcw (v := 1000000000) hx hb hown (hts _ kw_1678) dX10_plan_436 ?_
                    refine hb_icmp_ne (zx := iv204_4.toInt) (zy := 1000000000) (tgt := 445) hx hb rfl (by decide) dX10_plan_439 (by decide) (fun c_195 => ?_) (fun c_195 => ?_)
                    · skip
                      refine lv_aload_n hx hb dX10_plan_445 rfl (lv_at hl 4 rfl) ?_
                      refine lv_aload_n hx hb dX10_plan_446 rfl (lv_at hl 4 rfl) ?_
                      refine hk_geti hx hb hts hC_10 hown hW (gx.S hM) tt_10 75 (by decide) rfl kw_1218 ⟨rfl, rfl, rfl⟩ ffw27_x_75 dX10_plan_447 ?_
                      refine hx_puti hx hb hts hC_10 hown hW hT (hx_S.rf (M := [(10, 72)])) (gx.S hM) tt_10 72 (by decide) rfl kw_1215 ⟨rfl, rfl, rfl⟩ rfl (x := fw27_x_75) ⟨by omega, by omega⟩ rfl rfl rfl (List.mem_singleton.mpr rfl) dX10_plan_450 (fun H locs h_196 eh_196 hW hT hs => ?_)
                      replace ffv_1 := (hs.o (gx.S hM) trivial rfl).1.trans ffv_1
                      replace ffw27_x_75 := (hs.o (gx.S hM) trivial rfl).1.trans ffw27_x_75
                      replace fx_17 := (hs.o (gx.S hM) trivial rfl).1.trans fx_17
                      replace nia204_qm : h_196.2.1 qm = ia204_qm := (funext fun j => (hs.a (gqm.S hM) rfl j).1).trans nia204_qm
                      replace pi0 : ∀ j : Nat, (j : Int) < (h_196.2.1 x 75).toInt → 1 ≤ (h_196.2.1 qf j).toInt := by
                        intro j hj; rw [(hs.o (gx.S hM) trivial rfl).1] at hj; rw [(hs.a (gqf.S hM) rfl j).1]; exact pi0 j hj
                      replace hM := hM.tr (hs.mono (by decide))
                      have f_197 : h_196.2.1 x 72 = fw27_x_75 := by rw [eh_196]; exact hx_pi_at _ _ _ _
                      refine lv_iconst (v := 0) hx hb dX10_plan_453 (by decide) ?_
                      refine lv_istore (lv' := [(7, .int (0 : Int32)), (6, .int iv204_6), (5, .int iv204_5), (4, .int iv204_4), (3, .int r_25), (0, .ref x), (1, .int i1), (2, .int i2)]) hx hb dX10_plan_454 hl (by decide) rfl (fun ls hl => ?_)
                      have loop456 : ∀ (n456 : Nat) (iv456_7 : Int32) (H : Heap) (locs : List Loc) (hL1 : List Nat) (hl1 : hx_h), 0 ≤ iv456_7.toInt → iv456_7.toInt ≤ 4 → ∀ (ls : Array Slot), 4 - iv456_7.toInt < (n456 : Int) → hx_W T_tb (P_ty dA) (dC, dI) vwCl (hx_A L sz) s.heap hL1 hl1 s H locs → hx_T T_tb hL1 hl1 → hx_S T_tb [(10, 67), (10, 68), (10, 69), (10, 70), (10, 71), (10, 72), (10, 75), (100, 0), (101, 0), (102, 0), (103, 0), (104, 0), (105, 0), (106, 0), (107, 0)] L h hL1 hl1 → hl1.2.1 x 20 = fv_1 → hl1.2.1 x 75 = fw27_x_75 → hl1.2.1 x 0 = x_17 → (∀ j : Nat, (j : Int) < (hl1.2.1 x 75).toInt → 1 ≤ (hl1.2.1 qf j).toInt) → lv_has ls 12 [(7, .int iv456_7), (6, .int iv204_6), (5, .int iv204_5), (4, .int iv204_4), (3, .int r_25), (0, .ref x), (1, .int i1), (2, .int i2)] → W p l e ({ frames := 3, cells := 0, slots := 0, locals := 71 }) s m ([.ref x, .int i1, .int i2] : List Value).toArray below meth c H locs 0 0 (MQ below (va_Qi (fun (r : Int32) (u : List Nat × hx_h) => (True) ∧ hx_T T_tb u.1 u.2 ∧ hx_S T_tb [(10, 67), (10, 68), (10, 69), (10, 70), (10, 71), (10, 72), (10, 75), (100, 0), (101, 0), (102, 0), (103, 0), (104, 0), (105, 0), (106, 0), (107, 0)] L h u.1 u.2) (hx_E T_tb (P_ty dA) (dC, dI) vwCl (hx_A L sz)) (hx_A L sz)) ([.ref x, .int i1, .int i2] : List Value).toArray s 0 0 (hx_A L sz)) (F0 m 456 ls []) := by
                        intro n456
                        induction n456 with
                        | zero => intro iv456_7 H locs hL1 hl1 bliv456_7 buiv456_7  ls hn456; exfalso; omega
                        | succ n456 ih456 =>
                          intro iv456_7 H locs hL1 hl1 bliv456_7 buiv456_7  ls hn456 hW hT hM ffv_1 ffw27_x_75 fx_17 pi0 hl
                          refine lv_iload hx hb dX10_plan_456 (lv_at hl 0 rfl) ?_
                          refine lv_aload_n hx hb dX10_plan_458 rfl (lv_at hl 5 rfl) ?_
                          refine hk_geti hx hb hts hC_10 hown hW (gx.S hM) tt_10 75 (by decide) rfl kw_1218 ⟨rfl, rfl, rfl⟩ ffw27_x_75 dX10_plan_459 ?_
                          refine hb_icmp_ge (zx := iv456_7.toInt) (zy := fw27_x_75.toInt) (tgt := 530) hx hb rfl rfl dX10_plan_462 (by decide) (fun c_198 => ?_) (fun c_198 => by exfalso; omega)
                          refine lv_iload hx hb dX10_plan_530 (lv_at hl 3 rfl) ?_
                          exact hx_reti hx hb hr hlk hW ⟨trivial, hT, hM⟩ dX10_plan_532
                      have zk_0 : (0 : Int32).toInt = 0 := by decide
                      exact loop456 5 (0 : Int32) _ _ hL1 h_196 (by decide) (by decide)  ls (by omega) hW hT hM ffv_1 ffw27_x_75 fx_17 pi0 hl
                    · skip
                      refine lv_bipush (v := -2) hx hb dX10_plan_442 (by decide) ?_
                      exact hx_reti hx hb hr hlk hW ⟨trivial, hT, hM⟩ dX10_plan_444
                  · skip
                    refine lv_iconst (v := 0) hx hb dX10_plan_209 (by decide) ?_
                    refine lv_istore (lv' := [(7, .int (0 : Int32)), (6, .int iv204_6), (5, .int iv204_5), (4, .int iv204_4), (3, .int r_25), (0, .ref x), (1, .int i1), (2, .int i2)]) hx hb dX10_plan_210 hl (by decide) rfl (fun ls hl => ?_)
                    refine lv_iconst (v := 0) hx hb dX10_plan_212 (by decide) ?_
                    refine lv_istore (lv' := [(8, .int (0 : Int32)), (7, .int (0 : Int32)), (6, .int iv204_6), (5, .int iv204_5), (4, .int iv204_4), (3, .int r_25), (0, .ref x), (1, .int i1), (2, .int i2)]) hx hb dX10_plan_213 hl (by decide) rfl (fun ls hl => ?_)
                    refine lv_iconst (v := 0) hx hb dX10_plan_215 (by decide) ?_
                    refine lv_istore (lv' := [(9, .int (0 : Int32)), (8, .int (0 : Int32)), (7, .int (0 : Int32)), (6, .int iv204_6), (5, .int iv204_5), (4, .int iv204_4), (3, .int r_25), (0, .ref x), (1, .int i1), (2, .int i2)]) hx hb dX10_plan_216 hl (by decide) rfl (fun ls hl => ?_)
                    refine lv_iconst (v := 0) hx hb dX10_plan_218 (by decide) ?_
                    refine lv_istore (lv' := [(10, .int (0 : Int32)), (9, .int (0 : Int32)), (8, .int (0 : Int32)), (7, .int (0 : Int32)), (6, .int iv204_6), (5, .int iv204_5), (4, .int iv204_4), (3, .int r_25), (0, .ref x), (1, .int i1), (2, .int i2)]) hx hb dX10_plan_219 hl (by decide) rfl (fun ls hl => ?_)
                    have loop221 : ∀ (n221 : Nat) (iv221_7 iv221_8 iv221_9 iv221_10 : Int32) (H : Heap) (locs : List Loc) (hL1 : List Nat) (hl1 : hx_h), -2147483648 ≤ iv221_7.toInt → iv221_7.toInt ≤ 2147483647 → -2147483648 ≤ iv221_8.toInt → iv221_8.toInt ≤ 2147483647 → -2147483648 ≤ iv221_9.toInt → iv221_9.toInt ≤ 2147483647 → 0 ≤ iv221_10.toInt → iv221_10.toInt ≤ 4 → ∀ (ls : Array Slot), 4 - iv221_10.toInt < (n221 : Int) → hx_W T_tb (P_ty dA) (dC, dI) vwCl (hx_A L sz) s.heap hL1 hl1 s H locs → hx_T T_tb hL1 hl1 → hx_S T_tb [(10, 67), (10, 68), (10, 69), (10, 70), (10, 71), (10, 72), (10, 75), (100, 0), (101, 0), (102, 0), (103, 0), (104, 0), (105, 0), (106, 0), (107, 0)] L h hL1 hl1 → hl1.2.1 x 20 = fv_1 → hl1.2.1 x 75 = fw27_x_75 → hl1.2.1 x 0 = x_17 → (∀ j : Nat, (j : Int) < (hl1.2.1 x 75).toInt → 1 ≤ (hl1.2.1 qf j).toInt) → hl1.2.1 qm = ia204_qm → lv_has ls 12 [(10, .int iv221_10), (9, .int iv221_9), (8, .int iv221_8), (7, .int iv221_7), (6, .int iv204_6), (5, .int iv204_5), (4, .int iv204_4), (3, .int r_25), (0, .ref x), (1, .int i1), (2, .int i2)] → W p l e ({ frames := 3, cells := 0, slots := 0, locals := 71 }) s m ([.ref x, .int i1, .int i2] : List Value).toArray below meth c H locs 0 0 (MQ below (va_Qi (fun (r : Int32) (u : List Nat × hx_h) => (True) ∧ hx_T T_tb u.1 u.2 ∧ hx_S T_tb [(10, 67), (10, 68), (10, 69), (10, 70), (10, 71), (10, 72), (10, 75), (100, 0), (101, 0), (102, 0), (103, 0), (104, 0), (105, 0), (106, 0), (107, 0)] L h u.1 u.2) (hx_E T_tb (P_ty dA) (dC, dI) vwCl (hx_A L sz)) (hx_A L sz)) ([.ref x, .int i1, .int i2] : List Value).toArray s 0 0 (hx_A L sz)) (F0 m 221 ls []) := by
                      intro n221
                      induction n221 with
                      | zero => intro iv221_7 iv221_8 iv221_9 iv221_10 H locs hL1 hl1 bliv221_7 buiv221_7 bliv221_8 buiv221_8 bliv221_9 buiv221_9 bliv221_10 buiv221_10  ls hn221; exfalso; omega
                      | succ n221 ih221 =>
                        intro iv221_7 iv221_8 iv221_9 iv221_10 H locs hL1 hl1 bliv221_7 buiv221_7 bliv221_8 buiv221_8 bliv221_9 buiv221_9 bliv221_10 buiv221_10  ls hn221 hW hT hM ffv_1 ffw27_x_75 fx_17 pi0 nia204_qm hl
                        refine lv_iload hx hb dX10_plan_221 (lv_at hl 0 rfl) ?_
                        refine lv_aload_n hx hb dX10_plan_223 rfl (lv_at hl 8 rfl) ?_
                        refine hk_geti hx hb hts hC_10 hown hW (gx.S hM) tt_10 75 (by decide) rfl kw_1218 ⟨rfl, rfl, rfl⟩ ffw27_x_75 dX10_plan_224 ?_
                        refine hb_icmp_ge (zx := iv221_10.toInt) (zy := fw27_x_75.toInt) (tgt := 297) hx hb rfl rfl dX10_plan_227 (by decide) (fun c_199 => ?_) (fun c_199 => by exfalso; omega)
                        refine lv_iload hx hb dX10_plan_297 (lv_at hl 3 rfl) ?_
                        refine lv_iload_n hx hb dX10_plan_299 rfl (lv_at hl 7 rfl) ?_
                        refine hb_icmp_gt (zx := iv221_7.toInt) (zy := r_25.toInt) (tgt := 364) hx hb rfl rfl dX10_plan_300 (by decide) (fun c_200 => ?_) (fun c_200 => ?_)
                        · skip
                          refine lv_aload_n hx hb dX10_plan_364 rfl (lv_at hl 8 rfl) ?_
                          refine hk_geti hx hb hts hC_10 hown hW (gx.S hM) tt_10 75 (by decide) rfl kw_1218 ⟨rfl, rfl, rfl⟩ ffw27_x_75 dX10_plan_365 ?_
                          refine lv_iconst (v := 1) hx hb dX10_plan_368 (by decide) ?_
                          refine lv_isub hx hb dX10_plan_369 ?_
                          have rg_201 := i32_r fw27_x_75
                          refine lv_topi (fun x_202 ex_202 => ?_)
                          have zx_202 : x_202.toInt = fw27_x_75.toInt - 1 := by rw [ex_202]; exact i32_sub rfl (by decide) (by omega) (by omega)
                          refine lv_istore (lv' := [(10, .int x_202), (9, .int iv221_9), (8, .int iv221_8), (7, .int iv221_7), (6, .int iv204_6), (5, .int iv204_5), (4, .int iv204_4), (3, .int r_25), (0, .ref x), (1, .int i1), (2, .int i2)]) hx hb dX10_plan_370 hl (by decide) rfl (fun ls hl => ?_)
                          have loop372 : ∀ (n372 : Nat) (iv372_10 : Int32) (ia372_qm : Nat → Int32) (H : Heap) (locs : List Loc) (hL1 : List Nat) (hl1 : hx_h), -1 ≤ iv372_10.toInt → iv372_10.toInt ≤ 3 → (hx_V ia372_qm + hx_w iv372_10.toInt = hx_V ia204_qm + hx_w (fw27_x_75.toInt - 1)) → (iv372_10.toInt < fw27_x_75.toInt) → ∀ (ls : Array Slot), iv372_10.toInt + 1 < (n372 : Int) → hx_W T_tb (P_ty dA) (dC, dI) vwCl (hx_A L sz) s.heap hL1 hl1 s H locs → hx_T T_tb hL1 hl1 → hx_S T_tb [(10, 67), (10, 68), (10, 69), (10, 70), (10, 71), (10, 72), (10, 75), (100, 0), (101, 0), (102, 0), (103, 0), (104, 0), (105, 0), (106, 0), (107, 0)] L h hL1 hl1 → hl1.2.1 x 20 = fv_1 → hl1.2.1 x 75 = fw27_x_75 → hl1.2.1 x 0 = x_17 → (∀ j : Nat, (j : Int) < (hl1.2.1 x 75).toInt → 1 ≤ (hl1.2.1 qf j).toInt) → hl1.2.1 qm = ia372_qm → lv_has ls 12 [(10, .int iv372_10), (9, .int iv221_9), (8, .int iv221_8), (7, .int iv221_7), (6, .int iv204_6), (5, .int iv204_5), (4, .int iv204_4), (3, .int r_25), (0, .ref x), (1, .int i1), (2, .int i2)] → W p l e ({ frames := 3, cells := 0, slots := 0, locals := 71 }) s m ([.ref x, .int i1, .int i2] : List Value).toArray below meth c H locs 0 0 (MQ below (va_Qi (fun (r : Int32) (u : List Nat × hx_h) => (True) ∧ hx_T T_tb u.1 u.2 ∧ hx_S T_tb [(10, 67), (10, 68), (10, 69), (10, 70), (10, 71), (10, 72), (10, 75), (100, 0), (101, 0), (102, 0), (103, 0), (104, 0), (105, 0), (106, 0), (107, 0)] L h u.1 u.2) (hx_E T_tb (P_ty dA) (dC, dI) vwCl (hx_A L sz)) (hx_A L sz)) ([.ref x, .int i1, .int i2] : List Value).toArray s 0 0 (hx_A L sz)) (F0 m 372 ls []) := by
                            intro n372
                            induction n372 with
                            | zero => intro iv372_10 ia372_qm H locs hL1 hl1 bliv372_10 buiv372_10 vi372_0 vi372_1 ls hn372; exfalso; omega
                            | succ n372 ih372 =>
                              intro iv372_10 ia372_qm H locs hL1 hl1 bliv372_10 buiv372_10 vi372_0 vi372_1 ls hn372 hW hT hM ffv_1 ffw27_x_75 fx_17 pi0 nia372_qm hl
                              refine lv_iload hx hb dX10_plan_372 (lv_at hl 0 rfl) ?_
                              refine hb_if_lt (zx := iv372_10.toInt) (tgt := 403) hx hb rfl dX10_plan_374 (by decide) (fun c_203 => ?_) (fun c_203 => ?_)
                              · skip
                                refine lv_iload hx hb dX10_plan_403 (lv_at hl 0 rfl) ?_
                                refine hb_if_lt (zx := iv372_10.toInt) (tgt := 412) hx hb rfl dX10_plan_405 (by decide) (fun c_204 => ?_) (fun c_204 => by exfalso; omega)
                                refine lv_iconst (v := 0) hx hb dX10_plan_412 (by decide) ?_
                                refine lv_istore (lv' := [(6, .int (0 : Int32)), (10, .int iv372_10), (9, .int iv221_9), (8, .int iv221_8), (7, .int iv221_7), (5, .int iv204_5), (4, .int iv204_4), (3, .int r_25), (0, .ref x), (1, .int i1), (2, .int i2)]) hx hb dX10_plan_413 hl (by decide) rfl (fun ls hl => ?_)
                                refine lv_iload hx hb dX10_plan_415 (lv_at hl 0 rfl) ?_
                                refine hb_if_eq (zx := 0) (tgt := 431) hx hb (by decide) dX10_plan_417 (by decide) (fun c_205 => ?_) (fun c_205 => absurd c_205 (by decide))
                                have hm12 : hx_m12 ia372_qm := (fun k hk => by have q := hT.ei (gqm.S hM) tt_105 (k := k) hk; rw [nia372_qm] at q; exact q)
                                have hvb := hx_V_b hm12
                                refine lv_goto (tgt := 204) hx hb dX10_plan_431 (by decide) ?_
                                have zk_0 : (0 : Int32).toInt = 0 := by decide
                                exact ih204 iv204_4 iv204_5 (0 : Int32) ia372_qm _ _ hL1 hl1 (i32_r _).1 (i32_r _).2 (i32_r _).1 (i32_r _).2 (by decide) (by decide) hm12 ls (by omega) hW hT hM ffv_1 ffw27_x_75 fx_17 pi0 nia372_qm (lv_sub hl [0, 5, 6, 7, 8, 9, 10] rfl)
                              · skip
                                refine lv_aload_n hx hb dX10_plan_377 rfl (lv_at hl 8 rfl) ?_
                                refine hk_getr hx hb hts hC_10 hown hW (gx.S hM) tt_10 79 (by decide) rfl kw_1222 ⟨rfl, rfl, rfl⟩ ((hM.o gx trivial rfl).2.trans f_x_79) dX10_plan_378 ?_
                                refine lv_iload hx hb dX10_plan_381 (lv_at hl 0 rfl) ?_
                                refine hx_iald hx hb hW hT (gqm.S hM) tt_105 rfl ⟨by omega, by omega⟩ dX10_plan_383 (fun x_206 ex_206 lx_206 ux_206 => ?_)
                                have ax_206 : x_206 = ia372_qm iv372_10.toNatClampNeg := ex_206.trans (congrFun nia372_qm _)
                                refine lv_bipush (v := 12) hx hb dX10_plan_384 (by decide) ?_
                                refine hb_icmp_ne (zx := x_206.toInt) (zy := 12) (tgt := 403) hx hb rfl (by decide) dX10_plan_386 (by decide) (fun c_207 => ?_) (fun c_207 => ?_)
                                · skip
                                  refine lv_iload hx hb dX10_plan_403 (lv_at hl 0 rfl) ?_
                                  refine hb_if_lt (zx := iv372_10.toInt) (tgt := 412) hx hb rfl dX10_plan_405 (by decide) (fun c_208 => by exfalso; omega) (fun c_208 => ?_)
                                  refine lv_iconst (v := 1) hx hb dX10_plan_408 (by decide) ?_
                                  refine lv_goto (tgt := 413) hx hb dX10_plan_409 (by decide) ?_
                                  refine lv_istore (lv' := [(6, .int (1 : Int32)), (10, .int iv372_10), (9, .int iv221_9), (8, .int iv221_8), (7, .int iv221_7), (5, .int iv204_5), (4, .int iv204_4), (3, .int r_25), (0, .ref x), (1, .int i1), (2, .int i2)]) hx hb dX10_plan_413 hl (by decide) rfl (fun ls hl => ?_)
                                  refine lv_iload hx hb dX10_plan_415 (lv_at hl 0 rfl) ?_
                                  refine hb_if_eq (zx := 1) (tgt := 431) hx hb (by decide) dX10_plan_417 (by decide) (fun c_209 => absurd c_209 (by decide)) (fun c_209 => ?_)
                                  refine lv_aload_n hx hb dX10_plan_420 rfl (lv_at hl 8 rfl) ?_
                                  refine hk_getr hx hb hts hC_10 hown hW (gx.S hM) tt_10 79 (by decide) rfl kw_1222 ⟨rfl, rfl, rfl⟩ ((hM.o gx trivial rfl).2.trans f_x_79) dX10_plan_421 ?_
                                  refine lv_iload hx hb dX10_plan_424 (lv_at hl 1 rfl) ?_
                                  refine lv_dup2_11 hx hb dX10_plan_426 rfl rfl ?_
                                  refine hx_iald hx hb hW hT (gqm.S hM) tt_105 rfl ⟨by omega, by omega⟩ dX10_plan_427 (fun x_210 ex_210 lx_210 ux_210 => ?_)
                                  have ax_210 : x_210 = ia372_qm iv372_10.toNatClampNeg := ex_210.trans (congrFun nia372_qm _)
                                  obtain rfl : x_206 = x_210 := ex_206.trans ex_210.symm
                                  refine lv_iconst (v := 1) hx hb dX10_plan_428 (by decide) ?_
                                  refine lv_iadd hx hb dX10_plan_429 ?_
                                  have rg_211 := i32_r x_206
                                  refine lv_topi (fun x_212 ex_212 => ?_)
                                  have zx_212 : x_212.toInt = x_206.toInt + 1 := by rw [ex_212]; exact i32_add rfl (by decide) (by omega) (by omega)
                                  have nia372_qmO := nia372_qm
                                  refine hx_iast hx hb hW hT (hx_S.rf (M := [(105, 0)])) (gqm.S hM) tt_105 rfl ⟨by omega, by omega⟩ rfl ⟨by omega, by omega⟩ (List.mem_singleton.mpr rfl) dX10_plan_430 (fun H locs h_213 eh_213 hW hT hs => ?_)
                                  replace ffv_1 := (hs.o (gx.S hM) trivial rfl).1.trans ffv_1
                                  replace ffw27_x_75 := (hs.o (gx.S hM) trivial rfl).1.trans ffw27_x_75
                                  replace fx_17 := (hs.o (gx.S hM) trivial rfl).1.trans fx_17
                                  replace pi0 : ∀ j : Nat, (j : Int) < (h_213.2.1 x 75).toInt → 1 ≤ (h_213.2.1 qf j).toInt := by
                                    intro j hj; rw [(hs.o (gx.S hM) trivial rfl).1] at hj; rw [(hs.a (gqf.S hM) rfl j).1]; exact pi0 j hj
                                  replace hM := hM.tr (hs.mono (by decide))
                                  obtain ⟨fa_214, dfa_214⟩ : ∃ g : Nat → Int32, g = hx_up ia372_qm iv372_10.toNatClampNeg x_212 := ⟨_, rfl⟩
                                  have nfa_214 : h_213.2.1 qm = fa_214 := by rw [eh_213, dfa_214, ← nia372_qmO]; exact hx_pi_fun _ _ _ _
                                  have hvq := (hx_V_up (by omega) (by omega) ax_206 dfa_214).2 (by omega)
                                  have hwq := hx_w_b (i := (fw27_x_75.toInt - 1 : Int))
                                  have hm12 : hx_m12 fa_214 := (fun k hk => by have q := hT.ei (gqm.S hM) tt_105 (k := k) hk; rw [nfa_214] at q; exact q)
                                  have hvb := hx_V_b hm12
                                  refine lv_goto (tgt := 204) hx hb dX10_plan_431 (by decide) ?_
                                  have zk_1 : (1 : Int32).toInt = 1 := by decide
                                  exact ih204 iv204_4 iv204_5 (1 : Int32) fa_214 _ _ hL1 h_213 (i32_r _).1 (i32_r _).2 (i32_r _).1 (i32_r _).2 (by decide) (by decide) hm12 ls (by omega) hW hT hM ffv_1 ffw27_x_75 fx_17 pi0 nfa_214 (lv_sub hl [0, 5, 6, 7, 8, 9, 10] rfl)
                                · skip
                                  refine lv_aload_n hx hb dX10_plan_389 rfl (lv_at hl 8 rfl) ?_
                                  refine hk_getr hx hb hts hC_10 hown hW (gx.S hM) tt_10 79 (by decide) rfl kw_1222 ⟨rfl, rfl, rfl⟩ ((hM.o gx trivial rfl).2.trans f_x_79) dX10_plan_390 ?_
                                  refine lv_iload hx hb dX10_plan_393 (lv_at hl 0 rfl) ?_
                                  refine lv_iconst (v := 0) hx hb dX10_plan_395 (by decide) ?_
                                  have nia372_qmO := nia372_qm
                                  refine hx_iast hx hb hW hT (hx_S.rf (M := [(105, 0)])) (gqm.S hM) tt_105 rfl ⟨by omega, by omega⟩ rfl (by decide) (List.mem_singleton.mpr rfl) dX10_plan_396 (fun H locs h_215 eh_215 hW hT hs => ?_)
                                  replace ffv_1 := (hs.o (gx.S hM) trivial rfl).1.trans ffv_1
                                  replace ffw27_x_75 := (hs.o (gx.S hM) trivial rfl).1.trans ffw27_x_75
                                  replace fx_17 := (hs.o (gx.S hM) trivial rfl).1.trans fx_17
                                  replace pi0 : ∀ j : Nat, (j : Int) < (h_215.2.1 x 75).toInt → 1 ≤ (h_215.2.1 qf j).toInt := by
                                    intro j hj; rw [(hs.o (gx.S hM) trivial rfl).1] at hj; rw [(hs.a (gqf.S hM) rfl j).1]; exact pi0 j hj
                                  replace hM := hM.tr (hs.mono (by decide))
                                  obtain ⟨fa_216, dfa_216⟩ : ∃ g : Nat → Int32, g = hx_up ia372_qm iv372_10.toNatClampNeg (0 : Int32) := ⟨_, rfl⟩
                                  have nfa_216 : h_215.2.1 qm = fa_216 := by rw [eh_215, dfa_216, ← nia372_qmO]; exact hx_pi_fun _ _ _ _
                                  obtain ⟨x_217, ex_217⟩ : ∃ y : Int32, y = iv372_10 + Int32.ofInt (-1) := ⟨_, rfl⟩
                                  have rg_218 := i32_r iv372_10
                                  have zx_217 : x_217.toInt = iv372_10.toInt + (-1) := by rw [ex_217]; exact i32_add rfl (by decide) (by omega) (by omega)
                                  refine lv_iinc (v := x_217) (lv' := [(10, .int x_217), (9, .int iv221_9), (8, .int iv221_8), (7, .int iv221_7), (6, .int iv204_6), (5, .int iv204_5), (4, .int iv204_4), (3, .int r_25), (0, .ref x), (1, .int i1), (2, .int i2)]) hx hb dX10_plan_397 hl (k := 0) rfl ex_217.symm (by decide) rfl (fun ls hl => ?_)
                                  refine lv_goto (tgt := 372) hx hb dX10_plan_400 (by decide) ?_
                                  exact ih372 x_217 fa_216 _ _ hL1 h_215 (by omega) (by omega) (by have q := (hx_V_up (by omega) (by omega) ax_206 dfa_216).1 (by omega) (by decide); rw [show x_217.toInt = iv372_10.toInt - 1 from by omega]; omega) (by omega) ls (by omega) hW hT hM ffv_1 ffw27_x_75 fx_17 pi0 nfa_216 (lv_sub hl [0, 1, 2, 3, 4, 5, 6, 7, 8, 9, 10] rfl)
                          exact loop372 5 x_202 ia204_qm _ _ hL1 hl1 (by omega) (by omega) (by rw [zx_202]) (by omega) ls (by omega) hW hT hM ffv_1 ffw27_x_75 fx_17 pi0 nia204_qm hl
                        · skip
                          refine lv_iload hx hb dX10_plan_303 (lv_at hl 2 rfl) ?_
                          refine lv_iload hx hb dX10_plan_305 (lv_at hl 6 rfl) ?_
                          refine hb_icmp_lt (zx := iv221_8.toInt) (zy := iv204_4.toInt) (tgt := 324) hx hb rfl rfl dX10_plan_307 (by decide) (fun c_219 => ?_) (fun c_219 => ?_)
                          · skip
                            refine lv_iload hx hb dX10_plan_324 (lv_at hl 2 rfl) ?_
                            refine lv_istore (lv' := [(4, .int iv221_8), (10, .int iv221_10), (9, .int iv221_9), (8, .int iv221_8), (7, .int iv221_7), (6, .int iv204_6), (5, .int iv204_5), (3, .int r_25), (0, .ref x), (1, .int i1), (2, .int i2)]) hx hb dX10_plan_326 hl (by decide) rfl (fun ls hl => ?_)
                            refine lv_iload hx hb dX10_plan_328 (lv_at hl 2 rfl) ?_
                            refine lv_istore (lv' := [(5, .int iv221_9), (4, .int iv221_8), (10, .int iv221_10), (9, .int iv221_9), (8, .int iv221_8), (7, .int iv221_7), (6, .int iv204_6), (3, .int r_25), (0, .ref x), (1, .int i1), (2, .int i2)]) hx hb dX10_plan_330 hl (by decide) rfl (fun ls hl => ?_)
                            refine lv_iconst (v := 0) hx hb dX10_plan_332 (by decide) ?_
                            refine lv_istore (lv' := [(10, .int (0 : Int32)), (5, .int iv221_9), (4, .int iv221_8), (9, .int iv221_9), (8, .int iv221_8), (7, .int iv221_7), (6, .int iv204_6), (3, .int r_25), (0, .ref x), (1, .int i1), (2, .int i2)]) hx hb dX10_plan_333 hl (by decide) rfl (fun ls hl => ?_)
                            have loop335 : ∀ (n335 : Nat) (iv335_10 : Int32) (H : Heap) (locs : List Loc) (hL1 : List Nat) (hl1 : hx_h), 0 ≤ iv335_10.toInt → iv335_10.toInt ≤ 4 → ∀ (ls : Array Slot), 4 - iv335_10.toInt < (n335 : Int) → hx_W T_tb (P_ty dA) (dC, dI) vwCl (hx_A L sz) s.heap hL1 hl1 s H locs → hx_T T_tb hL1 hl1 → hx_S T_tb [(10, 67), (10, 68), (10, 69), (10, 70), (10, 71), (10, 72), (10, 75), (100, 0), (101, 0), (102, 0), (103, 0), (104, 0), (105, 0), (106, 0), (107, 0)] L h hL1 hl1 → hl1.2.1 x 20 = fv_1 → hl1.2.1 x 75 = fw27_x_75 → hl1.2.1 x 0 = x_17 → (∀ j : Nat, (j : Int) < (hl1.2.1 x 75).toInt → 1 ≤ (hl1.2.1 qf j).toInt) → hl1.2.1 qm = ia204_qm → lv_has ls 12 [(10, .int iv335_10), (5, .int iv221_9), (4, .int iv221_8), (9, .int iv221_9), (8, .int iv221_8), (7, .int iv221_7), (6, .int iv204_6), (3, .int r_25), (0, .ref x), (1, .int i1), (2, .int i2)] → W p l e ({ frames := 3, cells := 0, slots := 0, locals := 71 }) s m ([.ref x, .int i1, .int i2] : List Value).toArray below meth c H locs 0 0 (MQ below (va_Qi (fun (r : Int32) (u : List Nat × hx_h) => (True) ∧ hx_T T_tb u.1 u.2 ∧ hx_S T_tb [(10, 67), (10, 68), (10, 69), (10, 70), (10, 71), (10, 72), (10, 75), (100, 0), (101, 0), (102, 0), (103, 0), (104, 0), (105, 0), (106, 0), (107, 0)] L h u.1 u.2) (hx_E T_tb (P_ty dA) (dC, dI) vwCl (hx_A L sz)) (hx_A L sz)) ([.ref x, .int i1, .int i2] : List Value).toArray s 0 0 (hx_A L sz)) (F0 m 335 ls []) := by
                              intro n335
                              induction n335 with
                              | zero => intro iv335_10 H locs hL1 hl1 bliv335_10 buiv335_10  ls hn335; exfalso; omega
                              | succ n335 ih335 =>
                                intro iv335_10 H locs hL1 hl1 bliv335_10 buiv335_10  ls hn335 hW hT hM ffv_1 ffw27_x_75 fx_17 pi0 nia204_qm hl
                                refine lv_iload hx hb dX10_plan_335 (lv_at hl 0 rfl) ?_
                                refine lv_aload_n hx hb dX10_plan_337 rfl (lv_at hl 8 rfl) ?_
                                refine hk_geti hx hb hts hC_10 hown hW (gx.S hM) tt_10 75 (by decide) rfl kw_1218 ⟨rfl, rfl, rfl⟩ ffw27_x_75 dX10_plan_338 ?_
                                refine hb_icmp_ge (zx := iv335_10.toInt) (zy := fw27_x_75.toInt) (tgt := 364) hx hb rfl rfl dX10_plan_341 (by decide) (fun c_220 => ?_) (fun c_220 => by exfalso; omega)
                                refine lv_aload_n hx hb dX10_plan_364 rfl (lv_at hl 8 rfl) ?_
                                refine hk_geti hx hb hts hC_10 hown hW (gx.S hM) tt_10 75 (by decide) rfl kw_1218 ⟨rfl, rfl, rfl⟩ ffw27_x_75 dX10_plan_365 ?_
                                refine lv_iconst (v := 1) hx hb dX10_plan_368 (by decide) ?_
                                refine lv_isub hx hb dX10_plan_369 ?_
                                have rg_221 := i32_r fw27_x_75
                                refine lv_topi (fun x_222 ex_222 => ?_)
                                have zx_222 : x_222.toInt = fw27_x_75.toInt - 1 := by rw [ex_222]; exact i32_sub rfl (by decide) (by omega) (by omega)
                                refine lv_istore (lv' := [(10, .int x_222), (5, .int iv221_9), (4, .int iv221_8), (9, .int iv221_9), (8, .int iv221_8), (7, .int iv221_7), (6, .int iv204_6), (3, .int r_25), (0, .ref x), (1, .int i1), (2, .int i2)]) hx hb dX10_plan_370 hl (by decide) rfl (fun ls hl => ?_)
                                have loop372 : ∀ (n372 : Nat) (iv372_10 : Int32) (ia372_qm : Nat → Int32) (H : Heap) (locs : List Loc) (hL1 : List Nat) (hl1 : hx_h), -1 ≤ iv372_10.toInt → iv372_10.toInt ≤ 3 → (hx_V ia372_qm + hx_w iv372_10.toInt = hx_V ia204_qm + hx_w (fw27_x_75.toInt - 1)) → (iv372_10.toInt < fw27_x_75.toInt) → ∀ (ls : Array Slot), iv372_10.toInt + 1 < (n372 : Int) → hx_W T_tb (P_ty dA) (dC, dI) vwCl (hx_A L sz) s.heap hL1 hl1 s H locs → hx_T T_tb hL1 hl1 → hx_S T_tb [(10, 67), (10, 68), (10, 69), (10, 70), (10, 71), (10, 72), (10, 75), (100, 0), (101, 0), (102, 0), (103, 0), (104, 0), (105, 0), (106, 0), (107, 0)] L h hL1 hl1 → hl1.2.1 x 20 = fv_1 → hl1.2.1 x 75 = fw27_x_75 → hl1.2.1 x 0 = x_17 → (∀ j : Nat, (j : Int) < (hl1.2.1 x 75).toInt → 1 ≤ (hl1.2.1 qf j).toInt) → hl1.2.1 qm = ia372_qm → lv_has ls 12 [(10, .int iv372_10), (5, .int iv221_9), (4, .int iv221_8), (9, .int iv221_9), (8, .int iv221_8), (7, .int iv221_7), (6, .int iv204_6), (3, .int r_25), (0, .ref x), (1, .int i1), (2, .int i2)] → W p l e ({ frames := 3, cells := 0, slots := 0, locals := 71 }) s m ([.ref x, .int i1, .int i2] : List Value).toArray below meth c H locs 0 0 (MQ below (va_Qi (fun (r : Int32) (u : List Nat × hx_h) => (True) ∧ hx_T T_tb u.1 u.2 ∧ hx_S T_tb [(10, 67), (10, 68), (10, 69), (10, 70), (10, 71), (10, 72), (10, 75), (100, 0), (101, 0), (102, 0), (103, 0), (104, 0), (105, 0), (106, 0), (107, 0)] L h u.1 u.2) (hx_E T_tb (P_ty dA) (dC, dI) vwCl (hx_A L sz)) (hx_A L sz)) ([.ref x, .int i1, .int i2] : List Value).toArray s 0 0 (hx_A L sz)) (F0 m 372 ls []) := by
                                  intro n372
                                  induction n372 with
                                  | zero => intro iv372_10 ia372_qm H locs hL1 hl1 bliv372_10 buiv372_10 vi372_0 vi372_1 ls hn372; exfalso; omega
                                  | succ n372 ih372 =>
                                    intro iv372_10 ia372_qm H locs hL1 hl1 bliv372_10 buiv372_10 vi372_0 vi372_1 ls hn372 hW hT hM ffv_1 ffw27_x_75 fx_17 pi0 nia372_qm hl
                                    refine lv_iload hx hb dX10_plan_372 (lv_at hl 0 rfl) ?_
                                    refine hb_if_lt (zx := iv372_10.toInt) (tgt := 403) hx hb rfl dX10_plan_374 (by decide) (fun c_223 => ?_) (fun c_223 => ?_)
                                    · skip
                                      refine lv_iload hx hb dX10_plan_403 (lv_at hl 0 rfl) ?_
                                      refine hb_if_lt (zx := iv372_10.toInt) (tgt := 412) hx hb rfl dX10_plan_405 (by decide) (fun c_224 => ?_) (fun c_224 => by exfalso; omega)
                                      refine lv_iconst (v := 0) hx hb dX10_plan_412 (by decide) ?_
                                      refine lv_istore (lv' := [(6, .int (0 : Int32)), (10, .int iv372_10), (5, .int iv221_9), (4, .int iv221_8), (9, .int iv221_9), (8, .int iv221_8), (7, .int iv221_7), (3, .int r_25), (0, .ref x), (1, .int i1), (2, .int i2)]) hx hb dX10_plan_413 hl (by decide) rfl (fun ls hl => ?_)
                                      refine lv_iload hx hb dX10_plan_415 (lv_at hl 0 rfl) ?_
                                      refine hb_if_eq (zx := 0) (tgt := 431) hx hb (by decide) dX10_plan_417 (by decide) (fun c_225 => ?_) (fun c_225 => absurd c_225 (by decide))
                                      have hm12 : hx_m12 ia372_qm := (fun k hk => by have q := hT.ei (gqm.S hM) tt_105 (k := k) hk; rw [nia372_qm] at q; exact q)
                                      have hvb := hx_V_b hm12
                                      refine lv_goto (tgt := 204) hx hb dX10_plan_431 (by decide) ?_
                                      have zk_0 : (0 : Int32).toInt = 0 := by decide
                                      exact ih204 iv221_8 iv221_9 (0 : Int32) ia372_qm _ _ hL1 hl1 (i32_r _).1 (i32_r _).2 (i32_r _).1 (i32_r _).2 (by decide) (by decide) hm12 ls (by omega) hW hT hM ffv_1 ffw27_x_75 fx_17 pi0 nia372_qm (lv_sub hl [0, 2, 3, 7, 8, 9, 10] rfl)
                                    · skip
                                      refine lv_aload_n hx hb dX10_plan_377 rfl (lv_at hl 8 rfl) ?_
                                      refine hk_getr hx hb hts hC_10 hown hW (gx.S hM) tt_10 79 (by decide) rfl kw_1222 ⟨rfl, rfl, rfl⟩ ((hM.o gx trivial rfl).2.trans f_x_79) dX10_plan_378 ?_
                                      refine lv_iload hx hb dX10_plan_381 (lv_at hl 0 rfl) ?_
                                      refine hx_iald hx hb hW hT (gqm.S hM) tt_105 rfl ⟨by omega, by omega⟩ dX10_plan_383 (fun x_226 ex_226 lx_226 ux_226 => ?_)
                                      have ax_226 : x_226 = ia372_qm iv372_10.toNatClampNeg := ex_226.trans (congrFun nia372_qm _)
                                      refine lv_bipush (v := 12) hx hb dX10_plan_384 (by decide) ?_
                                      refine hb_icmp_ne (zx := x_226.toInt) (zy := 12) (tgt := 403) hx hb rfl (by decide) dX10_plan_386 (by decide) (fun c_227 => ?_) (fun c_227 => ?_)
                                      · skip
                                        refine lv_iload hx hb dX10_plan_403 (lv_at hl 0 rfl) ?_
                                        refine hb_if_lt (zx := iv372_10.toInt) (tgt := 412) hx hb rfl dX10_plan_405 (by decide) (fun c_228 => by exfalso; omega) (fun c_228 => ?_)
                                        refine lv_iconst (v := 1) hx hb dX10_plan_408 (by decide) ?_
                                        refine lv_goto (tgt := 413) hx hb dX10_plan_409 (by decide) ?_
                                        refine lv_istore (lv' := [(6, .int (1 : Int32)), (10, .int iv372_10), (5, .int iv221_9), (4, .int iv221_8), (9, .int iv221_9), (8, .int iv221_8), (7, .int iv221_7), (3, .int r_25), (0, .ref x), (1, .int i1), (2, .int i2)]) hx hb dX10_plan_413 hl (by decide) rfl (fun ls hl => ?_)
                                        refine lv_iload hx hb dX10_plan_415 (lv_at hl 0 rfl) ?_
                                        refine hb_if_eq (zx := 1) (tgt := 431) hx hb (by decide) dX10_plan_417 (by decide) (fun c_229 => absurd c_229 (by decide)) (fun c_229 => ?_)
                                        refine lv_aload_n hx hb dX10_plan_420 rfl (lv_at hl 8 rfl) ?_
                                        refine hk_getr hx hb hts hC_10 hown hW (gx.S hM) tt_10 79 (by decide) rfl kw_1222 ⟨rfl, rfl, rfl⟩ ((hM.o gx trivial rfl).2.trans f_x_79) dX10_plan_421 ?_
                                        refine lv_iload hx hb dX10_plan_424 (lv_at hl 1 rfl) ?_
                                        refine lv_dup2_11 hx hb dX10_plan_426 rfl rfl ?_
                                        refine hx_iald hx hb hW hT (gqm.S hM) tt_105 rfl ⟨by omega, by omega⟩ dX10_plan_427 (fun x_230 ex_230 lx_230 ux_230 => ?_)
                                        have ax_230 : x_230 = ia372_qm iv372_10.toNatClampNeg := ex_230.trans (congrFun nia372_qm _)
                                        obtain rfl : x_226 = x_230 := ex_226.trans ex_230.symm
                                        refine lv_iconst (v := 1) hx hb dX10_plan_428 (by decide) ?_
                                        refine lv_iadd hx hb dX10_plan_429 ?_
                                        have rg_231 := i32_r x_226
                                        refine lv_topi (fun x_232 ex_232 => ?_)
                                        have zx_232 : x_232.toInt = x_226.toInt + 1 := by rw [ex_232]; exact i32_add rfl (by decide) (by omega) (by omega)
                                        have nia372_qmO := nia372_qm
                                        refine hx_iast hx hb hW hT (hx_S.rf (M := [(105, 0)])) (gqm.S hM) tt_105 rfl ⟨by omega, by omega⟩ rfl ⟨by omega, by omega⟩ (List.mem_singleton.mpr rfl) dX10_plan_430 (fun H locs h_233 eh_233 hW hT hs => ?_)
                                        replace ffv_1 := (hs.o (gx.S hM) trivial rfl).1.trans ffv_1
                                        replace ffw27_x_75 := (hs.o (gx.S hM) trivial rfl).1.trans ffw27_x_75
                                        replace fx_17 := (hs.o (gx.S hM) trivial rfl).1.trans fx_17
                                        replace pi0 : ∀ j : Nat, (j : Int) < (h_233.2.1 x 75).toInt → 1 ≤ (h_233.2.1 qf j).toInt := by
                                          intro j hj; rw [(hs.o (gx.S hM) trivial rfl).1] at hj; rw [(hs.a (gqf.S hM) rfl j).1]; exact pi0 j hj
                                        replace hM := hM.tr (hs.mono (by decide))
                                        obtain ⟨fa_234, dfa_234⟩ : ∃ g : Nat → Int32, g = hx_up ia372_qm iv372_10.toNatClampNeg x_232 := ⟨_, rfl⟩
                                        have nfa_234 : h_233.2.1 qm = fa_234 := by rw [eh_233, dfa_234, ← nia372_qmO]; exact hx_pi_fun _ _ _ _
                                        have hvq := (hx_V_up (by omega) (by omega) ax_226 dfa_234).2 (by omega)
                                        have hwq := hx_w_b (i := (fw27_x_75.toInt - 1 : Int))
                                        have hm12 : hx_m12 fa_234 := (fun k hk => by have q := hT.ei (gqm.S hM) tt_105 (k := k) hk; rw [nfa_234] at q; exact q)
                                        have hvb := hx_V_b hm12
                                        refine lv_goto (tgt := 204) hx hb dX10_plan_431 (by decide) ?_
                                        have zk_1 : (1 : Int32).toInt = 1 := by decide
                                        exact ih204 iv221_8 iv221_9 (1 : Int32) fa_234 _ _ hL1 h_233 (i32_r _).1 (i32_r _).2 (i32_r _).1 (i32_r _).2 (by decide) (by decide) hm12 ls (by omega) hW hT hM ffv_1 ffw27_x_75 fx_17 pi0 nfa_234 (lv_sub hl [0, 2, 3, 7, 8, 9, 10] rfl)
                                      · skip
                                        refine lv_aload_n hx hb dX10_plan_389 rfl (lv_at hl 8 rfl) ?_
                                        refine hk_getr hx hb hts hC_10 hown hW (gx.S hM) tt_10 79 (by decide) rfl kw_1222 ⟨rfl, rfl, rfl⟩ ((hM.o gx trivial rfl).2.trans f_x_79) dX10_plan_390 ?_
                                        refine lv_iload hx hb dX10_plan_393 (lv_at hl 0 rfl) ?_
                                        refine lv_iconst (v := 0) hx hb dX10_plan_395 (by decide) ?_
                                        have nia372_qmO := nia372_qm
                                        refine hx_iast hx hb hW hT (hx_S.rf (M := [(105, 0)])) (gqm.S hM) tt_105 rfl ⟨by omega, by omega⟩ rfl (by decide) (List.mem_singleton.mpr rfl) dX10_plan_396 (fun H locs h_235 eh_235 hW hT hs => ?_)
                                        replace ffv_1 := (hs.o (gx.S hM) trivial rfl).1.trans ffv_1
                                        replace ffw27_x_75 := (hs.o (gx.S hM) trivial rfl).1.trans ffw27_x_75
                                        replace fx_17 := (hs.o (gx.S hM) trivial rfl).1.trans fx_17
                                        replace pi0 : ∀ j : Nat, (j : Int) < (h_235.2.1 x 75).toInt → 1 ≤ (h_235.2.1 qf j).toInt := by
                                          intro j hj; rw [(hs.o (gx.S hM) trivial rfl).1] at hj; rw [(hs.a (gqf.S hM) rfl j).1]; exact pi0 j hj
                                        replace hM := hM.tr (hs.mono (by decide))
                                        obtain ⟨fa_236, dfa_236⟩ : ∃ g : Nat → Int32, g = hx_up ia372_qm iv372_10.toNatClampNeg (0 : Int32) := ⟨_, rfl⟩
                                        have nfa_236 : h_235.2.1 qm = fa_236 := by rw [eh_235, dfa_236, ← nia372_qmO]; exact hx_pi_fun _ _ _ _
                                        obtain ⟨x_237, ex_237⟩ : ∃ y : Int32, y = iv372_10 + Int32.ofInt (-1) := ⟨_, rfl⟩
                                        have rg_238 := i32_r iv372_10
                                        have zx_237 : x_237.toInt = iv372_10.toInt + (-1) := by rw [ex_237]; exact i32_add rfl (by decide) (by omega) (by omega)
                                        refine lv_iinc (v := x_237) (lv' := [(10, .int x_237), (5, .int iv221_9), (4, .int iv221_8), (9, .int iv221_9), (8, .int iv221_8), (7, .int iv221_7), (6, .int iv204_6), (3, .int r_25), (0, .ref x), (1, .int i1), (2, .int i2)]) hx hb dX10_plan_397 hl (k := 0) rfl ex_237.symm (by decide) rfl (fun ls hl => ?_)
                                        refine lv_goto (tgt := 372) hx hb dX10_plan_400 (by decide) ?_
                                        exact ih372 x_237 fa_236 _ _ hL1 h_235 (by omega) (by omega) (by have q := (hx_V_up (by omega) (by omega) ax_226 dfa_236).1 (by omega) (by decide); rw [show x_237.toInt = iv372_10.toInt - 1 from by omega]; omega) (by omega) ls (by omega) hW hT hM ffv_1 ffw27_x_75 fx_17 pi0 nfa_236 (lv_sub hl [0, 1, 2, 3, 4, 5, 6, 7, 8, 9, 10] rfl)
                                exact loop372 5 x_222 ia204_qm _ _ hL1 hl1 (by omega) (by omega) (by rw [zx_222]) (by omega) ls (by omega) hW hT hM ffv_1 ffw27_x_75 fx_17 pi0 nia204_qm hl
                            have zk_0 : (0 : Int32).toInt = 0 := by decide
                            exact loop335 5 (0 : Int32) _ _ hL1 hl1 (by decide) (by decide)  ls (by omega) hW hT hM ffv_1 ffw27_x_75 fx_17 pi0 nia204_qm hl
                          · skip
                            refine lv_iload hx hb dX10_plan_310 (lv_at hl 2 rfl) ?_
                            refine lv_iload hx hb dX10_plan_312 (lv_at hl 6 rfl) ?_
                            refine hb_icmp_ne (zx := iv221_8.toInt) (zy := iv204_4.toInt) (tgt := 364) hx hb rfl rfl dX10_plan_314 (by decide) (fun c_239 => ?_) (fun c_239 => ?_)
                            · skip
                              refine lv_aload_n hx hb dX10_plan_364 rfl (lv_at hl 8 rfl) ?_
                              refine hk_geti hx hb hts hC_10 hown hW (gx.S hM) tt_10 75 (by decide) rfl kw_1218 ⟨rfl, rfl, rfl⟩ ffw27_x_75 dX10_plan_365 ?_
                              refine lv_iconst (v := 1) hx hb dX10_plan_368 (by decide) ?_
                              refine lv_isub hx hb dX10_plan_369 ?_
                              have rg_240 := i32_r fw27_x_75
                              refine lv_topi (fun x_241 ex_241 => ?_)
                              have zx_241 : x_241.toInt = fw27_x_75.toInt - 1 := by rw [ex_241]; exact i32_sub rfl (by decide) (by omega) (by omega)
                              refine lv_istore (lv' := [(10, .int x_241), (9, .int iv221_9), (8, .int iv221_8), (7, .int iv221_7), (6, .int iv204_6), (5, .int iv204_5), (4, .int iv204_4), (3, .int r_25), (0, .ref x), (1, .int i1), (2, .int i2)]) hx hb dX10_plan_370 hl (by decide) rfl (fun ls hl => ?_)
                              have loop372 : ∀ (n372 : Nat) (iv372_10 : Int32) (ia372_qm : Nat → Int32) (H : Heap) (locs : List Loc) (hL1 : List Nat) (hl1 : hx_h), -1 ≤ iv372_10.toInt → iv372_10.toInt ≤ 3 → (hx_V ia372_qm + hx_w iv372_10.toInt = hx_V ia204_qm + hx_w (fw27_x_75.toInt - 1)) → (iv372_10.toInt < fw27_x_75.toInt) → ∀ (ls : Array Slot), iv372_10.toInt + 1 < (n372 : Int) → hx_W T_tb (P_ty dA) (dC, dI) vwCl (hx_A L sz) s.heap hL1 hl1 s H locs → hx_T T_tb hL1 hl1 → hx_S T_tb [(10, 67), (10, 68), (10, 69), (10, 70), (10, 71), (10, 72), (10, 75), (100, 0), (101, 0), (102, 0), (103, 0), (104, 0), (105, 0), (106, 0), (107, 0)] L h hL1 hl1 → hl1.2.1 x 20 = fv_1 → hl1.2.1 x 75 = fw27_x_75 → hl1.2.1 x 0 = x_17 → (∀ j : Nat, (j : Int) < (hl1.2.1 x 75).toInt → 1 ≤ (hl1.2.1 qf j).toInt) → hl1.2.1 qm = ia372_qm → lv_has ls 12 [(10, .int iv372_10), (9, .int iv221_9), (8, .int iv221_8), (7, .int iv221_7), (6, .int iv204_6), (5, .int iv204_5), (4, .int iv204_4), (3, .int r_25), (0, .ref x), (1, .int i1), (2, .int i2)] → W p l e ({ frames := 3, cells := 0, slots := 0, locals := 71 }) s m ([.ref x, .int i1, .int i2] : List Value).toArray below meth c H locs 0 0 (MQ below (va_Qi (fun (r : Int32) (u : List Nat × hx_h) => (True) ∧ hx_T T_tb u.1 u.2 ∧ hx_S T_tb [(10, 67), (10, 68), (10, 69), (10, 70), (10, 71), (10, 72), (10, 75), (100, 0), (101, 0), (102, 0), (103, 0), (104, 0), (105, 0), (106, 0), (107, 0)] L h u.1 u.2) (hx_E T_tb (P_ty dA) (dC, dI) vwCl (hx_A L sz)) (hx_A L sz)) ([.ref x, .int i1, .int i2] : List Value).toArray s 0 0 (hx_A L sz)) (F0 m 372 ls []) := by
                                intro n372
                                induction n372 with
                                | zero => intro iv372_10 ia372_qm H locs hL1 hl1 bliv372_10 buiv372_10 vi372_0 vi372_1 ls hn372; exfalso; omega
                                | succ n372 ih372 =>
                                  intro iv372_10 ia372_qm H locs hL1 hl1 bliv372_10 buiv372_10 vi372_0 vi372_1 ls hn372 hW hT hM ffv_1 ffw27_x_75 fx_17 pi0 nia372_qm hl
                                  refine lv_iload hx hb dX10_plan_372 (lv_at hl 0 rfl) ?_
                                  refine hb_if_lt (zx := iv372_10.toInt) (tgt := 403) hx hb rfl dX10_plan_374 (by decide) (fun c_242 => ?_) (fun c_242 => ?_)
                                  · skip
                                    refine lv_iload hx hb dX10_plan_403 (lv_at hl 0 rfl) ?_
                                    refine hb_if_lt (zx := iv372_10.toInt) (tgt := 412) hx hb rfl dX10_plan_405 (by decide) (fun c_243 => ?_) (fun c_243 => by exfalso; omega)
                                    refine lv_iconst (v := 0) hx hb dX10_plan_412 (by decide) ?_
                                    refine lv_istore (lv' := [(6, .int (0 : Int32)), (10, .int iv372_10), (9, .int iv221_9), (8, .int iv221_8), (7, .int iv221_7), (5, .int iv204_5), (4, .int iv204_4), (3, .int r_25), (0, .ref x), (1, .int i1), (2, .int i2)]) hx hb dX10_plan_413 hl (by decide) rfl (fun ls hl => ?_)
                                    refine lv_iload hx hb dX10_plan_415 (lv_at hl 0 rfl) ?_
                                    refine hb_if_eq (zx := 0) (tgt := 431) hx hb (by decide) dX10_plan_417 (by decide) (fun c_244 => ?_) (fun c_244 => absurd c_244 (by decide))
                                    have hm12 : hx_m12 ia372_qm := (fun k hk => by have q := hT.ei (gqm.S hM) tt_105 (k := k) hk; rw [nia372_qm] at q; exact q)
                                    have hvb := hx_V_b hm12
                                    refine lv_goto (tgt := 204) hx hb dX10_plan_431 (by decide) ?_
                                    have zk_0 : (0 : Int32).toInt = 0 := by decide
                                    exact ih204 iv204_4 iv204_5 (0 : Int32) ia372_qm _ _ hL1 hl1 (i32_r _).1 (i32_r _).2 (i32_r _).1 (i32_r _).2 (by decide) (by decide) hm12 ls (by omega) hW hT hM ffv_1 ffw27_x_75 fx_17 pi0 nia372_qm (lv_sub hl [0, 5, 6, 7, 8, 9, 10] rfl)
                                  · skip
                                    refine lv_aload_n hx hb dX10_plan_377 rfl (lv_at hl 8 rfl) ?_
                                    refine hk_getr hx hb hts hC_10 hown hW (gx.S hM) tt_10 79 (by decide) rfl kw_1222 ⟨rfl, rfl, rfl⟩ ((hM.o gx trivial rfl).2.trans f_x_79) dX10_plan_378 ?_
                                    refine lv_iload hx hb dX10_plan_381 (lv_at hl 0 rfl) ?_
                                    refine hx_iald hx hb hW hT (gqm.S hM) tt_105 rfl ⟨by omega, by omega⟩ dX10_plan_383 (fun x_245 ex_245 lx_245 ux_245 => ?_)
                                    have ax_245 : x_245 = ia372_qm iv372_10.toNatClampNeg := ex_245.trans (congrFun nia372_qm _)
                                    refine lv_bipush (v := 12) hx hb dX10_plan_384 (by decide) ?_
                                    refine hb_icmp_ne (zx := x_245.toInt) (zy := 12) (tgt := 403) hx hb rfl (by decide) dX10_plan_386 (by decide) (fun c_246 => ?_) (fun c_246 => ?_)
                                    · skip
                                      refine lv_iload hx hb dX10_plan_403 (lv_at hl 0 rfl) ?_
                                      refine hb_if_lt (zx := iv372_10.toInt) (tgt := 412) hx hb rfl dX10_plan_405 (by decide) (fun c_247 => by exfalso; omega) (fun c_247 => ?_)
                                      refine lv_iconst (v := 1) hx hb dX10_plan_408 (by decide) ?_
                                      refine lv_goto (tgt := 413) hx hb dX10_plan_409 (by decide) ?_
                                      refine lv_istore (lv' := [(6, .int (1 : Int32)), (10, .int iv372_10), (9, .int iv221_9), (8, .int iv221_8), (7, .int iv221_7), (5, .int iv204_5), (4, .int iv204_4), (3, .int r_25), (0, .ref x), (1, .int i1), (2, .int i2)]) hx hb dX10_plan_413 hl (by decide) rfl (fun ls hl => ?_)
                                      refine lv_iload hx hb dX10_plan_415 (lv_at hl 0 rfl) ?_
                                      refine hb_if_eq (zx := 1) (tgt := 431) hx hb (by decide) dX10_plan_417 (by decide) (fun c_248 => absurd c_248 (by decide)) (fun c_248 => ?_)
                                      refine lv_aload_n hx hb dX10_plan_420 rfl (lv_at hl 8 rfl) ?_
                                      refine hk_getr hx hb hts hC_10 hown hW (gx.S hM) tt_10 79 (by decide) rfl kw_1222 ⟨rfl, rfl, rfl⟩ ((hM.o gx trivial rfl).2.trans f_x_79) dX10_plan_421 ?_
                                      refine lv_iload hx hb dX10_plan_424 (lv_at hl 1 rfl) ?_
                                      refine lv_dup2_11 hx hb dX10_plan_426 rfl rfl ?_
                                      refine hx_iald hx hb hW hT (gqm.S hM) tt_105 rfl ⟨by omega, by omega⟩ dX10_plan_427 (fun x_249 ex_249 lx_249 ux_249 => ?_)
                                      have ax_249 : x_249 = ia372_qm iv372_10.toNatClampNeg := ex_249.trans (congrFun nia372_qm _)
                                      obtain rfl : x_245 = x_249 := ex_245.trans ex_249.symm
                                      refine lv_iconst (v := 1) hx hb dX10_plan_428 (by decide) ?_
                                      refine lv_iadd hx hb dX10_plan_429 ?_
                                      have rg_250 := i32_r x_245
                                      refine lv_topi (fun x_251 ex_251 => ?_)
                                      have zx_251 : x_251.toInt = x_245.toInt + 1 := by rw [ex_251]; exact i32_add rfl (by decide) (by omega) (by omega)
                                      have nia372_qmO := nia372_qm
                                      refine hx_iast hx hb hW hT (hx_S.rf (M := [(105, 0)])) (gqm.S hM) tt_105 rfl ⟨by omega, by omega⟩ rfl ⟨by omega, by omega⟩ (List.mem_singleton.mpr rfl) dX10_plan_430 (fun H locs h_252 eh_252 hW hT hs => ?_)
                                      replace ffv_1 := (hs.o (gx.S hM) trivial rfl).1.trans ffv_1
                                      replace ffw27_x_75 := (hs.o (gx.S hM) trivial rfl).1.trans ffw27_x_75
                                      replace fx_17 := (hs.o (gx.S hM) trivial rfl).1.trans fx_17
                                      replace pi0 : ∀ j : Nat, (j : Int) < (h_252.2.1 x 75).toInt → 1 ≤ (h_252.2.1 qf j).toInt := by
                                        intro j hj; rw [(hs.o (gx.S hM) trivial rfl).1] at hj; rw [(hs.a (gqf.S hM) rfl j).1]; exact pi0 j hj
                                      replace hM := hM.tr (hs.mono (by decide))
                                      obtain ⟨fa_253, dfa_253⟩ : ∃ g : Nat → Int32, g = hx_up ia372_qm iv372_10.toNatClampNeg x_251 := ⟨_, rfl⟩
                                      have nfa_253 : h_252.2.1 qm = fa_253 := by rw [eh_252, dfa_253, ← nia372_qmO]; exact hx_pi_fun _ _ _ _
                                      have hvq := (hx_V_up (by omega) (by omega) ax_245 dfa_253).2 (by omega)
                                      have hwq := hx_w_b (i := (fw27_x_75.toInt - 1 : Int))
                                      have hm12 : hx_m12 fa_253 := (fun k hk => by have q := hT.ei (gqm.S hM) tt_105 (k := k) hk; rw [nfa_253] at q; exact q)
                                      have hvb := hx_V_b hm12
                                      refine lv_goto (tgt := 204) hx hb dX10_plan_431 (by decide) ?_
                                      have zk_1 : (1 : Int32).toInt = 1 := by decide
                                      exact ih204 iv204_4 iv204_5 (1 : Int32) fa_253 _ _ hL1 h_252 (i32_r _).1 (i32_r _).2 (i32_r _).1 (i32_r _).2 (by decide) (by decide) hm12 ls (by omega) hW hT hM ffv_1 ffw27_x_75 fx_17 pi0 nfa_253 (lv_sub hl [0, 5, 6, 7, 8, 9, 10] rfl)
                                    · skip
                                      refine lv_aload_n hx hb dX10_plan_389 rfl (lv_at hl 8 rfl) ?_
                                      refine hk_getr hx hb hts hC_10 hown hW (gx.S hM) tt_10 79 (by decide) rfl kw_1222 ⟨rfl, rfl, rfl⟩ ((hM.o gx trivial rfl).2.trans f_x_79) dX10_plan_390 ?_
                                      refine lv_iload hx hb dX10_plan_393 (lv_at hl 0 rfl) ?_
                                      refine lv_iconst (v := 0) hx hb dX10_plan_395 (by decide) ?_
                                      have nia372_qmO := nia372_qm
                                      refine hx_iast hx hb hW hT (hx_S.rf (M := [(105, 0)])) (gqm.S hM) tt_105 rfl ⟨by omega, by omega⟩ rfl (by decide) (List.mem_singleton.mpr rfl) dX10_plan_396 (fun H locs h_254 eh_254 hW hT hs => ?_)
                                      replace ffv_1 := (hs.o (gx.S hM) trivial rfl).1.trans ffv_1
                                      replace ffw27_x_75 := (hs.o (gx.S hM) trivial rfl).1.trans ffw27_x_75
                                      replace fx_17 := (hs.o (gx.S hM) trivial rfl).1.trans fx_17
                                      replace pi0 : ∀ j : Nat, (j : Int) < (h_254.2.1 x 75).toInt → 1 ≤ (h_254.2.1 qf j).toInt := by
                                        intro j hj; rw [(hs.o (gx.S hM) trivial rfl).1] at hj; rw [(hs.a (gqf.S hM) rfl j).1]; exact pi0 j hj
                                      replace hM := hM.tr (hs.mono (by decide))
                                      obtain ⟨fa_255, dfa_255⟩ : ∃ g : Nat → Int32, g = hx_up ia372_qm iv372_10.toNatClampNeg (0 : Int32) := ⟨_, rfl⟩
                                      have nfa_255 : h_254.2.1 qm = fa_255 := by rw [eh_254, dfa_255, ← nia372_qmO]; exact hx_pi_fun _ _ _ _
                                      obtain ⟨x_256, ex_256⟩ : ∃ y : Int32, y = iv372_10 + Int32.ofInt (-1) := ⟨_, rfl⟩
                                      have rg_257 := i32_r iv372_10
                                      have zx_256 : x_256.toInt = iv372_10.toInt + (-1) := by rw [ex_256]; exact i32_add rfl (by decide) (by omega) (by omega)
                                      refine lv_iinc (v := x_256) (lv' := [(10, .int x_256), (9, .int iv221_9), (8, .int iv221_8), (7, .int iv221_7), (6, .int iv204_6), (5, .int iv204_5), (4, .int iv204_4), (3, .int r_25), (0, .ref x), (1, .int i1), (2, .int i2)]) hx hb dX10_plan_397 hl (k := 0) rfl ex_256.symm (by decide) rfl (fun ls hl => ?_)
                                      refine lv_goto (tgt := 372) hx hb dX10_plan_400 (by decide) ?_
                                      exact ih372 x_256 fa_255 _ _ hL1 h_254 (by omega) (by omega) (by have q := (hx_V_up (by omega) (by omega) ax_245 dfa_255).1 (by omega) (by decide); rw [show x_256.toInt = iv372_10.toInt - 1 from by omega]; omega) (by omega) ls (by omega) hW hT hM ffv_1 ffw27_x_75 fx_17 pi0 nfa_255 (lv_sub hl [0, 1, 2, 3, 4, 5, 6, 7, 8, 9, 10] rfl)
                              exact loop372 5 x_241 ia204_qm _ _ hL1 hl1 (by omega) (by omega) (by rw [zx_241]) (by omega) ls (by omega) hW hT hM ffv_1 ffw27_x_75 fx_17 pi0 nia204_qm hl
                            · skip
                              refine lv_iload hx hb dX10_plan_317 (lv_at hl 1 rfl) ?_
                              refine lv_iload hx hb dX10_plan_319 (lv_at hl 5 rfl) ?_
                              refine hb_icmp_ge (zx := iv221_9.toInt) (zy := iv204_5.toInt) (tgt := 364) hx hb rfl rfl dX10_plan_321 (by decide) (fun c_258 => ?_) (fun c_258 => ?_)
                              · skip
                                refine lv_aload_n hx hb dX10_plan_364 rfl (lv_at hl 8 rfl) ?_
                                refine hk_geti hx hb hts hC_10 hown hW (gx.S hM) tt_10 75 (by decide) rfl kw_1218 ⟨rfl, rfl, rfl⟩ ffw27_x_75 dX10_plan_365 ?_
                                refine lv_iconst (v := 1) hx hb dX10_plan_368 (by decide) ?_
                                refine lv_isub hx hb dX10_plan_369 ?_
                                have rg_259 := i32_r fw27_x_75
                                refine lv_topi (fun x_260 ex_260 => ?_)
                                have zx_260 : x_260.toInt = fw27_x_75.toInt - 1 := by rw [ex_260]; exact i32_sub rfl (by decide) (by omega) (by omega)
                                refine lv_istore (lv' := [(10, .int x_260), (9, .int iv221_9), (8, .int iv221_8), (7, .int iv221_7), (6, .int iv204_6), (5, .int iv204_5), (4, .int iv204_4), (3, .int r_25), (0, .ref x), (1, .int i1), (2, .int i2)]) hx hb dX10_plan_370 hl (by decide) rfl (fun ls hl => ?_)
                                have loop372 : ∀ (n372 : Nat) (iv372_10 : Int32) (ia372_qm : Nat → Int32) (H : Heap) (locs : List Loc) (hL1 : List Nat) (hl1 : hx_h), -1 ≤ iv372_10.toInt → iv372_10.toInt ≤ 3 → (hx_V ia372_qm + hx_w iv372_10.toInt = hx_V ia204_qm + hx_w (fw27_x_75.toInt - 1)) → (iv372_10.toInt < fw27_x_75.toInt) → ∀ (ls : Array Slot), iv372_10.toInt + 1 < (n372 : Int) → hx_W T_tb (P_ty dA) (dC, dI) vwCl (hx_A L sz) s.heap hL1 hl1 s H locs → hx_T T_tb hL1 hl1 → hx_S T_tb [(10, 67), (10, 68), (10, 69), (10, 70), (10, 71), (10, 72), (10, 75), (100, 0), (101, 0), (102, 0), (103, 0), (104, 0), (105, 0), (106, 0), (107, 0)] L h hL1 hl1 → hl1.2.1 x 20 = fv_1 → hl1.2.1 x 75 = fw27_x_75 → hl1.2.1 x 0 = x_17 → (∀ j : Nat, (j : Int) < (hl1.2.1 x 75).toInt → 1 ≤ (hl1.2.1 qf j).toInt) → hl1.2.1 qm = ia372_qm → lv_has ls 12 [(10, .int iv372_10), (9, .int iv221_9), (8, .int iv221_8), (7, .int iv221_7), (6, .int iv204_6), (5, .int iv204_5), (4, .int iv204_4), (3, .int r_25), (0, .ref x), (1, .int i1), (2, .int i2)] → W p l e ({ frames := 3, cells := 0, slots := 0, locals := 71 }) s m ([.ref x, .int i1, .int i2] : List Value).toArray below meth c H locs 0 0 (MQ below (va_Qi (fun (r : Int32) (u : List Nat × hx_h) => (True) ∧ hx_T T_tb u.1 u.2 ∧ hx_S T_tb [(10, 67), (10, 68), (10, 69), (10, 70), (10, 71), (10, 72), (10, 75), (100, 0), (101, 0), (102, 0), (103, 0), (104, 0), (105, 0), (106, 0), (107, 0)] L h u.1 u.2) (hx_E T_tb (P_ty dA) (dC, dI) vwCl (hx_A L sz)) (hx_A L sz)) ([.ref x, .int i1, .int i2] : List Value).toArray s 0 0 (hx_A L sz)) (F0 m 372 ls []) := by
                                  intro n372
                                  induction n372 with
                                  | zero => intro iv372_10 ia372_qm H locs hL1 hl1 bliv372_10 buiv372_10 vi372_0 vi372_1 ls hn372; exfalso; omega
                                  | succ n372 ih372 =>
                                    intro iv372_10 ia372_qm H locs hL1 hl1 bliv372_10 buiv372_10 vi372_0 vi372_1 ls hn372 hW hT hM ffv_1 ffw27_x_75 fx_17 pi0 nia372_qm hl
                                    refine lv_iload hx hb dX10_plan_372 (lv_at hl 0 rfl) ?_
                                    refine hb_if_lt (zx := iv372_10.toInt) (tgt := 403) hx hb rfl dX10_plan_374 (by decide) (fun c_261 => ?_) (fun c_261 => ?_)
                                    · skip
                                      refine lv_iload hx hb dX10_plan_403 (lv_at hl 0 rfl) ?_
                                      refine hb_if_lt (zx := iv372_10.toInt) (tgt := 412) hx hb rfl dX10_plan_405 (by decide) (fun c_262 => ?_) (fun c_262 => by exfalso; omega)
                                      refine lv_iconst (v := 0) hx hb dX10_plan_412 (by decide) ?_
                                      refine lv_istore (lv' := [(6, .int (0 : Int32)), (10, .int iv372_10), (9, .int iv221_9), (8, .int iv221_8), (7, .int iv221_7), (5, .int iv204_5), (4, .int iv204_4), (3, .int r_25), (0, .ref x), (1, .int i1), (2, .int i2)]) hx hb dX10_plan_413 hl (by decide) rfl (fun ls hl => ?_)
                                      refine lv_iload hx hb dX10_plan_415 (lv_at hl 0 rfl) ?_
                                      refine hb_if_eq (zx := 0) (tgt := 431) hx hb (by decide) dX10_plan_417 (by decide) (fun c_263 => ?_) (fun c_263 => absurd c_263 (by decide))
                                      have hm12 : hx_m12 ia372_qm := (fun k hk => by have q := hT.ei (gqm.S hM) tt_105 (k := k) hk; rw [nia372_qm] at q; exact q)
                                      have hvb := hx_V_b hm12
                                      refine lv_goto (tgt := 204) hx hb dX10_plan_431 (by decide) ?_
                                      have zk_0 : (0 : Int32).toInt = 0 := by decide
                                      exact ih204 iv204_4 iv204_5 (0 : Int32) ia372_qm _ _ hL1 hl1 (i32_r _).1 (i32_r _).2 (i32_r _).1 (i32_r _).2 (by decide) (by decide) hm12 ls (by omega) hW hT hM ffv_1 ffw27_x_75 fx_17 pi0 nia372_qm (lv_sub hl [0, 5, 6, 7, 8, 9, 10] rfl)
                                    · skip
                                      refine lv_aload_n hx hb dX10_plan_377 rfl (lv_at hl 8 rfl) ?_
                                      refine hk_getr hx hb hts hC_10 hown hW (gx.S hM) tt_10 79 (by decide) rfl kw_1222 ⟨rfl, rfl, rfl⟩ ((hM.o gx trivial rfl).2.trans f_x_79) dX10_plan_378 ?_
                                      refine lv_iload hx hb dX10_plan_381 (lv_at hl 0 rfl) ?_
                                      refine hx_iald hx hb hW hT (gqm.S hM) tt_105 rfl ⟨by omega, by omega⟩ dX10_plan_383 (fun x_264 ex_264 lx_264 ux_264 => ?_)
                                      have ax_264 : x_264 = ia372_qm iv372_10.toNatClampNeg := ex_264.trans (congrFun nia372_qm _)
                                      refine lv_bipush (v := 12) hx hb dX10_plan_384 (by decide) ?_
                                      refine hb_icmp_ne (zx := x_264.toInt) (zy := 12) (tgt := 403) hx hb rfl (by decide) dX10_plan_386 (by decide) (fun c_265 => ?_) (fun c_265 => ?_)
                                      · skip
                                        refine lv_iload hx hb dX10_plan_403 (lv_at hl 0 rfl) ?_
                                        refine hb_if_lt (zx := iv372_10.toInt) (tgt := 412) hx hb rfl dX10_plan_405 (by decide) (fun c_266 => by exfalso; omega) (fun c_266 => ?_)
                                        refine lv_iconst (v := 1) hx hb dX10_plan_408 (by decide) ?_
                                        refine lv_goto (tgt := 413) hx hb dX10_plan_409 (by decide) ?_
                                        refine lv_istore (lv' := [(6, .int (1 : Int32)), (10, .int iv372_10), (9, .int iv221_9), (8, .int iv221_8), (7, .int iv221_7), (5, .int iv204_5), (4, .int iv204_4), (3, .int r_25), (0, .ref x), (1, .int i1), (2, .int i2)]) hx hb dX10_plan_413 hl (by decide) rfl (fun ls hl => ?_)
                                        refine lv_iload hx hb dX10_plan_415 (lv_at hl 0 rfl) ?_
                                        refine hb_if_eq (zx := 1) (tgt := 431) hx hb (by decide) dX10_plan_417 (by decide) (fun c_267 => absurd c_267 (by decide)) (fun c_267 => ?_)
                                        refine lv_aload_n hx hb dX10_plan_420 rfl (lv_at hl 8 rfl) ?_
                                        refine hk_getr hx hb hts hC_10 hown hW (gx.S hM) tt_10 79 (by decide) rfl kw_1222 ⟨rfl, rfl, rfl⟩ ((hM.o gx trivial rfl).2.trans f_x_79) dX10_plan_421 ?_
                                        refine lv_iload hx hb dX10_plan_424 (lv_at hl 1 rfl) ?_
                                        refine lv_dup2_11 hx hb dX10_plan_426 rfl rfl ?_
                                        refine hx_iald hx hb hW hT (gqm.S hM) tt_105 rfl ⟨by omega, by omega⟩ dX10_plan_427 (fun x_268 ex_268 lx_268 ux_268 => ?_)
                                        have ax_268 : x_268 = ia372_qm iv372_10.toNatClampNeg := ex_268.trans (congrFun nia372_qm _)
                                        obtain rfl : x_264 = x_268 := ex_264.trans ex_268.symm
                                        refine lv_iconst (v := 1) hx hb dX10_plan_428 (by decide) ?_
                                        refine lv_iadd hx hb dX10_plan_429 ?_
                                        have rg_269 := i32_r x_264
                                        refine lv_topi (fun x_270 ex_270 => ?_)
                                        have zx_270 : x_270.toInt = x_264.toInt + 1 := by rw [ex_270]; exact i32_add rfl (by decide) (by omega) (by omega)
                                        have nia372_qmO := nia372_qm
                                        refine hx_iast hx hb hW hT (hx_S.rf (M := [(105, 0)])) (gqm.S hM) tt_105 rfl ⟨by omega, by omega⟩ rfl ⟨by omega, by omega⟩ (List.mem_singleton.mpr rfl) dX10_plan_430 (fun H locs h_271 eh_271 hW hT hs => ?_)
                                        replace ffv_1 := (hs.o (gx.S hM) trivial rfl).1.trans ffv_1
                                        replace ffw27_x_75 := (hs.o (gx.S hM) trivial rfl).1.trans ffw27_x_75
                                        replace fx_17 := (hs.o (gx.S hM) trivial rfl).1.trans fx_17
                                        replace pi0 : ∀ j : Nat, (j : Int) < (h_271.2.1 x 75).toInt → 1 ≤ (h_271.2.1 qf j).toInt := by
                                          intro j hj; rw [(hs.o (gx.S hM) trivial rfl).1] at hj; rw [(hs.a (gqf.S hM) rfl j).1]; exact pi0 j hj
                                        replace hM := hM.tr (hs.mono (by decide))
                                        obtain ⟨fa_272, dfa_272⟩ : ∃ g : Nat → Int32, g = hx_up ia372_qm iv372_10.toNatClampNeg x_270 := ⟨_, rfl⟩
                                        have nfa_272 : h_271.2.1 qm = fa_272 := by rw [eh_271, dfa_272, ← nia372_qmO]; exact hx_pi_fun _ _ _ _
                                        have hvq := (hx_V_up (by omega) (by omega) ax_264 dfa_272).2 (by omega)
                                        have hwq := hx_w_b (i := (fw27_x_75.toInt - 1 : Int))
                                        have hm12 : hx_m12 fa_272 := (fun k hk => by have q := hT.ei (gqm.S hM) tt_105 (k := k) hk; rw [nfa_272] at q; exact q)
                                        have hvb := hx_V_b hm12
                                        refine lv_goto (tgt := 204) hx hb dX10_plan_431 (by decide) ?_
                                        have zk_1 : (1 : Int32).toInt = 1 := by decide
                                        exact ih204 iv204_4 iv204_5 (1 : Int32) fa_272 _ _ hL1 h_271 (i32_r _).1 (i32_r _).2 (i32_r _).1 (i32_r _).2 (by decide) (by decide) hm12 ls (by omega) hW hT hM ffv_1 ffw27_x_75 fx_17 pi0 nfa_272 (lv_sub hl [0, 5, 6, 7, 8, 9, 10] rfl)
                                      · skip
                                        refine lv_aload_n hx hb dX10_plan_389 rfl (lv_at hl 8 rfl) ?_
                                        refine hk_getr hx hb hts hC_10 hown hW (gx.S hM) tt_10 79 (by decide) rfl kw_1222 ⟨rfl, rfl, rfl⟩ ((hM.o gx trivial rfl).2.trans f_x_79) dX10_plan_390 ?_
                                        refine lv_iload hx hb dX10_plan_393 (lv_at hl 0 rfl) ?_
                                        refine lv_iconst (v := 0) hx hb dX10_plan_395 (by decide) ?_
                                        have nia372_qmO := nia372_qm
                                        refine hx_iast hx hb hW hT (hx_S.rf (M := [(105, 0)])) (gqm.S hM) tt_105 rfl ⟨by omega, by omega⟩ rfl (by decide) (List.mem_singleton.mpr rfl) dX10_plan_396 (fun H locs h_273 eh_273 hW hT hs => ?_)
                                        replace ffv_1 := (hs.o (gx.S hM) trivial rfl).1.trans ffv_1
                                        replace ffw27_x_75 := (hs.o (gx.S hM) trivial rfl).1.trans ffw27_x_75
                                        replace fx_17 := (hs.o (gx.S hM) trivial rfl).1.trans fx_17
                                        replace pi0 : ∀ j : Nat, (j : Int) < (h_273.2.1 x 75).toInt → 1 ≤ (h_273.2.1 qf j).toInt := by
                                          intro j hj; rw [(hs.o (gx.S hM) trivial rfl).1] at hj; rw [(hs.a (gqf.S hM) rfl j).1]; exact pi0 j hj
                                        replace hM := hM.tr (hs.mono (by decide))
                                        obtain ⟨fa_274, dfa_274⟩ : ∃ g : Nat → Int32, g = hx_up ia372_qm iv372_10.toNatClampNeg (0 : Int32) := ⟨_, rfl⟩
                                        have nfa_274 : h_273.2.1 qm = fa_274 := by rw [eh_273, dfa_274, ← nia372_qmO]; exact hx_pi_fun _ _ _ _
                                        obtain ⟨x_275, ex_275⟩ : ∃ y : Int32, y = iv372_10 + Int32.ofInt (-1) := ⟨_, rfl⟩
                                        have rg_276 := i32_r iv372_10
                                        have zx_275 : x_275.toInt = iv372_10.toInt + (-1) := by rw [ex_275]; exact i32_add rfl (by decide) (by omega) (by omega)
                                        refine lv_iinc (v := x_275) (lv' := [(10, .int x_275), (9, .int iv221_9), (8, .int iv221_8), (7, .int iv221_7), (6, .int iv204_6), (5, .int iv204_5), (4, .int iv204_4), (3, .int r_25), (0, .ref x), (1, .int i1), (2, .int i2)]) hx hb dX10_plan_397 hl (k := 0) rfl ex_275.symm (by decide) rfl (fun ls hl => ?_)
                                        refine lv_goto (tgt := 372) hx hb dX10_plan_400 (by decide) ?_
                                        exact ih372 x_275 fa_274 _ _ hL1 h_273 (by omega) (by omega) (by have q := (hx_V_up (by omega) (by omega) ax_264 dfa_274).1 (by omega) (by decide); rw [show x_275.toInt = iv372_10.toInt - 1 from by omega]; omega) (by omega) ls (by omega) hW hT hM ffv_1 ffw27_x_75 fx_17 pi0 nfa_274 (lv_sub hl [0, 1, 2, 3, 4, 5, 6, 7, 8, 9, 10] rfl)
                                exact loop372 5 x_260 ia204_qm _ _ hL1 hl1 (by omega) (by omega) (by rw [zx_260]) (by omega) ls (by omega) hW hT hM ffv_1 ffw27_x_75 fx_17 pi0 nia204_qm hl
                              · skip
                                refine lv_iload hx hb dX10_plan_324 (lv_at hl 2 rfl) ?_
                                refine lv_istore (lv' := [(4, .int iv221_8), (10, .int iv221_10), (9, .int iv221_9), (8, .int iv221_8), (7, .int iv221_7), (6, .int iv204_6), (5, .int iv204_5), (3, .int r_25), (0, .ref x), (1, .int i1), (2, .int i2)]) hx hb dX10_plan_326 hl (by decide) rfl (fun ls hl => ?_)
                                refine lv_iload hx hb dX10_plan_328 (lv_at hl 2 rfl) ?_
                                refine lv_istore (lv' := [(5, .int iv221_9), (4, .int iv221_8), (10, .int iv221_10), (9, .int iv221_9), (8, .int iv221_8), (7, .int iv221_7), (6, .int iv204_6), (3, .int r_25), (0, .ref x), (1, .int i1), (2, .int i2)]) hx hb dX10_plan_330 hl (by decide) rfl (fun ls hl => ?_)
                                refine lv_iconst (v := 0) hx hb dX10_plan_332 (by decide) ?_
                                refine lv_istore (lv' := [(10, .int (0 : Int32)), (5, .int iv221_9), (4, .int iv221_8), (9, .int iv221_9), (8, .int iv221_8), (7, .int iv221_7), (6, .int iv204_6), (3, .int r_25), (0, .ref x), (1, .int i1), (2, .int i2)]) hx hb dX10_plan_333 hl (by decide) rfl (fun ls hl => ?_)
                                have loop335 : ∀ (n335 : Nat) (iv335_10 : Int32) (H : Heap) (locs : List Loc) (hL1 : List Nat) (hl1 : hx_h), 0 ≤ iv335_10.toInt → iv335_10.toInt ≤ 4 → ∀ (ls : Array Slot), 4 - iv335_10.toInt < (n335 : Int) → hx_W T_tb (P_ty dA) (dC, dI) vwCl (hx_A L sz) s.heap hL1 hl1 s H locs → hx_T T_tb hL1 hl1 → hx_S T_tb [(10, 67), (10, 68), (10, 69), (10, 70), (10, 71), (10, 72), (10, 75), (100, 0), (101, 0), (102, 0), (103, 0), (104, 0), (105, 0), (106, 0), (107, 0)] L h hL1 hl1 → hl1.2.1 x 20 = fv_1 → hl1.2.1 x 75 = fw27_x_75 → hl1.2.1 x 0 = x_17 → (∀ j : Nat, (j : Int) < (hl1.2.1 x 75).toInt → 1 ≤ (hl1.2.1 qf j).toInt) → hl1.2.1 qm = ia204_qm → lv_has ls 12 [(10, .int iv335_10), (5, .int iv221_9), (4, .int iv221_8), (9, .int iv221_9), (8, .int iv221_8), (7, .int iv221_7), (6, .int iv204_6), (3, .int r_25), (0, .ref x), (1, .int i1), (2, .int i2)] → W p l e ({ frames := 3, cells := 0, slots := 0, locals := 71 }) s m ([.ref x, .int i1, .int i2] : List Value).toArray below meth c H locs 0 0 (MQ below (va_Qi (fun (r : Int32) (u : List Nat × hx_h) => (True) ∧ hx_T T_tb u.1 u.2 ∧ hx_S T_tb [(10, 67), (10, 68), (10, 69), (10, 70), (10, 71), (10, 72), (10, 75), (100, 0), (101, 0), (102, 0), (103, 0), (104, 0), (105, 0), (106, 0), (107, 0)] L h u.1 u.2) (hx_E T_tb (P_ty dA) (dC, dI) vwCl (hx_A L sz)) (hx_A L sz)) ([.ref x, .int i1, .int i2] : List Value).toArray s 0 0 (hx_A L sz)) (F0 m 335 ls []) := by
                                  intro n335
                                  induction n335 with
                                  | zero => intro iv335_10 H locs hL1 hl1 bliv335_10 buiv335_10  ls hn335; exfalso; omega
                                  | succ n335 ih335 =>
                                    intro iv335_10 H locs hL1 hl1 bliv335_10 buiv335_10  ls hn335 hW hT hM ffv_1 ffw27_x_75 fx_17 pi0 nia204_qm hl
                                    refine lv_iload hx hb dX10_plan_335 (lv_at hl 0 rfl) ?_
                                    refine lv_aload_n hx hb dX10_plan_337 rfl (lv_at hl 8 rfl) ?_
                                    refine hk_geti hx hb hts hC_10 hown hW (gx.S hM) tt_10 75 (by decide) rfl kw_1218 ⟨rfl, rfl, rfl⟩ ffw27_x_75 dX10_plan_338 ?_
                                    refine hb_icmp_ge (zx := iv335_10.toInt) (zy := fw27_x_75.toInt) (tgt := 364) hx hb rfl rfl dX10_plan_341 (by decide) (fun c_277 => ?_) (fun c_277 => by exfalso; omega)
                                    refine lv_aload_n hx hb dX10_plan_364 rfl (lv_at hl 8 rfl) ?_
                                    refine hk_geti hx hb hts hC_10 hown hW (gx.S hM) tt_10 75 (by decide) rfl kw_1218 ⟨rfl, rfl, rfl⟩ ffw27_x_75 dX10_plan_365 ?_
                                    refine lv_iconst (v := 1) hx hb dX10_plan_368 (by decide) ?_
                                    refine lv_isub hx hb dX10_plan_369 ?_
                                    have rg_278 := i32_r fw27_x_75
                                    refine lv_topi (fun x_279 ex_279 => ?_)
                                    have zx_279 : x_279.toInt = fw27_x_75.toInt - 1 := by rw [ex_279]; exact i32_sub rfl (by decide) (by omega) (by omega)
                                    refine lv_istore (lv' := [(10, .int x_279), (5, .int iv221_9), (4, .int iv221_8), (9, .int iv221_9), (8, .int iv221_8), (7, .int iv221_7), (6, .int iv204_6), (3, .int r_25), (0, .ref x), (1, .int i1), (2, .int i2)]) hx hb dX10_plan_370 hl (by decide) rfl (fun ls hl => ?_)
                                    have loop372 : ∀ (n372 : Nat) (iv372_10 : Int32) (ia372_qm : Nat → Int32) (H : Heap) (locs : List Loc) (hL1 : List Nat) (hl1 : hx_h), -1 ≤ iv372_10.toInt → iv372_10.toInt ≤ 3 → (hx_V ia372_qm + hx_w iv372_10.toInt = hx_V ia204_qm + hx_w (fw27_x_75.toInt - 1)) → (iv372_10.toInt < fw27_x_75.toInt) → ∀ (ls : Array Slot), iv372_10.toInt + 1 < (n372 : Int) → hx_W T_tb (P_ty dA) (dC, dI) vwCl (hx_A L sz) s.heap hL1 hl1 s H locs → hx_T T_tb hL1 hl1 → hx_S T_tb [(10, 67), (10, 68), (10, 69), (10, 70), (10, 71), (10, 72), (10, 75), (100, 0), (101, 0), (102, 0), (103, 0), (104, 0), (105, 0), (106, 0), (107, 0)] L h hL1 hl1 → hl1.2.1 x 20 = fv_1 → hl1.2.1 x 75 = fw27_x_75 → hl1.2.1 x 0 = x_17 → (∀ j : Nat, (j : Int) < (hl1.2.1 x 75).toInt → 1 ≤ (hl1.2.1 qf j).toInt) → hl1.2.1 qm = ia372_qm → lv_has ls 12 [(10, .int iv372_10), (5, .int iv221_9), (4, .int iv221_8), (9, .int iv221_9), (8, .int iv221_8), (7, .int iv221_7), (6, .int iv204_6), (3, .int r_25), (0, .ref x), (1, .int i1), (2, .int i2)] → W p l e ({ frames := 3, cells := 0, slots := 0, locals := 71 }) s m ([.ref x, .int i1, .int i2] : List Value).toArray below meth c H locs 0 0 (MQ below (va_Qi (fun (r : Int32) (u : List Nat × hx_h) => (True) ∧ hx_T T_tb u.1 u.2 ∧ hx_S T_tb [(10, 67), (10, 68), (10, 69), (10, 70), (10, 71), (10, 72), (10, 75), (100, 0), (101, 0), (102, 0), (103, 0), (104, 0), (105, 0), (106, 0), (107, 0)] L h u.1 u.2) (hx_E T_tb (P_ty dA) (dC, dI) vwCl (hx_A L sz)) (hx_A L sz)) ([.ref x, .int i1, .int i2] : List Value).toArray s 0 0 (hx_A L sz)) (F0 m 372 ls []) := by
                                      intro n372
                                      induction n372 with
                                      | zero => intro iv372_10 ia372_qm H locs hL1 hl1 bliv372_10 buiv372_10 vi372_0 vi372_1 ls hn372; exfalso; omega
                                      | succ n372 ih372 =>
                                        intro iv372_10 ia372_qm H locs hL1 hl1 bliv372_10 buiv372_10 vi372_0 vi372_1 ls hn372 hW hT hM ffv_1 ffw27_x_75 fx_17 pi0 nia372_qm hl
                                        refine lv_iload hx hb dX10_plan_372 (lv_at hl 0 rfl) ?_
                                        refine hb_if_lt (zx := iv372_10.toInt) (tgt := 403) hx hb rfl dX10_plan_374 (by decide) (fun c_280 => ?_) (fun c_280 => ?_)
                                        · skip
                                          refine lv_iload hx hb dX10_plan_403 (lv_at hl 0 rfl) ?_
                                          refine hb_if_lt (zx := iv372_10.toInt) (tgt := 412) hx hb rfl dX10_plan_405 (by decide) (fun c_281 => ?_) (fun c_281 => by exfalso; omega)
                                          refine lv_iconst (v := 0) hx hb dX10_plan_412 (by decide) ?_
                                          refine lv_istore (lv' := [(6, .int (0 : Int32)), (10, .int iv372_10), (5, .int iv221_9), (4, .int iv221_8), (9, .int iv221_9), (8, .int iv221_8), (7, .int iv221_7), (3, .int r_25), (0, .ref x), (1, .int i1), (2, .int i2)]) hx hb dX10_plan_413 hl (by decide) rfl (fun ls hl => ?_)
                                          refine lv_iload hx hb dX10_plan_415 (lv_at hl 0 rfl) ?_
                                          refine hb_if_eq (zx := 0) (tgt := 431) hx hb (by decide) dX10_plan_417 (by decide) (fun c_282 => ?_) (fun c_282 => absurd c_282 (by decide))
                                          have hm12 : hx_m12 ia372_qm := (fun k hk => by have q := hT.ei (gqm.S hM) tt_105 (k := k) hk; rw [nia372_qm] at q; exact q)
                                          have hvb := hx_V_b hm12
                                          refine lv_goto (tgt := 204) hx hb dX10_plan_431 (by decide) ?_
                                          have zk_0 : (0 : Int32).toInt = 0 := by decide
                                          exact ih204 iv221_8 iv221_9 (0 : Int32) ia372_qm _ _ hL1 hl1 (i32_r _).1 (i32_r _).2 (i32_r _).1 (i32_r _).2 (by decide) (by decide) hm12 ls (by omega) hW hT hM ffv_1 ffw27_x_75 fx_17 pi0 nia372_qm (lv_sub hl [0, 2, 3, 7, 8, 9, 10] rfl)
                                        · skip
                                          refine lv_aload_n hx hb dX10_plan_377 rfl (lv_at hl 8 rfl) ?_
                                          refine hk_getr hx hb hts hC_10 hown hW (gx.S hM) tt_10 79 (by decide) rfl kw_1222 ⟨rfl, rfl, rfl⟩ ((hM.o gx trivial rfl).2.trans f_x_79) dX10_plan_378 ?_
                                          refine lv_iload hx hb dX10_plan_381 (lv_at hl 0 rfl) ?_
                                          refine hx_iald hx hb hW hT (gqm.S hM) tt_105 rfl ⟨by omega, by omega⟩ dX10_plan_383 (fun x_283 ex_283 lx_283 ux_283 => ?_)
                                          have ax_283 : x_283 = ia372_qm iv372_10.toNatClampNeg := ex_283.trans (congrFun nia372_qm _)
                                          refine lv_bipush (v := 12) hx hb dX10_plan_384 (by decide) ?_
                                          refine hb_icmp_ne (zx := x_283.toInt) (zy := 12) (tgt := 403) hx hb rfl (by decide) dX10_plan_386 (by decide) (fun c_284 => ?_) (fun c_284 => ?_)
                                          · skip
                                            refine lv_iload hx hb dX10_plan_403 (lv_at hl 0 rfl) ?_
                                            refine hb_if_lt (zx := iv372_10.toInt) (tgt := 412) hx hb rfl dX10_plan_405 (by decide) (fun c_285 => by exfalso; omega) (fun c_285 => ?_)
                                            refine lv_iconst (v := 1) hx hb dX10_plan_408 (by decide) ?_
                                            refine lv_goto (tgt := 413) hx hb dX10_plan_409 (by decide) ?_
                                            refine lv_istore (lv' := [(6, .int (1 : Int32)), (10, .int iv372_10), (5, .int iv221_9), (4, .int iv221_8), (9, .int iv221_9), (8, .int iv221_8), (7, .int iv221_7), (3, .int r_25), (0, .ref x), (1, .int i1), (2, .int i2)]) hx hb dX10_plan_413 hl (by decide) rfl (fun ls hl => ?_)
                                            refine lv_iload hx hb dX10_plan_415 (lv_at hl 0 rfl) ?_
                                            refine hb_if_eq (zx := 1) (tgt := 431) hx hb (by decide) dX10_plan_417 (by decide) (fun c_286 => absurd c_286 (by decide)) (fun c_286 => ?_)
                                            refine lv_aload_n hx hb dX10_plan_420 rfl (lv_at hl 8 rfl) ?_
                                            refine hk_getr hx hb hts hC_10 hown hW (gx.S hM) tt_10 79 (by decide) rfl kw_1222 ⟨rfl, rfl, rfl⟩ ((hM.o gx trivial rfl).2.trans f_x_79) dX10_plan_421 ?_
                                            refine lv_iload hx hb dX10_plan_424 (lv_at hl 1 rfl) ?_
                                            refine lv_dup2_11 hx hb dX10_plan_426 rfl rfl ?_
                                            refine hx_iald hx hb hW hT (gqm.S hM) tt_105 rfl ⟨by omega, by omega⟩ dX10_plan_427 (fun x_287 ex_287 lx_287 ux_287 => ?_)
                                            have ax_287 : x_287 = ia372_qm iv372_10.toNatClampNeg := ex_287.trans (congrFun nia372_qm _)
                                            obtain rfl : x_283 = x_287 := ex_283.trans ex_287.symm
                                            refine lv_iconst (v := 1) hx hb dX10_plan_428 (by decide) ?_
                                            refine lv_iadd hx hb dX10_plan_429 ?_
                                            have rg_288 := i32_r x_283
                                            refine lv_topi (fun x_289 ex_289 => ?_)
                                            have zx_289 : x_289.toInt = x_283.toInt + 1 := by rw [ex_289]; exact i32_add rfl (by decide) (by omega) (by omega)
                                            have nia372_qmO := nia372_qm
                                            refine hx_iast hx hb hW hT (hx_S.rf (M := [(105, 0)])) (gqm.S hM) tt_105 rfl ⟨by omega, by omega⟩ rfl ⟨by omega, by omega⟩ (List.mem_singleton.mpr rfl) dX10_plan_430 (fun H locs h_290 eh_290 hW hT hs => ?_)
                                            replace ffv_1 := (hs.o (gx.S hM) trivial rfl).1.trans ffv_1
                                            replace ffw27_x_75 := (hs.o (gx.S hM) trivial rfl).1.trans ffw27_x_75
                                            replace fx_17 := (hs.o (gx.S hM) trivial rfl).1.trans fx_17
                                            replace pi0 : ∀ j : Nat, (j : Int) < (h_290.2.1 x 75).toInt → 1 ≤ (h_290.2.1 qf j).toInt := by
                                              intro j hj; rw [(hs.o (gx.S hM) trivial rfl).1] at hj; rw [(hs.a (gqf.S hM) rfl j).1]; exact pi0 j hj
                                            replace hM := hM.tr (hs.mono (by decide))
                                            obtain ⟨fa_291, dfa_291⟩ : ∃ g : Nat → Int32, g = hx_up ia372_qm iv372_10.toNatClampNeg x_289 := ⟨_, rfl⟩
                                            have nfa_291 : h_290.2.1 qm = fa_291 := by rw [eh_290, dfa_291, ← nia372_qmO]; exact hx_pi_fun _ _ _ _
                                            have hvq := (hx_V_up (by omega) (by omega) ax_283 dfa_291).2 (by omega)
                                            have hwq := hx_w_b (i := (fw27_x_75.toInt - 1 : Int))
                                            have hm12 : hx_m12 fa_291 := (fun k hk => by have q := hT.ei (gqm.S hM) tt_105 (k := k) hk; rw [nfa_291] at q; exact q)
                                            have hvb := hx_V_b hm12
                                            refine lv_goto (tgt := 204) hx hb dX10_plan_431 (by decide) ?_
                                            have zk_1 : (1 : Int32).toInt = 1 := by decide
                                            exact ih204 iv221_8 iv221_9 (1 : Int32) fa_291 _ _ hL1 h_290 (i32_r _).1 (i32_r _).2 (i32_r _).1 (i32_r _).2 (by decide) (by decide) hm12 ls (by omega) hW hT hM ffv_1 ffw27_x_75 fx_17 pi0 nfa_291 (lv_sub hl [0, 2, 3, 7, 8, 9, 10] rfl)
                                          · skip
                                            refine lv_aload_n hx hb dX10_plan_389 rfl (lv_at hl 8 rfl) ?_
                                            refine hk_getr hx hb hts hC_10 hown hW (gx.S hM) tt_10 79 (by decide) rfl kw_1222 ⟨rfl, rfl, rfl⟩ ((hM.o gx trivial rfl).2.trans f_x_79) dX10_plan_390 ?_
                                            refine lv_iload hx hb dX10_plan_393 (lv_at hl 0 rfl) ?_
                                            refine lv_iconst (v := 0) hx hb dX10_plan_395 (by decide) ?_
                                            have nia372_qmO := nia372_qm
                                            refine hx_iast hx hb hW hT (hx_S.rf (M := [(105, 0)])) (gqm.S hM) tt_105 rfl ⟨by omega, by omega⟩ rfl (by decide) (List.mem_singleton.mpr rfl) dX10_plan_396 (fun H locs h_292 eh_292 hW hT hs => ?_)
                                            replace ffv_1 := (hs.o (gx.S hM) trivial rfl).1.trans ffv_1
                                            replace ffw27_x_75 := (hs.o (gx.S hM) trivial rfl).1.trans ffw27_x_75
                                            replace fx_17 := (hs.o (gx.S hM) trivial rfl).1.trans fx_17
                                            replace pi0 : ∀ j : Nat, (j : Int) < (h_292.2.1 x 75).toInt → 1 ≤ (h_292.2.1 qf j).toInt := by
                                              intro j hj; rw [(hs.o (gx.S hM) trivial rfl).1] at hj; rw [(hs.a (gqf.S hM) rfl j).1]; exact pi0 j hj
                                            replace hM := hM.tr (hs.mono (by decide))
                                            obtain ⟨fa_293, dfa_293⟩ : ∃ g : Nat → Int32, g = hx_up ia372_qm iv372_10.toNatClampNeg (0 : Int32) := ⟨_, rfl⟩
                                            have nfa_293 : h_292.2.1 qm = fa_293 := by rw [eh_292, dfa_293, ← nia372_qmO]; exact hx_pi_fun _ _ _ _
                                            obtain ⟨x_294, ex_294⟩ : ∃ y : Int32, y = iv372_10 + Int32.ofInt (-1) := ⟨_, rfl⟩
                                            have rg_295 := i32_r iv372_10
                                            have zx_294 : x_294.toInt = iv372_10.toInt + (-1) := by rw [ex_294]; exact i32_add rfl (by decide) (by omega) (by omega)
                                            refine lv_iinc (v := x_294) (lv' := [(10, .int x_294), (5, .int iv221_9), (4, .int iv221_8), (9, .int iv221_9), (8, .int iv221_8), (7, .int iv221_7), (6, .int iv204_6), (3, .int r_25), (0, .ref x), (1, .int i1), (2, .int i2)]) hx hb dX10_plan_397 hl (k := 0) rfl ex_294.symm (by decide) rfl (fun ls hl => ?_)
                                            refine lv_goto (tgt := 372) hx hb dX10_plan_400 (by decide) ?_
                                            exact ih372 x_294 fa_293 _ _ hL1 h_292 (by omega) (by omega) (by have q := (hx_V_up (by omega) (by omega) ax_283 dfa_293).1 (by omega) (by decide); rw [show x_294.toInt = iv372_10.toInt - 1 from by omega]; omega) (by omega) ls (by omega) hW hT hM ffv_1 ffw27_x_75 fx_17 pi0 nfa_293 (lv_sub hl [0, 1, 2, 3, 4, 5, 6, 7, 8, 9, 10] rfl)
                                    exact loop372 5 x_279 ia204_qm _ _ hL1 hl1 (by omega) (by omega) (by rw [zx_279]) (by omega) ls (by omega) hW hT hM ffv_1 ffw27_x_75 fx_17 pi0 nia204_qm hl
                                have zk_0 : (0 : Int32).toInt = 0 := by decide
                                exact loop335 5 (0 : Int32) _ _ hL1 hl1 (by decide) (by decide)  ls (by omega) hW hT hM ffv_1 ffw27_x_75 fx_17 pi0 nia204_qm hl
                    have zk_0 : (0 : Int32).toInt = 0 := by decide
                    have zk_0 : (0 : Int32).toInt = 0 := by decide
                    have zk_0 : (0 : Int32).toInt = 0 := by decide
                    have zk_0 : (0 : Int32).toInt = 0 := by decide
                    exact loop221 5 (0 : Int32) (0 : Int32) (0 : Int32) (0 : Int32) _ _ hL1 hl1 (by decide) (by decide) (by decide) (by decide) (by decide) (by decide) (by decide) (by decide)  ls (by omega) hW hT hM ffv_1 ffw27_x_75 fx_17 pi0 nia204_qm hl
              have zk_0 : (0 : Int32).toInt = 0 := by decide
              have zk_1000000000 : (1000000000 : Int32).toInt = 1000000000 := by decide
              have zk_0 : (0 : Int32).toInt = 0 := by decide
              exact loop204 28564 (0 : Int32) (1000000000 : Int32) (0 : Int32) fa_193 _ _ L_23 h_24 (by decide) (by decide) (by decide) (by decide) (by decide) (by decide) hm12 ls (by omega) hW hT hM ffv_1 ffw27_x_75 fx_17 pi0 nfa_193 hl
          · skip
            refine lv_aload_n hx hb dX10_plan_35 rfl (lv_at hl 1 rfl) ?_
            refine hx_getn hx hb hts hC_10 hown hW hT (gx.S hM) tt_10 38 (by decide) rfl kw_1181 ⟨rfl, rfl, rfl⟩ dX10_plan_36 (fun q_296 fq_296 gq_296 => ?_)
            refine lv_iload_n hx hb dX10_plan_39 rfl (lv_at hl 0 rfl) ?_
            refine hx_iald hx hb hW hT gq_296 tt_73 rfl ⟨by omega, by omega⟩ dX10_plan_40 (fun x_297 ex_297 lx_297 ux_297 => ?_)
            refine lv_iload_n hx hb dX10_plan_41 rfl (lv_at hl 2 rfl) ?_
            refine hb_icmp_ne (zx := x_297.toInt) (zy := i1.toInt) (tgt := 149) hx hb rfl rfl dX10_plan_42 (by decide) (fun c_298 => ?_) (fun c_298 => ?_)
            · skip
              obtain ⟨x_299, ex_299⟩ : ∃ y : Int32, y = iv27_3 + Int32.ofInt 1 := ⟨_, rfl⟩
              have rg_300 := i32_r iv27_3
              have zx_299 : x_299.toInt = iv27_3.toInt + (1) := by rw [ex_299]; exact i32_add rfl (by decide) (by omega) (by omega)
              refine lv_iinc (v := x_299) (lv' := [(3, .int x_299), (0, .ref x), (1, .int i1), (2, .int i2)]) hx hb dX10_plan_149 hl (k := 0) rfl ex_299.symm (by decide) rfl (fun ls hl => ?_)
              refine lv_goto (tgt := 27) hx hb dX10_plan_152 (by decide) ?_
              exact ih27 x_299 fw27_x_75 _ _ hL1 hl1 (by omega) (by omega) (by omega) (by omega)  ls (by omega) hW hT hM ffw27_x_75 ffv_1 pi0 (lv_sub hl [0, 1, 2, 3] rfl)
            · skip
              refine lv_aload_n hx hb dX10_plan_45 rfl (lv_at hl 1 rfl) ?_
              refine lv_iload_n hx hb dX10_plan_46 rfl (lv_at hl 0 rfl) ?_
              refine hx_goi (hx_runV (As := [.int iv27_3]) (rest := []) ⟨hx, hb, hml, hown, hts⟩ hW (gx.S hM) tt_10 (T := TX10) (N := 98) rfl (t_X10_isOpen l dC dI dA hL1 hl1 H.size x iv27_3 hT (gx.S hM) ⟨by omega, by omega⟩) (cwV 1 hts (hx_gV kw_1637 kw_1634 kw_1636 kw_81 kw_103) rfl rfl rfl (by decide +kernel) ⟨Nat.le_of_ble_eq_true rfl, Nat.le_of_ble_eq_true rfl⟩) rfl hl.1 rfl (Nat.le_of_ble_eq_true rfl) dX10_plan_47 ⟨Nat.le_of_ble_eq_true rfl, Nat.le_of_ble_eq_true rfl⟩) hW (fun r_303 L_301 h_302 H locs p_304 hW => ?_)
              obtain ⟨⟨w_306, fw_306, hr_305⟩, hT, hs⟩ := p_304
              replace hT : hx_T T_tb L_301 h_302 := hT
              replace hs : hx_S T_tb [(10, 67), (10, 68), (10, 69), (10, 70), (10, 71)] hL1 hl1 L_301 h_302 := hs
              replace ffv_1 := (hs.o (gx.S hM) trivial rfl).1.trans ffv_1
              replace ffw27_x_75 := (hs.o (gx.S hM) trivial rfl).1.trans ffw27_x_75
              replace fq_296 := (hs.o (gx.S hM) trivial rfl).2.trans fq_296
              replace ex_297 := ex_297.trans (hs.a gq_296 rfl _).1.symm
              replace pi0 : ∀ j : Nat, (j : Int) < (h_302.2.1 x 75).toInt → 1 ≤ (h_302.2.1 qf j).toInt := by
                intro j hj; rw [(hs.o (gx.S hM) trivial rfl).1] at hj; rw [(hs.a (gqf.S hM) rfl j).1]; exact pi0 j hj
              replace hM := hM.tr (hs.mono (by decide))
              replace gq_296 := gq_296.S hs
              have fw_306 : h_302.2.1 x 68 = w_306 := fw_306
              have bw_306 := hT.gi (gx.S hM) tt_10 (k := 68) rfl
              rw [fw_306] at bw_306
              have bw_306 : 0 ≤ w_306.toInt ∧ w_306.toInt ≤ 610000 := bw_306
              refine hb_if_ne (zx := r_303.toInt) (tgt := 56) hx hb rfl dX10_plan_50 (by decide) (fun c_307 => ?_) (fun c_307 => ?_)
              · skip
                refine lv_aload_n hx hb dX10_plan_56 rfl (lv_at hl 1 rfl) ?_
                refine hk_geti hx hb hts hC_10 hown hW (gx.S hM) tt_10 75 (by decide) rfl kw_1218 ⟨rfl, rfl, rfl⟩ ffw27_x_75 dX10_plan_57 ?_
                refine lv_iconst (v := 4) hx hb dX10_plan_60 (by decide) ?_
                refine hb_icmp_ne (zx := fw27_x_75.toInt) (zy := 4) (tgt := 66) hx hb rfl (by decide) dX10_plan_61 (by decide) (fun c_308 => ?_) (fun c_308 => ?_)
                · skip
                  refine lv_aload_n hx hb dX10_plan_66 rfl (lv_at hl 1 rfl) ?_
                  refine lv_aload_n hx hb dX10_plan_67 rfl (lv_at hl 1 rfl) ?_
                  refine hk_getr hx hb hts hC_10 hown hW (gx.S hM) tt_10 44 (by decide) rfl kw_1187 ⟨rfl, rfl, rfl⟩ ((hM.o gx trivial rfl).2.trans f_x_44) dX10_plan_68 ?_
                  refine lv_iload_n hx hb dX10_plan_71 rfl (lv_at hl 0 rfl) ?_
                  refine hx_iald hx hb hW hT (gqc.S hM) tt_79 rfl ⟨by omega, by omega⟩ dX10_plan_72 (fun x_309 ex_309 lx_309 ux_309 => ?_)
                  have ax_309 : x_309 = plf iv27_3.toNatClampNeg := ex_309.trans (congrFun (hx_afS hM gqc rfl af_qc) _)
                  refine lv_iconst (v := 2) hx hb dX10_plan_73 (by decide) ?_
                  have zc_2 : (2 : Int32).toInt = 2 := by decide
                  refine hx_goi (hx_runV (As := [.int x_309, .int (2 : Int32)]) (rest := []) ⟨hx, hb, hml, hown, hts⟩ hW (gx.S hM) tt_10 (T := TX10) (N := 98) rfl (t_X10_ruleOf_2 l dC dI dA L_301 h_302 H.size x x_309 (2 : Int32) hT (gx.S hM) ql (gql.S hM) ((hM.o gx trivial rfl).2.trans f_x_3) rf (hx_afS hM gql rfl af_ql) ⟨by omega, by omega⟩ (by decide)) (cwV 2 hts (hx_gV kw_1533 kw_1530 kw_1532 kw_66 kw_103) rfl rfl rfl (by decide +kernel) ⟨Nat.le_of_ble_eq_true rfl, Nat.le_of_ble_eq_true rfl⟩) rfl hl.1 rfl (Nat.le_of_ble_eq_true rfl) dX10_plan_74 ⟨Nat.le_of_ble_eq_true rfl, Nat.le_of_ble_eq_true rfl⟩) hW (fun r_312 L_310 h_311 H locs p_313 hW => ?_)
                  obtain ⟨hr_314, hT, hs⟩ := p_313
                  replace hT : hx_T T_tb L_310 h_311 := hT
                  replace hs : hx_S T_tb [] L_301 h_302 L_310 h_311 := hs
                  replace ffv_1 := (hs.o (gx.S hM) trivial rfl).1.trans ffv_1
                  replace ffw27_x_75 := (hs.o (gx.S hM) trivial rfl).1.trans ffw27_x_75
                  replace fq_296 := (hs.o (gx.S hM) trivial rfl).2.trans fq_296
                  replace fw_306 := (hs.o (gx.S hM) trivial rfl).1.trans fw_306
                  replace ex_297 := ex_297.trans (hs.a gq_296 rfl _).1.symm
                  replace ex_309 := ex_309.trans (hs.a (gqc.S hM) rfl _).1.symm
                  replace pi0 : ∀ j : Nat, (j : Int) < (h_311.2.1 x 75).toInt → 1 ≤ (h_311.2.1 qf j).toInt := by
                    intro j hj; rw [(hs.o (gx.S hM) trivial rfl).1] at hj; rw [(hs.a (gqf.S hM) rfl j).1]; exact pi0 j hj
                  replace hM := hM.tr (hs.mono (by decide))
                  replace gq_296 := gq_296.S hs
                  have hpl := hPL iv27_3.toInt (by omega) (by omega)
                  have hwk : 1 ≤ r_312.toInt := by rw [hr_314.2.2]; exact (hWK x_309.toInt (by omega) (by rw [ax_309]; exact hpl.2)).1
                  refine lv_istore (lv' := [(4, .int r_312), (3, .int iv27_3), (0, .ref x), (1, .int i1), (2, .int i2)]) hx hb dX10_plan_77 hl (by decide) rfl (fun ls hl => ?_)
                  refine lv_aload_n hx hb dX10_plan_79 rfl (lv_at hl 2 rfl) ?_
                  refine hx_getn hx hb hts hC_10 hown hW hT (gx.S hM) tt_10 76 (by decide) rfl kw_1219 ⟨rfl, rfl, rfl⟩ dX10_plan_80 (fun q_315 fq_315 gq_315 => ?_)
                  refine lv_aload_n hx hb dX10_plan_83 rfl (lv_at hl 2 rfl) ?_
                  refine hk_geti hx hb hts hC_10 hown hW (gx.S hM) tt_10 75 (by decide) rfl kw_1218 ⟨rfl, rfl, rfl⟩ ffw27_x_75 dX10_plan_84 ?_
                  refine lv_iload_n hx hb dX10_plan_87 rfl (lv_at hl 1 rfl) ?_
                  refine hx_iast hx hb hW hT (hx_S.rf (M := [(102, 0)])) gq_315 tt_102 rfl ⟨by omega, by omega⟩ rfl ⟨by omega, by omega⟩ (List.mem_singleton.mpr rfl) dX10_plan_88 (fun H locs h_316 eh_316 hW hT hs => ?_)
                  replace ffv_1 := (hs.o (gx.S hM) trivial rfl).1.trans ffv_1
                  replace ffw27_x_75 := (hs.o (gx.S hM) trivial rfl).1.trans ffw27_x_75
                  replace fq_296 := (hs.o (gx.S hM) trivial rfl).2.trans fq_296
                  replace fw_306 := (hs.o (gx.S hM) trivial rfl).1.trans fw_306
                  replace fq_315 := (hs.o (gx.S hM) trivial rfl).2.trans fq_315
                  replace ex_297 := ex_297.trans (hs.a gq_296 rfl _).1.symm
                  replace ex_309 := ex_309.trans (hs.a (gqc.S hM) rfl _).1.symm
                  replace pi0 : ∀ j : Nat, (j : Int) < (h_316.2.1 x 75).toInt → 1 ≤ (h_316.2.1 qf j).toInt := by
                    intro j hj; rw [(hs.o (gx.S hM) trivial rfl).1] at hj; rw [(hs.a (gqf.S hM) rfl j).1]; exact pi0 j hj
                  replace hM := hM.tr (hs.mono (by decide))
                  replace gq_296 := gq_296.S hs
                  replace gq_315 := gq_315.S hs
                  refine lv_aload_n hx hb dX10_plan_89 rfl (lv_at hl 2 rfl) ?_
                  refine hx_getn hx hb hts hC_10 hown hW hT (gx.S hM) tt_10 77 (by decide) rfl kw_1220 ⟨rfl, rfl, rfl⟩ dX10_plan_90 (fun q_317 fq_317 gq_317 => ?_)
                  refine lv_aload_n hx hb dX10_plan_93 rfl (lv_at hl 2 rfl) ?_
                  refine hk_geti hx hb hts hC_10 hown hW (gx.S hM) tt_10 75 (by decide) rfl kw_1218 ⟨rfl, rfl, rfl⟩ ffw27_x_75 dX10_plan_94 ?_
                  refine lv_aload_n hx hb dX10_plan_97 rfl (lv_at hl 2 rfl) ?_
                  refine hk_geti hx hb hts hC_10 hown hW (gx.S hM) tt_10 68 (by decide) rfl kw_1211 ⟨rfl, rfl, rfl⟩ fw_306 dX10_plan_98 ?_
                  refine hx_iast hx hb hW hT (hx_S.rf (M := [(103, 0)])) gq_317 tt_103 rfl ⟨by omega, by omega⟩ rfl ⟨by omega, by omega⟩ (List.mem_singleton.mpr rfl) dX10_plan_101 (fun H locs h_318 eh_318 hW hT hs => ?_)
                  replace ffv_1 := (hs.o (gx.S hM) trivial rfl).1.trans ffv_1
                  replace ffw27_x_75 := (hs.o (gx.S hM) trivial rfl).1.trans ffw27_x_75
                  replace fq_296 := (hs.o (gx.S hM) trivial rfl).2.trans fq_296
                  replace fw_306 := (hs.o (gx.S hM) trivial rfl).1.trans fw_306
                  replace fq_315 := (hs.o (gx.S hM) trivial rfl).2.trans fq_315
                  replace fq_317 := (hs.o (gx.S hM) trivial rfl).2.trans fq_317
                  replace ex_297 := ex_297.trans (hs.a gq_296 rfl _).1.symm
                  replace ex_309 := ex_309.trans (hs.a (gqc.S hM) rfl _).1.symm
                  replace pi0 : ∀ j : Nat, (j : Int) < (h_318.2.1 x 75).toInt → 1 ≤ (h_318.2.1 qf j).toInt := by
                    intro j hj; rw [(hs.o (gx.S hM) trivial rfl).1] at hj; rw [(hs.a (gqf.S hM) rfl j).1]; exact pi0 j hj
                  replace hM := hM.tr (hs.mono (by decide))
                  replace gq_296 := gq_296.S hs
                  replace gq_315 := gq_315.S hs
                  replace gq_317 := gq_317.S hs
                  refine lv_aload_n hx hb dX10_plan_102 rfl (lv_at hl 2 rfl) ?_
                  refine hk_getr hx hb hts hC_10 hown hW (gx.S hM) tt_10 78 (by decide) rfl kw_1221 ⟨rfl, rfl, rfl⟩ ((hM.o gx trivial rfl).2.trans f_x_78) dX10_plan_103 ?_
                  refine lv_aload_n hx hb dX10_plan_106 rfl (lv_at hl 2 rfl) ?_
                  refine hk_geti hx hb hts hC_10 hown hW (gx.S hM) tt_10 75 (by decide) rfl kw_1218 ⟨rfl, rfl, rfl⟩ ffw27_x_75 dX10_plan_107 ?_
                  refine lv_iload hx hb dX10_plan_110 (lv_at hl 0 rfl) ?_
                  refine lv_aload_n hx hb dX10_plan_112 rfl (lv_at hl 2 rfl) ?_
                  refine hk_geti hx hb hts hC_10 hown hW (gx.S hM) tt_10 68 (by decide) rfl kw_1211 ⟨rfl, rfl, rfl⟩ fw_306 dX10_plan_113 ?_
                  refine hb_icmp_ge (zx := r_312.toInt) (zy := w_306.toInt) (tgt := 124) hx hb rfl rfl dX10_plan_116 (by decide) (fun c_319 => ?_) (fun c_319 => ?_)
                  · skip
                    refine lv_aload_n hx hb dX10_plan_124 rfl (lv_at hl 2 rfl) ?_
                    refine hk_geti hx hb hts hC_10 hown hW (gx.S hM) tt_10 68 (by decide) rfl kw_1211 ⟨rfl, rfl, rfl⟩ fw_306 dX10_plan_125 ?_
                    have pi0O := pi0
                    refine hx_iast hx hb hW hT (hx_S.rf (M := [(104, 0)])) (gqf.S hM) tt_104 rfl ⟨by omega, by omega⟩ rfl ⟨by omega, by omega⟩ (List.mem_singleton.mpr rfl) dX10_plan_128 (fun H locs h_320 eh_320 hW hT hs => ?_)
                    replace ffv_1 := (hs.o (gx.S hM) trivial rfl).1.trans ffv_1
                    replace ffw27_x_75 := (hs.o (gx.S hM) trivial rfl).1.trans ffw27_x_75
                    replace fq_296 := (hs.o (gx.S hM) trivial rfl).2.trans fq_296
                    replace fw_306 := (hs.o (gx.S hM) trivial rfl).1.trans fw_306
                    replace fq_315 := (hs.o (gx.S hM) trivial rfl).2.trans fq_315
                    replace fq_317 := (hs.o (gx.S hM) trivial rfl).2.trans fq_317
                    replace ex_297 := ex_297.trans (hs.a gq_296 rfl _).1.symm
                    replace ex_309 := ex_309.trans (hs.a (gqc.S hM) rfl _).1.symm
                    replace hM := hM.tr (hs.mono (by decide))
                    replace gq_296 := gq_296.S hs
                    replace gq_315 := gq_315.S hs
                    replace gq_317 := gq_317.S hs
                    have pj_321 : ∀ j : Nat, (j : Int) < fw27_x_75.toInt + 1 → 1 ≤ (h_320.2.1 qf j).toInt := hx_pix pi0O ffw27_x_75 (by omega) (by omega) eh_320 ((gx.S hM).ne (gqf.S hM) (by decide))
                    refine lv_aload_n hx hb dX10_plan_129 rfl (lv_at hl 2 rfl) ?_
                    refine hk_getr hx hb hts hC_10 hown hW (gx.S hM) tt_10 79 (by decide) rfl kw_1222 ⟨rfl, rfl, rfl⟩ ((hM.o gx trivial rfl).2.trans f_x_79) dX10_plan_130 ?_
                    refine lv_aload_n hx hb dX10_plan_133 rfl (lv_at hl 2 rfl) ?_
                    refine hk_geti hx hb hts hC_10 hown hW (gx.S hM) tt_10 75 (by decide) rfl kw_1218 ⟨rfl, rfl, rfl⟩ ffw27_x_75 dX10_plan_134 ?_
                    refine lv_iconst (v := 0) hx hb dX10_plan_137 (by decide) ?_
                    refine hx_iast hx hb hW hT (hx_S.rf (M := [(105, 0)])) (gqm.S hM) tt_105 rfl ⟨by omega, by omega⟩ rfl (by decide) (List.mem_singleton.mpr rfl) dX10_plan_138 (fun H locs h_322 eh_322 hW hT hs => ?_)
                    replace ffv_1 := (hs.o (gx.S hM) trivial rfl).1.trans ffv_1
                    replace ffw27_x_75 := (hs.o (gx.S hM) trivial rfl).1.trans ffw27_x_75
                    replace fq_296 := (hs.o (gx.S hM) trivial rfl).2.trans fq_296
                    replace fw_306 := (hs.o (gx.S hM) trivial rfl).1.trans fw_306
                    replace fq_315 := (hs.o (gx.S hM) trivial rfl).2.trans fq_315
                    replace fq_317 := (hs.o (gx.S hM) trivial rfl).2.trans fq_317
                    replace ex_297 := ex_297.trans (hs.a gq_296 rfl _).1.symm
                    replace ex_309 := ex_309.trans (hs.a (gqc.S hM) rfl _).1.symm
                    replace pj_321 : ∀ j : Nat, (j : Int) < fw27_x_75.toInt + 1 → 1 ≤ (h_322.2.1 qf j).toInt := fun j hj => by rw [(hs.a (gqf.S hM) rfl j).1]; exact pj_321 j hj
                    replace hM := hM.tr (hs.mono (by decide))
                    replace gq_296 := gq_296.S hs
                    replace gq_315 := gq_315.S hs
                    replace gq_317 := gq_317.S hs
                    refine lv_aload_n hx hb dX10_plan_139 rfl (lv_at hl 2 rfl) ?_
                    refine lv_dup hx hb dX10_plan_140 rfl ?_
                    refine hk_geti hx hb hts hC_10 hown hW (gx.S hM) tt_10 75 (by decide) rfl kw_1218 ⟨rfl, rfl, rfl⟩ ffw27_x_75 dX10_plan_141 ?_
                    refine lv_iconst (v := 1) hx hb dX10_plan_144 (by decide) ?_
                    refine lv_iadd hx hb dX10_plan_145 ?_
                    have rg_323 := i32_r fw27_x_75
                    refine lv_topi (fun x_324 ex_324 => ?_)
                    have zx_324 : x_324.toInt = fw27_x_75.toInt + 1 := by rw [ex_324]; exact i32_add rfl (by decide) (by omega) (by omega)
                    refine hx_puti hx hb hts hC_10 hown hW hT (hx_S.rf (M := [(10, 75)])) (gx.S hM) tt_10 75 (by decide) rfl kw_1218 ⟨rfl, rfl, rfl⟩ rfl (x := x_324) ⟨by omega, by omega⟩ rfl rfl rfl (List.mem_singleton.mpr rfl) dX10_plan_146 (fun H locs h_325 eh_325 hW hT hs => ?_)
                    replace ffv_1 := (hs.o (gx.S hM) trivial rfl).1.trans ffv_1
                    replace fq_296 := (hs.o (gx.S hM) trivial rfl).2.trans fq_296
                    replace fw_306 := (hs.o (gx.S hM) trivial rfl).1.trans fw_306
                    replace fq_315 := (hs.o (gx.S hM) trivial rfl).2.trans fq_315
                    replace fq_317 := (hs.o (gx.S hM) trivial rfl).2.trans fq_317
                    replace ex_297 := ex_297.trans (hs.a gq_296 rfl _).1.symm
                    replace ex_309 := ex_309.trans (hs.a (gqc.S hM) rfl _).1.symm
                    replace pj_321 : ∀ j : Nat, (j : Int) < fw27_x_75.toInt + 1 → 1 ≤ (h_325.2.1 qf j).toInt := fun j hj => by rw [(hs.a (gqf.S hM) rfl j).1]; exact pj_321 j hj
                    replace hM := hM.tr (hs.mono (by decide))
                    replace gq_296 := gq_296.S hs
                    replace gq_315 := gq_315.S hs
                    replace gq_317 := gq_317.S hs
                    have f_326 : h_325.2.1 x 75 = x_324 := by rw [eh_325]; exact hx_pi_at _ _ _ _
                    have pi_327 : ∀ j : Nat, (j : Int) < (h_325.2.1 x 75).toInt → 1 ≤ (h_325.2.1 qf j).toInt := fun j hj => pj_321 j (by rw [f_326] at hj; omega)
                    obtain ⟨x_328, ex_328⟩ : ∃ y : Int32, y = iv27_3 + Int32.ofInt 1 := ⟨_, rfl⟩
                    have rg_329 := i32_r iv27_3
                    have zx_328 : x_328.toInt = iv27_3.toInt + (1) := by rw [ex_328]; exact i32_add rfl (by decide) (by omega) (by omega)
                    refine lv_iinc (v := x_328) (lv' := [(3, .int x_328), (4, .int r_312), (0, .ref x), (1, .int i1), (2, .int i2)]) hx hb dX10_plan_149 hl (k := 1) rfl ex_328.symm (by decide) rfl (fun ls hl => ?_)
                    refine lv_goto (tgt := 27) hx hb dX10_plan_152 (by decide) ?_
                    exact ih27 x_328 x_324 _ _ L_310 h_325 (by omega) (by omega) (by omega) (by omega)  ls (by omega) hW hT hM f_326 ffv_1 pi_327 (lv_sub hl [0, 2, 3, 4] rfl)
                  · skip
                    refine lv_iload hx hb dX10_plan_119 (lv_at hl 0 rfl) ?_
                    refine lv_goto (tgt := 128) hx hb dX10_plan_121 (by decide) ?_
                    have pi0O := pi0
                    refine hx_iast hx hb hW hT (hx_S.rf (M := [(104, 0)])) (gqf.S hM) tt_104 rfl ⟨by omega, by omega⟩ rfl ⟨by omega, by omega⟩ (List.mem_singleton.mpr rfl) dX10_plan_128 (fun H locs h_330 eh_330 hW hT hs => ?_)
                    replace ffv_1 := (hs.o (gx.S hM) trivial rfl).1.trans ffv_1
                    replace ffw27_x_75 := (hs.o (gx.S hM) trivial rfl).1.trans ffw27_x_75
                    replace fq_296 := (hs.o (gx.S hM) trivial rfl).2.trans fq_296
                    replace fw_306 := (hs.o (gx.S hM) trivial rfl).1.trans fw_306
                    replace fq_315 := (hs.o (gx.S hM) trivial rfl).2.trans fq_315
                    replace fq_317 := (hs.o (gx.S hM) trivial rfl).2.trans fq_317
                    replace ex_297 := ex_297.trans (hs.a gq_296 rfl _).1.symm
                    replace ex_309 := ex_309.trans (hs.a (gqc.S hM) rfl _).1.symm
                    replace hM := hM.tr (hs.mono (by decide))
                    replace gq_296 := gq_296.S hs
                    replace gq_315 := gq_315.S hs
                    replace gq_317 := gq_317.S hs
                    have pj_331 : ∀ j : Nat, (j : Int) < fw27_x_75.toInt + 1 → 1 ≤ (h_330.2.1 qf j).toInt := hx_pix pi0O ffw27_x_75 (by omega) (by omega) eh_330 ((gx.S hM).ne (gqf.S hM) (by decide))
                    refine lv_aload_n hx hb dX10_plan_129 rfl (lv_at hl 2 rfl) ?_
                    refine hk_getr hx hb hts hC_10 hown hW (gx.S hM) tt_10 79 (by decide) rfl kw_1222 ⟨rfl, rfl, rfl⟩ ((hM.o gx trivial rfl).2.trans f_x_79) dX10_plan_130 ?_
                    refine lv_aload_n hx hb dX10_plan_133 rfl (lv_at hl 2 rfl) ?_
                    refine hk_geti hx hb hts hC_10 hown hW (gx.S hM) tt_10 75 (by decide) rfl kw_1218 ⟨rfl, rfl, rfl⟩ ffw27_x_75 dX10_plan_134 ?_
                    refine lv_iconst (v := 0) hx hb dX10_plan_137 (by decide) ?_
                    refine hx_iast hx hb hW hT (hx_S.rf (M := [(105, 0)])) (gqm.S hM) tt_105 rfl ⟨by omega, by omega⟩ rfl (by decide) (List.mem_singleton.mpr rfl) dX10_plan_138 (fun H locs h_332 eh_332 hW hT hs => ?_)
                    replace ffv_1 := (hs.o (gx.S hM) trivial rfl).1.trans ffv_1
                    replace ffw27_x_75 := (hs.o (gx.S hM) trivial rfl).1.trans ffw27_x_75
                    replace fq_296 := (hs.o (gx.S hM) trivial rfl).2.trans fq_296
                    replace fw_306 := (hs.o (gx.S hM) trivial rfl).1.trans fw_306
                    replace fq_315 := (hs.o (gx.S hM) trivial rfl).2.trans fq_315
                    replace fq_317 := (hs.o (gx.S hM) trivial rfl).2.trans fq_317
                    replace ex_297 := ex_297.trans (hs.a gq_296 rfl _).1.symm
                    replace ex_309 := ex_309.trans (hs.a (gqc.S hM) rfl _).1.symm
                    replace pj_331 : ∀ j : Nat, (j : Int) < fw27_x_75.toInt + 1 → 1 ≤ (h_332.2.1 qf j).toInt := fun j hj => by rw [(hs.a (gqf.S hM) rfl j).1]; exact pj_331 j hj
                    replace hM := hM.tr (hs.mono (by decide))
                    replace gq_296 := gq_296.S hs
                    replace gq_315 := gq_315.S hs
                    replace gq_317 := gq_317.S hs
                    refine lv_aload_n hx hb dX10_plan_139 rfl (lv_at hl 2 rfl) ?_
                    refine lv_dup hx hb dX10_plan_140 rfl ?_
                    refine hk_geti hx hb hts hC_10 hown hW (gx.S hM) tt_10 75 (by decide) rfl kw_1218 ⟨rfl, rfl, rfl⟩ ffw27_x_75 dX10_plan_141 ?_
                    refine lv_iconst (v := 1) hx hb dX10_plan_144 (by decide) ?_
                    refine lv_iadd hx hb dX10_plan_145 ?_
                    have rg_333 := i32_r fw27_x_75
                    refine lv_topi (fun x_334 ex_334 => ?_)
                    have zx_334 : x_334.toInt = fw27_x_75.toInt + 1 := by rw [ex_334]; exact i32_add rfl (by decide) (by omega) (by omega)
                    refine hx_puti hx hb hts hC_10 hown hW hT (hx_S.rf (M := [(10, 75)])) (gx.S hM) tt_10 75 (by decide) rfl kw_1218 ⟨rfl, rfl, rfl⟩ rfl (x := x_334) ⟨by omega, by omega⟩ rfl rfl rfl (List.mem_singleton.mpr rfl) dX10_plan_146 (fun H locs h_335 eh_335 hW hT hs => ?_)
                    replace ffv_1 := (hs.o (gx.S hM) trivial rfl).1.trans ffv_1
                    replace fq_296 := (hs.o (gx.S hM) trivial rfl).2.trans fq_296
                    replace fw_306 := (hs.o (gx.S hM) trivial rfl).1.trans fw_306
                    replace fq_315 := (hs.o (gx.S hM) trivial rfl).2.trans fq_315
                    replace fq_317 := (hs.o (gx.S hM) trivial rfl).2.trans fq_317
                    replace ex_297 := ex_297.trans (hs.a gq_296 rfl _).1.symm
                    replace ex_309 := ex_309.trans (hs.a (gqc.S hM) rfl _).1.symm
                    replace pj_331 : ∀ j : Nat, (j : Int) < fw27_x_75.toInt + 1 → 1 ≤ (h_335.2.1 qf j).toInt := fun j hj => by rw [(hs.a (gqf.S hM) rfl j).1]; exact pj_331 j hj
                    replace hM := hM.tr (hs.mono (by decide))
                    replace gq_296 := gq_296.S hs
                    replace gq_315 := gq_315.S hs
                    replace gq_317 := gq_317.S hs
                    have f_336 : h_335.2.1 x 75 = x_334 := by rw [eh_335]; exact hx_pi_at _ _ _ _
                    have pi_337 : ∀ j : Nat, (j : Int) < (h_335.2.1 x 75).toInt → 1 ≤ (h_335.2.1 qf j).toInt := fun j hj => pj_331 j (by rw [f_336] at hj; omega)
                    obtain ⟨x_338, ex_338⟩ : ∃ y : Int32, y = iv27_3 + Int32.ofInt 1 := ⟨_, rfl⟩
                    have rg_339 := i32_r iv27_3
                    have zx_338 : x_338.toInt = iv27_3.toInt + (1) := by rw [ex_338]; exact i32_add rfl (by decide) (by omega) (by omega)
                    refine lv_iinc (v := x_338) (lv' := [(3, .int x_338), (4, .int r_312), (0, .ref x), (1, .int i1), (2, .int i2)]) hx hb dX10_plan_149 hl (k := 1) rfl ex_338.symm (by decide) rfl (fun ls hl => ?_)
                    refine lv_goto (tgt := 27) hx hb dX10_plan_152 (by decide) ?_
                    exact ih27 x_338 x_334 _ _ L_310 h_335 (by omega) (by omega) (by omega) (by omega)  ls (by omega) hW hT hM f_336 ffv_1 pi_337 (lv_sub hl [0, 2, 3, 4] rfl)
                · skip
                  refine lv_iconst (v := -1) hx hb dX10_plan_64 (by decide) ?_
                  exact hx_reti hx hb hr hlk hW ⟨trivial, hT, hM⟩ dX10_plan_65
              · skip
                refine lv_goto (tgt := 149) hx hb dX10_plan_53 (by decide) ?_
                obtain ⟨x_340, ex_340⟩ : ∃ y : Int32, y = iv27_3 + Int32.ofInt 1 := ⟨_, rfl⟩
                have rg_341 := i32_r iv27_3
                have zx_340 : x_340.toInt = iv27_3.toInt + (1) := by rw [ex_340]; exact i32_add rfl (by decide) (by omega) (by omega)
                refine lv_iinc (v := x_340) (lv' := [(3, .int x_340), (0, .ref x), (1, .int i1), (2, .int i2)]) hx hb dX10_plan_149 hl (k := 0) rfl ex_340.symm (by decide) rfl (fun ls hl => ?_)
                refine lv_goto (tgt := 27) hx hb dX10_plan_152 (by decide) ?_
                exact ih27 x_340 fw27_x_75 _ _ L_301 h_302 (by omega) (by omega) (by omega) (by omega)  ls (by omega) hW hT hM ffw27_x_75 ffv_1 pi0 (lv_sub hl [0, 1, 2, 3] rfl)
      have zk_0 : (0 : Int32).toInt = 0 := by decide
      have zk_0 : (0 : Int32).toInt = 0 := by decide
      exact loop27 101 (0 : Int32) (0 : Int32) _ _ L_8 h_14 (by decide) (by decide) (by decide) (by decide)  ls (by omega) hW hT hM f_15 ffv_1 pi0 hl
    · skip
      replace hr_12 := hr_12.resolve_right (fun z9 => absurd (c_13.symm.trans z9.1) (by decide))
      replace hr_12 := hr_12.2
      refine lv_iconst (v := -1) hx hb dX10_plan_18 (by decide) ?_
      exact hx_reti hx hb hr hlk hW ⟨trivial, hT, hM⟩ dX10_plan_19

def wLX10_order_0 : List Nat := [42, 27, 182, 1, 114, 153, 0, 48, 42, 180, 0, 123, 27, 46, 8, 160, 0, 38, 42, 180, 0, 114, 27, 46, 2, 160, 0, 28, 42, 180, 0, 56, 42, 180, 0, 84, 27, 46, 51, 154, 0, 14, 28, 4, 17, 39, 15, 184, 0, 228, 154, 0, 5, 2, 172, 42, 180, 0, 102, 27, 46, 62, 42, 180]
def wLX10_order_1 : List Nat := [0, 87, 27, 46, 42, 180, 0, 105, 27, 46, 42, 29, 16, 9, 182, 1, 77, 104, 96, 42, 29, 16, 10, 182, 1, 77, 96, 42, 29, 16, 11, 182, 1, 77, 96, 54, 4, 28, 42, 29, 5, 182, 1, 77, 162, 0, 12, 28, 21, 4, 162, 0, 6, 16, 254, 172, 3, 54, 5, 3, 54, 6, 21, 6]
def wLX10_order_2 : List Nat := [42, 180, 1, 111, 162, 0, 50, 21, 5, 42, 180, 0, 84, 21, 6, 46, 42, 180, 0, 84, 27, 46, 160, 0, 22, 42, 21, 6, 182, 1, 163, 153, 0, 13, 42, 180, 0, 132, 21, 6, 46, 167, 0, 4, 3, 96, 54, 5, 132, 6, 1, 167, 255, 203, 28, 21, 5, 96, 42, 42, 180, 0, 84, 27]
def wLX10_order_3 : List Nat := [46, 29, 182, 1, 166, 164, 0, 6, 16, 253, 172, 42, 180, 0, 114, 27, 42, 180, 0, 232, 79, 42, 180, 0, 132, 27, 28, 79, 42, 180, 0, 135, 27, 21, 4, 79, 21, 4, 172]
theorem wX10_order_0 : (cX10_order.data.toList.map UInt8.toNat).drop 0 = wLX10_order_0 ++ (wLX10_order_1 ++ (wLX10_order_2 ++ (wLX10_order_3 ++ ([])))) := by decide +kernel
theorem wX10_order_1 : (cX10_order.data.toList.map UInt8.toNat).drop 64 = wLX10_order_1 ++ (wLX10_order_2 ++ (wLX10_order_3 ++ ([]))) := hz_wn wX10_order_0 rfl
theorem wX10_order_2 : (cX10_order.data.toList.map UInt8.toNat).drop 128 = wLX10_order_2 ++ (wLX10_order_3 ++ ([])) := hz_wn wX10_order_1 rfl
theorem wX10_order_3 : (cX10_order.data.toList.map UInt8.toNat).drop 192 = wLX10_order_3 ++ ([]) := hz_wn wX10_order_2 rfl
theorem dX10_order_0 : decode cX10_order 0 = .ok (.aload_n 0, 1) := dq_42 (hz_wg wX10_order_0 (j := 0) (n := 42) rfl)
theorem dX10_order_1 : decode cX10_order 1 = .ok (.iload_n 1, 1) := dq_27 (hz_wg wX10_order_0 (j := 1) (n := 27) rfl)
theorem dX10_order_2 : decode cX10_order 2 = .ok (.invokevirtual 370, 3) := dq_182 (hz_wg wX10_order_0 (j := 2) (n := 182) rfl) (hz_wg wX10_order_0 (j := 3) (n := 1) rfl) (hz_wg wX10_order_0 (j := 4) (n := 114) rfl) rfl
theorem dX10_order_5 : decode cX10_order 5 = .ok (.ifCond .eq 48, 3) := dq_153 (hz_wg wX10_order_0 (j := 5) (n := 153) rfl) (hz_wg wX10_order_0 (j := 6) (n := 0) rfl) (hz_wg wX10_order_0 (j := 7) (n := 48) rfl) (by decide)
theorem dX10_order_8 : decode cX10_order 8 = .ok (.aload_n 0, 1) := dq_42 (hz_wg wX10_order_0 (j := 8) (n := 42) rfl)
theorem dX10_order_9 : decode cX10_order 9 = .ok (.getfield 123, 3) := dq_180 (hz_wg wX10_order_0 (j := 9) (n := 180) rfl) (hz_wg wX10_order_0 (j := 10) (n := 0) rfl) (hz_wg wX10_order_0 (j := 11) (n := 123) rfl) rfl
theorem dX10_order_12 : decode cX10_order 12 = .ok (.iload_n 1, 1) := dq_27 (hz_wg wX10_order_0 (j := 12) (n := 27) rfl)
theorem dX10_order_13 : decode cX10_order 13 = .ok (.iaload, 1) := dq_46 (hz_wg wX10_order_0 (j := 13) (n := 46) rfl)
theorem dX10_order_14 : decode cX10_order 14 = .ok (.iconst 5, 1) := dq_8 (hz_wg wX10_order_0 (j := 14) (n := 8) rfl)
theorem dX10_order_15 : decode cX10_order 15 = .ok (.if_icmp .ne 38, 3) := dq_160 (hz_wg wX10_order_0 (j := 15) (n := 160) rfl) (hz_wg wX10_order_0 (j := 16) (n := 0) rfl) (hz_wg wX10_order_0 (j := 17) (n := 38) rfl) (by decide)
theorem dX10_order_18 : decode cX10_order 18 = .ok (.aload_n 0, 1) := dq_42 (hz_wg wX10_order_0 (j := 18) (n := 42) rfl)
theorem dX10_order_19 : decode cX10_order 19 = .ok (.getfield 114, 3) := dq_180 (hz_wg wX10_order_0 (j := 19) (n := 180) rfl) (hz_wg wX10_order_0 (j := 20) (n := 0) rfl) (hz_wg wX10_order_0 (j := 21) (n := 114) rfl) rfl
theorem dX10_order_22 : decode cX10_order 22 = .ok (.iload_n 1, 1) := dq_27 (hz_wg wX10_order_0 (j := 22) (n := 27) rfl)
theorem dX10_order_23 : decode cX10_order 23 = .ok (.iaload, 1) := dq_46 (hz_wg wX10_order_0 (j := 23) (n := 46) rfl)
theorem dX10_order_24 : decode cX10_order 24 = .ok (.iconst (-1), 1) := dq_2 (hz_wg wX10_order_0 (j := 24) (n := 2) rfl)
theorem dX10_order_25 : decode cX10_order 25 = .ok (.if_icmp .ne 28, 3) := dq_160 (hz_wg wX10_order_0 (j := 25) (n := 160) rfl) (hz_wg wX10_order_0 (j := 26) (n := 0) rfl) (hz_wg wX10_order_0 (j := 27) (n := 28) rfl) (by decide)
theorem dX10_order_28 : decode cX10_order 28 = .ok (.aload_n 0, 1) := dq_42 (hz_wg wX10_order_0 (j := 28) (n := 42) rfl)
theorem dX10_order_29 : decode cX10_order 29 = .ok (.getfield 56, 3) := dq_180 (hz_wg wX10_order_0 (j := 29) (n := 180) rfl) (hz_wg wX10_order_0 (j := 30) (n := 0) rfl) (hz_wg wX10_order_0 (j := 31) (n := 56) rfl) rfl
theorem dX10_order_32 : decode cX10_order 32 = .ok (.aload_n 0, 1) := dq_42 (hz_wg wX10_order_0 (j := 32) (n := 42) rfl)
theorem dX10_order_33 : decode cX10_order 33 = .ok (.getfield 84, 3) := dq_180 (hz_wg wX10_order_0 (j := 33) (n := 180) rfl) (hz_wg wX10_order_0 (j := 34) (n := 0) rfl) (hz_wg wX10_order_0 (j := 35) (n := 84) rfl) rfl
theorem dX10_order_36 : decode cX10_order 36 = .ok (.iload_n 1, 1) := dq_27 (hz_wg wX10_order_0 (j := 36) (n := 27) rfl)
theorem dX10_order_37 : decode cX10_order 37 = .ok (.iaload, 1) := dq_46 (hz_wg wX10_order_0 (j := 37) (n := 46) rfl)
theorem dX10_order_38 : decode cX10_order 38 = .ok (.baload, 1) := dq_51 (hz_wg wX10_order_0 (j := 38) (n := 51) rfl)
theorem dX10_order_39 : decode cX10_order 39 = .ok (.ifCond .ne 14, 3) := dq_154 (hz_wg wX10_order_0 (j := 39) (n := 154) rfl) (hz_wg wX10_order_0 (j := 40) (n := 0) rfl) (hz_wg wX10_order_0 (j := 41) (n := 14) rfl) (by decide)
theorem dX10_order_42 : decode cX10_order 42 = .ok (.iload_n 2, 1) := dq_28 (hz_wg wX10_order_0 (j := 42) (n := 28) rfl)
theorem dX10_order_43 : decode cX10_order 43 = .ok (.iconst 1, 1) := dq_4 (hz_wg wX10_order_0 (j := 43) (n := 4) rfl)
theorem dX10_order_44 : decode cX10_order 44 = .ok (.sipush 9999, 3) := dq_17 (hz_wg wX10_order_0 (j := 44) (n := 17) rfl) (hz_wg wX10_order_0 (j := 45) (n := 39) rfl) (hz_wg wX10_order_0 (j := 46) (n := 15) rfl) (by decide)
theorem dX10_order_47 : decode cX10_order 47 = .ok (.invokestatic 228, 3) := dq_184 (hz_wg wX10_order_0 (j := 47) (n := 184) rfl) (hz_wg wX10_order_0 (j := 48) (n := 0) rfl) (hz_wg wX10_order_0 (j := 49) (n := 228) rfl) rfl
theorem dX10_order_50 : decode cX10_order 50 = .ok (.ifCond .ne 5, 3) := dq_154 (hz_wg wX10_order_0 (j := 50) (n := 154) rfl) (hz_wg wX10_order_0 (j := 51) (n := 0) rfl) (hz_wg wX10_order_0 (j := 52) (n := 5) rfl) (by decide)
theorem dX10_order_53 : decode cX10_order 53 = .ok (.iconst (-1), 1) := dq_2 (hz_wg wX10_order_0 (j := 53) (n := 2) rfl)
theorem dX10_order_54 : decode cX10_order 54 = .ok (.ireturn, 1) := dq_172 (hz_wg wX10_order_0 (j := 54) (n := 172) rfl)
theorem dX10_order_55 : decode cX10_order 55 = .ok (.aload_n 0, 1) := dq_42 (hz_wg wX10_order_0 (j := 55) (n := 42) rfl)
theorem dX10_order_56 : decode cX10_order 56 = .ok (.getfield 102, 3) := dq_180 (hz_wg wX10_order_0 (j := 56) (n := 180) rfl) (hz_wg wX10_order_0 (j := 57) (n := 0) rfl) (hz_wg wX10_order_0 (j := 58) (n := 102) rfl) rfl
theorem dX10_order_59 : decode cX10_order 59 = .ok (.iload_n 1, 1) := dq_27 (hz_wg wX10_order_0 (j := 59) (n := 27) rfl)
theorem dX10_order_60 : decode cX10_order 60 = .ok (.iaload, 1) := dq_46 (hz_wg wX10_order_0 (j := 60) (n := 46) rfl)
theorem dX10_order_61 : decode cX10_order 61 = .ok (.istore_n 3, 1) := dq_62 (hz_wg wX10_order_0 (j := 61) (n := 62) rfl)
theorem dX10_order_62 : decode cX10_order 62 = .ok (.aload_n 0, 1) := dq_42 (hz_wg wX10_order_0 (j := 62) (n := 42) rfl)
theorem dX10_order_63 : decode cX10_order 63 = .ok (.getfield 87, 3) := dq_180 (hz_wg wX10_order_0 (j := 63) (n := 180) rfl) (hz_wg wX10_order_1 (j := 0) (n := 0) rfl) (hz_wg wX10_order_1 (j := 1) (n := 87) rfl) rfl
theorem dX10_order_66 : decode cX10_order 66 = .ok (.iload_n 1, 1) := dq_27 (hz_wg wX10_order_1 (j := 2) (n := 27) rfl)
theorem dX10_order_67 : decode cX10_order 67 = .ok (.iaload, 1) := dq_46 (hz_wg wX10_order_1 (j := 3) (n := 46) rfl)
theorem dX10_order_68 : decode cX10_order 68 = .ok (.aload_n 0, 1) := dq_42 (hz_wg wX10_order_1 (j := 4) (n := 42) rfl)
theorem dX10_order_69 : decode cX10_order 69 = .ok (.getfield 105, 3) := dq_180 (hz_wg wX10_order_1 (j := 5) (n := 180) rfl) (hz_wg wX10_order_1 (j := 6) (n := 0) rfl) (hz_wg wX10_order_1 (j := 7) (n := 105) rfl) rfl
theorem dX10_order_72 : decode cX10_order 72 = .ok (.iload_n 1, 1) := dq_27 (hz_wg wX10_order_1 (j := 8) (n := 27) rfl)
theorem dX10_order_73 : decode cX10_order 73 = .ok (.iaload, 1) := dq_46 (hz_wg wX10_order_1 (j := 9) (n := 46) rfl)
theorem dX10_order_74 : decode cX10_order 74 = .ok (.aload_n 0, 1) := dq_42 (hz_wg wX10_order_1 (j := 10) (n := 42) rfl)
theorem dX10_order_75 : decode cX10_order 75 = .ok (.iload_n 3, 1) := dq_29 (hz_wg wX10_order_1 (j := 11) (n := 29) rfl)
theorem dX10_order_76 : decode cX10_order 76 = .ok (.bipush 9, 2) := dq_16 (hz_wg wX10_order_1 (j := 12) (n := 16) rfl) (hz_wg wX10_order_1 (j := 13) (n := 9) rfl) (by decide)
theorem dX10_order_78 : decode cX10_order 78 = .ok (.invokevirtual 333, 3) := dq_182 (hz_wg wX10_order_1 (j := 14) (n := 182) rfl) (hz_wg wX10_order_1 (j := 15) (n := 1) rfl) (hz_wg wX10_order_1 (j := 16) (n := 77) rfl) rfl
theorem dX10_order_81 : decode cX10_order 81 = .ok (.imul, 1) := dq_104 (hz_wg wX10_order_1 (j := 17) (n := 104) rfl)
theorem dX10_order_82 : decode cX10_order 82 = .ok (.iadd, 1) := dq_96 (hz_wg wX10_order_1 (j := 18) (n := 96) rfl)
theorem dX10_order_83 : decode cX10_order 83 = .ok (.aload_n 0, 1) := dq_42 (hz_wg wX10_order_1 (j := 19) (n := 42) rfl)
theorem dX10_order_84 : decode cX10_order 84 = .ok (.iload_n 3, 1) := dq_29 (hz_wg wX10_order_1 (j := 20) (n := 29) rfl)
theorem dX10_order_85 : decode cX10_order 85 = .ok (.bipush 10, 2) := dq_16 (hz_wg wX10_order_1 (j := 21) (n := 16) rfl) (hz_wg wX10_order_1 (j := 22) (n := 10) rfl) (by decide)
theorem dX10_order_87 : decode cX10_order 87 = .ok (.invokevirtual 333, 3) := dq_182 (hz_wg wX10_order_1 (j := 23) (n := 182) rfl) (hz_wg wX10_order_1 (j := 24) (n := 1) rfl) (hz_wg wX10_order_1 (j := 25) (n := 77) rfl) rfl
theorem dX10_order_90 : decode cX10_order 90 = .ok (.iadd, 1) := dq_96 (hz_wg wX10_order_1 (j := 26) (n := 96) rfl)
theorem dX10_order_91 : decode cX10_order 91 = .ok (.aload_n 0, 1) := dq_42 (hz_wg wX10_order_1 (j := 27) (n := 42) rfl)
theorem dX10_order_92 : decode cX10_order 92 = .ok (.iload_n 3, 1) := dq_29 (hz_wg wX10_order_1 (j := 28) (n := 29) rfl)
theorem dX10_order_93 : decode cX10_order 93 = .ok (.bipush 11, 2) := dq_16 (hz_wg wX10_order_1 (j := 29) (n := 16) rfl) (hz_wg wX10_order_1 (j := 30) (n := 11) rfl) (by decide)
theorem dX10_order_95 : decode cX10_order 95 = .ok (.invokevirtual 333, 3) := dq_182 (hz_wg wX10_order_1 (j := 31) (n := 182) rfl) (hz_wg wX10_order_1 (j := 32) (n := 1) rfl) (hz_wg wX10_order_1 (j := 33) (n := 77) rfl) rfl
theorem dX10_order_98 : decode cX10_order 98 = .ok (.iadd, 1) := dq_96 (hz_wg wX10_order_1 (j := 34) (n := 96) rfl)
theorem dX10_order_99 : decode cX10_order 99 = .ok (.istore 4, 2) := dq_54 (hz_wg wX10_order_1 (j := 35) (n := 54) rfl) (hz_wg wX10_order_1 (j := 36) (n := 4) rfl)
theorem dX10_order_101 : decode cX10_order 101 = .ok (.iload_n 2, 1) := dq_28 (hz_wg wX10_order_1 (j := 37) (n := 28) rfl)
theorem dX10_order_102 : decode cX10_order 102 = .ok (.aload_n 0, 1) := dq_42 (hz_wg wX10_order_1 (j := 38) (n := 42) rfl)
theorem dX10_order_103 : decode cX10_order 103 = .ok (.iload_n 3, 1) := dq_29 (hz_wg wX10_order_1 (j := 39) (n := 29) rfl)
theorem dX10_order_104 : decode cX10_order 104 = .ok (.iconst 2, 1) := dq_5 (hz_wg wX10_order_1 (j := 40) (n := 5) rfl)
theorem dX10_order_105 : decode cX10_order 105 = .ok (.invokevirtual 333, 3) := dq_182 (hz_wg wX10_order_1 (j := 41) (n := 182) rfl) (hz_wg wX10_order_1 (j := 42) (n := 1) rfl) (hz_wg wX10_order_1 (j := 43) (n := 77) rfl) rfl
theorem dX10_order_108 : decode cX10_order 108 = .ok (.if_icmp .ge 12, 3) := dq_162 (hz_wg wX10_order_1 (j := 44) (n := 162) rfl) (hz_wg wX10_order_1 (j := 45) (n := 0) rfl) (hz_wg wX10_order_1 (j := 46) (n := 12) rfl) (by decide)
theorem dX10_order_111 : decode cX10_order 111 = .ok (.iload_n 2, 1) := dq_28 (hz_wg wX10_order_1 (j := 47) (n := 28) rfl)
theorem dX10_order_112 : decode cX10_order 112 = .ok (.iload 4, 2) := dq_21 (hz_wg wX10_order_1 (j := 48) (n := 21) rfl) (hz_wg wX10_order_1 (j := 49) (n := 4) rfl)
theorem dX10_order_114 : decode cX10_order 114 = .ok (.if_icmp .ge 6, 3) := dq_162 (hz_wg wX10_order_1 (j := 50) (n := 162) rfl) (hz_wg wX10_order_1 (j := 51) (n := 0) rfl) (hz_wg wX10_order_1 (j := 52) (n := 6) rfl) (by decide)
theorem dX10_order_117 : decode cX10_order 117 = .ok (.bipush (-2), 2) := dq_16 (hz_wg wX10_order_1 (j := 53) (n := 16) rfl) (hz_wg wX10_order_1 (j := 54) (n := 254) rfl) (by decide)
theorem dX10_order_119 : decode cX10_order 119 = .ok (.ireturn, 1) := dq_172 (hz_wg wX10_order_1 (j := 55) (n := 172) rfl)
theorem dX10_order_120 : decode cX10_order 120 = .ok (.iconst 0, 1) := dq_3 (hz_wg wX10_order_1 (j := 56) (n := 3) rfl)
theorem dX10_order_121 : decode cX10_order 121 = .ok (.istore 5, 2) := dq_54 (hz_wg wX10_order_1 (j := 57) (n := 54) rfl) (hz_wg wX10_order_1 (j := 58) (n := 5) rfl)
theorem dX10_order_123 : decode cX10_order 123 = .ok (.iconst 0, 1) := dq_3 (hz_wg wX10_order_1 (j := 59) (n := 3) rfl)
theorem dX10_order_124 : decode cX10_order 124 = .ok (.istore 6, 2) := dq_54 (hz_wg wX10_order_1 (j := 60) (n := 54) rfl) (hz_wg wX10_order_1 (j := 61) (n := 6) rfl)
theorem dX10_order_126 : decode cX10_order 126 = .ok (.iload 6, 2) := dq_21 (hz_wg wX10_order_1 (j := 62) (n := 21) rfl) (hz_wg wX10_order_1 (j := 63) (n := 6) rfl)
theorem dX10_order_128 : decode cX10_order 128 = .ok (.aload_n 0, 1) := dq_42 (hz_wg wX10_order_2 (j := 0) (n := 42) rfl)
theorem dX10_order_129 : decode cX10_order 129 = .ok (.getfield 367, 3) := dq_180 (hz_wg wX10_order_2 (j := 1) (n := 180) rfl) (hz_wg wX10_order_2 (j := 2) (n := 1) rfl) (hz_wg wX10_order_2 (j := 3) (n := 111) rfl) rfl
theorem dX10_order_132 : decode cX10_order 132 = .ok (.if_icmp .ge 50, 3) := dq_162 (hz_wg wX10_order_2 (j := 4) (n := 162) rfl) (hz_wg wX10_order_2 (j := 5) (n := 0) rfl) (hz_wg wX10_order_2 (j := 6) (n := 50) rfl) (by decide)
theorem dX10_order_135 : decode cX10_order 135 = .ok (.iload 5, 2) := dq_21 (hz_wg wX10_order_2 (j := 7) (n := 21) rfl) (hz_wg wX10_order_2 (j := 8) (n := 5) rfl)
theorem dX10_order_137 : decode cX10_order 137 = .ok (.aload_n 0, 1) := dq_42 (hz_wg wX10_order_2 (j := 9) (n := 42) rfl)
theorem dX10_order_138 : decode cX10_order 138 = .ok (.getfield 84, 3) := dq_180 (hz_wg wX10_order_2 (j := 10) (n := 180) rfl) (hz_wg wX10_order_2 (j := 11) (n := 0) rfl) (hz_wg wX10_order_2 (j := 12) (n := 84) rfl) rfl
theorem dX10_order_141 : decode cX10_order 141 = .ok (.iload 6, 2) := dq_21 (hz_wg wX10_order_2 (j := 13) (n := 21) rfl) (hz_wg wX10_order_2 (j := 14) (n := 6) rfl)
theorem dX10_order_143 : decode cX10_order 143 = .ok (.iaload, 1) := dq_46 (hz_wg wX10_order_2 (j := 15) (n := 46) rfl)
theorem dX10_order_144 : decode cX10_order 144 = .ok (.aload_n 0, 1) := dq_42 (hz_wg wX10_order_2 (j := 16) (n := 42) rfl)
theorem dX10_order_145 : decode cX10_order 145 = .ok (.getfield 84, 3) := dq_180 (hz_wg wX10_order_2 (j := 17) (n := 180) rfl) (hz_wg wX10_order_2 (j := 18) (n := 0) rfl) (hz_wg wX10_order_2 (j := 19) (n := 84) rfl) rfl
theorem dX10_order_148 : decode cX10_order 148 = .ok (.iload_n 1, 1) := dq_27 (hz_wg wX10_order_2 (j := 20) (n := 27) rfl)
theorem dX10_order_149 : decode cX10_order 149 = .ok (.iaload, 1) := dq_46 (hz_wg wX10_order_2 (j := 21) (n := 46) rfl)
theorem dX10_order_150 : decode cX10_order 150 = .ok (.if_icmp .ne 22, 3) := dq_160 (hz_wg wX10_order_2 (j := 22) (n := 160) rfl) (hz_wg wX10_order_2 (j := 23) (n := 0) rfl) (hz_wg wX10_order_2 (j := 24) (n := 22) rfl) (by decide)
theorem dX10_order_153 : decode cX10_order 153 = .ok (.aload_n 0, 1) := dq_42 (hz_wg wX10_order_2 (j := 25) (n := 42) rfl)
theorem dX10_order_154 : decode cX10_order 154 = .ok (.iload 6, 2) := dq_21 (hz_wg wX10_order_2 (j := 26) (n := 21) rfl) (hz_wg wX10_order_2 (j := 27) (n := 6) rfl)
theorem dX10_order_156 : decode cX10_order 156 = .ok (.invokevirtual 419, 3) := dq_182 (hz_wg wX10_order_2 (j := 28) (n := 182) rfl) (hz_wg wX10_order_2 (j := 29) (n := 1) rfl) (hz_wg wX10_order_2 (j := 30) (n := 163) rfl) rfl
theorem dX10_order_159 : decode cX10_order 159 = .ok (.ifCond .eq 13, 3) := dq_153 (hz_wg wX10_order_2 (j := 31) (n := 153) rfl) (hz_wg wX10_order_2 (j := 32) (n := 0) rfl) (hz_wg wX10_order_2 (j := 33) (n := 13) rfl) (by decide)
theorem dX10_order_162 : decode cX10_order 162 = .ok (.aload_n 0, 1) := dq_42 (hz_wg wX10_order_2 (j := 34) (n := 42) rfl)
theorem dX10_order_163 : decode cX10_order 163 = .ok (.getfield 132, 3) := dq_180 (hz_wg wX10_order_2 (j := 35) (n := 180) rfl) (hz_wg wX10_order_2 (j := 36) (n := 0) rfl) (hz_wg wX10_order_2 (j := 37) (n := 132) rfl) rfl
theorem dX10_order_166 : decode cX10_order 166 = .ok (.iload 6, 2) := dq_21 (hz_wg wX10_order_2 (j := 38) (n := 21) rfl) (hz_wg wX10_order_2 (j := 39) (n := 6) rfl)
theorem dX10_order_168 : decode cX10_order 168 = .ok (.iaload, 1) := dq_46 (hz_wg wX10_order_2 (j := 40) (n := 46) rfl)
theorem dX10_order_169 : decode cX10_order 169 = .ok (.goto 4, 3) := dq_167 (hz_wg wX10_order_2 (j := 41) (n := 167) rfl) (hz_wg wX10_order_2 (j := 42) (n := 0) rfl) (hz_wg wX10_order_2 (j := 43) (n := 4) rfl) (by decide)
theorem dX10_order_172 : decode cX10_order 172 = .ok (.iconst 0, 1) := dq_3 (hz_wg wX10_order_2 (j := 44) (n := 3) rfl)
theorem dX10_order_173 : decode cX10_order 173 = .ok (.iadd, 1) := dq_96 (hz_wg wX10_order_2 (j := 45) (n := 96) rfl)
theorem dX10_order_174 : decode cX10_order 174 = .ok (.istore 5, 2) := dq_54 (hz_wg wX10_order_2 (j := 46) (n := 54) rfl) (hz_wg wX10_order_2 (j := 47) (n := 5) rfl)
theorem dX10_order_176 : decode cX10_order 176 = .ok (.iinc 6 1, 3) := dq_132 (hz_wg wX10_order_2 (j := 48) (n := 132) rfl) (hz_wg wX10_order_2 (j := 49) (n := 6) rfl) (hz_wg wX10_order_2 (j := 50) (n := 1) rfl) (by decide)
theorem dX10_order_179 : decode cX10_order 179 = .ok (.goto (-53), 3) := dq_167 (hz_wg wX10_order_2 (j := 51) (n := 167) rfl) (hz_wg wX10_order_2 (j := 52) (n := 255) rfl) (hz_wg wX10_order_2 (j := 53) (n := 203) rfl) (by decide)
theorem dX10_order_182 : decode cX10_order 182 = .ok (.iload_n 2, 1) := dq_28 (hz_wg wX10_order_2 (j := 54) (n := 28) rfl)
theorem dX10_order_183 : decode cX10_order 183 = .ok (.iload 5, 2) := dq_21 (hz_wg wX10_order_2 (j := 55) (n := 21) rfl) (hz_wg wX10_order_2 (j := 56) (n := 5) rfl)
theorem dX10_order_185 : decode cX10_order 185 = .ok (.iadd, 1) := dq_96 (hz_wg wX10_order_2 (j := 57) (n := 96) rfl)
theorem dX10_order_186 : decode cX10_order 186 = .ok (.aload_n 0, 1) := dq_42 (hz_wg wX10_order_2 (j := 58) (n := 42) rfl)
theorem dX10_order_187 : decode cX10_order 187 = .ok (.aload_n 0, 1) := dq_42 (hz_wg wX10_order_2 (j := 59) (n := 42) rfl)
theorem dX10_order_188 : decode cX10_order 188 = .ok (.getfield 84, 3) := dq_180 (hz_wg wX10_order_2 (j := 60) (n := 180) rfl) (hz_wg wX10_order_2 (j := 61) (n := 0) rfl) (hz_wg wX10_order_2 (j := 62) (n := 84) rfl) rfl
theorem dX10_order_191 : decode cX10_order 191 = .ok (.iload_n 1, 1) := dq_27 (hz_wg wX10_order_2 (j := 63) (n := 27) rfl)
theorem dX10_order_192 : decode cX10_order 192 = .ok (.iaload, 1) := dq_46 (hz_wg wX10_order_3 (j := 0) (n := 46) rfl)
theorem dX10_order_193 : decode cX10_order 193 = .ok (.iload_n 3, 1) := dq_29 (hz_wg wX10_order_3 (j := 1) (n := 29) rfl)
theorem dX10_order_194 : decode cX10_order 194 = .ok (.invokevirtual 422, 3) := dq_182 (hz_wg wX10_order_3 (j := 2) (n := 182) rfl) (hz_wg wX10_order_3 (j := 3) (n := 1) rfl) (hz_wg wX10_order_3 (j := 4) (n := 166) rfl) rfl
theorem dX10_order_197 : decode cX10_order 197 = .ok (.if_icmp .le 6, 3) := dq_164 (hz_wg wX10_order_3 (j := 5) (n := 164) rfl) (hz_wg wX10_order_3 (j := 6) (n := 0) rfl) (hz_wg wX10_order_3 (j := 7) (n := 6) rfl) (by decide)
theorem dX10_order_200 : decode cX10_order 200 = .ok (.bipush (-3), 2) := dq_16 (hz_wg wX10_order_3 (j := 8) (n := 16) rfl) (hz_wg wX10_order_3 (j := 9) (n := 253) rfl) (by decide)
theorem dX10_order_202 : decode cX10_order 202 = .ok (.ireturn, 1) := dq_172 (hz_wg wX10_order_3 (j := 10) (n := 172) rfl)
theorem dX10_order_203 : decode cX10_order 203 = .ok (.aload_n 0, 1) := dq_42 (hz_wg wX10_order_3 (j := 11) (n := 42) rfl)
theorem dX10_order_204 : decode cX10_order 204 = .ok (.getfield 114, 3) := dq_180 (hz_wg wX10_order_3 (j := 12) (n := 180) rfl) (hz_wg wX10_order_3 (j := 13) (n := 0) rfl) (hz_wg wX10_order_3 (j := 14) (n := 114) rfl) rfl
theorem dX10_order_207 : decode cX10_order 207 = .ok (.iload_n 1, 1) := dq_27 (hz_wg wX10_order_3 (j := 15) (n := 27) rfl)
theorem dX10_order_208 : decode cX10_order 208 = .ok (.aload_n 0, 1) := dq_42 (hz_wg wX10_order_3 (j := 16) (n := 42) rfl)
theorem dX10_order_209 : decode cX10_order 209 = .ok (.getfield 232, 3) := dq_180 (hz_wg wX10_order_3 (j := 17) (n := 180) rfl) (hz_wg wX10_order_3 (j := 18) (n := 0) rfl) (hz_wg wX10_order_3 (j := 19) (n := 232) rfl) rfl
theorem dX10_order_212 : decode cX10_order 212 = .ok (.iastore, 1) := dq_79 (hz_wg wX10_order_3 (j := 20) (n := 79) rfl)
theorem dX10_order_213 : decode cX10_order 213 = .ok (.aload_n 0, 1) := dq_42 (hz_wg wX10_order_3 (j := 21) (n := 42) rfl)
theorem dX10_order_214 : decode cX10_order 214 = .ok (.getfield 132, 3) := dq_180 (hz_wg wX10_order_3 (j := 22) (n := 180) rfl) (hz_wg wX10_order_3 (j := 23) (n := 0) rfl) (hz_wg wX10_order_3 (j := 24) (n := 132) rfl) rfl
theorem dX10_order_217 : decode cX10_order 217 = .ok (.iload_n 1, 1) := dq_27 (hz_wg wX10_order_3 (j := 25) (n := 27) rfl)
theorem dX10_order_218 : decode cX10_order 218 = .ok (.iload_n 2, 1) := dq_28 (hz_wg wX10_order_3 (j := 26) (n := 28) rfl)
theorem dX10_order_219 : decode cX10_order 219 = .ok (.iastore, 1) := dq_79 (hz_wg wX10_order_3 (j := 27) (n := 79) rfl)
theorem dX10_order_220 : decode cX10_order 220 = .ok (.aload_n 0, 1) := dq_42 (hz_wg wX10_order_3 (j := 28) (n := 42) rfl)
theorem dX10_order_221 : decode cX10_order 221 = .ok (.getfield 135, 3) := dq_180 (hz_wg wX10_order_3 (j := 29) (n := 180) rfl) (hz_wg wX10_order_3 (j := 30) (n := 0) rfl) (hz_wg wX10_order_3 (j := 31) (n := 135) rfl) rfl
theorem dX10_order_224 : decode cX10_order 224 = .ok (.iload_n 1, 1) := dq_27 (hz_wg wX10_order_3 (j := 32) (n := 27) rfl)
theorem dX10_order_225 : decode cX10_order 225 = .ok (.iload 4, 2) := dq_21 (hz_wg wX10_order_3 (j := 33) (n := 21) rfl) (hz_wg wX10_order_3 (j := 34) (n := 4) rfl)
theorem dX10_order_227 : decode cX10_order 227 = .ok (.iastore, 1) := dq_79 (hz_wg wX10_order_3 (j := 35) (n := 79) rfl)
theorem dX10_order_228 : decode cX10_order 228 = .ok (.iload 4, 2) := dq_21 (hz_wg wX10_order_3 (j := 36) (n := 21) rfl) (hz_wg wX10_order_3 (j := 37) (n := 4) rfl)
theorem dX10_order_230 : decode cX10_order 230 = .ok (.ireturn, 1) := dq_172 (hz_wg wX10_order_3 (j := 38) (n := 172) rfl)
set_option maxHeartbeats 4000000 in
set_option maxRecDepth 100000 in
theorem t_X10_order (l : Launch) (dC : Nat → ClassId) (dI : Nat → Nat → Nat) (dA : Nat → ClassId) (L : List Nat) (h : hx_h) (sz : Nat) (x : Nat) (i1 : Int32) (i2 : Int32) (hT : hx_T T_tb L h) (gx : hx_g L h x 10) (ql : Nat) (gql : hx_g L h ql 50) (f_x_3 : h.2.2 x 3 = some ql) (qc : Nat) (gqc : hx_g L h qc 79) (f_x_44 : h.2.2 x 44 = some qc) (rf : Nat → Int32) (af_ql : h.2.1 ql = rf) (plf : Nat → Int32) (af_qc : h.2.1 qc = plf) (a0 : Int32) (f_x_1 : h.2.1 x 1 = a0) (c0 : Int32) (f_x_36 : h.2.1 x 36 = c0) (hWK : hx_WK rf a0.toInt) (hPL : hx_PL plf c0.toInt a0.toInt) : Met l yX10_order (Cond.code yX10_order cX10_order 7 (some .int) :: hx_all) ({ frames := 3, cells := 0, slots := 0, locals := 71 }) (va_Pc [.ref x, .int i1, .int i2] (hx_B T_tb (P_ty dA) (dC, dI) vwCl L h sz)) (va_Qi (fun (r : Int32) (u : List Nat × hx_h) => (True) ∧ hx_T T_tb u.1 u.2 ∧ hx_S T_tb [(10, 67), (10, 68), (10, 69), (10, 70), (10, 71), (83, 0), (89, 0), (90, 0)] L h u.1 u.2) (hx_E T_tb (P_ty dA) (dC, dI) vwCl (hx_A L sz)) (hx_A L sz)) 0 0 (hx_A L sz) := by
  refine hx_met (lv := [(0, .ref x), (1, .int i1), (2, .int i2)]) (by decide +kernel) rfl (Nat.le_of_ble_eq_true rfl) rfl ?_
  intro p e s m below meth c hx hb hml hr hlk hts0 hown hin hsz hW ls hl
  have hts : ∀ w ∈ hx_all, w.before _ s = true := fun w hw => hts0 w (List.mem_cons_of_mem _ hw)
  have hown : s.vm.findClass "SmallCourtModel" = some m.cls := hown
  have hM : hx_S T_tb [(10, 67), (10, 68), (10, 69), (10, 70), (10, 71), (83, 0), (89, 0), (90, 0)] L h L h := hx_S.rf
  have b_a0 := hT.gi gx tt_10 (k := 1) rfl
  rw [f_x_1] at b_a0
  have b_a0 : 0 ≤ a0.toInt ∧ a0.toInt ≤ 8 := b_a0
  have b_c0 := hT.gi gx tt_10 (k := 36) rfl
  rw [f_x_36] at b_c0
  have b_c0 : 0 ≤ c0.toInt ∧ c0.toInt ≤ 100 := b_c0
  refine lv_aload_n hx hb dX10_order_0 rfl (lv_at hl 0 rfl) ?_
  refine lv_iload_n hx hb dX10_order_1 rfl (lv_at hl 1 rfl) ?_
  refine hx_goi (hx_runV (As := [.int i1]) (rest := []) ⟨hx, hb, hml, hown, hts⟩ hW (gx.S hM) tt_10 (T := TX10) (N := 98) rfl (t_X10_isClaim l dC dI dA L h s.heap.size x i1 hT (gx.S hM) c0 ((hM.o gx trivial rfl).1.trans f_x_36)) (cwV 1 hts (hx_gV kw_1597 kw_1594 kw_1596 kw_73 kw_103) rfl rfl rfl (by decide +kernel) ⟨Nat.le_of_ble_eq_true rfl, Nat.le_of_ble_eq_true rfl⟩) rfl hl.1 rfl (Nat.le_of_ble_eq_true rfl) dX10_order_2 ⟨Nat.le_of_ble_eq_true rfl, Nat.le_of_ble_eq_true rfl⟩) hW (fun r_3 L_1 h_2 H locs p_4 hW => ?_)
  obtain ⟨hr_5, hT, hs⟩ := p_4
  replace hT : hx_T T_tb L_1 h_2 := hT
  replace hs : hx_S T_tb [] L h L_1 h_2 := hs
  replace hM := hM.tr (hs.mono (by decide))
  refine hb_if_eq (zx := r_3.toInt) (tgt := 53) hx hb rfl dX10_order_5 (by decide) (fun c_6 => ?_) (fun c_6 => ?_)
  · skip
    replace hr_5 := hr_5.resolve_right (fun z9 => absurd (c_6.symm.trans z9.1) (by decide))
    replace hr_5 := hr_5.2
    refine lv_iconst (v := -1) hx hb dX10_order_53 (by decide) ?_
    exact hx_reti hx hb hr hlk hW ⟨trivial, hT, hM⟩ dX10_order_54
  · skip
    replace hr_5 := hr_5.resolve_left (fun z9 => c_6 z9.1)
    replace c_6 := hr_5.1
    replace hr_5 := hr_5.2
    refine lv_aload_n hx hb dX10_order_8 rfl (lv_at hl 0 rfl) ?_
    refine hx_getn hx hb hts hC_10 hown hW hT (gx.S hM) tt_10 51 (by decide) rfl kw_1194 ⟨rfl, rfl, rfl⟩ dX10_order_9 (fun q_7 fq_7 gq_7 => ?_)
    refine lv_iload_n hx hb dX10_order_12 rfl (lv_at hl 1 rfl) ?_
    refine hx_iald hx hb hW hT gq_7 tt_86 rfl ⟨by omega, by omega⟩ dX10_order_13 (fun x_8 ex_8 lx_8 ux_8 => ?_)
    refine lv_iconst (v := 5) hx hb dX10_order_14 (by decide) ?_
    refine hb_icmp_ne (zx := x_8.toInt) (zy := 5) (tgt := 53) hx hb rfl (by decide) dX10_order_15 (by decide) (fun c_9 => ?_) (fun c_9 => ?_)
    · skip
      refine lv_iconst (v := -1) hx hb dX10_order_53 (by decide) ?_
      exact hx_reti hx hb hr hlk hW ⟨trivial, hT, hM⟩ dX10_order_54
    · skip
      refine lv_aload_n hx hb dX10_order_18 rfl (lv_at hl 0 rfl) ?_
      refine hx_getn hx hb hts hC_10 hown hW hT (gx.S hM) tt_10 48 (by decide) rfl kw_1191 ⟨rfl, rfl, rfl⟩ dX10_order_19 (fun q_10 fq_10 gq_10 => ?_)
      refine lv_iload_n hx hb dX10_order_22 rfl (lv_at hl 1 rfl) ?_
      refine hx_iald hx hb hW hT gq_10 tt_83 rfl ⟨by omega, by omega⟩ dX10_order_23 (fun x_11 ex_11 lx_11 ux_11 => ?_)
      refine lv_iconst (v := -1) hx hb dX10_order_24 (by decide) ?_
      refine hb_icmp_ne (zx := x_11.toInt) (zy := (-1)) (tgt := 53) hx hb rfl (by decide) dX10_order_25 (by decide) (fun c_12 => ?_) (fun c_12 => ?_)
      · skip
        refine lv_iconst (v := -1) hx hb dX10_order_53 (by decide) ?_
        exact hx_reti hx hb hr hlk hW ⟨trivial, hT, hM⟩ dX10_order_54
      · skip
        refine lv_aload_n hx hb dX10_order_28 rfl (lv_at hl 0 rfl) ?_
        refine hx_getn hx hb hts hC_10 hown hW hT (gx.S hM) tt_10 27 (by decide) rfl kw_1170 ⟨rfl, rfl, rfl⟩ dX10_order_29 (fun q_13 fq_13 gq_13 => ?_)
        refine lv_aload_n hx hb dX10_order_32 rfl (lv_at hl 0 rfl) ?_
        refine hx_getn hx hb hts hC_10 hown hW hT (gx.S hM) tt_10 38 (by decide) rfl kw_1181 ⟨rfl, rfl, rfl⟩ dX10_order_33 (fun q_14 fq_14 gq_14 => ?_)
        refine lv_iload_n hx hb dX10_order_36 rfl (lv_at hl 1 rfl) ?_
        refine hx_iald hx hb hW hT gq_14 tt_73 rfl ⟨by omega, by omega⟩ dX10_order_37 (fun x_15 ex_15 lx_15 ux_15 => ?_)
        refine hx_zald hx hb hW hT gq_13 tt_64 rfl ⟨by omega, by omega⟩ dX10_order_38 (fun x_16 ex_16 lx_16 ux_16 => ?_)
        refine hb_if_ne (zx := x_16.toInt) (tgt := 53) hx hb rfl dX10_order_39 (by decide) (fun c_17 => ?_) (fun c_17 => ?_)
        · skip
          refine lv_iconst (v := -1) hx hb dX10_order_53 (by decide) ?_
          exact hx_reti hx hb hr hlk hW ⟨trivial, hT, hM⟩ dX10_order_54
        · skip
          refine lv_iload_n hx hb dX10_order_42 rfl (lv_at hl 2 rfl) ?_
          refine lv_iconst (v := 1) hx hb dX10_order_43 (by decide) ?_
          refine lv_sipush (v := 9999) hx hb dX10_order_44 (by decide) ?_
          have zc_9999 : (9999 : Int32).toInt = 9999 := by decide
          have zc_1 : (1 : Int32).toInt = 1 := by decide
          refine hx_goi (hx_runS (As := [.int i2, .int (1 : Int32), .int (9999 : Int32)]) (rest := []) ⟨hx, hb, hml, hown, hts⟩ hW (t_X10_in l dC dI dA L_1 h_2 H.size i2 (1 : Int32) (9999 : Int32) hT) (va_cwS 3 hts (hx_gS kw_1445 kw_1443 kw_1444 kw_103) rfl rfl rfl (by decide +kernel) ⟨Nat.le_of_ble_eq_true rfl, Nat.le_of_ble_eq_true rfl⟩) rfl hl.1 rfl (Nat.le_of_ble_eq_true rfl) dX10_order_47 ⟨Nat.le_of_ble_eq_true rfl, Nat.le_of_ble_eq_true rfl⟩) hW (fun r_20 L_18 h_19 H locs p_21 hW => ?_)
          obtain ⟨hr_22, hT, hs⟩ := p_21
          replace hT : hx_T T_tb L_18 h_19 := hT
          replace hs : hx_S T_tb [] L_1 h_2 L_18 h_19 := hs
          replace fq_7 := (hs.o (gx.S hM) trivial rfl).2.trans fq_7
          replace fq_10 := (hs.o (gx.S hM) trivial rfl).2.trans fq_10
          replace fq_13 := (hs.o (gx.S hM) trivial rfl).2.trans fq_13
          replace fq_14 := (hs.o (gx.S hM) trivial rfl).2.trans fq_14
          replace ex_8 := ex_8.trans (hs.a gq_7 rfl _).1.symm
          replace ex_11 := ex_11.trans (hs.a gq_10 rfl _).1.symm
          replace ex_15 := ex_15.trans (hs.a gq_14 rfl _).1.symm
          replace ex_16 := ex_16.trans (hs.a gq_13 rfl _).1.symm
          replace hM := hM.tr (hs.mono (by decide))
          replace gq_7 := gq_7.S hs
          replace gq_10 := gq_10.S hs
          replace gq_13 := gq_13.S hs
          replace gq_14 := gq_14.S hs
          refine hb_if_ne (zx := r_20.toInt) (tgt := 55) hx hb rfl dX10_order_50 (by decide) (fun c_23 => ?_) (fun c_23 => ?_)
          · skip
            replace hr_22 := hr_22.resolve_left (fun z9 => c_23 z9.1)
            replace c_23 := hr_22.1
            replace hr_22 := hr_22.2
            refine lv_aload_n hx hb dX10_order_55 rfl (lv_at hl 0 rfl) ?_
            refine hk_getr hx hb hts hC_10 hown hW (gx.S hM) tt_10 44 (by decide) rfl kw_1187 ⟨rfl, rfl, rfl⟩ ((hM.o gx trivial rfl).2.trans f_x_44) dX10_order_56 ?_
            refine lv_iload_n hx hb dX10_order_59 rfl (lv_at hl 1 rfl) ?_
            refine hx_iald hx hb hW hT (gqc.S hM) tt_79 rfl ⟨by omega, by omega⟩ dX10_order_60 (fun x_24 ex_24 lx_24 ux_24 => ?_)
            have ax_24 : x_24 = plf i1.toNatClampNeg := ex_24.trans (congrFun (hx_afS hM gqc rfl af_qc) _)
            refine lv_istore_n (lv' := [(3, .int x_24), (0, .ref x), (1, .int i1), (2, .int i2)]) hx hb dX10_order_61 rfl hl (by decide) rfl (fun ls hl => ?_)
            have hpl := hPL i1.toInt (by omega) (by omega)
            have hpl2 : x_24.toInt ≤ a0.toInt := by rw [ax_24]; exact hpl.2
            refine lv_aload_n hx hb dX10_order_62 rfl (lv_at hl 1 rfl) ?_
            refine hx_getn hx hb hts hC_10 hown hW hT (gx.S hM) tt_10 39 (by decide) rfl kw_1182 ⟨rfl, rfl, rfl⟩ dX10_order_63 (fun q_25 fq_25 gq_25 => ?_)
            refine lv_iload_n hx hb dX10_order_66 rfl (lv_at hl 2 rfl) ?_
            refine hx_iald hx hb hW hT gq_25 tt_74 rfl ⟨by omega, by omega⟩ dX10_order_67 (fun x_26 ex_26 lx_26 ux_26 => ?_)
            refine lv_aload_n hx hb dX10_order_68 rfl (lv_at hl 1 rfl) ?_
            refine hx_getn hx hb hts hC_10 hown hW hT (gx.S hM) tt_10 45 (by decide) rfl kw_1188 ⟨rfl, rfl, rfl⟩ dX10_order_69 (fun q_27 fq_27 gq_27 => ?_)
            refine lv_iload_n hx hb dX10_order_72 rfl (lv_at hl 2 rfl) ?_
            refine hx_iald hx hb hW hT gq_27 tt_80 rfl ⟨by omega, by omega⟩ dX10_order_73 (fun x_28 ex_28 lx_28 ux_28 => ?_)
            refine lv_aload_n hx hb dX10_order_74 rfl (lv_at hl 1 rfl) ?_
            refine lv_iload_n hx hb dX10_order_75 rfl (lv_at hl 0 rfl) ?_
            refine lv_bipush (v := 9) hx hb dX10_order_76 (by decide) ?_
            have zc_9 : (9 : Int32).toInt = 9 := by decide
            refine hx_goi (hx_runV (As := [.int x_24, .int (9 : Int32)]) (rest := [.int x_28, .int x_26]) ⟨hx, hb, hml, hown, hts⟩ hW (gx.S hM) tt_10 (T := TX10) (N := 98) rfl (t_X10_ruleOf_2 l dC dI dA L_18 h_19 H.size x x_24 (9 : Int32) hT (gx.S hM) ql (gql.S hM) ((hM.o gx trivial rfl).2.trans f_x_3) rf (hx_afS hM gql rfl af_ql) ⟨by omega, by omega⟩ (by decide)) (cwV 2 hts (hx_gV kw_1533 kw_1530 kw_1532 kw_66 kw_103) rfl rfl rfl (by decide +kernel) ⟨Nat.le_of_ble_eq_true rfl, Nat.le_of_ble_eq_true rfl⟩) rfl hl.1 rfl (Nat.le_of_ble_eq_true rfl) dX10_order_78 ⟨Nat.le_of_ble_eq_true rfl, Nat.le_of_ble_eq_true rfl⟩) hW (fun r_31 L_29 h_30 H locs p_32 hW => ?_)
            obtain ⟨hr_33, hT, hs⟩ := p_32
            replace hT : hx_T T_tb L_29 h_30 := hT
            replace hs : hx_S T_tb [] L_18 h_19 L_29 h_30 := hs
            replace fq_7 := (hs.o (gx.S hM) trivial rfl).2.trans fq_7
            replace fq_10 := (hs.o (gx.S hM) trivial rfl).2.trans fq_10
            replace fq_13 := (hs.o (gx.S hM) trivial rfl).2.trans fq_13
            replace fq_14 := (hs.o (gx.S hM) trivial rfl).2.trans fq_14
            replace fq_25 := (hs.o (gx.S hM) trivial rfl).2.trans fq_25
            replace fq_27 := (hs.o (gx.S hM) trivial rfl).2.trans fq_27
            replace ex_8 := ex_8.trans (hs.a gq_7 rfl _).1.symm
            replace ex_11 := ex_11.trans (hs.a gq_10 rfl _).1.symm
            replace ex_15 := ex_15.trans (hs.a gq_14 rfl _).1.symm
            replace ex_16 := ex_16.trans (hs.a gq_13 rfl _).1.symm
            replace ex_24 := ex_24.trans (hs.a (gqc.S hM) rfl _).1.symm
            replace ex_26 := ex_26.trans (hs.a gq_25 rfl _).1.symm
            replace ex_28 := ex_28.trans (hs.a gq_27 rfl _).1.symm
            replace hM := hM.tr (hs.mono (by decide))
            replace gq_7 := gq_7.S hs
            replace gq_10 := gq_10.S hs
            replace gq_13 := gq_13.S hs
            replace gq_14 := gq_14.S hs
            replace gq_25 := gq_25.S hs
            replace gq_27 := gq_27.S hs
            have hc9 : r_31.toInt ≤ 999 := by rw [hr_33.2.2]; exact hx_WK_c (k := (9 : Int32).toInt) hWK (by omega) hpl2 (by decide) (by decide)
            refine lv_imul hx hb dX10_order_81 ?_
            refine lv_topi (fun x_34 ex_34 => ?_)
            have zx_34 : 0 ≤ x_34.toInt ∧ x_34.toInt ≤ 511488 := by rw [ex_34]; exact hx_mulb (A := 512) (B := 999) (by omega) (by omega) (by omega) (by omega) (by decide)
            refine lv_iadd hx hb dX10_order_82 ?_
            have rg_35 := i32_r x_26
            have rg_36 := i32_r x_34
            refine lv_topi (fun x_37 ex_37 => ?_)
            have zx_37 : x_37.toInt = x_26.toInt + x_34.toInt := by rw [ex_37]; exact i32_add rfl rfl (by omega) (by omega)
            refine lv_aload_n hx hb dX10_order_83 rfl (lv_at hl 1 rfl) ?_
            refine lv_iload_n hx hb dX10_order_84 rfl (lv_at hl 0 rfl) ?_
            refine lv_bipush (v := 10) hx hb dX10_order_85 (by decide) ?_
            have zc_10 : (10 : Int32).toInt = 10 := by decide
            refine hx_goi (hx_runV (As := [.int x_24, .int (10 : Int32)]) (rest := [.int x_37]) ⟨hx, hb, hml, hown, hts⟩ hW (gx.S hM) tt_10 (T := TX10) (N := 98) rfl (t_X10_ruleOf_2 l dC dI dA L_29 h_30 H.size x x_24 (10 : Int32) hT (gx.S hM) ql (gql.S hM) ((hM.o gx trivial rfl).2.trans f_x_3) rf (hx_afS hM gql rfl af_ql) ⟨by omega, by omega⟩ (by decide)) (cwV 2 hts (hx_gV kw_1533 kw_1530 kw_1532 kw_66 kw_103) rfl rfl rfl (by decide +kernel) ⟨Nat.le_of_ble_eq_true rfl, Nat.le_of_ble_eq_true rfl⟩) rfl hl.1 rfl (Nat.le_of_ble_eq_true rfl) dX10_order_87 ⟨Nat.le_of_ble_eq_true rfl, Nat.le_of_ble_eq_true rfl⟩) hW (fun r_40 L_38 h_39 H locs p_41 hW => ?_)
            obtain ⟨hr_42, hT, hs⟩ := p_41
            replace hT : hx_T T_tb L_38 h_39 := hT
            replace hs : hx_S T_tb [] L_29 h_30 L_38 h_39 := hs
            replace fq_7 := (hs.o (gx.S hM) trivial rfl).2.trans fq_7
            replace fq_10 := (hs.o (gx.S hM) trivial rfl).2.trans fq_10
            replace fq_13 := (hs.o (gx.S hM) trivial rfl).2.trans fq_13
            replace fq_14 := (hs.o (gx.S hM) trivial rfl).2.trans fq_14
            replace fq_25 := (hs.o (gx.S hM) trivial rfl).2.trans fq_25
            replace fq_27 := (hs.o (gx.S hM) trivial rfl).2.trans fq_27
            replace ex_8 := ex_8.trans (hs.a gq_7 rfl _).1.symm
            replace ex_11 := ex_11.trans (hs.a gq_10 rfl _).1.symm
            replace ex_15 := ex_15.trans (hs.a gq_14 rfl _).1.symm
            replace ex_16 := ex_16.trans (hs.a gq_13 rfl _).1.symm
            replace ex_24 := ex_24.trans (hs.a (gqc.S hM) rfl _).1.symm
            replace ex_26 := ex_26.trans (hs.a gq_25 rfl _).1.symm
            replace ex_28 := ex_28.trans (hs.a gq_27 rfl _).1.symm
            replace hM := hM.tr (hs.mono (by decide))
            replace gq_7 := gq_7.S hs
            replace gq_10 := gq_10.S hs
            replace gq_13 := gq_13.S hs
            replace gq_14 := gq_14.S hs
            replace gq_25 := gq_25.S hs
            replace gq_27 := gq_27.S hs
            have hc10 : r_40.toInt ≤ 999 := by rw [hr_42.2.2]; exact hx_WK_c (k := (10 : Int32).toInt) hWK (by omega) hpl2 (by decide) (by decide)
            refine lv_iadd hx hb dX10_order_90 ?_
            have rg_43 := i32_r x_37
            have rg_44 := i32_r r_40
            refine lv_topi (fun x_45 ex_45 => ?_)
            have zx_45 : x_45.toInt = x_37.toInt + r_40.toInt := by rw [ex_45]; exact i32_add rfl rfl (by omega) (by omega)
            refine lv_aload_n hx hb dX10_order_91 rfl (lv_at hl 1 rfl) ?_
            refine lv_iload_n hx hb dX10_order_92 rfl (lv_at hl 0 rfl) ?_
            refine lv_bipush (v := 11) hx hb dX10_order_93 (by decide) ?_
            have zc_11 : (11 : Int32).toInt = 11 := by decide
            refine hx_goi (hx_runV (As := [.int x_24, .int (11 : Int32)]) (rest := [.int x_45]) ⟨hx, hb, hml, hown, hts⟩ hW (gx.S hM) tt_10 (T := TX10) (N := 98) rfl (t_X10_ruleOf_2 l dC dI dA L_38 h_39 H.size x x_24 (11 : Int32) hT (gx.S hM) ql (gql.S hM) ((hM.o gx trivial rfl).2.trans f_x_3) rf (hx_afS hM gql rfl af_ql) ⟨by omega, by omega⟩ (by decide)) (cwV 2 hts (hx_gV kw_1533 kw_1530 kw_1532 kw_66 kw_103) rfl rfl rfl (by decide +kernel) ⟨Nat.le_of_ble_eq_true rfl, Nat.le_of_ble_eq_true rfl⟩) rfl hl.1 rfl (Nat.le_of_ble_eq_true rfl) dX10_order_95 ⟨Nat.le_of_ble_eq_true rfl, Nat.le_of_ble_eq_true rfl⟩) hW (fun r_48 L_46 h_47 H locs p_49 hW => ?_)
            obtain ⟨hr_50, hT, hs⟩ := p_49
            replace hT : hx_T T_tb L_46 h_47 := hT
            replace hs : hx_S T_tb [] L_38 h_39 L_46 h_47 := hs
            replace fq_7 := (hs.o (gx.S hM) trivial rfl).2.trans fq_7
            replace fq_10 := (hs.o (gx.S hM) trivial rfl).2.trans fq_10
            replace fq_13 := (hs.o (gx.S hM) trivial rfl).2.trans fq_13
            replace fq_14 := (hs.o (gx.S hM) trivial rfl).2.trans fq_14
            replace fq_25 := (hs.o (gx.S hM) trivial rfl).2.trans fq_25
            replace fq_27 := (hs.o (gx.S hM) trivial rfl).2.trans fq_27
            replace ex_8 := ex_8.trans (hs.a gq_7 rfl _).1.symm
            replace ex_11 := ex_11.trans (hs.a gq_10 rfl _).1.symm
            replace ex_15 := ex_15.trans (hs.a gq_14 rfl _).1.symm
            replace ex_16 := ex_16.trans (hs.a gq_13 rfl _).1.symm
            replace ex_24 := ex_24.trans (hs.a (gqc.S hM) rfl _).1.symm
            replace ex_26 := ex_26.trans (hs.a gq_25 rfl _).1.symm
            replace ex_28 := ex_28.trans (hs.a gq_27 rfl _).1.symm
            replace hM := hM.tr (hs.mono (by decide))
            replace gq_7 := gq_7.S hs
            replace gq_10 := gq_10.S hs
            replace gq_13 := gq_13.S hs
            replace gq_14 := gq_14.S hs
            replace gq_25 := gq_25.S hs
            replace gq_27 := gq_27.S hs
            have hc11 : r_48.toInt ≤ 999 := by rw [hr_50.2.2]; exact hx_WK_c (k := (11 : Int32).toInt) hWK (by omega) hpl2 (by decide) (by decide)
            refine lv_iadd hx hb dX10_order_98 ?_
            have rg_51 := i32_r x_45
            have rg_52 := i32_r r_48
            refine lv_topi (fun x_53 ex_53 => ?_)
            have zx_53 : x_53.toInt = x_45.toInt + r_48.toInt := by rw [ex_53]; exact i32_add rfl rfl (by omega) (by omega)
            refine lv_istore (lv' := [(4, .int x_53), (3, .int x_24), (0, .ref x), (1, .int i1), (2, .int i2)]) hx hb dX10_order_99 hl (by decide) rfl (fun ls hl => ?_)
            refine lv_iload_n hx hb dX10_order_101 rfl (lv_at hl 4 rfl) ?_
            refine lv_aload_n hx hb dX10_order_102 rfl (lv_at hl 2 rfl) ?_
            refine lv_iload_n hx hb dX10_order_103 rfl (lv_at hl 1 rfl) ?_
            refine lv_iconst (v := 2) hx hb dX10_order_104 (by decide) ?_
            have zc_2 : (2 : Int32).toInt = 2 := by decide
            refine hx_goi (hx_runV (As := [.int x_24, .int (2 : Int32)]) (rest := [.int i2]) ⟨hx, hb, hml, hown, hts⟩ hW (gx.S hM) tt_10 (T := TX10) (N := 98) rfl (t_X10_ruleOf_2 l dC dI dA L_46 h_47 H.size x x_24 (2 : Int32) hT (gx.S hM) ql (gql.S hM) ((hM.o gx trivial rfl).2.trans f_x_3) rf (hx_afS hM gql rfl af_ql) ⟨by omega, by omega⟩ (by decide)) (cwV 2 hts (hx_gV kw_1533 kw_1530 kw_1532 kw_66 kw_103) rfl rfl rfl (by decide +kernel) ⟨Nat.le_of_ble_eq_true rfl, Nat.le_of_ble_eq_true rfl⟩) rfl hl.1 rfl (Nat.le_of_ble_eq_true rfl) dX10_order_105 ⟨Nat.le_of_ble_eq_true rfl, Nat.le_of_ble_eq_true rfl⟩) hW (fun r_56 L_54 h_55 H locs p_57 hW => ?_)
            obtain ⟨hr_58, hT, hs⟩ := p_57
            replace hT : hx_T T_tb L_54 h_55 := hT
            replace hs : hx_S T_tb [] L_46 h_47 L_54 h_55 := hs
            replace fq_7 := (hs.o (gx.S hM) trivial rfl).2.trans fq_7
            replace fq_10 := (hs.o (gx.S hM) trivial rfl).2.trans fq_10
            replace fq_13 := (hs.o (gx.S hM) trivial rfl).2.trans fq_13
            replace fq_14 := (hs.o (gx.S hM) trivial rfl).2.trans fq_14
            replace fq_25 := (hs.o (gx.S hM) trivial rfl).2.trans fq_25
            replace fq_27 := (hs.o (gx.S hM) trivial rfl).2.trans fq_27
            replace ex_8 := ex_8.trans (hs.a gq_7 rfl _).1.symm
            replace ex_11 := ex_11.trans (hs.a gq_10 rfl _).1.symm
            replace ex_15 := ex_15.trans (hs.a gq_14 rfl _).1.symm
            replace ex_16 := ex_16.trans (hs.a gq_13 rfl _).1.symm
            replace ex_24 := ex_24.trans (hs.a (gqc.S hM) rfl _).1.symm
            replace ex_26 := ex_26.trans (hs.a gq_25 rfl _).1.symm
            replace ex_28 := ex_28.trans (hs.a gq_27 rfl _).1.symm
            replace hM := hM.tr (hs.mono (by decide))
            replace gq_7 := gq_7.S hs
            replace gq_10 := gq_10.S hs
            replace gq_13 := gq_13.S hs
            replace gq_14 := gq_14.S hs
            replace gq_25 := gq_25.S hs
            replace gq_27 := gq_27.S hs
            refine hb_icmp_ge (zx := i2.toInt) (zy := r_56.toInt) (tgt := 120) hx hb rfl rfl dX10_order_108 (by decide) (fun c_59 => ?_) (fun c_59 => ?_)
            · skip
              refine lv_iconst (v := 0) hx hb dX10_order_120 (by decide) ?_
              refine lv_istore (lv' := [(5, .int (0 : Int32)), (4, .int x_53), (3, .int x_24), (0, .ref x), (1, .int i1), (2, .int i2)]) hx hb dX10_order_121 hl (by decide) rfl (fun ls hl => ?_)
              refine lv_iconst (v := 0) hx hb dX10_order_123 (by decide) ?_
              refine lv_istore (lv' := [(6, .int (0 : Int32)), (5, .int (0 : Int32)), (4, .int x_53), (3, .int x_24), (0, .ref x), (1, .int i1), (2, .int i2)]) hx hb dX10_order_124 hl (by decide) rfl (fun ls hl => ?_)
              have loop126 : ∀ (n126 : Nat) (iv126_5 iv126_6 : Int32) (H : Heap) (locs : List Loc) (hL1 : List Nat) (hl1 : hx_h), -2147483648 ≤ iv126_5.toInt → iv126_5.toInt ≤ 2147483647 → 0 ≤ iv126_6.toInt → iv126_6.toInt ≤ 100 → ∀ (ls : Array Slot), 100 - iv126_6.toInt < (n126 : Int) → hx_W T_tb (P_ty dA) (dC, dI) vwCl (hx_A L sz) s.heap hL1 hl1 s H locs → hx_T T_tb hL1 hl1 → hx_S T_tb [(10, 67), (10, 68), (10, 69), (10, 70), (10, 71), (83, 0), (89, 0), (90, 0)] L h hL1 hl1 → hl1.2.2 x 51 = some q_7 → hl1.2.2 x 48 = some q_10 → hl1.2.2 x 27 = some q_13 → hl1.2.2 x 38 = some q_14 → hl1.2.2 x 39 = some q_25 → hl1.2.2 x 45 = some q_27 → hx_g hL1 hl1 q_7 86 → hx_g hL1 hl1 q_10 83 → hx_g hL1 hl1 q_13 64 → hx_g hL1 hl1 q_14 73 → hx_g hL1 hl1 q_25 74 → hx_g hL1 hl1 q_27 80 → lv_has ls 7 [(6, .int iv126_6), (5, .int iv126_5), (4, .int x_53), (3, .int x_24), (0, .ref x), (1, .int i1), (2, .int i2)] → W p l e ({ frames := 3, cells := 0, slots := 0, locals := 71 }) s m ([.ref x, .int i1, .int i2] : List Value).toArray below meth c H locs 0 0 (MQ below (va_Qi (fun (r : Int32) (u : List Nat × hx_h) => (True) ∧ hx_T T_tb u.1 u.2 ∧ hx_S T_tb [(10, 67), (10, 68), (10, 69), (10, 70), (10, 71), (83, 0), (89, 0), (90, 0)] L h u.1 u.2) (hx_E T_tb (P_ty dA) (dC, dI) vwCl (hx_A L sz)) (hx_A L sz)) ([.ref x, .int i1, .int i2] : List Value).toArray s 0 0 (hx_A L sz)) (F0 m 126 ls []) := by
                intro n126
                induction n126 with
                | zero => intro iv126_5 iv126_6 H locs hL1 hl1 bliv126_5 buiv126_5 bliv126_6 buiv126_6  ls hn126; exfalso; omega
                | succ n126 ih126 =>
                  intro iv126_5 iv126_6 H locs hL1 hl1 bliv126_5 buiv126_5 bliv126_6 buiv126_6  ls hn126 hW hT hM fq_7 fq_10 fq_13 fq_14 fq_25 fq_27 gq_7 gq_10 gq_13 gq_14 gq_25 gq_27 hl
                  refine lv_iload hx hb dX10_order_126 (lv_at hl 0 rfl) ?_
                  refine lv_aload_n hx hb dX10_order_128 rfl (lv_at hl 4 rfl) ?_
                  refine hk_geti hx hb hts hC_10 hown hW (gx.S hM) tt_10 36 (by decide) rfl kw_1179 ⟨rfl, rfl, rfl⟩ ((hM.o gx trivial rfl).1.trans f_x_36) dX10_order_129 ?_
                  refine hb_icmp_ge (zx := iv126_6.toInt) (zy := c0.toInt) (tgt := 182) hx hb rfl rfl dX10_order_132 (by decide) (fun c_60 => ?_) (fun c_60 => ?_)
                  · skip
                    refine lv_iload_n hx hb dX10_order_182 rfl (lv_at hl 6 rfl) ?_
                    refine lv_iload hx hb dX10_order_183 (lv_at hl 1 rfl) ?_
                    refine lv_iadd hx hb dX10_order_185 ?_
                    have rg_61 := i32_r i2
                    have rg_62 := i32_r iv126_5
                    refine lv_topi (fun x_63 ex_63 => ?_)
                    refine lv_aload_n hx hb dX10_order_186 rfl (lv_at hl 4 rfl) ?_
                    refine lv_aload_n hx hb dX10_order_187 rfl (lv_at hl 4 rfl) ?_
                    refine hk_getr hx hb hts hC_10 hown hW (gx.S hM) tt_10 38 (by decide) rfl kw_1181 ⟨rfl, rfl, rfl⟩ fq_14 dX10_order_188 ?_
                    refine lv_iload_n hx hb dX10_order_191 rfl (lv_at hl 5 rfl) ?_
                    refine hx_iald hx hb hW hT gq_14 tt_73 rfl ⟨by omega, by omega⟩ dX10_order_192 (fun x_64 ex_64 lx_64 ux_64 => ?_)
                    refine lv_iload_n hx hb dX10_order_193 rfl (lv_at hl 3 rfl) ?_
                    refine hx_goi (hx_runV (As := [.int x_64, .int x_24]) (rest := [.int x_63]) ⟨hx, hb, hml, hown, hts⟩ hW (gx.S hM) tt_10 (T := TX10) (N := 98) rfl (t_X10_means l dC dI dA hL1 hl1 H.size x x_64 x_24 hT (gx.S hM) ⟨by omega, by omega⟩ ⟨by omega, by omega⟩) (cwV 2 hts (hx_gV kw_1645 kw_1642 kw_1644 kw_83 kw_103) rfl rfl rfl (by decide +kernel) ⟨Nat.le_of_ble_eq_true rfl, Nat.le_of_ble_eq_true rfl⟩) rfl hl.1 rfl (Nat.le_of_ble_eq_true rfl) dX10_order_194 ⟨Nat.le_of_ble_eq_true rfl, Nat.le_of_ble_eq_true rfl⟩) hW (fun r_67 L_65 h_66 H locs p_68 hW => ?_)
                    obtain ⟨hr_69, hT, hs⟩ := p_68
                    replace hT : hx_T T_tb L_65 h_66 := hT
                    replace hs : hx_S T_tb [] hL1 hl1 L_65 h_66 := hs
                    replace fq_7 := (hs.o (gx.S hM) trivial rfl).2.trans fq_7
                    replace fq_10 := (hs.o (gx.S hM) trivial rfl).2.trans fq_10
                    replace fq_13 := (hs.o (gx.S hM) trivial rfl).2.trans fq_13
                    replace fq_14 := (hs.o (gx.S hM) trivial rfl).2.trans fq_14
                    replace fq_25 := (hs.o (gx.S hM) trivial rfl).2.trans fq_25
                    replace fq_27 := (hs.o (gx.S hM) trivial rfl).2.trans fq_27
                    replace ex_64 := ex_64.trans (hs.a gq_14 rfl _).1.symm
                    replace hM := hM.tr (hs.mono (by decide))
                    replace gq_7 := gq_7.S hs
                    replace gq_10 := gq_10.S hs
                    replace gq_13 := gq_13.S hs
                    replace gq_14 := gq_14.S hs
                    replace gq_25 := gq_25.S hs
                    replace gq_27 := gq_27.S hs
                    refine hb_icmp_le (zx := x_63.toInt) (zy := r_67.toInt) (tgt := 203) hx hb rfl rfl dX10_order_197 (by decide) (fun c_70 => ?_) (fun c_70 => ?_)
                    · skip
                      refine lv_aload_n hx hb dX10_order_203 rfl (lv_at hl 4 rfl) ?_
                      refine hk_getr hx hb hts hC_10 hown hW (gx.S hM) tt_10 48 (by decide) rfl kw_1191 ⟨rfl, rfl, rfl⟩ fq_10 dX10_order_204 ?_
                      refine lv_iload_n hx hb dX10_order_207 rfl (lv_at hl 5 rfl) ?_
                      refine lv_aload_n hx hb dX10_order_208 rfl (lv_at hl 4 rfl) ?_
                      refine hx_geti hx hb hts hC_10 hown hW hT (gx.S hM) tt_10 0 (by decide) rfl kw_1143 ⟨rfl, rfl, rfl⟩ dX10_order_209 (fun x_71 ex_71 lx_71 ux_71 => ?_)
                      have fx_71 := ex_71.symm
                      refine hx_iast hx hb hW hT (hx_S.rf (M := [(83, 0)])) gq_10 tt_83 rfl ⟨by omega, by omega⟩ rfl (i32_r _) (List.mem_singleton.mpr rfl) dX10_order_212 (fun H locs h_72 eh_72 hW hT hs => ?_)
                      replace fq_7 := (hs.o (gx.S hM) trivial rfl).2.trans fq_7
                      replace fq_10 := (hs.o (gx.S hM) trivial rfl).2.trans fq_10
                      replace fq_13 := (hs.o (gx.S hM) trivial rfl).2.trans fq_13
                      replace fq_14 := (hs.o (gx.S hM) trivial rfl).2.trans fq_14
                      replace fq_25 := (hs.o (gx.S hM) trivial rfl).2.trans fq_25
                      replace fq_27 := (hs.o (gx.S hM) trivial rfl).2.trans fq_27
                      replace fx_71 := (hs.o (gx.S hM) trivial rfl).1.trans fx_71
                      replace ex_64 := ex_64.trans (hs.a gq_14 rfl _).1.symm
                      replace hM := hM.tr (hs.mono (by decide))
                      replace gq_7 := gq_7.S hs
                      replace gq_10 := gq_10.S hs
                      replace gq_13 := gq_13.S hs
                      replace gq_14 := gq_14.S hs
                      replace gq_25 := gq_25.S hs
                      replace gq_27 := gq_27.S hs
                      refine lv_aload_n hx hb dX10_order_213 rfl (lv_at hl 4 rfl) ?_
                      refine hx_getn hx hb hts hC_10 hown hW hT (gx.S hM) tt_10 54 (by decide) rfl kw_1197 ⟨rfl, rfl, rfl⟩ dX10_order_214 (fun q_73 fq_73 gq_73 => ?_)
                      refine lv_iload_n hx hb dX10_order_217 rfl (lv_at hl 5 rfl) ?_
                      refine lv_iload_n hx hb dX10_order_218 rfl (lv_at hl 6 rfl) ?_
                      refine hx_iast hx hb hW hT (hx_S.rf (M := [(89, 0)])) gq_73 tt_89 rfl ⟨by omega, by omega⟩ rfl (i32_r _) (List.mem_singleton.mpr rfl) dX10_order_219 (fun H locs h_74 eh_74 hW hT hs => ?_)
                      replace fq_7 := (hs.o (gx.S hM) trivial rfl).2.trans fq_7
                      replace fq_10 := (hs.o (gx.S hM) trivial rfl).2.trans fq_10
                      replace fq_13 := (hs.o (gx.S hM) trivial rfl).2.trans fq_13
                      replace fq_14 := (hs.o (gx.S hM) trivial rfl).2.trans fq_14
                      replace fq_25 := (hs.o (gx.S hM) trivial rfl).2.trans fq_25
                      replace fq_27 := (hs.o (gx.S hM) trivial rfl).2.trans fq_27
                      replace fx_71 := (hs.o (gx.S hM) trivial rfl).1.trans fx_71
                      replace fq_73 := (hs.o (gx.S hM) trivial rfl).2.trans fq_73
                      replace ex_64 := ex_64.trans (hs.a gq_14 rfl _).1.symm
                      replace hM := hM.tr (hs.mono (by decide))
                      replace gq_7 := gq_7.S hs
                      replace gq_10 := gq_10.S hs
                      replace gq_13 := gq_13.S hs
                      replace gq_14 := gq_14.S hs
                      replace gq_25 := gq_25.S hs
                      replace gq_27 := gq_27.S hs
                      replace gq_73 := gq_73.S hs
                      refine lv_aload_n hx hb dX10_order_220 rfl (lv_at hl 4 rfl) ?_
                      refine hx_getn hx hb hts hC_10 hown hW hT (gx.S hM) tt_10 55 (by decide) rfl kw_1198 ⟨rfl, rfl, rfl⟩ dX10_order_221 (fun q_75 fq_75 gq_75 => ?_)
                      refine lv_iload_n hx hb dX10_order_224 rfl (lv_at hl 5 rfl) ?_
                      refine lv_iload hx hb dX10_order_225 (lv_at hl 2 rfl) ?_
                      refine hx_iast hx hb hW hT (hx_S.rf (M := [(90, 0)])) gq_75 tt_90 rfl ⟨by omega, by omega⟩ rfl ⟨by omega, by omega⟩ (List.mem_singleton.mpr rfl) dX10_order_227 (fun H locs h_76 eh_76 hW hT hs => ?_)
                      replace fq_7 := (hs.o (gx.S hM) trivial rfl).2.trans fq_7
                      replace fq_10 := (hs.o (gx.S hM) trivial rfl).2.trans fq_10
                      replace fq_13 := (hs.o (gx.S hM) trivial rfl).2.trans fq_13
                      replace fq_14 := (hs.o (gx.S hM) trivial rfl).2.trans fq_14
                      replace fq_25 := (hs.o (gx.S hM) trivial rfl).2.trans fq_25
                      replace fq_27 := (hs.o (gx.S hM) trivial rfl).2.trans fq_27
                      replace fx_71 := (hs.o (gx.S hM) trivial rfl).1.trans fx_71
                      replace fq_73 := (hs.o (gx.S hM) trivial rfl).2.trans fq_73
                      replace fq_75 := (hs.o (gx.S hM) trivial rfl).2.trans fq_75
                      replace ex_64 := ex_64.trans (hs.a gq_14 rfl _).1.symm
                      replace hM := hM.tr (hs.mono (by decide))
                      replace gq_7 := gq_7.S hs
                      replace gq_10 := gq_10.S hs
                      replace gq_13 := gq_13.S hs
                      replace gq_14 := gq_14.S hs
                      replace gq_25 := gq_25.S hs
                      replace gq_27 := gq_27.S hs
                      replace gq_73 := gq_73.S hs
                      replace gq_75 := gq_75.S hs
                      refine lv_iload hx hb dX10_order_228 (lv_at hl 2 rfl) ?_
                      exact hx_reti hx hb hr hlk hW ⟨trivial, hT, hM⟩ dX10_order_230
                    · skip
                      refine lv_bipush (v := -3) hx hb dX10_order_200 (by decide) ?_
                      exact hx_reti hx hb hr hlk hW ⟨trivial, hT, hM⟩ dX10_order_202
                  · skip
                    refine lv_iload hx hb dX10_order_135 (lv_at hl 1 rfl) ?_
                    refine lv_aload_n hx hb dX10_order_137 rfl (lv_at hl 4 rfl) ?_
                    refine hk_getr hx hb hts hC_10 hown hW (gx.S hM) tt_10 38 (by decide) rfl kw_1181 ⟨rfl, rfl, rfl⟩ fq_14 dX10_order_138 ?_
                    refine lv_iload hx hb dX10_order_141 (lv_at hl 0 rfl) ?_
                    refine hx_iald hx hb hW hT gq_14 tt_73 rfl ⟨by omega, by omega⟩ dX10_order_143 (fun x_77 ex_77 lx_77 ux_77 => ?_)
                    refine lv_aload_n hx hb dX10_order_144 rfl (lv_at hl 4 rfl) ?_
                    refine hk_getr hx hb hts hC_10 hown hW (gx.S hM) tt_10 38 (by decide) rfl kw_1181 ⟨rfl, rfl, rfl⟩ fq_14 dX10_order_145 ?_
                    refine lv_iload_n hx hb dX10_order_148 rfl (lv_at hl 5 rfl) ?_
                    refine hx_iald hx hb hW hT gq_14 tt_73 rfl ⟨by omega, by omega⟩ dX10_order_149 (fun x_78 ex_78 lx_78 ux_78 => ?_)
                    refine hb_icmp_ne (zx := x_77.toInt) (zy := x_78.toInt) (tgt := 172) hx hb rfl rfl dX10_order_150 (by decide) (fun c_79 => ?_) (fun c_79 => ?_)
                    · skip
                      refine lv_iconst (v := 0) hx hb dX10_order_172 (by decide) ?_
                      refine lv_iadd hx hb dX10_order_173 ?_
                      have rg_80 := i32_r iv126_5
                      refine lv_topi (fun x_81 ex_81 => ?_)
                      refine lv_istore (lv' := [(5, .int x_81), (6, .int iv126_6), (4, .int x_53), (3, .int x_24), (0, .ref x), (1, .int i1), (2, .int i2)]) hx hb dX10_order_174 hl (by decide) rfl (fun ls hl => ?_)
                      obtain ⟨x_82, ex_82⟩ : ∃ y : Int32, y = iv126_6 + Int32.ofInt 1 := ⟨_, rfl⟩
                      have rg_83 := i32_r iv126_6
                      have zx_82 : x_82.toInt = iv126_6.toInt + (1) := by rw [ex_82]; exact i32_add rfl (by decide) (by omega) (by omega)
                      refine lv_iinc (v := x_82) (lv' := [(6, .int x_82), (5, .int x_81), (4, .int x_53), (3, .int x_24), (0, .ref x), (1, .int i1), (2, .int i2)]) hx hb dX10_order_176 hl (k := 1) rfl ex_82.symm (by decide) rfl (fun ls hl => ?_)
                      refine lv_goto (tgt := 126) hx hb dX10_order_179 (by decide) ?_
                      exact ih126 x_81 x_82 _ _ hL1 hl1 (i32_r _).1 (i32_r _).2 (by omega) (by omega)  ls (by omega) hW hT hM fq_7 fq_10 fq_13 fq_14 fq_25 fq_27 gq_7 gq_10 gq_13 gq_14 gq_25 gq_27 (lv_sub hl [0, 1, 2, 3, 4, 5, 6] rfl)
                    · skip
                      refine lv_aload_n hx hb dX10_order_153 rfl (lv_at hl 4 rfl) ?_
                      refine lv_iload hx hb dX10_order_154 (lv_at hl 0 rfl) ?_
                      refine hx_goi (hx_runV (As := [.int iv126_6]) (rest := [.int iv126_5]) ⟨hx, hb, hml, hown, hts⟩ hW (gx.S hM) tt_10 (T := TX10) (N := 98) rfl (t_X10_isOpen l dC dI dA hL1 hl1 H.size x iv126_6 hT (gx.S hM) ⟨by omega, by omega⟩) (cwV 1 hts (hx_gV kw_1637 kw_1634 kw_1636 kw_81 kw_103) rfl rfl rfl (by decide +kernel) ⟨Nat.le_of_ble_eq_true rfl, Nat.le_of_ble_eq_true rfl⟩) rfl hl.1 rfl (Nat.le_of_ble_eq_true rfl) dX10_order_156 ⟨Nat.le_of_ble_eq_true rfl, Nat.le_of_ble_eq_true rfl⟩) hW (fun r_86 L_84 h_85 H locs p_87 hW => ?_)
                      obtain ⟨⟨w_89, fw_89, hr_88⟩, hT, hs⟩ := p_87
                      replace hT : hx_T T_tb L_84 h_85 := hT
                      replace hs : hx_S T_tb [(10, 67), (10, 68), (10, 69), (10, 70), (10, 71)] hL1 hl1 L_84 h_85 := hs
                      replace fq_7 := (hs.o (gx.S hM) trivial rfl).2.trans fq_7
                      replace fq_10 := (hs.o (gx.S hM) trivial rfl).2.trans fq_10
                      replace fq_13 := (hs.o (gx.S hM) trivial rfl).2.trans fq_13
                      replace fq_14 := (hs.o (gx.S hM) trivial rfl).2.trans fq_14
                      replace fq_25 := (hs.o (gx.S hM) trivial rfl).2.trans fq_25
                      replace fq_27 := (hs.o (gx.S hM) trivial rfl).2.trans fq_27
                      replace ex_77 := ex_77.trans (hs.a gq_14 rfl _).1.symm
                      replace ex_78 := ex_78.trans (hs.a gq_14 rfl _).1.symm
                      replace hM := hM.tr (hs.mono (by decide))
                      replace gq_7 := gq_7.S hs
                      replace gq_10 := gq_10.S hs
                      replace gq_13 := gq_13.S hs
                      replace gq_14 := gq_14.S hs
                      replace gq_25 := gq_25.S hs
                      replace gq_27 := gq_27.S hs
                      have fw_89 : h_85.2.1 x 68 = w_89 := fw_89
                      have bw_89 := hT.gi (gx.S hM) tt_10 (k := 68) rfl
                      rw [fw_89] at bw_89
                      have bw_89 : 0 ≤ w_89.toInt ∧ w_89.toInt ≤ 610000 := bw_89
                      refine hb_if_eq (zx := r_86.toInt) (tgt := 172) hx hb rfl dX10_order_159 (by decide) (fun c_90 => ?_) (fun c_90 => ?_)
                      · skip
                        refine lv_iconst (v := 0) hx hb dX10_order_172 (by decide) ?_
                        refine lv_iadd hx hb dX10_order_173 ?_
                        have rg_91 := i32_r iv126_5
                        refine lv_topi (fun x_92 ex_92 => ?_)
                        refine lv_istore (lv' := [(5, .int x_92), (6, .int iv126_6), (4, .int x_53), (3, .int x_24), (0, .ref x), (1, .int i1), (2, .int i2)]) hx hb dX10_order_174 hl (by decide) rfl (fun ls hl => ?_)
                        obtain ⟨x_93, ex_93⟩ : ∃ y : Int32, y = iv126_6 + Int32.ofInt 1 := ⟨_, rfl⟩
                        have rg_94 := i32_r iv126_6
                        have zx_93 : x_93.toInt = iv126_6.toInt + (1) := by rw [ex_93]; exact i32_add rfl (by decide) (by omega) (by omega)
                        refine lv_iinc (v := x_93) (lv' := [(6, .int x_93), (5, .int x_92), (4, .int x_53), (3, .int x_24), (0, .ref x), (1, .int i1), (2, .int i2)]) hx hb dX10_order_176 hl (k := 1) rfl ex_93.symm (by decide) rfl (fun ls hl => ?_)
                        refine lv_goto (tgt := 126) hx hb dX10_order_179 (by decide) ?_
                        exact ih126 x_92 x_93 _ _ L_84 h_85 (i32_r _).1 (i32_r _).2 (by omega) (by omega)  ls (by omega) hW hT hM fq_7 fq_10 fq_13 fq_14 fq_25 fq_27 gq_7 gq_10 gq_13 gq_14 gq_25 gq_27 (lv_sub hl [0, 1, 2, 3, 4, 5, 6] rfl)
                      · skip
                        refine lv_aload_n hx hb dX10_order_162 rfl (lv_at hl 4 rfl) ?_
                        refine hx_getn hx hb hts hC_10 hown hW hT (gx.S hM) tt_10 54 (by decide) rfl kw_1197 ⟨rfl, rfl, rfl⟩ dX10_order_163 (fun q_95 fq_95 gq_95 => ?_)
                        refine lv_iload hx hb dX10_order_166 (lv_at hl 0 rfl) ?_
                        refine hx_iald hx hb hW hT gq_95 tt_89 rfl ⟨by omega, by omega⟩ dX10_order_168 (fun x_96 ex_96 lx_96 ux_96 => ?_)
                        refine lv_goto (tgt := 173) hx hb dX10_order_169 (by decide) ?_
                        refine lv_iadd hx hb dX10_order_173 ?_
                        have rg_97 := i32_r iv126_5
                        have rg_98 := i32_r x_96
                        refine lv_topi (fun x_99 ex_99 => ?_)
                        refine lv_istore (lv' := [(5, .int x_99), (6, .int iv126_6), (4, .int x_53), (3, .int x_24), (0, .ref x), (1, .int i1), (2, .int i2)]) hx hb dX10_order_174 hl (by decide) rfl (fun ls hl => ?_)
                        obtain ⟨x_100, ex_100⟩ : ∃ y : Int32, y = iv126_6 + Int32.ofInt 1 := ⟨_, rfl⟩
                        have rg_101 := i32_r iv126_6
                        have zx_100 : x_100.toInt = iv126_6.toInt + (1) := by rw [ex_100]; exact i32_add rfl (by decide) (by omega) (by omega)
                        refine lv_iinc (v := x_100) (lv' := [(6, .int x_100), (5, .int x_99), (4, .int x_53), (3, .int x_24), (0, .ref x), (1, .int i1), (2, .int i2)]) hx hb dX10_order_176 hl (k := 1) rfl ex_100.symm (by decide) rfl (fun ls hl => ?_)
                        refine lv_goto (tgt := 126) hx hb dX10_order_179 (by decide) ?_
                        exact ih126 x_99 x_100 _ _ L_84 h_85 (i32_r _).1 (i32_r _).2 (by omega) (by omega)  ls (by omega) hW hT hM fq_7 fq_10 fq_13 fq_14 fq_25 fq_27 gq_7 gq_10 gq_13 gq_14 gq_25 gq_27 (lv_sub hl [0, 1, 2, 3, 4, 5, 6] rfl)
              have zk_0 : (0 : Int32).toInt = 0 := by decide
              have zk_0 : (0 : Int32).toInt = 0 := by decide
              exact loop126 101 (0 : Int32) (0 : Int32) _ _ L_54 h_55 (by decide) (by decide) (by decide) (by decide)  ls (by omega) hW hT hM fq_7 fq_10 fq_13 fq_14 fq_25 fq_27 gq_7 gq_10 gq_13 gq_14 gq_25 gq_27 hl
            · skip
              refine lv_iload_n hx hb dX10_order_111 rfl (lv_at hl 4 rfl) ?_
              refine lv_iload hx hb dX10_order_112 (lv_at hl 0 rfl) ?_
              refine hb_icmp_ge (zx := i2.toInt) (zy := x_53.toInt) (tgt := 120) hx hb rfl rfl dX10_order_114 (by decide) (fun c_102 => ?_) (fun c_102 => ?_)
              · skip
                refine lv_iconst (v := 0) hx hb dX10_order_120 (by decide) ?_
                refine lv_istore (lv' := [(5, .int (0 : Int32)), (4, .int x_53), (3, .int x_24), (0, .ref x), (1, .int i1), (2, .int i2)]) hx hb dX10_order_121 hl (by decide) rfl (fun ls hl => ?_)
                refine lv_iconst (v := 0) hx hb dX10_order_123 (by decide) ?_
                refine lv_istore (lv' := [(6, .int (0 : Int32)), (5, .int (0 : Int32)), (4, .int x_53), (3, .int x_24), (0, .ref x), (1, .int i1), (2, .int i2)]) hx hb dX10_order_124 hl (by decide) rfl (fun ls hl => ?_)
                have loop126 : ∀ (n126 : Nat) (iv126_5 iv126_6 : Int32) (H : Heap) (locs : List Loc) (hL1 : List Nat) (hl1 : hx_h), -2147483648 ≤ iv126_5.toInt → iv126_5.toInt ≤ 2147483647 → 0 ≤ iv126_6.toInt → iv126_6.toInt ≤ 100 → ∀ (ls : Array Slot), 100 - iv126_6.toInt < (n126 : Int) → hx_W T_tb (P_ty dA) (dC, dI) vwCl (hx_A L sz) s.heap hL1 hl1 s H locs → hx_T T_tb hL1 hl1 → hx_S T_tb [(10, 67), (10, 68), (10, 69), (10, 70), (10, 71), (83, 0), (89, 0), (90, 0)] L h hL1 hl1 → hl1.2.2 x 51 = some q_7 → hl1.2.2 x 48 = some q_10 → hl1.2.2 x 27 = some q_13 → hl1.2.2 x 38 = some q_14 → hl1.2.2 x 39 = some q_25 → hl1.2.2 x 45 = some q_27 → hx_g hL1 hl1 q_7 86 → hx_g hL1 hl1 q_10 83 → hx_g hL1 hl1 q_13 64 → hx_g hL1 hl1 q_14 73 → hx_g hL1 hl1 q_25 74 → hx_g hL1 hl1 q_27 80 → lv_has ls 7 [(6, .int iv126_6), (5, .int iv126_5), (4, .int x_53), (3, .int x_24), (0, .ref x), (1, .int i1), (2, .int i2)] → W p l e ({ frames := 3, cells := 0, slots := 0, locals := 71 }) s m ([.ref x, .int i1, .int i2] : List Value).toArray below meth c H locs 0 0 (MQ below (va_Qi (fun (r : Int32) (u : List Nat × hx_h) => (True) ∧ hx_T T_tb u.1 u.2 ∧ hx_S T_tb [(10, 67), (10, 68), (10, 69), (10, 70), (10, 71), (83, 0), (89, 0), (90, 0)] L h u.1 u.2) (hx_E T_tb (P_ty dA) (dC, dI) vwCl (hx_A L sz)) (hx_A L sz)) ([.ref x, .int i1, .int i2] : List Value).toArray s 0 0 (hx_A L sz)) (F0 m 126 ls []) := by
                  intro n126
                  induction n126 with
                  | zero => intro iv126_5 iv126_6 H locs hL1 hl1 bliv126_5 buiv126_5 bliv126_6 buiv126_6  ls hn126; exfalso; omega
                  | succ n126 ih126 =>
                    intro iv126_5 iv126_6 H locs hL1 hl1 bliv126_5 buiv126_5 bliv126_6 buiv126_6  ls hn126 hW hT hM fq_7 fq_10 fq_13 fq_14 fq_25 fq_27 gq_7 gq_10 gq_13 gq_14 gq_25 gq_27 hl
                    refine lv_iload hx hb dX10_order_126 (lv_at hl 0 rfl) ?_
                    refine lv_aload_n hx hb dX10_order_128 rfl (lv_at hl 4 rfl) ?_
                    refine hk_geti hx hb hts hC_10 hown hW (gx.S hM) tt_10 36 (by decide) rfl kw_1179 ⟨rfl, rfl, rfl⟩ ((hM.o gx trivial rfl).1.trans f_x_36) dX10_order_129 ?_
                    refine hb_icmp_ge (zx := iv126_6.toInt) (zy := c0.toInt) (tgt := 182) hx hb rfl rfl dX10_order_132 (by decide) (fun c_103 => ?_) (fun c_103 => ?_)
                    · skip
                      refine lv_iload_n hx hb dX10_order_182 rfl (lv_at hl 6 rfl) ?_
                      refine lv_iload hx hb dX10_order_183 (lv_at hl 1 rfl) ?_
                      refine lv_iadd hx hb dX10_order_185 ?_
                      have rg_104 := i32_r i2
                      have rg_105 := i32_r iv126_5
                      refine lv_topi (fun x_106 ex_106 => ?_)
                      refine lv_aload_n hx hb dX10_order_186 rfl (lv_at hl 4 rfl) ?_
                      refine lv_aload_n hx hb dX10_order_187 rfl (lv_at hl 4 rfl) ?_
                      refine hk_getr hx hb hts hC_10 hown hW (gx.S hM) tt_10 38 (by decide) rfl kw_1181 ⟨rfl, rfl, rfl⟩ fq_14 dX10_order_188 ?_
                      refine lv_iload_n hx hb dX10_order_191 rfl (lv_at hl 5 rfl) ?_
                      refine hx_iald hx hb hW hT gq_14 tt_73 rfl ⟨by omega, by omega⟩ dX10_order_192 (fun x_107 ex_107 lx_107 ux_107 => ?_)
                      refine lv_iload_n hx hb dX10_order_193 rfl (lv_at hl 3 rfl) ?_
                      refine hx_goi (hx_runV (As := [.int x_107, .int x_24]) (rest := [.int x_106]) ⟨hx, hb, hml, hown, hts⟩ hW (gx.S hM) tt_10 (T := TX10) (N := 98) rfl (t_X10_means l dC dI dA hL1 hl1 H.size x x_107 x_24 hT (gx.S hM) ⟨by omega, by omega⟩ ⟨by omega, by omega⟩) (cwV 2 hts (hx_gV kw_1645 kw_1642 kw_1644 kw_83 kw_103) rfl rfl rfl (by decide +kernel) ⟨Nat.le_of_ble_eq_true rfl, Nat.le_of_ble_eq_true rfl⟩) rfl hl.1 rfl (Nat.le_of_ble_eq_true rfl) dX10_order_194 ⟨Nat.le_of_ble_eq_true rfl, Nat.le_of_ble_eq_true rfl⟩) hW (fun r_110 L_108 h_109 H locs p_111 hW => ?_)
                      obtain ⟨hr_112, hT, hs⟩ := p_111
                      replace hT : hx_T T_tb L_108 h_109 := hT
                      replace hs : hx_S T_tb [] hL1 hl1 L_108 h_109 := hs
                      replace fq_7 := (hs.o (gx.S hM) trivial rfl).2.trans fq_7
                      replace fq_10 := (hs.o (gx.S hM) trivial rfl).2.trans fq_10
                      replace fq_13 := (hs.o (gx.S hM) trivial rfl).2.trans fq_13
                      replace fq_14 := (hs.o (gx.S hM) trivial rfl).2.trans fq_14
                      replace fq_25 := (hs.o (gx.S hM) trivial rfl).2.trans fq_25
                      replace fq_27 := (hs.o (gx.S hM) trivial rfl).2.trans fq_27
                      replace ex_107 := ex_107.trans (hs.a gq_14 rfl _).1.symm
                      replace hM := hM.tr (hs.mono (by decide))
                      replace gq_7 := gq_7.S hs
                      replace gq_10 := gq_10.S hs
                      replace gq_13 := gq_13.S hs
                      replace gq_14 := gq_14.S hs
                      replace gq_25 := gq_25.S hs
                      replace gq_27 := gq_27.S hs
                      refine hb_icmp_le (zx := x_106.toInt) (zy := r_110.toInt) (tgt := 203) hx hb rfl rfl dX10_order_197 (by decide) (fun c_113 => ?_) (fun c_113 => ?_)
                      · skip
                        refine lv_aload_n hx hb dX10_order_203 rfl (lv_at hl 4 rfl) ?_
                        refine hk_getr hx hb hts hC_10 hown hW (gx.S hM) tt_10 48 (by decide) rfl kw_1191 ⟨rfl, rfl, rfl⟩ fq_10 dX10_order_204 ?_
                        refine lv_iload_n hx hb dX10_order_207 rfl (lv_at hl 5 rfl) ?_
                        refine lv_aload_n hx hb dX10_order_208 rfl (lv_at hl 4 rfl) ?_
                        refine hx_geti hx hb hts hC_10 hown hW hT (gx.S hM) tt_10 0 (by decide) rfl kw_1143 ⟨rfl, rfl, rfl⟩ dX10_order_209 (fun x_114 ex_114 lx_114 ux_114 => ?_)
                        have fx_114 := ex_114.symm
                        refine hx_iast hx hb hW hT (hx_S.rf (M := [(83, 0)])) gq_10 tt_83 rfl ⟨by omega, by omega⟩ rfl (i32_r _) (List.mem_singleton.mpr rfl) dX10_order_212 (fun H locs h_115 eh_115 hW hT hs => ?_)
                        replace fq_7 := (hs.o (gx.S hM) trivial rfl).2.trans fq_7
                        replace fq_10 := (hs.o (gx.S hM) trivial rfl).2.trans fq_10
                        replace fq_13 := (hs.o (gx.S hM) trivial rfl).2.trans fq_13
                        replace fq_14 := (hs.o (gx.S hM) trivial rfl).2.trans fq_14
                        replace fq_25 := (hs.o (gx.S hM) trivial rfl).2.trans fq_25
                        replace fq_27 := (hs.o (gx.S hM) trivial rfl).2.trans fq_27
                        replace fx_114 := (hs.o (gx.S hM) trivial rfl).1.trans fx_114
                        replace ex_107 := ex_107.trans (hs.a gq_14 rfl _).1.symm
                        replace hM := hM.tr (hs.mono (by decide))
                        replace gq_7 := gq_7.S hs
                        replace gq_10 := gq_10.S hs
                        replace gq_13 := gq_13.S hs
                        replace gq_14 := gq_14.S hs
                        replace gq_25 := gq_25.S hs
                        replace gq_27 := gq_27.S hs
                        refine lv_aload_n hx hb dX10_order_213 rfl (lv_at hl 4 rfl) ?_
                        refine hx_getn hx hb hts hC_10 hown hW hT (gx.S hM) tt_10 54 (by decide) rfl kw_1197 ⟨rfl, rfl, rfl⟩ dX10_order_214 (fun q_116 fq_116 gq_116 => ?_)
                        refine lv_iload_n hx hb dX10_order_217 rfl (lv_at hl 5 rfl) ?_
                        refine lv_iload_n hx hb dX10_order_218 rfl (lv_at hl 6 rfl) ?_
                        refine hx_iast hx hb hW hT (hx_S.rf (M := [(89, 0)])) gq_116 tt_89 rfl ⟨by omega, by omega⟩ rfl (i32_r _) (List.mem_singleton.mpr rfl) dX10_order_219 (fun H locs h_117 eh_117 hW hT hs => ?_)
                        replace fq_7 := (hs.o (gx.S hM) trivial rfl).2.trans fq_7
                        replace fq_10 := (hs.o (gx.S hM) trivial rfl).2.trans fq_10
                        replace fq_13 := (hs.o (gx.S hM) trivial rfl).2.trans fq_13
                        replace fq_14 := (hs.o (gx.S hM) trivial rfl).2.trans fq_14
                        replace fq_25 := (hs.o (gx.S hM) trivial rfl).2.trans fq_25
                        replace fq_27 := (hs.o (gx.S hM) trivial rfl).2.trans fq_27
                        replace fx_114 := (hs.o (gx.S hM) trivial rfl).1.trans fx_114
                        replace fq_116 := (hs.o (gx.S hM) trivial rfl).2.trans fq_116
                        replace ex_107 := ex_107.trans (hs.a gq_14 rfl _).1.symm
                        replace hM := hM.tr (hs.mono (by decide))
                        replace gq_7 := gq_7.S hs
                        replace gq_10 := gq_10.S hs
                        replace gq_13 := gq_13.S hs
                        replace gq_14 := gq_14.S hs
                        replace gq_25 := gq_25.S hs
                        replace gq_27 := gq_27.S hs
                        replace gq_116 := gq_116.S hs
                        refine lv_aload_n hx hb dX10_order_220 rfl (lv_at hl 4 rfl) ?_
                        refine hx_getn hx hb hts hC_10 hown hW hT (gx.S hM) tt_10 55 (by decide) rfl kw_1198 ⟨rfl, rfl, rfl⟩ dX10_order_221 (fun q_118 fq_118 gq_118 => ?_)
                        refine lv_iload_n hx hb dX10_order_224 rfl (lv_at hl 5 rfl) ?_
                        refine lv_iload hx hb dX10_order_225 (lv_at hl 2 rfl) ?_
                        refine hx_iast hx hb hW hT (hx_S.rf (M := [(90, 0)])) gq_118 tt_90 rfl ⟨by omega, by omega⟩ rfl ⟨by omega, by omega⟩ (List.mem_singleton.mpr rfl) dX10_order_227 (fun H locs h_119 eh_119 hW hT hs => ?_)
                        replace fq_7 := (hs.o (gx.S hM) trivial rfl).2.trans fq_7
                        replace fq_10 := (hs.o (gx.S hM) trivial rfl).2.trans fq_10
                        replace fq_13 := (hs.o (gx.S hM) trivial rfl).2.trans fq_13
                        replace fq_14 := (hs.o (gx.S hM) trivial rfl).2.trans fq_14
                        replace fq_25 := (hs.o (gx.S hM) trivial rfl).2.trans fq_25
                        replace fq_27 := (hs.o (gx.S hM) trivial rfl).2.trans fq_27
                        replace fx_114 := (hs.o (gx.S hM) trivial rfl).1.trans fx_114
                        replace fq_116 := (hs.o (gx.S hM) trivial rfl).2.trans fq_116
                        replace fq_118 := (hs.o (gx.S hM) trivial rfl).2.trans fq_118
                        replace ex_107 := ex_107.trans (hs.a gq_14 rfl _).1.symm
                        replace hM := hM.tr (hs.mono (by decide))
                        replace gq_7 := gq_7.S hs
                        replace gq_10 := gq_10.S hs
                        replace gq_13 := gq_13.S hs
                        replace gq_14 := gq_14.S hs
                        replace gq_25 := gq_25.S hs
                        replace gq_27 := gq_27.S hs
                        replace gq_116 := gq_116.S hs
                        replace gq_118 := gq_118.S hs
                        refine lv_iload hx hb dX10_order_228 (lv_at hl 2 rfl) ?_
                        exact hx_reti hx hb hr hlk hW ⟨trivial, hT, hM⟩ dX10_order_230
                      · skip
                        refine lv_bipush (v := -3) hx hb dX10_order_200 (by decide) ?_
                        exact hx_reti hx hb hr hlk hW ⟨trivial, hT, hM⟩ dX10_order_202
                    · skip
                      refine lv_iload hx hb dX10_order_135 (lv_at hl 1 rfl) ?_
                      refine lv_aload_n hx hb dX10_order_137 rfl (lv_at hl 4 rfl) ?_
                      refine hk_getr hx hb hts hC_10 hown hW (gx.S hM) tt_10 38 (by decide) rfl kw_1181 ⟨rfl, rfl, rfl⟩ fq_14 dX10_order_138 ?_
                      refine lv_iload hx hb dX10_order_141 (lv_at hl 0 rfl) ?_
                      refine hx_iald hx hb hW hT gq_14 tt_73 rfl ⟨by omega, by omega⟩ dX10_order_143 (fun x_120 ex_120 lx_120 ux_120 => ?_)
                      refine lv_aload_n hx hb dX10_order_144 rfl (lv_at hl 4 rfl) ?_
                      refine hk_getr hx hb hts hC_10 hown hW (gx.S hM) tt_10 38 (by decide) rfl kw_1181 ⟨rfl, rfl, rfl⟩ fq_14 dX10_order_145 ?_
                      refine lv_iload_n hx hb dX10_order_148 rfl (lv_at hl 5 rfl) ?_
                      refine hx_iald hx hb hW hT gq_14 tt_73 rfl ⟨by omega, by omega⟩ dX10_order_149 (fun x_121 ex_121 lx_121 ux_121 => ?_)
                      refine hb_icmp_ne (zx := x_120.toInt) (zy := x_121.toInt) (tgt := 172) hx hb rfl rfl dX10_order_150 (by decide) (fun c_122 => ?_) (fun c_122 => ?_)
                      · skip
                        refine lv_iconst (v := 0) hx hb dX10_order_172 (by decide) ?_
                        refine lv_iadd hx hb dX10_order_173 ?_
                        have rg_123 := i32_r iv126_5
                        refine lv_topi (fun x_124 ex_124 => ?_)
                        refine lv_istore (lv' := [(5, .int x_124), (6, .int iv126_6), (4, .int x_53), (3, .int x_24), (0, .ref x), (1, .int i1), (2, .int i2)]) hx hb dX10_order_174 hl (by decide) rfl (fun ls hl => ?_)
                        obtain ⟨x_125, ex_125⟩ : ∃ y : Int32, y = iv126_6 + Int32.ofInt 1 := ⟨_, rfl⟩
                        have rg_126 := i32_r iv126_6
                        have zx_125 : x_125.toInt = iv126_6.toInt + (1) := by rw [ex_125]; exact i32_add rfl (by decide) (by omega) (by omega)
                        refine lv_iinc (v := x_125) (lv' := [(6, .int x_125), (5, .int x_124), (4, .int x_53), (3, .int x_24), (0, .ref x), (1, .int i1), (2, .int i2)]) hx hb dX10_order_176 hl (k := 1) rfl ex_125.symm (by decide) rfl (fun ls hl => ?_)
                        refine lv_goto (tgt := 126) hx hb dX10_order_179 (by decide) ?_
                        exact ih126 x_124 x_125 _ _ hL1 hl1 (i32_r _).1 (i32_r _).2 (by omega) (by omega)  ls (by omega) hW hT hM fq_7 fq_10 fq_13 fq_14 fq_25 fq_27 gq_7 gq_10 gq_13 gq_14 gq_25 gq_27 (lv_sub hl [0, 1, 2, 3, 4, 5, 6] rfl)
                      · skip
                        refine lv_aload_n hx hb dX10_order_153 rfl (lv_at hl 4 rfl) ?_
                        refine lv_iload hx hb dX10_order_154 (lv_at hl 0 rfl) ?_
                        refine hx_goi (hx_runV (As := [.int iv126_6]) (rest := [.int iv126_5]) ⟨hx, hb, hml, hown, hts⟩ hW (gx.S hM) tt_10 (T := TX10) (N := 98) rfl (t_X10_isOpen l dC dI dA hL1 hl1 H.size x iv126_6 hT (gx.S hM) ⟨by omega, by omega⟩) (cwV 1 hts (hx_gV kw_1637 kw_1634 kw_1636 kw_81 kw_103) rfl rfl rfl (by decide +kernel) ⟨Nat.le_of_ble_eq_true rfl, Nat.le_of_ble_eq_true rfl⟩) rfl hl.1 rfl (Nat.le_of_ble_eq_true rfl) dX10_order_156 ⟨Nat.le_of_ble_eq_true rfl, Nat.le_of_ble_eq_true rfl⟩) hW (fun r_129 L_127 h_128 H locs p_130 hW => ?_)
                        obtain ⟨⟨w_132, fw_132, hr_131⟩, hT, hs⟩ := p_130
                        replace hT : hx_T T_tb L_127 h_128 := hT
                        replace hs : hx_S T_tb [(10, 67), (10, 68), (10, 69), (10, 70), (10, 71)] hL1 hl1 L_127 h_128 := hs
                        replace fq_7 := (hs.o (gx.S hM) trivial rfl).2.trans fq_7
                        replace fq_10 := (hs.o (gx.S hM) trivial rfl).2.trans fq_10
                        replace fq_13 := (hs.o (gx.S hM) trivial rfl).2.trans fq_13
                        replace fq_14 := (hs.o (gx.S hM) trivial rfl).2.trans fq_14
                        replace fq_25 := (hs.o (gx.S hM) trivial rfl).2.trans fq_25
                        replace fq_27 := (hs.o (gx.S hM) trivial rfl).2.trans fq_27
                        replace ex_120 := ex_120.trans (hs.a gq_14 rfl _).1.symm
                        replace ex_121 := ex_121.trans (hs.a gq_14 rfl _).1.symm
                        replace hM := hM.tr (hs.mono (by decide))
                        replace gq_7 := gq_7.S hs
                        replace gq_10 := gq_10.S hs
                        replace gq_13 := gq_13.S hs
                        replace gq_14 := gq_14.S hs
                        replace gq_25 := gq_25.S hs
                        replace gq_27 := gq_27.S hs
                        have fw_132 : h_128.2.1 x 68 = w_132 := fw_132
                        have bw_132 := hT.gi (gx.S hM) tt_10 (k := 68) rfl
                        rw [fw_132] at bw_132
                        have bw_132 : 0 ≤ w_132.toInt ∧ w_132.toInt ≤ 610000 := bw_132
                        refine hb_if_eq (zx := r_129.toInt) (tgt := 172) hx hb rfl dX10_order_159 (by decide) (fun c_133 => ?_) (fun c_133 => ?_)
                        · skip
                          refine lv_iconst (v := 0) hx hb dX10_order_172 (by decide) ?_
                          refine lv_iadd hx hb dX10_order_173 ?_
                          have rg_134 := i32_r iv126_5
                          refine lv_topi (fun x_135 ex_135 => ?_)
                          refine lv_istore (lv' := [(5, .int x_135), (6, .int iv126_6), (4, .int x_53), (3, .int x_24), (0, .ref x), (1, .int i1), (2, .int i2)]) hx hb dX10_order_174 hl (by decide) rfl (fun ls hl => ?_)
                          obtain ⟨x_136, ex_136⟩ : ∃ y : Int32, y = iv126_6 + Int32.ofInt 1 := ⟨_, rfl⟩
                          have rg_137 := i32_r iv126_6
                          have zx_136 : x_136.toInt = iv126_6.toInt + (1) := by rw [ex_136]; exact i32_add rfl (by decide) (by omega) (by omega)
                          refine lv_iinc (v := x_136) (lv' := [(6, .int x_136), (5, .int x_135), (4, .int x_53), (3, .int x_24), (0, .ref x), (1, .int i1), (2, .int i2)]) hx hb dX10_order_176 hl (k := 1) rfl ex_136.symm (by decide) rfl (fun ls hl => ?_)
                          refine lv_goto (tgt := 126) hx hb dX10_order_179 (by decide) ?_
                          exact ih126 x_135 x_136 _ _ L_127 h_128 (i32_r _).1 (i32_r _).2 (by omega) (by omega)  ls (by omega) hW hT hM fq_7 fq_10 fq_13 fq_14 fq_25 fq_27 gq_7 gq_10 gq_13 gq_14 gq_25 gq_27 (lv_sub hl [0, 1, 2, 3, 4, 5, 6] rfl)
                        · skip
                          refine lv_aload_n hx hb dX10_order_162 rfl (lv_at hl 4 rfl) ?_
                          refine hx_getn hx hb hts hC_10 hown hW hT (gx.S hM) tt_10 54 (by decide) rfl kw_1197 ⟨rfl, rfl, rfl⟩ dX10_order_163 (fun q_138 fq_138 gq_138 => ?_)
                          refine lv_iload hx hb dX10_order_166 (lv_at hl 0 rfl) ?_
                          refine hx_iald hx hb hW hT gq_138 tt_89 rfl ⟨by omega, by omega⟩ dX10_order_168 (fun x_139 ex_139 lx_139 ux_139 => ?_)
                          refine lv_goto (tgt := 173) hx hb dX10_order_169 (by decide) ?_
                          refine lv_iadd hx hb dX10_order_173 ?_
                          have rg_140 := i32_r iv126_5
                          have rg_141 := i32_r x_139
                          refine lv_topi (fun x_142 ex_142 => ?_)
                          refine lv_istore (lv' := [(5, .int x_142), (6, .int iv126_6), (4, .int x_53), (3, .int x_24), (0, .ref x), (1, .int i1), (2, .int i2)]) hx hb dX10_order_174 hl (by decide) rfl (fun ls hl => ?_)
                          obtain ⟨x_143, ex_143⟩ : ∃ y : Int32, y = iv126_6 + Int32.ofInt 1 := ⟨_, rfl⟩
                          have rg_144 := i32_r iv126_6
                          have zx_143 : x_143.toInt = iv126_6.toInt + (1) := by rw [ex_143]; exact i32_add rfl (by decide) (by omega) (by omega)
                          refine lv_iinc (v := x_143) (lv' := [(6, .int x_143), (5, .int x_142), (4, .int x_53), (3, .int x_24), (0, .ref x), (1, .int i1), (2, .int i2)]) hx hb dX10_order_176 hl (k := 1) rfl ex_143.symm (by decide) rfl (fun ls hl => ?_)
                          refine lv_goto (tgt := 126) hx hb dX10_order_179 (by decide) ?_
                          exact ih126 x_142 x_143 _ _ L_127 h_128 (i32_r _).1 (i32_r _).2 (by omega) (by omega)  ls (by omega) hW hT hM fq_7 fq_10 fq_13 fq_14 fq_25 fq_27 gq_7 gq_10 gq_13 gq_14 gq_25 gq_27 (lv_sub hl [0, 1, 2, 3, 4, 5, 6] rfl)
                have zk_0 : (0 : Int32).toInt = 0 := by decide
                have zk_0 : (0 : Int32).toInt = 0 := by decide
                exact loop126 101 (0 : Int32) (0 : Int32) _ _ L_54 h_55 (by decide) (by decide) (by decide) (by decide)  ls (by omega) hW hT hM fq_7 fq_10 fq_13 fq_14 fq_25 fq_27 gq_7 gq_10 gq_13 gq_14 gq_25 gq_27 hl
              · skip
                refine lv_bipush (v := -2) hx hb dX10_order_117 (by decide) ?_
                exact hx_reti hx hb hr hlk hW ⟨trivial, hT, hM⟩ dX10_order_119
          · skip
            replace hr_22 := hr_22.resolve_right (fun z9 => absurd (c_23.symm.trans z9.1) (by decide))
            replace hr_22 := hr_22.2
            refine lv_iconst (v := -1) hx hb dX10_order_53 (by decide) ?_
            exact hx_reti hx hb hr hlk hW ⟨trivial, hT, hM⟩ dX10_order_54
