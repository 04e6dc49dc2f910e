
set_option maxHeartbeats 4000000 in
set_option maxRecDepth 100000 in
theorem t_X10_stepsBetween_2 (l : Launch) (dC : Nat → ClassId) (dI : Nat → Nat → Nat) (dA : Nat → ClassId) (L : List Nat) (h : hx_h) (sz : Nat) (i1 : Int32) (i2 : Int32) (i3 : Int32) (i4 : Int32) (hT : hx_T T_tb L h)  (hi1 : 0 ≤ i1.toInt ∧ i1.toInt ≤ 99) (hi2 : 0 ≤ i2.toInt ∧ i2.toInt ≤ 99) (hi3 : 0 ≤ i3.toInt ∧ i3.toInt ≤ 99) (hi4 : 0 ≤ i4.toInt ∧ i4.toInt ≤ 99) : Met l yX10_stepsBetween (Cond.code yX10_stepsBetween cX10_stepsBetween 4 (some .int) :: hx_all) ({ frames := 0, cells := 0, slots := 0, locals := 0 }) (va_Pc [.int i1, .int i2, .int i3, .int i4] (hx_B T_tb (P_ty dA) (dC, dI) vwCl L h sz)) (va_Qi (fun (r : Int32) (u : List Nat × hx_h) => (r.toInt = hx_ab i1.toInt i3.toInt + hx_ab i2.toInt i4.toInt ∧ 0 ≤ r.toInt ∧ r.toInt ≤ 198) ∧ hx_T T_tb u.1 u.2 ∧ hx_S T_tb [] L h u.1 u.2) (hx_E T_tb (P_ty dA) (dC, dI) vwCl (hx_A L sz)) (hx_A L sz)) 0 0 (hx_A L sz) := by
  refine hx_met (lv := [(0, .int i1), (1, .int i2), (2, .int i3), (3, .int i4)]) (by decide +kernel) rfl (Nat.le_of_ble_eq_true rfl) rfl ?_
  intro p e s m below meth c hx hb hml hr hlk hts0 hown hin hsz hW ls hl
  have hts : ∀ w ∈ hx_all, w.before _ s = true := fun w hw => hts0 w (List.mem_cons_of_mem _ hw)
  have hown : s.vm.findClass "SmallCourtModel" = some m.cls := hown
  have hM : hx_S T_tb [] L h L h := hx_S.rf
  refine lv_iload_n hx hb dX10_stepsBetween_0 rfl (lv_at hl 0 rfl) ?_
  refine lv_iload_n hx hb dX10_stepsBetween_1 rfl (lv_at hl 2 rfl) ?_
  refine hb_icmp_ge (zx := i1.toInt) (zy := i3.toInt) (tgt := 11) hx hb rfl rfl dX10_stepsBetween_2 (by decide) (fun c_1 => ?_) (fun c_1 => ?_)
  · skip
    refine lv_iload_n hx hb dX10_stepsBetween_11 rfl (lv_at hl 0 rfl) ?_
    refine lv_iload_n hx hb dX10_stepsBetween_12 rfl (lv_at hl 2 rfl) ?_
    refine lv_isub hx hb dX10_stepsBetween_13 ?_
    have rg_2 := i32_r i1
    have rg_3 := i32_r i3
    refine lv_topi (fun x_4 ex_4 => ?_)
    have zx_4 : x_4.toInt = i1.toInt - i3.toInt := by rw [ex_4]; exact i32_sub rfl rfl (by omega) (by omega)
    refine lv_iload_n hx hb dX10_stepsBetween_14 rfl (lv_at hl 1 rfl) ?_
    refine lv_iload_n hx hb dX10_stepsBetween_15 rfl (lv_at hl 3 rfl) ?_
    refine hb_icmp_ge (zx := i2.toInt) (zy := i4.toInt) (tgt := 25) hx hb rfl rfl dX10_stepsBetween_16 (by decide) (fun c_5 => ?_) (fun c_5 => ?_)
    · skip
      refine lv_iload_n hx hb dX10_stepsBetween_25 rfl (lv_at hl 1 rfl) ?_
      refine lv_iload_n hx hb dX10_stepsBetween_26 rfl (lv_at hl 3 rfl) ?_
      refine lv_isub hx hb dX10_stepsBetween_27 ?_
      have rg_6 := i32_r i2
      have rg_7 := i32_r i4
      refine lv_topi (fun x_8 ex_8 => ?_)
      have zx_8 : x_8.toInt = i2.toInt - i4.toInt := by rw [ex_8]; exact i32_sub rfl rfl (by omega) (by omega)
      refine lv_iadd hx hb dX10_stepsBetween_28 ?_
      have rg_9 := i32_r x_4
      have rg_10 := i32_r x_8
      refine lv_topi (fun x_11 ex_11 => ?_)
      have zx_11 : x_11.toInt = x_4.toInt + x_8.toInt := by rw [ex_11]; exact i32_add rfl rfl (by omega) (by omega)
      exact hx_reti hx hb hr hlk hW ⟨⟨by simp only [hx_ab]; (repeat' split) <;> omega, by omega, by omega⟩, hT, hM⟩ dX10_stepsBetween_29
    · skip
      refine lv_iload_n hx hb dX10_stepsBetween_19 rfl (lv_at hl 3 rfl) ?_
      refine lv_iload_n hx hb dX10_stepsBetween_20 rfl (lv_at hl 1 rfl) ?_
      refine lv_isub hx hb dX10_stepsBetween_21 ?_
      have rg_12 := i32_r i4
      have rg_13 := i32_r i2
      refine lv_topi (fun x_14 ex_14 => ?_)
      have zx_14 : x_14.toInt = i4.toInt - i2.toInt := by rw [ex_14]; exact i32_sub rfl rfl (by omega) (by omega)
      refine lv_goto (tgt := 28) hx hb dX10_stepsBetween_22 (by decide) ?_
      refine lv_iadd hx hb dX10_stepsBetween_28 ?_
      have rg_15 := i32_r x_4
      have rg_16 := i32_r x_14
      refine lv_topi (fun x_17 ex_17 => ?_)
      have zx_17 : x_17.toInt = x_4.toInt + x_14.toInt := by rw [ex_17]; exact i32_add rfl rfl (by omega) (by omega)
      exact hx_reti hx hb hr hlk hW ⟨⟨by simp only [hx_ab]; (repeat' split) <;> omega, by omega, by omega⟩, hT, hM⟩ dX10_stepsBetween_29
  · skip
    refine lv_iload_n hx hb dX10_stepsBetween_5 rfl (lv_at hl 2 rfl) ?_
    refine lv_iload_n hx hb dX10_stepsBetween_6 rfl (lv_at hl 0 rfl) ?_
    refine lv_isub hx hb dX10_stepsBetween_7 ?_
    have rg_18 := i32_r i3
    have rg_19 := i32_r i1
    refine lv_topi (fun x_20 ex_20 => ?_)
    have zx_20 : x_20.toInt = i3.toInt - i1.toInt := by rw [ex_20]; exact i32_sub rfl rfl (by omega) (by omega)
    refine lv_goto (tgt := 14) hx hb dX10_stepsBetween_8 (by decide) ?_
    refine lv_iload_n hx hb dX10_stepsBetween_14 rfl (lv_at hl 1 rfl) ?_
    refine lv_iload_n hx hb dX10_stepsBetween_15 rfl (lv_at hl 3 rfl) ?_
    refine hb_icmp_ge (zx := i2.toInt) (zy := i4.toInt) (tgt := 25) hx hb rfl rfl dX10_stepsBetween_16 (by decide) (fun c_21 => ?_) (fun c_21 => ?_)
    · skip
      refine lv_iload_n hx hb dX10_stepsBetween_25 rfl (lv_at hl 1 rfl) ?_
      refine lv_iload_n hx hb dX10_stepsBetween_26 rfl (lv_at hl 3 rfl) ?_
      refine lv_isub hx hb dX10_stepsBetween_27 ?_
      have rg_22 := i32_r i2
      have rg_23 := i32_r i4
      refine lv_topi (fun x_24 ex_24 => ?_)
      have zx_24 : x_24.toInt = i2.toInt - i4.toInt := by rw [ex_24]; exact i32_sub rfl rfl (by omega) (by omega)
      refine lv_iadd hx hb dX10_stepsBetween_28 ?_
      have rg_25 := i32_r x_20
      have rg_26 := i32_r x_24
      refine lv_topi (fun x_27 ex_27 => ?_)
      have zx_27 : x_27.toInt = x_20.toInt + x_24.toInt := by rw [ex_27]; exact i32_add rfl rfl (by omega) (by omega)
      exact hx_reti hx hb hr hlk hW ⟨⟨by simp only [hx_ab]; (repeat' split) <;> omega, by omega, by omega⟩, hT, hM⟩ dX10_stepsBetween_29
    · skip
      refine lv_iload_n hx hb dX10_stepsBetween_19 rfl (lv_at hl 3 rfl) ?_
      refine lv_iload_n hx hb dX10_stepsBetween_20 rfl (lv_at hl 1 rfl) ?_
      refine lv_isub hx hb dX10_stepsBetween_21 ?_
      have rg_28 := i32_r i4
      have rg_29 := i32_r i2
      refine lv_topi (fun x_30 ex_30 => ?_)
      have zx_30 : x_30.toInt = i4.toInt - i2.toInt := by rw [ex_30]; exact i32_sub rfl rfl (by omega) (by omega)
      refine lv_goto (tgt := 28) hx hb dX10_stepsBetween_22 (by decide) ?_
      refine lv_iadd hx hb dX10_stepsBetween_28 ?_
      have rg_31 := i32_r x_20
      have rg_32 := i32_r x_30
      refine lv_topi (fun x_33 ex_33 => ?_)
      have zx_33 : x_33.toInt = x_20.toInt + x_30.toInt := by rw [ex_33]; exact i32_add rfl rfl (by omega) (by omega)
      exact hx_reti hx hb hr hlk hW ⟨⟨by simp only [hx_ab]; (repeat' split) <;> omega, by omega, by omega⟩, hT, hM⟩ dX10_stepsBetween_29


set_option maxHeartbeats 4000000 in
set_option maxRecDepth 100000 in
theorem t_X10_far_2 (l : Launch) (dC : Nat → ClassId) (dI : Nat → Nat → Nat) (dA : Nat → ClassId) (L : List Nat) (h : hx_h) (sz : Nat) (x : Nat) (i1 : Int32) (i2 : Int32) (hT : hx_T T_tb L h) (gx : hx_g L h x 10) (qls : Nat) (gqls : hx_g L h qls 112) (f_x_91 : h.2.2 x 91 = some qls) (qag : Nat) (gqag : hx_g L h qag 73) (f_x_38 : h.2.2 x 38 = some qag) (qdx : Nat) (gqdx : hx_g L h qdx 61) (f_x_24 : h.2.2 x 24 = some qdx) (qdy : Nat) (gqdy : hx_g L h qdy 62) (f_x_25 : h.2.2 x 25 = some qdy) (lf : Nat → Int32) (af_qls : h.2.1 qls = lf) (agf : Nat → Int32) (af_qag : h.2.1 qag = agf) (dxf : Nat → Int32) (af_qdx : h.2.1 qdx = dxf) (dyf : Nat → Int32) (af_qdy : h.2.1 qdy = dyf) (n0 : Int32) (f_x_90 : h.2.1 x 90 = n0) (hi1 : 0 ≤ i1.toInt ∧ i1.toInt ≤ n0.toInt) (hi2 : 0 ≤ i2.toInt ∧ i2.toInt ≤ n0.toInt) : Met l yX10_far (Cond.code yX10_far cX10_far 7 (some .int) :: hx_all) ({ frames := 1, cells := 0, slots := 0, locals := 23 }) (va_Pc [.ref x, .int i1, .int i2] (hx_B T_tb (P_ty dA) (dC, dI) vwCl L h sz)) (va_Qi (fun (r : Int32) (u : List Nat × hx_h) => (r.toInt = hx_fr lf agf dxf dyf n0.toInt i1.toInt i2.toInt ∧ 0 ≤ r.toInt ∧ r.toInt ≤ 198) ∧ hx_T T_tb u.1 u.2 ∧ hx_S T_tb [] L h u.1 u.2) (hx_E T_tb (P_ty dA) (dC, dI) vwCl (hx_A L sz)) (hx_A L sz)) 0 0 (hx_A L sz) := by
  refine hx_met (lv := [(0, .ref x), (1, .int i1), (2, .int i2)]) (by decide +kernel) rfl (Nat.le_of_ble_eq_true rfl) rfl ?_
  intro p e s m below meth c hx hb hml hr hlk hts0 hown hin hsz hW ls hl
  have hts : ∀ w ∈ hx_all, w.before _ s = true := fun w hw => hts0 w (List.mem_cons_of_mem _ hw)
  have hown : s.vm.findClass "SmallCourtModel" = some m.cls := hown
  have hM : hx_S T_tb [] L h L h := hx_S.rf
  have b_n0 := hT.gi gx tt_10 (k := 90) rfl
  rw [f_x_90] at b_n0
  have b_n0 : 0 ≤ n0.toInt ∧ n0.toInt ≤ 8 := b_n0
  refine lv_iload_n hx hb dX10_far_0 rfl (lv_at hl 1 rfl) ?_
  refine lv_aload_n hx hb dX10_far_1 rfl (lv_at hl 0 rfl) ?_
  refine hk_geti hx hb hts hC_10 hown hW (gx.S hM) tt_10 90 (by decide) rfl kw_1233 ⟨rfl, rfl, rfl⟩ ((hM.o gx trivial rfl).1.trans f_x_90) dX10_far_2 ?_
  refine hb_icmp_ne (zx := i1.toInt) (zy := n0.toInt) (tgt := 13) hx hb rfl rfl dX10_far_5 (by decide) (fun c_1 => ?_) (fun c_1 => ?_)
  · skip
    refine lv_aload_n hx hb dX10_far_13 rfl (lv_at hl 0 rfl) ?_
    refine hk_getr hx hb hts hC_10 hown hW (gx.S hM) tt_10 24 (by decide) rfl kw_1167 ⟨rfl, rfl, rfl⟩ ((hM.o gx trivial rfl).2.trans f_x_24) dX10_far_14 ?_
    refine lv_aload_n hx hb dX10_far_17 rfl (lv_at hl 0 rfl) ?_
    refine hk_getr hx hb hts hC_10 hown hW (gx.S hM) tt_10 38 (by decide) rfl kw_1181 ⟨rfl, rfl, rfl⟩ ((hM.o gx trivial rfl).2.trans f_x_38) dX10_far_18 ?_
    refine lv_aload_n hx hb dX10_far_21 rfl (lv_at hl 0 rfl) ?_
    refine hk_getr hx hb hts hC_10 hown hW (gx.S hM) tt_10 91 (by decide) rfl kw_1234 ⟨rfl, rfl, rfl⟩ ((hM.o gx trivial rfl).2.trans f_x_91) dX10_far_22 ?_
    refine lv_iload_n hx hb dX10_far_25 rfl (lv_at hl 1 rfl) ?_
    refine hx_iald hx hb hW hT (gqls.S hM) tt_112 rfl ⟨by omega, by omega⟩ dX10_far_26 (fun x_2 ex_2 lx_2 ux_2 => ?_)
    have ax_2 : x_2 = lf i1.toNatClampNeg := ex_2.trans (congrFun (hx_afS hM gqls rfl af_qls) _)
    refine hx_iald hx hb hW hT (gqag.S hM) tt_73 rfl ⟨by omega, by omega⟩ dX10_far_27 (fun x_3 ex_3 lx_3 ux_3 => ?_)
    have ax_3 : x_3 = agf x_2.toNatClampNeg := ex_3.trans (congrFun (hx_afS hM gqag rfl af_qag) _)
    refine hx_iald hx hb hW hT (gqdx.S hM) tt_61 rfl ⟨by omega, by omega⟩ dX10_far_28 (fun x_4 ex_4 lx_4 ux_4 => ?_)
    have ax_4 : x_4 = dxf x_3.toNatClampNeg := ex_4.trans (congrFun (hx_afS hM gqdx rfl af_qdx) _)
    refine lv_istore_n (lv' := [(3, .int x_4), (0, .ref x), (1, .int i1), (2, .int i2)]) hx hb dX10_far_29 rfl hl (by decide) rfl (fun ls hl => ?_)
    refine lv_iload_n hx hb dX10_far_30 rfl (lv_at hl 2 rfl) ?_
    refine lv_aload_n hx hb dX10_far_31 rfl (lv_at hl 1 rfl) ?_
    refine hk_geti hx hb hts hC_10 hown hW (gx.S hM) tt_10 90 (by decide) rfl kw_1233 ⟨rfl, rfl, rfl⟩ ((hM.o gx trivial rfl).1.trans f_x_90) dX10_far_32 ?_
    refine hb_icmp_ne (zx := i1.toInt) (zy := n0.toInt) (tgt := 43) hx hb rfl rfl dX10_far_35 (by decide) (fun c_5 => ?_) (fun c_5 => ?_)
    · skip
      refine lv_aload_n hx hb dX10_far_43 rfl (lv_at hl 1 rfl) ?_
      refine hk_getr hx hb hts hC_10 hown hW (gx.S hM) tt_10 25 (by decide) rfl kw_1168 ⟨rfl, rfl, rfl⟩ ((hM.o gx trivial rfl).2.trans f_x_25) dX10_far_44 ?_
      refine lv_aload_n hx hb dX10_far_47 rfl (lv_at hl 1 rfl) ?_
      refine hk_getr hx hb hts hC_10 hown hW (gx.S hM) tt_10 38 (by decide) rfl kw_1181 ⟨rfl, rfl, rfl⟩ ((hM.o gx trivial rfl).2.trans f_x_38) dX10_far_48 ?_
      refine lv_aload_n hx hb dX10_far_51 rfl (lv_at hl 1 rfl) ?_
      refine hk_getr hx hb hts hC_10 hown hW (gx.S hM) tt_10 91 (by decide) rfl kw_1234 ⟨rfl, rfl, rfl⟩ ((hM.o gx trivial rfl).2.trans f_x_91) dX10_far_52 ?_
      refine lv_iload_n hx hb dX10_far_55 rfl (lv_at hl 2 rfl) ?_
      refine hx_iald hx hb hW hT (gqls.S hM) tt_112 rfl ⟨by omega, by omega⟩ dX10_far_56 (fun x_6 ex_6 lx_6 ux_6 => ?_)
      have ax_6 : x_6 = lf i1.toNatClampNeg := ex_6.trans (congrFun (hx_afS hM gqls rfl af_qls) _)
      obtain rfl : x_2 = x_6 := ex_2.trans ex_6.symm
      refine hx_iald hx hb hW hT (gqag.S hM) tt_73 rfl ⟨by omega, by omega⟩ dX10_far_57 (fun x_7 ex_7 lx_7 ux_7 => ?_)
      have ax_7 : x_7 = agf x_2.toNatClampNeg := ex_7.trans (congrFun (hx_afS hM gqag rfl af_qag) _)
      obtain rfl : x_3 = x_7 := ex_3.trans ex_7.symm
      refine hx_iald hx hb hW hT (gqdy.S hM) tt_62 rfl ⟨by omega, by omega⟩ dX10_far_58 (fun x_8 ex_8 lx_8 ux_8 => ?_)
      have ax_8 : x_8 = dyf x_3.toNatClampNeg := ex_8.trans (congrFun (hx_afS hM gqdy rfl af_qdy) _)
      refine lv_istore (lv' := [(4, .int x_8), (3, .int x_4), (0, .ref x), (1, .int i1), (2, .int i2)]) hx hb dX10_far_59 hl (by decide) rfl (fun ls hl => ?_)
      refine lv_iload_n hx hb dX10_far_61 rfl (lv_at hl 4 rfl) ?_
      refine lv_aload_n hx hb dX10_far_62 rfl (lv_at hl 2 rfl) ?_
      refine hk_geti hx hb hts hC_10 hown hW (gx.S hM) tt_10 90 (by decide) rfl kw_1233 ⟨rfl, rfl, rfl⟩ ((hM.o gx trivial rfl).1.trans f_x_90) dX10_far_63 ?_
      refine hb_icmp_ne (zx := i2.toInt) (zy := n0.toInt) (tgt := 74) hx hb rfl rfl dX10_far_66 (by decide) (fun c_9 => ?_) (fun c_9 => ?_)
      · skip
        refine lv_aload_n hx hb dX10_far_74 rfl (lv_at hl 2 rfl) ?_
        refine hk_getr hx hb hts hC_10 hown hW (gx.S hM) tt_10 24 (by decide) rfl kw_1167 ⟨rfl, rfl, rfl⟩ ((hM.o gx trivial rfl).2.trans f_x_24) dX10_far_75 ?_
        refine lv_aload_n hx hb dX10_far_78 rfl (lv_at hl 2 rfl) ?_
        refine hk_getr hx hb hts hC_10 hown hW (gx.S hM) tt_10 38 (by decide) rfl kw_1181 ⟨rfl, rfl, rfl⟩ ((hM.o gx trivial rfl).2.trans f_x_38) dX10_far_79 ?_
        refine lv_aload_n hx hb dX10_far_82 rfl (lv_at hl 2 rfl) ?_
        refine hk_getr hx hb hts hC_10 hown hW (gx.S hM) tt_10 91 (by decide) rfl kw_1234 ⟨rfl, rfl, rfl⟩ ((hM.o gx trivial rfl).2.trans f_x_91) dX10_far_83 ?_
        refine lv_iload_n hx hb dX10_far_86 rfl (lv_at hl 4 rfl) ?_
        refine hx_iald hx hb hW hT (gqls.S hM) tt_112 rfl ⟨by omega, by omega⟩ dX10_far_87 (fun x_10 ex_10 lx_10 ux_10 => ?_)
        have ax_10 : x_10 = lf i2.toNatClampNeg := ex_10.trans (congrFun (hx_afS hM gqls rfl af_qls) _)
        refine hx_iald hx hb hW hT (gqag.S hM) tt_73 rfl ⟨by omega, by omega⟩ dX10_far_88 (fun x_11 ex_11 lx_11 ux_11 => ?_)
        have ax_11 : x_11 = agf x_10.toNatClampNeg := ex_11.trans (congrFun (hx_afS hM gqag rfl af_qag) _)
        refine hx_iald hx hb hW hT (gqdx.S hM) tt_61 rfl ⟨by omega, by omega⟩ dX10_far_89 (fun x_12 ex_12 lx_12 ux_12 => ?_)
        have ax_12 : x_12 = dxf x_11.toNatClampNeg := ex_12.trans (congrFun (hx_afS hM gqdx rfl af_qdx) _)
        refine lv_istore (lv' := [(5, .int x_12), (4, .int x_8), (3, .int x_4), (0, .ref x), (1, .int i1), (2, .int i2)]) hx hb dX10_far_90 hl (by decide) rfl (fun ls hl => ?_)
        refine lv_iload_n hx hb dX10_far_92 rfl (lv_at hl 5 rfl) ?_
        refine lv_aload_n hx hb dX10_far_93 rfl (lv_at hl 3 rfl) ?_
        refine hk_geti hx hb hts hC_10 hown hW (gx.S hM) tt_10 90 (by decide) rfl kw_1233 ⟨rfl, rfl, rfl⟩ ((hM.o gx trivial rfl).1.trans f_x_90) dX10_far_94 ?_
        refine hb_icmp_ne (zx := i2.toInt) (zy := n0.toInt) (tgt := 105) hx hb rfl rfl dX10_far_97 (by decide) (fun c_13 => ?_) (fun c_13 => ?_)
        · skip
          refine lv_aload_n hx hb dX10_far_105 rfl (lv_at hl 3 rfl) ?_
          refine hk_getr hx hb hts hC_10 hown hW (gx.S hM) tt_10 25 (by decide) rfl kw_1168 ⟨rfl, rfl, rfl⟩ ((hM.o gx trivial rfl).2.trans f_x_25) dX10_far_106 ?_
          refine lv_aload_n hx hb dX10_far_109 rfl (lv_at hl 3 rfl) ?_
          refine hk_getr hx hb hts hC_10 hown hW (gx.S hM) tt_10 38 (by decide) rfl kw_1181 ⟨rfl, rfl, rfl⟩ ((hM.o gx trivial rfl).2.trans f_x_38) dX10_far_110 ?_
          refine lv_aload_n hx hb dX10_far_113 rfl (lv_at hl 3 rfl) ?_
          refine hk_getr hx hb hts hC_10 hown hW (gx.S hM) tt_10 91 (by decide) rfl kw_1234 ⟨rfl, rfl, rfl⟩ ((hM.o gx trivial rfl).2.trans f_x_91) dX10_far_114 ?_
          refine lv_iload_n hx hb dX10_far_117 rfl (lv_at hl 5 rfl) ?_
          refine hx_iald hx hb hW hT (gqls.S hM) tt_112 rfl ⟨by omega, by omega⟩ dX10_far_118 (fun x_14 ex_14 lx_14 ux_14 => ?_)
          have ax_14 : x_14 = lf i2.toNatClampNeg := ex_14.trans (congrFun (hx_afS hM gqls rfl af_qls) _)
          obtain rfl : x_10 = x_14 := ex_10.trans ex_14.symm
          refine hx_iald hx hb hW hT (gqag.S hM) tt_73 rfl ⟨by omega, by omega⟩ dX10_far_119 (fun x_15 ex_15 lx_15 ux_15 => ?_)
          have ax_15 : x_15 = agf x_10.toNatClampNeg := ex_15.trans (congrFun (hx_afS hM gqag rfl af_qag) _)
          obtain rfl : x_11 = x_15 := ex_11.trans ex_15.symm
          refine hx_iald hx hb hW hT (gqdy.S hM) tt_62 rfl ⟨by omega, by omega⟩ dX10_far_120 (fun x_16 ex_16 lx_16 ux_16 => ?_)
          have ax_16 : x_16 = dyf x_11.toNatClampNeg := ex_16.trans (congrFun (hx_afS hM gqdy rfl af_qdy) _)
          refine lv_istore (lv' := [(6, .int x_16), (5, .int x_12), (4, .int x_8), (3, .int x_4), (0, .ref x), (1, .int i1), (2, .int i2)]) hx hb dX10_far_121 hl (by decide) rfl (fun ls hl => ?_)
          have hc3 : x_4.toInt = hx_cx lf agf dxf n0.toInt i1.toInt := by unfold hx_cx; rw [if_neg (by omega)]; exact congrArg Int32.toInt (ax_4.trans (congrArg (fun z : Int32 => dxf z.toInt.toNat) (ax_3.trans (congrArg (fun z : Int32 => agf z.toInt.toNat) ax_2))))
          have hc4 : x_8.toInt = hx_cx lf agf dyf n0.toInt i1.toInt := by unfold hx_cx; rw [if_neg (by omega)]; exact congrArg Int32.toInt (ax_8.trans (congrArg (fun z : Int32 => dyf z.toInt.toNat) (ax_3.trans (congrArg (fun z : Int32 => agf z.toInt.toNat) ax_2))))
          have hc5 : x_12.toInt = hx_cx lf agf dxf n0.toInt i2.toInt := by unfold hx_cx; rw [if_neg (by omega)]; exact congrArg Int32.toInt (ax_12.trans (congrArg (fun z : Int32 => dxf z.toInt.toNat) (ax_11.trans (congrArg (fun z : Int32 => agf z.toInt.toNat) ax_10))))
          have hc6 : x_16.toInt = hx_cx lf agf dyf n0.toInt i2.toInt := by unfold hx_cx; rw [if_neg (by omega)]; exact congrArg Int32.toInt (ax_16.trans (congrArg (fun z : Int32 => dyf z.toInt.toNat) (ax_11.trans (congrArg (fun z : Int32 => agf z.toInt.toNat) ax_10))))
          refine lv_iload_n hx hb dX10_far_123 rfl (lv_at hl 3 rfl) ?_
          refine lv_iload hx hb dX10_far_124 (lv_at hl 2 rfl) ?_
          refine lv_iload hx hb dX10_far_126 (lv_at hl 1 rfl) ?_
          refine lv_iload hx hb dX10_far_128 (lv_at hl 0 rfl) ?_
          refine hx_goi (hx_runS (As := [.int x_4, .int x_8, .int x_12, .int x_16]) (rest := []) ⟨hx, hb, hml, hown, hts⟩ hW (t_X10_stepsBetween_2 l dC dI dA L h s.heap.size x_4 x_8 x_12 x_16 hT ⟨by omega, by omega⟩ ⟨by omega, by omega⟩ ⟨by omega, by omega⟩ ⟨by omega, by omega⟩) (va_cwS 4 hts (hx_gS kw_1728 kw_1726 kw_1727 kw_103) rfl rfl rfl (by decide +kernel) ⟨Nat.le_of_ble_eq_true rfl, Nat.le_of_ble_eq_true rfl⟩) rfl hl.1 rfl (Nat.le_of_ble_eq_true rfl) dX10_far_130 ⟨Nat.le_of_ble_eq_true rfl, Nat.le_of_ble_eq_true rfl⟩) hW (fun r_19 L_17 h_18 H locs p_20 hW => ?_)
          obtain ⟨hr_21, hT, hs⟩ := p_20
          replace hT : hx_T T_tb L_17 h_18 := hT
          replace hs : hx_S T_tb [] L h L_17 h_18 := hs
          replace ex_2 := ex_2.trans (hs.a (gqls.S hM) rfl _).1.symm
          replace ex_3 := ex_3.trans (hs.a (gqag.S hM) rfl _).1.symm
          replace ex_4 := ex_4.trans (hs.a (gqdx.S hM) rfl _).1.symm
          replace ex_8 := ex_8.trans (hs.a (gqdy.S hM) rfl _).1.symm
          replace ex_10 := ex_10.trans (hs.a (gqls.S hM) rfl _).1.symm
          replace ex_11 := ex_11.trans (hs.a (gqag.S hM) rfl _).1.symm
          replace ex_12 := ex_12.trans (hs.a (gqdx.S hM) rfl _).1.symm
          replace ex_16 := ex_16.trans (hs.a (gqdy.S hM) rfl _).1.symm
          replace hM := hM.tr (hs.mono (by decide))
          exact hx_reti hx hb hr hlk hW ⟨⟨by unfold hx_fr; rw [← hc3, ← hc4, ← hc5, ← hc6]; exact hr_21.1, by omega, by omega⟩, hT, hM⟩ dX10_far_133
        · skip
          refine lv_bipush (v := 50) hx hb dX10_far_100 (by decide) ?_
          refine lv_goto (tgt := 121) hx hb dX10_far_102 (by decide) ?_
          refine lv_istore (lv' := [(6, .int (50 : Int32)), (5, .int x_12), (4, .int x_8), (3, .int x_4), (0, .ref x), (1, .int i1), (2, .int i2)]) hx hb dX10_far_121 hl (by decide) rfl (fun ls hl => ?_)
          have hc3 : x_4.toInt = hx_cx lf agf dxf n0.toInt i1.toInt := by unfold hx_cx; rw [if_neg (by omega)]; exact congrArg Int32.toInt (ax_4.trans (congrArg (fun z : Int32 => dxf z.toInt.toNat) (ax_3.trans (congrArg (fun z : Int32 => agf z.toInt.toNat) ax_2))))
          have hc4 : x_8.toInt = hx_cx lf agf dyf n0.toInt i1.toInt := by unfold hx_cx; rw [if_neg (by omega)]; exact congrArg Int32.toInt (ax_8.trans (congrArg (fun z : Int32 => dyf z.toInt.toNat) (ax_3.trans (congrArg (fun z : Int32 => agf z.toInt.toNat) ax_2))))
          have hc5 : x_12.toInt = hx_cx lf agf dxf n0.toInt i2.toInt := by unfold hx_cx; rw [if_neg (by omega)]; exact congrArg Int32.toInt (ax_12.trans (congrArg (fun z : Int32 => dxf z.toInt.toNat) (ax_11.trans (congrArg (fun z : Int32 => agf z.toInt.toNat) ax_10))))
          have hc6 : (50 : Int32).toInt = hx_cx lf agf dyf n0.toInt i2.toInt := by unfold hx_cx; rw [if_pos (by omega)]; decide
          refine lv_iload_n hx hb dX10_far_123 rfl (lv_at hl 3 rfl) ?_
          refine lv_iload hx hb dX10_far_124 (lv_at hl 2 rfl) ?_
          refine lv_iload hx hb dX10_far_126 (lv_at hl 1 rfl) ?_
          refine lv_iload hx hb dX10_far_128 (lv_at hl 0 rfl) ?_
          have zc_50 : (50 : Int32).toInt = 50 := by decide
          refine hx_goi (hx_runS (As := [.int x_4, .int x_8, .int x_12, .int (50 : Int32)]) (rest := []) ⟨hx, hb, hml, hown, hts⟩ hW (t_X10_stepsBetween_2 l dC dI dA L h s.heap.size x_4 x_8 x_12 (50 : Int32) hT ⟨by omega, by omega⟩ ⟨by omega, by omega⟩ ⟨by omega, by omega⟩ ⟨by omega, by omega⟩) (va_cwS 4 hts (hx_gS kw_1728 kw_1726 kw_1727 kw_103) rfl rfl rfl (by decide +kernel) ⟨Nat.le_of_ble_eq_true rfl, Nat.le_of_ble_eq_true rfl⟩) rfl hl.1 rfl (Nat.le_of_ble_eq_true rfl) dX10_far_130 ⟨Nat.le_of_ble_eq_true rfl, Nat.le_of_ble_eq_true rfl⟩) hW (fun r_24 L_22 h_23 H locs p_25 hW => ?_)
          obtain ⟨hr_26, hT, hs⟩ := p_25
          replace hT : hx_T T_tb L_22 h_23 := hT
          replace hs : hx_S T_tb [] L h L_22 h_23 := hs
          replace ex_2 := ex_2.trans (hs.a (gqls.S hM) rfl _).1.symm
          replace ex_3 := ex_3.trans (hs.a (gqag.S hM) rfl _).1.symm
          replace ex_4 := ex_4.trans (hs.a (gqdx.S hM) rfl _).1.symm
          replace ex_8 := ex_8.trans (hs.a (gqdy.S hM) rfl _).1.symm
          replace ex_10 := ex_10.trans (hs.a (gqls.S hM) rfl _).1.symm
          replace ex_11 := ex_11.trans (hs.a (gqag.S hM) rfl _).1.symm
          replace ex_12 := ex_12.trans (hs.a (gqdx.S hM) rfl _).1.symm
          replace hM := hM.tr (hs.mono (by decide))
          exact hx_reti hx hb hr hlk hW ⟨⟨by unfold hx_fr; rw [← hc3, ← hc4, ← hc5, ← hc6]; exact hr_26.1, by omega, by omega⟩, hT, hM⟩ dX10_far_133
      · skip
        refine lv_bipush (v := 50) hx hb dX10_far_69 (by decide) ?_
        refine lv_goto (tgt := 90) hx hb dX10_far_71 (by decide) ?_
        refine lv_istore (lv' := [(5, .int (50 : Int32)), (4, .int x_8), (3, .int x_4), (0, .ref x), (1, .int i1), (2, .int i2)]) hx hb dX10_far_90 hl (by decide) rfl (fun ls hl => ?_)
        refine lv_iload_n hx hb dX10_far_92 rfl (lv_at hl 5 rfl) ?_
        refine lv_aload_n hx hb dX10_far_93 rfl (lv_at hl 3 rfl) ?_
        refine hk_geti hx hb hts hC_10 hown hW (gx.S hM) tt_10 90 (by decide) rfl kw_1233 ⟨rfl, rfl, rfl⟩ ((hM.o gx trivial rfl).1.trans f_x_90) dX10_far_94 ?_
        refine hb_icmp_ne (zx := i2.toInt) (zy := n0.toInt) (tgt := 105) hx hb rfl rfl dX10_far_97 (by decide) (fun c_27 => ?_) (fun c_27 => ?_)
        · skip
          refine lv_aload_n hx hb dX10_far_105 rfl (lv_at hl 3 rfl) ?_
          refine hk_getr hx hb hts hC_10 hown hW (gx.S hM) tt_10 25 (by decide) rfl kw_1168 ⟨rfl, rfl, rfl⟩ ((hM.o gx trivial rfl).2.trans f_x_25) dX10_far_106 ?_
          refine lv_aload_n hx hb dX10_far_109 rfl (lv_at hl 3 rfl) ?_
          refine hk_getr hx hb hts hC_10 hown hW (gx.S hM) tt_10 38 (by decide) rfl kw_1181 ⟨rfl, rfl, rfl⟩ ((hM.o gx trivial rfl).2.trans f_x_38) dX10_far_110 ?_
          refine lv_aload_n hx hb dX10_far_113 rfl (lv_at hl 3 rfl) ?_
          refine hk_getr hx hb hts hC_10 hown hW (gx.S hM) tt_10 91 (by decide) rfl kw_1234 ⟨rfl, rfl, rfl⟩ ((hM.o gx trivial rfl).2.trans f_x_91) dX10_far_114 ?_
          refine lv_iload_n hx hb dX10_far_117 rfl (lv_at hl 5 rfl) ?_
          refine hx_iald hx hb hW hT (gqls.S hM) tt_112 rfl ⟨by omega, by omega⟩ dX10_far_118 (fun x_28 ex_28 lx_28 ux_28 => ?_)
          have ax_28 : x_28 = lf i2.toNatClampNeg := ex_28.trans (congrFun (hx_afS hM gqls rfl af_qls) _)
          refine hx_iald hx hb hW hT (gqag.S hM) tt_73 rfl ⟨by omega, by omega⟩ dX10_far_119 (fun x_29 ex_29 lx_29 ux_29 => ?_)
          have ax_29 : x_29 = agf x_28.toNatClampNeg := ex_29.trans (congrFun (hx_afS hM gqag rfl af_qag) _)
          refine hx_iald hx hb hW hT (gqdy.S hM) tt_62 rfl ⟨by omega, by omega⟩ dX10_far_120 (fun x_30 ex_30 lx_30 ux_30 => ?_)
          have ax_30 : x_30 = dyf x_29.toNatClampNeg := ex_30.trans (congrFun (hx_afS hM gqdy rfl af_qdy) _)
          refine lv_istore (lv' := [(6, .int x_30), (5, .int (50 : Int32)), (4, .int x_8), (3, .int x_4), (0, .ref x), (1, .int i1), (2, .int i2)]) hx hb dX10_far_121 hl (by decide) rfl (fun ls hl => ?_)
          have hc3 : x_4.toInt = hx_cx lf agf dxf n0.toInt i1.toInt := by unfold hx_cx; rw [if_neg (by omega)]; exact congrArg Int32.toInt (ax_4.trans (congrArg (fun z : Int32 => dxf z.toInt.toNat) (ax_3.trans (congrArg (fun z : Int32 => agf z.toInt.toNat) ax_2))))
          have hc4 : x_8.toInt = hx_cx lf agf dyf n0.toInt i1.toInt := by unfold hx_cx; rw [if_neg (by omega)]; exact congrArg Int32.toInt (ax_8.trans (congrArg (fun z : Int32 => dyf z.toInt.toNat) (ax_3.trans (congrArg (fun z : Int32 => agf z.toInt.toNat) ax_2))))
          have hc5 : (50 : Int32).toInt = hx_cx lf agf dxf n0.toInt i2.toInt := by unfold hx_cx; rw [if_pos (by omega)]; decide
          have hc6 : x_30.toInt = hx_cx lf agf dyf n0.toInt i2.toInt := by unfold hx_cx; rw [if_neg (by omega)]; exact congrArg Int32.toInt (ax_30.trans (congrArg (fun z : Int32 => dyf z.toInt.toNat) (ax_29.trans (congrArg (fun z : Int32 => agf z.toInt.toNat) ax_28))))
          refine lv_iload_n hx hb dX10_far_123 rfl (lv_at hl 3 rfl) ?_
          refine lv_iload hx hb dX10_far_124 (lv_at hl 2 rfl) ?_
          refine lv_iload hx hb dX10_far_126 (lv_at hl 1 rfl) ?_
          refine lv_iload hx hb dX10_far_128 (lv_at hl 0 rfl) ?_
          have zc_50 : (50 : Int32).toInt = 50 := by decide
          refine hx_goi (hx_runS (As := [.int x_4, .int x_8, .int (50 : Int32), .int x_30]) (rest := []) ⟨hx, hb, hml, hown, hts⟩ hW (t_X10_stepsBetween_2 l dC dI dA L h s.heap.size x_4 x_8 (50 : Int32) x_30 hT ⟨by omega, by omega⟩ ⟨by omega, by omega⟩ ⟨by omega, by omega⟩ ⟨by omega, by omega⟩) (va_cwS 4 hts (hx_gS kw_1728 kw_1726 kw_1727 kw_103) rfl rfl rfl (by decide +kernel) ⟨Nat.le_of_ble_eq_true rfl, Nat.le_of_ble_eq_true rfl⟩) rfl hl.1 rfl (Nat.le_of_ble_eq_true rfl) dX10_far_130 ⟨Nat.le_of_ble_eq_true rfl, Nat.le_of_ble_eq_true rfl⟩) hW (fun r_33 L_31 h_32 H locs p_34 hW => ?_)
          obtain ⟨hr_35, hT, hs⟩ := p_34
          replace hT : hx_T T_tb L_31 h_32 := hT
          replace hs : hx_S T_tb [] L h L_31 h_32 := hs
          replace ex_2 := ex_2.trans (hs.a (gqls.S hM) rfl _).1.symm
          replace ex_3 := ex_3.trans (hs.a (gqag.S hM) rfl _).1.symm
          replace ex_4 := ex_4.trans (hs.a (gqdx.S hM) rfl _).1.symm
          replace ex_8 := ex_8.trans (hs.a (gqdy.S hM) rfl _).1.symm
          replace ex_28 := ex_28.trans (hs.a (gqls.S hM) rfl _).1.symm
          replace ex_29 := ex_29.trans (hs.a (gqag.S hM) rfl _).1.symm
          replace ex_30 := ex_30.trans (hs.a (gqdy.S hM) rfl _).1.symm
          replace hM := hM.tr (hs.mono (by decide))
          exact hx_reti hx hb hr hlk hW ⟨⟨by unfold hx_fr; rw [← hc3, ← hc4, ← hc5, ← hc6]; exact hr_35.1, by omega, by omega⟩, hT, hM⟩ dX10_far_133
        · skip
          refine lv_bipush (v := 50) hx hb dX10_far_100 (by decide) ?_
          refine lv_goto (tgt := 121) hx hb dX10_far_102 (by decide) ?_
          refine lv_istore (lv' := [(6, .int (50 : Int32)), (5, .int (50 : Int32)), (4, .int x_8), (3, .int x_4), (0, .ref x), (1, .int i1), (2, .int i2)]) hx hb dX10_far_121 hl (by decide) rfl (fun ls hl => ?_)
          have hc3 : x_4.toInt = hx_cx lf agf dxf n0.toInt i1.toInt := by unfold hx_cx; rw [if_neg (by omega)]; exact congrArg Int32.toInt (ax_4.trans (congrArg (fun z : Int32 => dxf z.toInt.toNat) (ax_3.trans (congrArg (fun z : Int32 => agf z.toInt.toNat) ax_2))))
          have hc4 : x_8.toInt = hx_cx lf agf dyf n0.toInt i1.toInt := by unfold hx_cx; rw [if_neg (by omega)]; exact congrArg Int32.toInt (ax_8.trans (congrArg (fun z : Int32 => dyf z.toInt.toNat) (ax_3.trans (congrArg (fun z : Int32 => agf z.toInt.toNat) ax_2))))
          have hc5 : (50 : Int32).toInt = hx_cx lf agf dxf n0.toInt i2.toInt := by unfold hx_cx; rw [if_pos (by omega)]; decide
          have hc6 : (50 : Int32).toInt = hx_cx lf agf dyf n0.toInt i2.toInt := by unfold hx_cx; rw [if_pos (by omega)]; decide
          refine lv_iload_n hx hb dX10_far_123 rfl (lv_at hl 3 rfl) ?_
          refine lv_iload hx hb dX10_far_124 (lv_at hl 2 rfl) ?_
          refine lv_iload hx hb dX10_far_126 (lv_at hl 1 rfl) ?_
          refine lv_iload hx hb dX10_far_128 (lv_at hl 0 rfl) ?_
          have zc_50 : (50 : Int32).toInt = 50 := by decide
          refine hx_goi (hx_runS (As := [.int x_4, .int x_8, .int (50 : Int32), .int (50 : Int32)]) (rest := []) ⟨hx, hb, hml, hown, hts⟩ hW (t_X10_stepsBetween_2 l dC dI dA L h s.heap.size x_4 x_8 (50 : Int32) (50 : Int32) hT ⟨by omega, by omega⟩ ⟨by omega, by omega⟩ ⟨by omega, by omega⟩ ⟨by omega, by omega⟩) (va_cwS 4 hts (hx_gS kw_1728 kw_1726 kw_1727 kw_103) rfl rfl rfl (by decide +kernel) ⟨Nat.le_of_ble_eq_true rfl, Nat.le_of_ble_eq_true rfl⟩) rfl hl.1 rfl (Nat.le_of_ble_eq_true rfl) dX10_far_130 ⟨Nat.le_of_ble_eq_true rfl, Nat.le_of_ble_eq_true rfl⟩) hW (fun r_38 L_36 h_37 H locs p_39 hW => ?_)
          obtain ⟨hr_40, hT, hs⟩ := p_39
          replace hT : hx_T T_tb L_36 h_37 := hT
          replace hs : hx_S T_tb [] L h L_36 h_37 := hs
          replace ex_2 := ex_2.trans (hs.a (gqls.S hM) rfl _).1.symm
          replace ex_3 := ex_3.trans (hs.a (gqag.S hM) rfl _).1.symm
          replace ex_4 := ex_4.trans (hs.a (gqdx.S hM) rfl _).1.symm
          replace ex_8 := ex_8.trans (hs.a (gqdy.S hM) rfl _).1.symm
          replace hM := hM.tr (hs.mono (by decide))
          exact hx_reti hx hb hr hlk hW ⟨⟨by unfold hx_fr; rw [← hc3, ← hc4, ← hc5, ← hc6]; exact hr_40.1, by omega, by omega⟩, hT, hM⟩ dX10_far_133
    · skip
      refine lv_bipush (v := 50) hx hb dX10_far_38 (by decide) ?_
      refine lv_goto (tgt := 59) hx hb dX10_far_40 (by decide) ?_
      refine lv_istore (lv' := [(4, .int (50 : Int32)), (3, .int x_4), (0, .ref x), (1, .int i1), (2, .int i2)]) hx hb dX10_far_59 hl (by decide) rfl (fun ls hl => ?_)
      refine lv_iload_n hx hb dX10_far_61 rfl (lv_at hl 4 rfl) ?_
      refine lv_aload_n hx hb dX10_far_62 rfl (lv_at hl 2 rfl) ?_
      refine hk_geti hx hb hts hC_10 hown hW (gx.S hM) tt_10 90 (by decide) rfl kw_1233 ⟨rfl, rfl, rfl⟩ ((hM.o gx trivial rfl).1.trans f_x_90) dX10_far_63 ?_
      refine hb_icmp_ne (zx := i2.toInt) (zy := n0.toInt) (tgt := 74) hx hb rfl rfl dX10_far_66 (by decide) (fun c_41 => ?_) (fun c_41 => ?_)
      · skip
        refine lv_aload_n hx hb dX10_far_74 rfl (lv_at hl 2 rfl) ?_
        refine hk_getr hx hb hts hC_10 hown hW (gx.S hM) tt_10 24 (by decide) rfl kw_1167 ⟨rfl, rfl, rfl⟩ ((hM.o gx trivial rfl).2.trans f_x_24) dX10_far_75 ?_
        refine lv_aload_n hx hb dX10_far_78 rfl (lv_at hl 2 rfl) ?_
        refine hk_getr hx hb hts hC_10 hown hW (gx.S hM) tt_10 38 (by decide) rfl kw_1181 ⟨rfl, rfl, rfl⟩ ((hM.o gx trivial rfl).2.trans f_x_38) dX10_far_79 ?_
        refine lv_aload_n hx hb dX10_far_82 rfl (lv_at hl 2 rfl) ?_
        refine hk_getr hx hb hts hC_10 hown hW (gx.S hM) tt_10 91 (by decide) rfl kw_1234 ⟨rfl, rfl, rfl⟩ ((hM.o gx trivial rfl).2.trans f_x_91) dX10_far_83 ?_
        refine lv_iload_n hx hb dX10_far_86 rfl (lv_at hl 4 rfl) ?_
        refine hx_iald hx hb hW hT (gqls.S hM) tt_112 rfl ⟨by omega, by omega⟩ dX10_far_87 (fun x_42 ex_42 lx_42 ux_42 => ?_)
        have ax_42 : x_42 = lf i2.toNatClampNeg := ex_42.trans (congrFun (hx_afS hM gqls rfl af_qls) _)
        refine hx_iald hx hb hW hT (gqag.S hM) tt_73 rfl ⟨by omega, by omega⟩ dX10_far_88 (fun x_43 ex_43 lx_43 ux_43 => ?_)
        have ax_43 : x_43 = agf x_42.toNatClampNeg := ex_43.trans (congrFun (hx_afS hM gqag rfl af_qag) _)
        refine hx_iald hx hb hW hT (gqdx.S hM) tt_61 rfl ⟨by omega, by omega⟩ dX10_far_89 (fun x_44 ex_44 lx_44 ux_44 => ?_)
        have ax_44 : x_44 = dxf x_43.toNatClampNeg := ex_44.trans (congrFun (hx_afS hM gqdx rfl af_qdx) _)
        refine lv_istore (lv' := [(5, .int x_44), (4, .int (50 : Int32)), (3, .int x_4), (0, .ref x), (1, .int i1), (2, .int i2)]) hx hb dX10_far_90 hl (by decide) rfl (fun ls hl => ?_)
        refine lv_iload_n hx hb dX10_far_92 rfl (lv_at hl 5 rfl) ?_
        refine lv_aload_n hx hb dX10_far_93 rfl (lv_at hl 3 rfl) ?_
        refine hk_geti hx hb hts hC_10 hown hW (gx.S hM) tt_10 90 (by decide) rfl kw_1233 ⟨rfl, rfl, rfl⟩ ((hM.o gx trivial rfl).1.trans f_x_90) dX10_far_94 ?_
        refine hb_icmp_ne (zx := i2.toInt) (zy := n0.toInt) (tgt := 105) hx hb rfl rfl dX10_far_97 (by decide) (fun c_45 => ?_) (fun c_45 => ?_)
        · skip
          refine lv_aload_n hx hb dX10_far_105 rfl (lv_at hl 3 rfl) ?_
          refine hk_getr hx hb hts hC_10 hown hW (gx.S hM) tt_10 25 (by decide) rfl kw_1168 ⟨rfl, rfl, rfl⟩ ((hM.o gx trivial rfl).2.trans f_x_25) dX10_far_106 ?_
          refine lv_aload_n hx hb dX10_far_109 rfl (lv_at hl 3 rfl) ?_
          refine hk_getr hx hb hts hC_10 hown hW (gx.S hM) tt_10 38 (by decide) rfl kw_1181 ⟨rfl, rfl, rfl⟩ ((hM.o gx trivial rfl).2.trans f_x_38) dX10_far_110 ?_
          refine lv_aload_n hx hb dX10_far_113 rfl (lv_at hl 3 rfl) ?_
          refine hk_getr hx hb hts hC_10 hown hW (gx.S hM) tt_10 91 (by decide) rfl kw_1234 ⟨rfl, rfl, rfl⟩ ((hM.o gx trivial rfl).2.trans f_x_91) dX10_far_114 ?_
          refine lv_iload_n hx hb dX10_far_117 rfl (lv_at hl 5 rfl) ?_
          refine hx_iald hx hb hW hT (gqls.S hM) tt_112 rfl ⟨by omega, by omega⟩ dX10_far_118 (fun x_46 ex_46 lx_46 ux_46 => ?_)
          have ax_46 : x_46 = lf i2.toNatClampNeg := ex_46.trans (congrFun (hx_afS hM gqls rfl af_qls) _)
          obtain rfl : x_42 = x_46 := ex_42.trans ex_46.symm
          refine hx_iald hx hb hW hT (gqag.S hM) tt_73 rfl ⟨by omega, by omega⟩ dX10_far_119 (fun x_47 ex_47 lx_47 ux_47 => ?_)
          have ax_47 : x_47 = agf x_42.toNatClampNeg := ex_47.trans (congrFun (hx_afS hM gqag rfl af_qag) _)
          obtain rfl : x_43 = x_47 := ex_43.trans ex_47.symm
          refine hx_iald hx hb hW hT (gqdy.S hM) tt_62 rfl ⟨by omega, by omega⟩ dX10_far_120 (fun x_48 ex_48 lx_48 ux_48 => ?_)
          have ax_48 : x_48 = dyf x_43.toNatClampNeg := ex_48.trans (congrFun (hx_afS hM gqdy rfl af_qdy) _)
          refine lv_istore (lv' := [(6, .int x_48), (5, .int x_44), (4, .int (50 : Int32)), (3, .int x_4), (0, .ref x), (1, .int i1), (2, .int i2)]) hx hb dX10_far_121 hl (by decide) rfl (fun ls hl => ?_)
          have hc3 : x_4.toInt = hx_cx lf agf dxf n0.toInt i1.toInt := by unfold hx_cx; rw [if_neg (by omega)]; exact congrArg Int32.toInt (ax_4.trans (congrArg (fun z : Int32 => dxf z.toInt.toNat) (ax_3.trans (congrArg (fun z : Int32 => agf z.toInt.toNat) ax_2))))
          have hc4 : (50 : Int32).toInt = hx_cx lf agf dyf n0.toInt i1.toInt := by unfold hx_cx; rw [if_pos (by omega)]; decide
          have hc5 : x_44.toInt = hx_cx lf agf dxf n0.toInt i2.toInt := by unfold hx_cx; rw [if_neg (by omega)]; exact congrArg Int32.toInt (ax_44.trans (congrArg (fun z : Int32 => dxf z.toInt.toNat) (ax_43.trans (congrArg (fun z : Int32 => agf z.toInt.toNat) ax_42))))
          have hc6 : x_48.toInt = hx_cx lf agf dyf n0.toInt i2.toInt := by unfold hx_cx; rw [if_neg (by omega)]; exact congrArg Int32.toInt (ax_48.trans (congrArg (fun z : Int32 => dyf z.toInt.toNat) (ax_43.trans (congrArg (fun z : Int32 => agf z.toInt.toNat) ax_42))))
          refine lv_iload_n hx hb dX10_far_123 rfl (lv_at hl 3 rfl) ?_
          refine lv_iload hx hb dX10_far_124 (lv_at hl 2 rfl) ?_
          refine lv_iload hx hb dX10_far_126 (lv_at hl 1 rfl) ?_
          refine lv_iload hx hb dX10_far_128 (lv_at hl 0 rfl) ?_
          have zc_50 : (50 : Int32).toInt = 50 := by decide
          refine hx_goi (hx_runS (As := [.int x_4, .int (50 : Int32), .int x_44, .int x_48]) (rest := []) ⟨hx, hb, hml, hown, hts⟩ hW (t_X10_stepsBetween_2 l dC dI dA L h s.heap.size x_4 (50 : Int32) x_44 x_48 hT ⟨by omega, by omega⟩ ⟨by omega, by omega⟩ ⟨by omega, by omega⟩ ⟨by omega, by omega⟩) (va_cwS 4 hts (hx_gS kw_1728 kw_1726 kw_1727 kw_103) rfl rfl rfl (by decide +kernel) ⟨Nat.le_of_ble_eq_true rfl, Nat.le_of_ble_eq_true rfl⟩) rfl hl.1 rfl (Nat.le_of_ble_eq_true rfl) dX10_far_130 ⟨Nat.le_of_ble_eq_true rfl, Nat.le_of_ble_eq_true rfl⟩) hW (fun r_51 L_49 h_50 H locs p_52 hW => ?_)
          obtain ⟨hr_53, hT, hs⟩ := p_52
          replace hT : hx_T T_tb L_49 h_50 := hT
          replace hs : hx_S T_tb [] L h L_49 h_50 := hs
          replace ex_2 := ex_2.trans (hs.a (gqls.S hM) rfl _).1.symm
          replace ex_3 := ex_3.trans (hs.a (gqag.S hM) rfl _).1.symm
          replace ex_4 := ex_4.trans (hs.a (gqdx.S hM) rfl _).1.symm
          replace ex_42 := ex_42.trans (hs.a (gqls.S hM) rfl _).1.symm
          replace ex_43 := ex_43.trans (hs.a (gqag.S hM) rfl _).1.symm
          replace ex_44 := ex_44.trans (hs.a (gqdx.S hM) rfl _).1.symm
          replace ex_48 := ex_48.trans (hs.a (gqdy.S hM) rfl _).1.symm
          replace hM := hM.tr (hs.mono (by decide))
          exact hx_reti hx hb hr hlk hW ⟨⟨by unfold hx_fr; rw [← hc3, ← hc4, ← hc5, ← hc6]; exact hr_53.1, by omega, by omega⟩, hT, hM⟩ dX10_far_133
        · skip
          refine lv_bipush (v := 50) hx hb dX10_far_100 (by decide) ?_
          refine lv_goto (tgt := 121) hx hb dX10_far_102 (by decide) ?_
          refine lv_istore (lv' := [(6, .int (50 : Int32)), (5, .int x_44), (4, .int (50 : Int32)), (3, .int x_4), (0, .ref x), (1, .int i1), (2, .int i2)]) hx hb dX10_far_121 hl (by decide) rfl (fun ls hl => ?_)
          have hc3 : x_4.toInt = hx_cx lf agf dxf n0.toInt i1.toInt := by unfold hx_cx; rw [if_neg (by omega)]; exact congrArg Int32.toInt (ax_4.trans (congrArg (fun z : Int32 => dxf z.toInt.toNat) (ax_3.trans (congrArg (fun z : Int32 => agf z.toInt.toNat) ax_2))))
          have hc4 : (50 : Int32).toInt = hx_cx lf agf dyf n0.toInt i1.toInt := by unfold hx_cx; rw [if_pos (by omega)]; decide
          have hc5 : x_44.toInt = hx_cx lf agf dxf n0.toInt i2.toInt := by unfold hx_cx; rw [if_neg (by omega)]; exact congrArg Int32.toInt (ax_44.trans (congrArg (fun z : Int32 => dxf z.toInt.toNat) (ax_43.trans (congrArg (fun z : Int32 => agf z.toInt.toNat) ax_42))))
          have hc6 : (50 : Int32).toInt = hx_cx lf agf dyf n0.toInt i2.toInt := by unfold hx_cx; rw [if_pos (by omega)]; decide
          refine lv_iload_n hx hb dX10_far_123 rfl (lv_at hl 3 rfl) ?_
          refine lv_iload hx hb dX10_far_124 (lv_at hl 2 rfl) ?_
          refine lv_iload hx hb dX10_far_126 (lv_at hl 1 rfl) ?_
          refine lv_iload hx hb dX10_far_128 (lv_at hl 0 rfl) ?_
          have zc_50 : (50 : Int32).toInt = 50 := by decide
          refine hx_goi (hx_runS (As := [.int x_4, .int (50 : Int32), .int x_44, .int (50 : Int32)]) (rest := []) ⟨hx, hb, hml, hown, hts⟩ hW (t_X10_stepsBetween_2 l dC dI dA L h s.heap.size x_4 (50 : Int32) x_44 (50 : Int32) hT ⟨by omega, by omega⟩ ⟨by omega, by omega⟩ ⟨by omega, by omega⟩ ⟨by omega, by omega⟩) (va_cwS 4 hts (hx_gS kw_1728 kw_1726 kw_1727 kw_103) rfl rfl rfl (by decide +kernel) ⟨Nat.le_of_ble_eq_true rfl, Nat.le_of_ble_eq_true rfl⟩) rfl hl.1 rfl (Nat.le_of_ble_eq_true rfl) dX10_far_130 ⟨Nat.le_of_ble_eq_true rfl, Nat.le_of_ble_eq_true rfl⟩) hW (fun r_56 L_54 h_55 H locs p_57 hW => ?_)
          obtain ⟨hr_58, hT, hs⟩ := p_57
          replace hT : hx_T T_tb L_54 h_55 := hT
          replace hs : hx_S T_tb [] L h L_54 h_55 := hs
          replace ex_2 := ex_2.trans (hs.a (gqls.S hM) rfl _).1.symm
          replace ex_3 := ex_3.trans (hs.a (gqag.S hM) rfl _).1.symm
          replace ex_4 := ex_4.trans (hs.a (gqdx.S hM) rfl _).1.symm
          replace ex_42 := ex_42.trans (hs.a (gqls.S hM) rfl _).1.symm
          replace ex_43 := ex_43.trans (hs.a (gqag.S hM) rfl _).1.symm
          replace ex_44 := ex_44.trans (hs.a (gqdx.S hM) rfl _).1.symm
          replace hM := hM.tr (hs.mono (by decide))
          exact hx_reti hx hb hr hlk hW ⟨⟨by unfold hx_fr; rw [← hc3, ← hc4, ← hc5, ← hc6]; exact hr_58.1, by omega, by omega⟩, hT, hM⟩ dX10_far_133
      · skip
        refine lv_bipush (v := 50) hx hb dX10_far_69 (by decide) ?_
        refine lv_goto (tgt := 90) hx hb dX10_far_71 (by decide) ?_
        refine lv_istore (lv' := [(5, .int (50 : Int32)), (4, .int (50 : Int32)), (3, .int x_4), (0, .ref x), (1, .int i1), (2, .int i2)]) hx hb dX10_far_90 hl (by decide) rfl (fun ls hl => ?_)
        refine lv_iload_n hx hb dX10_far_92 rfl (lv_at hl 5 rfl) ?_
        refine lv_aload_n hx hb dX10_far_93 rfl (lv_at hl 3 rfl) ?_
        refine hk_geti hx hb hts hC_10 hown hW (gx.S hM) tt_10 90 (by decide) rfl kw_1233 ⟨rfl, rfl, rfl⟩ ((hM.o gx trivial rfl).1.trans f_x_90) dX10_far_94 ?_
        refine hb_icmp_ne (zx := i2.toInt) (zy := n0.toInt) (tgt := 105) hx hb rfl rfl dX10_far_97 (by decide) (fun c_59 => ?_) (fun c_59 => ?_)
        · skip
          refine lv_aload_n hx hb dX10_far_105 rfl (lv_at hl 3 rfl) ?_
          refine hk_getr hx hb hts hC_10 hown hW (gx.S hM) tt_10 25 (by decide) rfl kw_1168 ⟨rfl, rfl, rfl⟩ ((hM.o gx trivial rfl).2.trans f_x_25) dX10_far_106 ?_
          refine lv_aload_n hx hb dX10_far_109 rfl (lv_at hl 3 rfl) ?_
          refine hk_getr hx hb hts hC_10 hown hW (gx.S hM) tt_10 38 (by decide) rfl kw_1181 ⟨rfl, rfl, rfl⟩ ((hM.o gx trivial rfl).2.trans f_x_38) dX10_far_110 ?_
          refine lv_aload_n hx hb dX10_far_113 rfl (lv_at hl 3 rfl) ?_
          refine hk_getr hx hb hts hC_10 hown hW (gx.S hM) tt_10 91 (by decide) rfl kw_1234 ⟨rfl, rfl, rfl⟩ ((hM.o gx trivial rfl).2.trans f_x_91) dX10_far_114 ?_
          refine lv_iload_n hx hb dX10_far_117 rfl (lv_at hl 5 rfl) ?_
          refine hx_iald hx hb hW hT (gqls.S hM) tt_112 rfl ⟨by omega, by omega⟩ dX10_far_118 (fun x_60 ex_60 lx_60 ux_60 => ?_)
          have ax_60 : x_60 = lf i2.toNatClampNeg := ex_60.trans (congrFun (hx_afS hM gqls rfl af_qls) _)
          refine hx_iald hx hb hW hT (gqag.S hM) tt_73 rfl ⟨by omega, by omega⟩ dX10_far_119 (fun x_61 ex_61 lx_61 ux_61 => ?_)
          have ax_61 : x_61 = agf x_60.toNatClampNeg := ex_61.trans (congrFun (hx_afS hM gqag rfl af_qag) _)
          refine hx_iald hx hb hW hT (gqdy.S hM) tt_62 rfl ⟨by omega, by omega⟩ dX10_far_120 (fun x_62 ex_62 lx_62 ux_62 => ?_)
          have ax_62 : x_62 = dyf x_61.toNatClampNeg := ex_62.trans (congrFun (hx_afS hM gqdy rfl af_qdy) _)
          refine lv_istore (lv' := [(6, .int x_62), (5, .int (50 : Int32)), (4, .int (50 : Int32)), (3, .int x_4), (0, .ref x), (1, .int i1), (2, .int i2)]) hx hb dX10_far_121 hl (by decide) rfl (fun ls hl => ?_)
          have hc3 : x_4.toInt = hx_cx lf agf dxf n0.toInt i1.toInt := by unfold hx_cx; rw [if_neg (by omega)]; exact congrArg Int32.toInt (ax_4.trans (congrArg (fun z : Int32 => dxf z.toInt.toNat) (ax_3.trans (congrArg (fun z : Int32 => agf z.toInt.toNat) ax_2))))
          have hc4 : (50 : Int32).toInt = hx_cx lf agf dyf n0.toInt i1.toInt := by unfold hx_cx; rw [if_pos (by omega)]; decide
          have hc5 : (50 : Int32).toInt = hx_cx lf agf dxf n0.toInt i2.toInt := by unfold hx_cx; rw [if_pos (by omega)]; decide
          have hc6 : x_62.toInt = hx_cx lf agf dyf n0.toInt i2.toInt := by unfold hx_cx; rw [if_neg (by omega)]; exact congrArg Int32.toInt (ax_62.trans (congrArg (fun z : Int32 => dyf z.toInt.toNat) (ax_61.trans (congrArg (fun z : Int32 => agf z.toInt.toNat) ax_60))))
          refine lv_iload_n hx hb dX10_far_123 rfl (lv_at hl 3 rfl) ?_
          refine lv_iload hx hb dX10_far_124 (lv_at hl 2 rfl) ?_
          refine lv_iload hx hb dX10_far_126 (lv_at hl 1 rfl) ?_
          refine lv_iload hx hb dX10_far_128 (lv_at hl 0 rfl) ?_
          have zc_50 : (50 : Int32).toInt = 50 := by decide
          refine hx_goi (hx_runS (As := [.int x_4, .int (50 : Int32), .int (50 : Int32), .int x_62]) (rest := []) ⟨hx, hb, hml, hown, hts⟩ hW (t_X10_stepsBetween_2 l dC dI dA L h s.heap.size x_4 (50 : Int32) (50 : Int32) x_62 hT ⟨by omega, by omega⟩ ⟨by omega, by omega⟩ ⟨by omega, by omega⟩ ⟨by omega, by omega⟩) (va_cwS 4 hts (hx_gS kw_1728 kw_1726 kw_1727 kw_103) rfl rfl rfl (by decide +kernel) ⟨Nat.le_of_ble_eq_true rfl, Nat.le_of_ble_eq_true rfl⟩) rfl hl.1 rfl (Nat.le_of_ble_eq_true rfl) dX10_far_130 ⟨Nat.le_of_ble_eq_true rfl, Nat.le_of_ble_eq_true rfl⟩) hW (fun r_65 L_63 h_64 H locs p_66 hW => ?_)
          obtain ⟨hr_67, hT, hs⟩ := p_66
          replace hT : hx_T T_tb L_63 h_64 := hT
          replace hs : hx_S T_tb [] L h L_63 h_64 := hs
          replace ex_2 := ex_2.trans (hs.a (gqls.S hM) rfl _).1.symm
          replace ex_3 := ex_3.trans (hs.a (gqag.S hM) rfl _).1.symm
          replace ex_4 := ex_4.trans (hs.a (gqdx.S hM) rfl _).1.symm
          replace ex_60 := ex_60.trans (hs.a (gqls.S hM) rfl _).1.symm
          replace ex_61 := ex_61.trans (hs.a (gqag.S hM) rfl _).1.symm
          replace ex_62 := ex_62.trans (hs.a (gqdy.S hM) rfl _).1.symm
          replace hM := hM.tr (hs.mono (by decide))
          exact hx_reti hx hb hr hlk hW ⟨⟨by unfold hx_fr; rw [← hc3, ← hc4, ← hc5, ← hc6]; exact hr_67.1, by omega, by omega⟩, hT, hM⟩ dX10_far_133
        · skip
          refine lv_bipush (v := 50) hx hb dX10_far_100 (by decide) ?_
          refine lv_goto (tgt := 121) hx hb dX10_far_102 (by decide) ?_
          refine lv_istore (lv' := [(6, .int (50 : Int32)), (5, .int (50 : Int32)), (4, .int (50 : Int32)), (3, .int x_4), (0, .ref x), (1, .int i1), (2, .int i2)]) hx hb dX10_far_121 hl (by decide) rfl (fun ls hl => ?_)
          have hc3 : x_4.toInt = hx_cx lf agf dxf n0.toInt i1.toInt := by unfold hx_cx; rw [if_neg (by omega)]; exact congrArg Int32.toInt (ax_4.trans (congrArg (fun z : Int32 => dxf z.toInt.toNat) (ax_3.trans (congrArg (fun z : Int32 => agf z.toInt.toNat) ax_2))))
          have hc4 : (50 : Int32).toInt = hx_cx lf agf dyf n0.toInt i1.toInt := by unfold hx_cx; rw [if_pos (by omega)]; decide
          have hc5 : (50 : Int32).toInt = hx_cx lf agf dxf n0.toInt i2.toInt := by unfold hx_cx; rw [if_pos (by omega)]; decide
          have hc6 : (50 : Int32).toInt = hx_cx lf agf dyf n0.toInt i2.toInt := by unfold hx_cx; rw [if_pos (by omega)]; decide
          refine lv_iload_n hx hb dX10_far_123 rfl (lv_at hl 3 rfl) ?_
          refine lv_iload hx hb dX10_far_124 (lv_at hl 2 rfl) ?_
          refine lv_iload hx hb dX10_far_126 (lv_at hl 1 rfl) ?_
          refine lv_iload hx hb dX10_far_128 (lv_at hl 0 rfl) ?_
          have zc_50 : (50 : Int32).toInt = 50 := by decide
          refine hx_goi (hx_runS (As := [.int x_4, .int (50 : Int32), .int (50 : Int32), .int (50 : Int32)]) (rest := []) ⟨hx, hb, hml, hown, hts⟩ hW (t_X10_stepsBetween_2 l dC dI dA L h s.heap.size x_4 (50 : Int32) (50 : Int32) (50 : Int32) hT ⟨by omega, by omega⟩ ⟨by omega, by omega⟩ ⟨by omega, by omega⟩ ⟨by omega, by omega⟩) (va_cwS 4 hts (hx_gS kw_1728 kw_1726 kw_1727 kw_103) rfl rfl rfl (by decide +kernel) ⟨Nat.le_of_ble_eq_true rfl, Nat.le_of_ble_eq_true rfl⟩) rfl hl.1 rfl (Nat.le_of_ble_eq_true rfl) dX10_far_130 ⟨Nat.le_of_ble_eq_true rfl, Nat.le_of_ble_eq_true rfl⟩) hW (fun r_70 L_68 h_69 H locs p_71 hW => ?_)
          obtain ⟨hr_72, hT, hs⟩ := p_71
          replace hT : hx_T T_tb L_68 h_69 := hT
          replace hs : hx_S T_tb [] L h L_68 h_69 := hs
          replace ex_2 := ex_2.trans (hs.a (gqls.S hM) rfl _).1.symm
          replace ex_3 := ex_3.trans (hs.a (gqag.S hM) rfl _).1.symm
          replace ex_4 := ex_4.trans (hs.a (gqdx.S hM) rfl _).1.symm
          replace hM := hM.tr (hs.mono (by decide))
          exact hx_reti hx hb hr hlk hW ⟨⟨by unfold hx_fr; rw [← hc3, ← hc4, ← hc5, ← hc6]; exact hr_72.1, by omega, by omega⟩, hT, hM⟩ dX10_far_133
  · skip
    refine lv_bipush (v := 50) hx hb dX10_far_8 (by decide) ?_
    refine lv_goto (tgt := 29) hx hb dX10_far_10 (by decide) ?_
    refine lv_istore_n (lv' := [(3, .int (50 : Int32)), (0, .ref x), (1, .int i1), (2, .int i2)]) hx hb dX10_far_29 rfl hl (by decide) rfl (fun ls hl => ?_)
    refine lv_iload_n hx hb dX10_far_30 rfl (lv_at hl 2 rfl) ?_
    refine lv_aload_n hx hb dX10_far_31 rfl (lv_at hl 1 rfl) ?_
    refine hk_geti hx hb hts hC_10 hown hW (gx.S hM) tt_10 90 (by decide) rfl kw_1233 ⟨rfl, rfl, rfl⟩ ((hM.o gx trivial rfl).1.trans f_x_90) dX10_far_32 ?_
    refine hb_icmp_ne (zx := i1.toInt) (zy := n0.toInt) (tgt := 43) hx hb rfl rfl dX10_far_35 (by decide) (fun c_73 => ?_) (fun c_73 => ?_)
    · skip
      refine lv_aload_n hx hb dX10_far_43 rfl (lv_at hl 1 rfl) ?_
      refine hk_getr hx hb hts hC_10 hown hW (gx.S hM) tt_10 25 (by decide) rfl kw_1168 ⟨rfl, rfl, rfl⟩ ((hM.o gx trivial rfl).2.trans f_x_25) dX10_far_44 ?_
      refine lv_aload_n hx hb dX10_far_47 rfl (lv_at hl 1 rfl) ?_
      refine hk_getr hx hb hts hC_10 hown hW (gx.S hM) tt_10 38 (by decide) rfl kw_1181 ⟨rfl, rfl, rfl⟩ ((hM.o gx trivial rfl).2.trans f_x_38) dX10_far_48 ?_
      refine lv_aload_n hx hb dX10_far_51 rfl (lv_at hl 1 rfl) ?_
      refine hk_getr hx hb hts hC_10 hown hW (gx.S hM) tt_10 91 (by decide) rfl kw_1234 ⟨rfl, rfl, rfl⟩ ((hM.o gx trivial rfl).2.trans f_x_91) dX10_far_52 ?_
      refine lv_iload_n hx hb dX10_far_55 rfl (lv_at hl 2 rfl) ?_
      refine hx_iald hx hb hW hT (gqls.S hM) tt_112 rfl ⟨by omega, by omega⟩ dX10_far_56 (fun x_74 ex_74 lx_74 ux_74 => ?_)
      have ax_74 : x_74 = lf i1.toNatClampNeg := ex_74.trans (congrFun (hx_afS hM gqls rfl af_qls) _)
      refine hx_iald hx hb hW hT (gqag.S hM) tt_73 rfl ⟨by omega, by omega⟩ dX10_far_57 (fun x_75 ex_75 lx_75 ux_75 => ?_)
      have ax_75 : x_75 = agf x_74.toNatClampNeg := ex_75.trans (congrFun (hx_afS hM gqag rfl af_qag) _)
      refine hx_iald hx hb hW hT (gqdy.S hM) tt_62 rfl ⟨by omega, by omega⟩ dX10_far_58 (fun x_76 ex_76 lx_76 ux_76 => ?_)
      have ax_76 : x_76 = dyf x_75.toNatClampNeg := ex_76.trans (congrFun (hx_afS hM gqdy rfl af_qdy) _)
      refine lv_istore (lv' := [(4, .int x_76), (3, .int (50 : Int32)), (0, .ref x), (1, .int i1), (2, .int i2)]) hx hb dX10_far_59 hl (by decide) rfl (fun ls hl => ?_)
      refine lv_iload_n hx hb dX10_far_61 rfl (lv_at hl 4 rfl) ?_
      refine lv_aload_n hx hb dX10_far_62 rfl (lv_at hl 2 rfl) ?_
      refine hk_geti hx hb hts hC_10 hown hW (gx.S hM) tt_10 90 (by decide) rfl kw_1233 ⟨rfl, rfl, rfl⟩ ((hM.o gx trivial rfl).1.trans f_x_90) dX10_far_63 ?_
      refine hb_icmp_ne (zx := i2.toInt) (zy := n0.toInt) (tgt := 74) hx hb rfl rfl dX10_far_66 (by decide) (fun c_77 => ?_) (fun c_77 => ?_)
      · skip
        refine lv_aload_n hx hb dX10_far_74 rfl (lv_at hl 2 rfl) ?_
        refine hk_getr hx hb hts hC_10 hown hW (gx.S hM) tt_10 24 (by decide) rfl kw_1167 ⟨rfl, rfl, rfl⟩ ((hM.o gx trivial rfl).2.trans f_x_24) dX10_far_75 ?_
        refine lv_aload_n hx hb dX10_far_78 rfl (lv_at hl 2 rfl) ?_
        refine hk_getr hx hb hts hC_10 hown hW (gx.S hM) tt_10 38 (by decide) rfl kw_1181 ⟨rfl, rfl, rfl⟩ ((hM.o gx trivial rfl).2.trans f_x_38) dX10_far_79 ?_
        refine lv_aload_n hx hb dX10_far_82 rfl (lv_at hl 2 rfl) ?_
        refine hk_getr hx hb hts hC_10 hown hW (gx.S hM) tt_10 91 (by decide) rfl kw_1234 ⟨rfl, rfl, rfl⟩ ((hM.o gx trivial rfl).2.trans f_x_91) dX10_far_83 ?_
        refine lv_iload_n hx hb dX10_far_86 rfl (lv_at hl 4 rfl) ?_
        refine hx_iald hx hb hW hT (gqls.S hM) tt_112 rfl ⟨by omega, by omega⟩ dX10_far_87 (fun x_78 ex_78 lx_78 ux_78 => ?_)
        have ax_78 : x_78 = lf i2.toNatClampNeg := ex_78.trans (congrFun (hx_afS hM gqls rfl af_qls) _)
        refine hx_iald hx hb hW hT (gqag.S hM) tt_73 rfl ⟨by omega, by omega⟩ dX10_far_88 (fun x_79 ex_79 lx_79 ux_79 => ?_)
        have ax_79 : x_79 = agf x_78.toNatClampNeg := ex_79.trans (congrFun (hx_afS hM gqag rfl af_qag) _)
        refine hx_iald hx hb hW hT (gqdx.S hM) tt_61 rfl ⟨by omega, by omega⟩ dX10_far_89 (fun x_80 ex_80 lx_80 ux_80 => ?_)
        have ax_80 : x_80 = dxf x_79.toNatClampNeg := ex_80.trans (congrFun (hx_afS hM gqdx rfl af_qdx) _)
        refine lv_istore (lv' := [(5, .int x_80), (4, .int x_76), (3, .int (50 : Int32)), (0, .ref x), (1, .int i1), (2, .int i2)]) hx hb dX10_far_90 hl (by decide) rfl (fun ls hl => ?_)
        refine lv_iload_n hx hb dX10_far_92 rfl (lv_at hl 5 rfl) ?_
        refine lv_aload_n hx hb dX10_far_93 rfl (lv_at hl 3 rfl) ?_
        refine hk_geti hx hb hts hC_10 hown hW (gx.S hM) tt_10 90 (by decide) rfl kw_1233 ⟨rfl, rfl, rfl⟩ ((hM.o gx trivial rfl).1.trans f_x_90) dX10_far_94 ?_
        refine hb_icmp_ne (zx := i2.toInt) (zy := n0.toInt) (tgt := 105) hx hb rfl rfl dX10_far_97 (by decide) (fun c_81 => ?_) (fun c_81 => ?_)
        · skip
          refine lv_aload_n hx hb dX10_far_105 rfl (lv_at hl 3 rfl) ?_
          refine hk_getr hx hb hts hC_10 hown hW (gx.S hM) tt_10 25 (by decide) rfl kw_1168 ⟨rfl, rfl, rfl⟩ ((hM.o gx trivial rfl).2.trans f_x_25) dX10_far_106 ?_
          refine lv_aload_n hx hb dX10_far_109 rfl (lv_at hl 3 rfl) ?_
          refine hk_getr hx hb hts hC_10 hown hW (gx.S hM) tt_10 38 (by decide) rfl kw_1181 ⟨rfl, rfl, rfl⟩ ((hM.o gx trivial rfl).2.trans f_x_38) dX10_far_110 ?_
          refine lv_aload_n hx hb dX10_far_113 rfl (lv_at hl 3 rfl) ?_
          refine hk_getr hx hb hts hC_10 hown hW (gx.S hM) tt_10 91 (by decide) rfl kw_1234 ⟨rfl, rfl, rfl⟩ ((hM.o gx trivial rfl).2.trans f_x_91) dX10_far_114 ?_
          refine lv_iload_n hx hb dX10_far_117 rfl (lv_at hl 5 rfl) ?_
          refine hx_iald hx hb hW hT (gqls.S hM) tt_112 rfl ⟨by omega, by omega⟩ dX10_far_118 (fun x_82 ex_82 lx_82 ux_82 => ?_)
          have ax_82 : x_82 = lf i2.toNatClampNeg := ex_82.trans (congrFun (hx_afS hM gqls rfl af_qls) _)
          obtain rfl : x_78 = x_82 := ex_78.trans ex_82.symm
          refine hx_iald hx hb hW hT (gqag.S hM) tt_73 rfl ⟨by omega, by omega⟩ dX10_far_119 (fun x_83 ex_83 lx_83 ux_83 => ?_)
          have ax_83 : x_83 = agf x_78.toNatClampNeg := ex_83.trans (congrFun (hx_afS hM gqag rfl af_qag) _)
          obtain rfl : x_79 = x_83 := ex_79.trans ex_83.symm
          refine hx_iald hx hb hW hT (gqdy.S hM) tt_62 rfl ⟨by omega, by omega⟩ dX10_far_120 (fun x_84 ex_84 lx_84 ux_84 => ?_)
          have ax_84 : x_84 = dyf x_79.toNatClampNeg := ex_84.trans (congrFun (hx_afS hM gqdy rfl af_qdy) _)
          refine lv_istore (lv' := [(6, .int x_84), (5, .int x_80), (4, .int x_76), (3, .int (50 : Int32)), (0, .ref x), (1, .int i1), (2, .int i2)]) hx hb dX10_far_121 hl (by decide) rfl (fun ls hl => ?_)
          have hc3 : (50 : Int32).toInt = hx_cx lf agf dxf n0.toInt i1.toInt := by unfold hx_cx; rw [if_pos (by omega)]; decide
          have hc4 : x_76.toInt = hx_cx lf agf dyf n0.toInt i1.toInt := by unfold hx_cx; rw [if_neg (by omega)]; exact congrArg Int32.toInt (ax_76.trans (congrArg (fun z : Int32 => dyf z.toInt.toNat) (ax_75.trans (congrArg (fun z : Int32 => agf z.toInt.toNat) ax_74))))
          have hc5 : x_80.toInt = hx_cx lf agf dxf n0.toInt i2.toInt := by unfold hx_cx; rw [if_neg (by omega)]; exact congrArg Int32.toInt (ax_80.trans (congrArg (fun z : Int32 => dxf z.toInt.toNat) (ax_79.trans (congrArg (fun z : Int32 => agf z.toInt.toNat) ax_78))))
          have hc6 : x_84.toInt = hx_cx lf agf dyf n0.toInt i2.toInt := by unfold hx_cx; rw [if_neg (by omega)]; exact congrArg Int32.toInt (ax_84.trans (congrArg (fun z : Int32 => dyf z.toInt.toNat) (ax_79.trans (congrArg (fun z : Int32 => agf z.toInt.toNat) ax_78))))
          refine lv_iload_n hx hb dX10_far_123 rfl (lv_at hl 3 rfl) ?_
          refine lv_iload hx hb dX10_far_124 (lv_at hl 2 rfl) ?_
          refine lv_iload hx hb dX10_far_126 (lv_at hl 1 rfl) ?_
          refine lv_iload hx hb dX10_far_128 (lv_at hl 0 rfl) ?_
          have zc_50 : (50 : Int32).toInt = 50 := by decide
          refine hx_goi (hx_runS (As := [.int (50 : Int32), .int x_76, .int x_80, .int x_84]) (rest := []) ⟨hx, hb, hml, hown, hts⟩ hW (t_X10_stepsBetween_2 l dC dI dA L h s.heap.size (50 : Int32) x_76 x_80 x_84 hT ⟨by omega, by omega⟩ ⟨by omega, by omega⟩ ⟨by omega, by omega⟩ ⟨by omega, by omega⟩) (va_cwS 4 hts (hx_gS kw_1728 kw_1726 kw_1727 kw_103) rfl rfl rfl (by decide +kernel) ⟨Nat.le_of_ble_eq_true rfl, Nat.le_of_ble_eq_true rfl⟩) rfl hl.1 rfl (Nat.le_of_ble_eq_true rfl) dX10_far_130 ⟨Nat.le_of_ble_eq_true rfl, Nat.le_of_ble_eq_true rfl⟩) hW (fun r_87 L_85 h_86 H locs p_88 hW => ?_)
          obtain ⟨hr_89, hT, hs⟩ := p_88
          replace hT : hx_T T_tb L_85 h_86 := hT
          replace hs : hx_S T_tb [] L h L_85 h_86 := hs
          replace ex_74 := ex_74.trans (hs.a (gqls.S hM) rfl _).1.symm
          replace ex_75 := ex_75.trans (hs.a (gqag.S hM) rfl _).1.symm
          replace ex_76 := ex_76.trans (hs.a (gqdy.S hM) rfl _).1.symm
          replace ex_78 := ex_78.trans (hs.a (gqls.S hM) rfl _).1.symm
          replace ex_79 := ex_79.trans (hs.a (gqag.S hM) rfl _).1.symm
          replace ex_80 := ex_80.trans (hs.a (gqdx.S hM) rfl _).1.symm
          replace ex_84 := ex_84.trans (hs.a (gqdy.S hM) rfl _).1.symm
          replace hM := hM.tr (hs.mono (by decide))
          exact hx_reti hx hb hr hlk hW ⟨⟨by unfold hx_fr; rw [← hc3, ← hc4, ← hc5, ← hc6]; exact hr_89.1, by omega, by omega⟩, hT, hM⟩ dX10_far_133
        · skip
          refine lv_bipush (v := 50) hx hb dX10_far_100 (by decide) ?_
          refine lv_goto (tgt := 121) hx hb dX10_far_102 (by decide) ?_
          refine lv_istore (lv' := [(6, .int (50 : Int32)), (5, .int x_80), (4, .int x_76), (3, .int (50 : Int32)), (0, .ref x), (1, .int i1), (2, .int i2)]) hx hb dX10_far_121 hl (by decide) rfl (fun ls hl => ?_)
          have hc3 : (50 : Int32).toInt = hx_cx lf agf dxf n0.toInt i1.toInt := by unfold hx_cx; rw [if_pos (by omega)]; decide
          have hc4 : x_76.toInt = hx_cx lf agf dyf n0.toInt i1.toInt := by unfold hx_cx; rw [if_neg (by omega)]; exact congrArg Int32.toInt (ax_76.trans (congrArg (fun z : Int32 => dyf z.toInt.toNat) (ax_75.trans (congrArg (fun z : Int32 => agf z.toInt.toNat) ax_74))))
          have hc5 : x_80.toInt = hx_cx lf agf dxf n0.toInt i2.toInt := by unfold hx_cx; rw [if_neg (by omega)]; exact congrArg Int32.toInt (ax_80.trans (congrArg (fun z : Int32 => dxf z.toInt.toNat) (ax_79.trans (congrArg (fun z : Int32 => agf z.toInt.toNat) ax_78))))
          have hc6 : (50 : Int32).toInt = hx_cx lf agf dyf n0.toInt i2.toInt := by unfold hx_cx; rw [if_pos (by omega)]; decide
          refine lv_iload_n hx hb dX10_far_123 rfl (lv_at hl 3 rfl) ?_
          refine lv_iload hx hb dX10_far_124 (lv_at hl 2 rfl) ?_
          refine lv_iload hx hb dX10_far_126 (lv_at hl 1 rfl) ?_
          refine lv_iload hx hb dX10_far_128 (lv_at hl 0 rfl) ?_
          have zc_50 : (50 : Int32).toInt = 50 := by decide
          refine hx_goi (hx_runS (As := [.int (50 : Int32), .int x_76, .int x_80, .int (50 : Int32)]) (rest := []) ⟨hx, hb, hml, hown, hts⟩ hW (t_X10_stepsBetween_2 l dC dI dA L h s.heap.size (50 : Int32) x_76 x_80 (50 : Int32) hT ⟨by omega, by omega⟩ ⟨by omega, by omega⟩ ⟨by omega, by omega⟩ ⟨by omega, by omega⟩) (va_cwS 4 hts (hx_gS kw_1728 kw_1726 kw_1727 kw_103) rfl rfl rfl (by decide +kernel) ⟨Nat.le_of_ble_eq_true rfl, Nat.le_of_ble_eq_true rfl⟩) rfl hl.1 rfl (Nat.le_of_ble_eq_true rfl) dX10_far_130 ⟨Nat.le_of_ble_eq_true rfl, Nat.le_of_ble_eq_true rfl⟩) hW (fun r_92 L_90 h_91 H locs p_93 hW => ?_)
          obtain ⟨hr_94, hT, hs⟩ := p_93
          replace hT : hx_T T_tb L_90 h_91 := hT
          replace hs : hx_S T_tb [] L h L_90 h_91 := hs
          replace ex_74 := ex_74.trans (hs.a (gqls.S hM) rfl _).1.symm
          replace ex_75 := ex_75.trans (hs.a (gqag.S hM) rfl _).1.symm
          replace ex_76 := ex_76.trans (hs.a (gqdy.S hM) rfl _).1.symm
          replace ex_78 := ex_78.trans (hs.a (gqls.S hM) rfl _).1.symm
          replace ex_79 := ex_79.trans (hs.a (gqag.S hM) rfl _).1.symm
          replace ex_80 := ex_80.trans (hs.a (gqdx.S hM) rfl _).1.symm
          replace hM := hM.tr (hs.mono (by decide))
          exact hx_reti hx hb hr hlk hW ⟨⟨by unfold hx_fr; rw [← hc3, ← hc4, ← hc5, ← hc6]; exact hr_94.1, by omega, by omega⟩, hT, hM⟩ dX10_far_133
      · skip
        refine lv_bipush (v := 50) hx hb dX10_far_69 (by decide) ?_
        refine lv_goto (tgt := 90) hx hb dX10_far_71 (by decide) ?_
        refine lv_istore (lv' := [(5, .int (50 : Int32)), (4, .int x_76), (3, .int (50 : Int32)), (0, .ref x), (1, .int i1), (2, .int i2)]) hx hb dX10_far_90 hl (by decide) rfl (fun ls hl => ?_)
        refine lv_iload_n hx hb dX10_far_92 rfl (lv_at hl 5 rfl) ?_
        refine lv_aload_n hx hb dX10_far_93 rfl (lv_at hl 3 rfl) ?_
        refine hk_geti hx hb hts hC_10 hown hW (gx.S hM) tt_10 90 (by decide) rfl kw_1233 ⟨rfl, rfl, rfl⟩ ((hM.o gx trivial rfl).1.trans f_x_90) dX10_far_94 ?_
        refine hb_icmp_ne (zx := i2.toInt) (zy := n0.toInt) (tgt := 105) hx hb rfl rfl dX10_far_97 (by decide) (fun c_95 => ?_) (fun c_95 => ?_)
        · skip
          refine lv_aload_n hx hb dX10_far_105 rfl (lv_at hl 3 rfl) ?_
          refine hk_getr hx hb hts hC_10 hown hW (gx.S hM) tt_10 25 (by decide) rfl kw_1168 ⟨rfl, rfl, rfl⟩ ((hM.o gx trivial rfl).2.trans f_x_25) dX10_far_106 ?_
          refine lv_aload_n hx hb dX10_far_109 rfl (lv_at hl 3 rfl) ?_
          refine hk_getr hx hb hts hC_10 hown hW (gx.S hM) tt_10 38 (by decide) rfl kw_1181 ⟨rfl, rfl, rfl⟩ ((hM.o gx trivial rfl).2.trans f_x_38) dX10_far_110 ?_
          refine lv_aload_n hx hb dX10_far_113 rfl (lv_at hl 3 rfl) ?_
          refine hk_getr hx hb hts hC_10 hown hW (gx.S hM) tt_10 91 (by decide) rfl kw_1234 ⟨rfl, rfl, rfl⟩ ((hM.o gx trivial rfl).2.trans f_x_91) dX10_far_114 ?_
          refine lv_iload_n hx hb dX10_far_117 rfl (lv_at hl 5 rfl) ?_
          refine hx_iald hx hb hW hT (gqls.S hM) tt_112 rfl ⟨by omega, by omega⟩ dX10_far_118 (fun x_96 ex_96 lx_96 ux_96 => ?_)
          have ax_96 : x_96 = lf i2.toNatClampNeg := ex_96.trans (congrFun (hx_afS hM gqls rfl af_qls) _)
          refine hx_iald hx hb hW hT (gqag.S hM) tt_73 rfl ⟨by omega, by omega⟩ dX10_far_119 (fun x_97 ex_97 lx_97 ux_97 => ?_)
          have ax_97 : x_97 = agf x_96.toNatClampNeg := ex_97.trans (congrFun (hx_afS hM gqag rfl af_qag) _)
          refine hx_iald hx hb hW hT (gqdy.S hM) tt_62 rfl ⟨by omega, by omega⟩ dX10_far_120 (fun x_98 ex_98 lx_98 ux_98 => ?_)
          have ax_98 : x_98 = dyf x_97.toNatClampNeg := ex_98.trans (congrFun (hx_afS hM gqdy rfl af_qdy) _)
          refine lv_istore (lv' := [(6, .int x_98), (5, .int (50 : Int32)), (4, .int x_76), (3, .int (50 : Int32)), (0, .ref x), (1, .int i1), (2, .int i2)]) hx hb dX10_far_121 hl (by decide) rfl (fun ls hl => ?_)
          have hc3 : (50 : Int32).toInt = hx_cx lf agf dxf n0.toInt i1.toInt := by unfold hx_cx; rw [if_pos (by omega)]; decide
          have hc4 : x_76.toInt = hx_cx lf agf dyf n0.toInt i1.toInt := by unfold hx_cx; rw [if_neg (by omega)]; exact congrArg Int32.toInt (ax_76.trans (congrArg (fun z : Int32 => dyf z.toInt.toNat) (ax_75.trans (congrArg (fun z : Int32 => agf z.toInt.toNat) ax_74))))
          have hc5 : (50 : Int32).toInt = hx_cx lf agf dxf n0.toInt i2.toInt := by unfold hx_cx; rw [if_pos (by omega)]; decide
          have hc6 : x_98.toInt = hx_cx lf agf dyf n0.toInt i2.toInt := by unfold hx_cx; rw [if_neg (by omega)]; exact congrArg Int32.toInt (ax_98.trans (congrArg (fun z : Int32 => dyf z.toInt.toNat) (ax_97.trans (congrArg (fun z : Int32 => agf z.toInt.toNat) ax_96))))
          refine lv_iload_n hx hb dX10_far_123 rfl (lv_at hl 3 rfl) ?_
          refine lv_iload hx hb dX10_far_124 (lv_at hl 2 rfl) ?_
          refine lv_iload hx hb dX10_far_126 (lv_at hl 1 rfl) ?_
          refine lv_iload hx hb dX10_far_128 (lv_at hl 0 rfl) ?_
          have zc_50 : (50 : Int32).toInt = 50 := by decide
          refine hx_goi (hx_runS (As := [.int (50 : Int32), .int x_76, .int (50 : Int32), .int x_98]) (rest := []) ⟨hx, hb, hml, hown, hts⟩ hW (t_X10_stepsBetween_2 l dC dI dA L h s.heap.size (50 : Int32) x_76 (50 : Int32) x_98 hT ⟨by omega, by omega⟩ ⟨by omega, by omega⟩ ⟨by omega, by omega⟩ ⟨by omega, by omega⟩) (va_cwS 4 hts (hx_gS kw_1728 kw_1726 kw_1727 kw_103) rfl rfl rfl (by decide +kernel) ⟨Nat.le_of_ble_eq_true rfl, Nat.le_of_ble_eq_true rfl⟩) rfl hl.1 rfl (Nat.le_of_ble_eq_true rfl) dX10_far_130 ⟨Nat.le_of_ble_eq_true rfl, Nat.le_of_ble_eq_true rfl⟩) hW (fun r_101 L_99 h_100 H locs p_102 hW => ?_)
          obtain ⟨hr_103, hT, hs⟩ := p_102
          replace hT : hx_T T_tb L_99 h_100 := hT
          replace hs : hx_S T_tb [] L h L_99 h_100 := hs
          replace ex_74 := ex_74.trans (hs.a (gqls.S hM) rfl _).1.symm
          replace ex_75 := ex_75.trans (hs.a (gqag.S hM) rfl _).1.symm
          replace ex_76 := ex_76.trans (hs.a (gqdy.S hM) rfl _).1.symm
          replace ex_96 := ex_96.trans (hs.a (gqls.S hM) rfl _).1.symm
          replace ex_97 := ex_97.trans (hs.a (gqag.S hM) rfl _).1.symm
          replace ex_98 := ex_98.trans (hs.a (gqdy.S hM) rfl _).1.symm
          replace hM := hM.tr (hs.mono (by decide))
          exact hx_reti hx hb hr hlk hW ⟨⟨by unfold hx_fr; rw [← hc3, ← hc4, ← hc5, ← hc6]; exact hr_103.1, by omega, by omega⟩, hT, hM⟩ dX10_far_133
        · skip
          refine lv_bipush (v := 50) hx hb dX10_far_100 (by decide) ?_
          refine lv_goto (tgt := 121) hx hb dX10_far_102 (by decide) ?_
          refine lv_istore (lv' := [(6, .int (50 : Int32)), (5, .int (50 : Int32)), (4, .int x_76), (3, .int (50 : Int32)), (0, .ref x), (1, .int i1), (2, .int i2)]) hx hb dX10_far_121 hl (by decide) rfl (fun ls hl => ?_)
          have hc3 : (50 : Int32).toInt = hx_cx lf agf dxf n0.toInt i1.toInt := by unfold hx_cx; rw [if_pos (by omega)]; decide
          have hc4 : x_76.toInt = hx_cx lf agf dyf n0.toInt i1.toInt := by unfold hx_cx; rw [if_neg (by omega)]; exact congrArg Int32.toInt (ax_76.trans (congrArg (fun z : Int32 => dyf z.toInt.toNat) (ax_75.trans (congrArg (fun z : Int32 => agf z.toInt.toNat) ax_74))))
          have hc5 : (50 : Int32).toInt = hx_cx lf agf dxf n0.toInt i2.toInt := by unfold hx_cx; rw [if_pos (by omega)]; decide
          have hc6 : (50 : Int32).toInt = hx_cx lf agf dyf n0.toInt i2.toInt := by unfold hx_cx; rw [if_pos (by omega)]; decide
          refine lv_iload_n hx hb dX10_far_123 rfl (lv_at hl 3 rfl) ?_
          refine lv_iload hx hb dX10_far_124 (lv_at hl 2 rfl) ?_
          refine lv_iload hx hb dX10_far_126 (lv_at hl 1 rfl) ?_
          refine lv_iload hx hb dX10_far_128 (lv_at hl 0 rfl) ?_
          have zc_50 : (50 : Int32).toInt = 50 := by decide
          refine hx_goi (hx_runS (As := [.int (50 : Int32), .int x_76, .int (50 : Int32), .int (50 : Int32)]) (rest := []) ⟨hx, hb, hml, hown, hts⟩ hW (t_X10_stepsBetween_2 l dC dI dA L h s.heap.size (50 : Int32) x_76 (50 : Int32) (50 : Int32) hT ⟨by omega, by omega⟩ ⟨by omega, by omega⟩ ⟨by omega, by omega⟩ ⟨by omega, by omega⟩) (va_cwS 4 hts (hx_gS kw_1728 kw_1726 kw_1727 kw_103) rfl rfl rfl (by decide +kernel) ⟨Nat.le_of_ble_eq_true rfl, Nat.le_of_ble_eq_true rfl⟩) rfl hl.1 rfl (Nat.le_of_ble_eq_true rfl) dX10_far_130 ⟨Nat.le_of_ble_eq_true rfl, Nat.le_of_ble_eq_true rfl⟩) hW (fun r_106 L_104 h_105 H locs p_107 hW => ?_)
          obtain ⟨hr_108, hT, hs⟩ := p_107
          replace hT : hx_T T_tb L_104 h_105 := hT
          replace hs : hx_S T_tb [] L h L_104 h_105 := hs
          replace ex_74 := ex_74.trans (hs.a (gqls.S hM) rfl _).1.symm
          replace ex_75 := ex_75.trans (hs.a (gqag.S hM) rfl _).1.symm
          replace ex_76 := ex_76.trans (hs.a (gqdy.S hM) rfl _).1.symm
          replace hM := hM.tr (hs.mono (by decide))
          exact hx_reti hx hb hr hlk hW ⟨⟨by unfold hx_fr; rw [← hc3, ← hc4, ← hc5, ← hc6]; exact hr_108.1, by omega, by omega⟩, hT, hM⟩ dX10_far_133
    · skip
      refine lv_bipush (v := 50) hx hb dX10_far_38 (by decide) ?_
      refine lv_goto (tgt := 59) hx hb dX10_far_40 (by decide) ?_
      refine lv_istore (lv' := [(4, .int (50 : Int32)), (3, .int (50 : Int32)), (0, .ref x), (1, .int i1), (2, .int i2)]) hx hb dX10_far_59 hl (by decide) rfl (fun ls hl => ?_)
      refine lv_iload_n hx hb dX10_far_61 rfl (lv_at hl 4 rfl) ?_
      refine lv_aload_n hx hb dX10_far_62 rfl (lv_at hl 2 rfl) ?_
      refine hk_geti hx hb hts hC_10 hown hW (gx.S hM) tt_10 90 (by decide) rfl kw_1233 ⟨rfl, rfl, rfl⟩ ((hM.o gx trivial rfl).1.trans f_x_90) dX10_far_63 ?_
      refine hb_icmp_ne (zx := i2.toInt) (zy := n0.toInt) (tgt := 74) hx hb rfl rfl dX10_far_66 (by decide) (fun c_109 => ?_) (fun c_109 => ?_)
      · skip
        refine lv_aload_n hx hb dX10_far_74 rfl (lv_at hl 2 rfl) ?_
        refine hk_getr hx hb hts hC_10 hown hW (gx.S hM) tt_10 24 (by decide) rfl kw_1167 ⟨rfl, rfl, rfl⟩ ((hM.o gx trivial rfl).2.trans f_x_24) dX10_far_75 ?_
        refine lv_aload_n hx hb dX10_far_78 rfl (lv_at hl 2 rfl) ?_
        refine hk_getr hx hb hts hC_10 hown hW (gx.S hM) tt_10 38 (by decide) rfl kw_1181 ⟨rfl, rfl, rfl⟩ ((hM.o gx trivial rfl).2.trans f_x_38) dX10_far_79 ?_
        refine lv_aload_n hx hb dX10_far_82 rfl (lv_at hl 2 rfl) ?_
        refine hk_getr hx hb hts hC_10 hown hW (gx.S hM) tt_10 91 (by decide) rfl kw_1234 ⟨rfl, rfl, rfl⟩ ((hM.o gx trivial rfl).2.trans f_x_91) dX10_far_83 ?_
        refine lv_iload_n hx hb dX10_far_86 rfl (lv_at hl 4 rfl) ?_
        refine hx_iald hx hb hW hT (gqls.S hM) tt_112 rfl ⟨by omega, by omega⟩ dX10_far_87 (fun x_110 ex_110 lx_110 ux_110 => ?_)
        have ax_110 : x_110 = lf i2.toNatClampNeg := ex_110.trans (congrFun (hx_afS hM gqls rfl af_qls) _)
        refine hx_iald hx hb hW hT (gqag.S hM) tt_73 rfl ⟨by omega, by omega⟩ dX10_far_88 (fun x_111 ex_111 lx_111 ux_111 => ?_)
        have ax_111 : x_111 = agf x_110.toNatClampNeg := ex_111.trans (congrFun (hx_afS hM gqag rfl af_qag) _)
        refine hx_iald hx hb hW hT (gqdx.S hM) tt_61 rfl ⟨by omega, by omega⟩ dX10_far_89 (fun x_112 ex_112 lx_112 ux_112 => ?_)
        have ax_112 : x_112 = dxf x_111.toNatClampNeg := ex_112.trans (congrFun (hx_afS hM gqdx rfl af_qdx) _)
        refine lv_istore (lv' := [(5, .int x_112), (4, .int (50 : Int32)), (3, .int (50 : Int32)), (0, .ref x), (1, .int i1), (2, .int i2)]) hx hb dX10_far_90 hl (by decide) rfl (fun ls hl => ?_)
        refine lv_iload_n hx hb dX10_far_92 rfl (lv_at hl 5 rfl) ?_
        refine lv_aload_n hx hb dX10_far_93 rfl (lv_at hl 3 rfl) ?_
        refine hk_geti hx hb hts hC_10 hown hW (gx.S hM) tt_10 90 (by decide) rfl kw_1233 ⟨rfl, rfl, rfl⟩ ((hM.o gx trivial rfl).1.trans f_x_90) dX10_far_94 ?_
        refine hb_icmp_ne (zx := i2.toInt) (zy := n0.toInt) (tgt := 105) hx hb rfl rfl dX10_far_97 (by decide) (fun c_113 => ?_) (fun c_113 => ?_)
        · skip
          refine lv_aload_n hx hb dX10_far_105 rfl (lv_at hl 3 rfl) ?_
          refine hk_getr hx hb hts hC_10 hown hW (gx.S hM) tt_10 25 (by decide) rfl kw_1168 ⟨rfl, rfl, rfl⟩ ((hM.o gx trivial rfl).2.trans f_x_25) dX10_far_106 ?_
          refine lv_aload_n hx hb dX10_far_109 rfl (lv_at hl 3 rfl) ?_
          refine hk_getr hx hb hts hC_10 hown hW (gx.S hM) tt_10 38 (by decide) rfl kw_1181 ⟨rfl, rfl, rfl⟩ ((hM.o gx trivial rfl).2.trans f_x_38) dX10_far_110 ?_
          refine lv_aload_n hx hb dX10_far_113 rfl (lv_at hl 3 rfl) ?_
          refine hk_getr hx hb hts hC_10 hown hW (gx.S hM) tt_10 91 (by decide) rfl kw_1234 ⟨rfl, rfl, rfl⟩ ((hM.o gx trivial rfl).2.trans f_x_91) dX10_far_114 ?_
          refine lv_iload_n hx hb dX10_far_117 rfl (lv_at hl 5 rfl) ?_
          refine hx_iald hx hb hW hT (gqls.S hM) tt_112 rfl ⟨by omega, by omega⟩ dX10_far_118 (fun x_114 ex_114 lx_114 ux_114 => ?_)
          have ax_114 : x_114 = lf i2.toNatClampNeg := ex_114.trans (congrFun (hx_afS hM gqls rfl af_qls) _)
          obtain rfl : x_110 = x_114 := ex_110.trans ex_114.symm
          refine hx_iald hx hb hW hT (gqag.S hM) tt_73 rfl ⟨by omega, by omega⟩ dX10_far_119 (fun x_115 ex_115 lx_115 ux_115 => ?_)
          have ax_115 : x_115 = agf x_110.toNatClampNeg := ex_115.trans (congrFun (hx_afS hM gqag rfl af_qag) _)
          obtain rfl : x_111 = x_115 := ex_111.trans ex_115.symm
          refine hx_iald hx hb hW hT (gqdy.S hM) tt_62 rfl ⟨by omega, by omega⟩ dX10_far_120 (fun x_116 ex_116 lx_116 ux_116 => ?_)
          have ax_116 : x_116 = dyf x_111.toNatClampNeg := ex_116.trans (congrFun (hx_afS hM gqdy rfl af_qdy) _)
          refine lv_istore (lv' := [(6, .int x_116), (5, .int x_112), (4, .int (50 : Int32)), (3, .int (50 : Int32)), (0, .ref x), (1, .int i1), (2, .int i2)]) hx hb dX10_far_121 hl (by decide) rfl (fun ls hl => ?_)
          have hc3 : (50 : Int32).toInt = hx_cx lf agf dxf n0.toInt i1.toInt := by unfold hx_cx; rw [if_pos (by omega)]; decide
          have hc4 : (50 : Int32).toInt = hx_cx lf agf dyf n0.toInt i1.toInt := by unfold hx_cx; rw [if_pos (by omega)]; decide
          have hc5 : x_112.toInt = hx_cx lf agf dxf n0.toInt i2.toInt := by unfold hx_cx; rw [if_neg (by omega)]; exact congrArg Int32.toInt (ax_112.trans (congrArg (fun z : Int32 => dxf z.toInt.toNat) (ax_111.trans (congrArg (fun z : Int32 => agf z.toInt.toNat) ax_110))))
          have hc6 : x_116.toInt = hx_cx lf agf dyf n0.toInt i2.toInt := by unfold hx_cx; rw [if_neg (by omega)]; exact congrArg Int32.toInt (ax_116.trans (congrArg (fun z : Int32 => dyf z.toInt.toNat) (ax_111.trans (congrArg (fun z : Int32 => agf z.toInt.toNat) ax_110))))
          refine lv_iload_n hx hb dX10_far_123 rfl (lv_at hl 3 rfl) ?_
          refine lv_iload hx hb dX10_far_124 (lv_at hl 2 rfl) ?_
          refine lv_iload hx hb dX10_far_126 (lv_at hl 1 rfl) ?_
          refine lv_iload hx hb dX10_far_128 (lv_at hl 0 rfl) ?_
          have zc_50 : (50 : Int32).toInt = 50 := by decide
          refine hx_goi (hx_runS (As := [.int (50 : Int32), .int (50 : Int32), .int x_112, .int x_116]) (rest := []) ⟨hx, hb, hml, hown, hts⟩ hW (t_X10_stepsBetween_2 l dC dI dA L h s.heap.size (50 : Int32) (50 : Int32) x_112 x_116 hT ⟨by omega, by omega⟩ ⟨by omega, by omega⟩ ⟨by omega, by omega⟩ ⟨by omega, by omega⟩) (va_cwS 4 hts (hx_gS kw_1728 kw_1726 kw_1727 kw_103) rfl rfl rfl (by decide +kernel) ⟨Nat.le_of_ble_eq_true rfl, Nat.le_of_ble_eq_true rfl⟩) rfl hl.1 rfl (Nat.le_of_ble_eq_true rfl) dX10_far_130 ⟨Nat.le_of_ble_eq_true rfl, Nat.le_of_ble_eq_true rfl⟩) hW (fun r_119 L_117 h_118 H locs p_120 hW => ?_)
          obtain ⟨hr_121, hT, hs⟩ := p_120
          replace hT : hx_T T_tb L_117 h_118 := hT
          replace hs : hx_S T_tb [] L h L_117 h_118 := hs
          replace ex_110 := ex_110.trans (hs.a (gqls.S hM) rfl _).1.symm
          replace ex_111 := ex_111.trans (hs.a (gqag.S hM) rfl _).1.symm
          replace ex_112 := ex_112.trans (hs.a (gqdx.S hM) rfl _).1.symm
          replace ex_116 := ex_116.trans (hs.a (gqdy.S hM) rfl _).1.symm
          replace hM := hM.tr (hs.mono (by decide))
          exact hx_reti hx hb hr hlk hW ⟨⟨by unfold hx_fr; rw [← hc3, ← hc4, ← hc5, ← hc6]; exact hr_121.1, by omega, by omega⟩, hT, hM⟩ dX10_far_133
        · skip
          refine lv_bipush (v := 50) hx hb dX10_far_100 (by decide) ?_
          refine lv_goto (tgt := 121) hx hb dX10_far_102 (by decide) ?_
          refine lv_istore (lv' := [(6, .int (50 : Int32)), (5, .int x_112), (4, .int (50 : Int32)), (3, .int (50 : Int32)), (0, .ref x), (1, .int i1), (2, .int i2)]) hx hb dX10_far_121 hl (by decide) rfl (fun ls hl => ?_)
          have hc3 : (50 : Int32).toInt = hx_cx lf agf dxf n0.toInt i1.toInt := by unfold hx_cx; rw [if_pos (by omega)]; decide
          have hc4 : (50 : Int32).toInt = hx_cx lf agf dyf n0.toInt i1.toInt := by unfold hx_cx; rw [if_pos (by omega)]; decide
          have hc5 : x_112.toInt = hx_cx lf agf dxf n0.toInt i2.toInt := by unfold hx_cx; rw [if_neg (by omega)]; exact congrArg Int32.toInt (ax_112.trans (congrArg (fun z : Int32 => dxf z.toInt.toNat) (ax_111.trans (congrArg (fun z : Int32 => agf z.toInt.toNat) ax_110))))
          have hc6 : (50 : Int32).toInt = hx_cx lf agf dyf n0.toInt i2.toInt := by unfold hx_cx; rw [if_pos (by omega)]; decide
          refine lv_iload_n hx hb dX10_far_123 rfl (lv_at hl 3 rfl) ?_
          refine lv_iload hx hb dX10_far_124 (lv_at hl 2 rfl) ?_
          refine lv_iload hx hb dX10_far_126 (lv_at hl 1 rfl) ?_
          refine lv_iload hx hb dX10_far_128 (lv_at hl 0 rfl) ?_
          have zc_50 : (50 : Int32).toInt = 50 := by decide
          refine hx_goi (hx_runS (As := [.int (50 : Int32), .int (50 : Int32), .int x_112, .int (50 : Int32)]) (rest := []) ⟨hx, hb, hml, hown, hts⟩ hW (t_X10_stepsBetween_2 l dC dI dA L h s.heap.size (50 : Int32) (50 : Int32) x_112 (50 : Int32) hT ⟨by omega, by omega⟩ ⟨by omega, by omega⟩ ⟨by omega, by omega⟩ ⟨by omega, by omega⟩) (va_cwS 4 hts (hx_gS kw_1728 kw_1726 kw_1727 kw_103) rfl rfl rfl (by decide +kernel) ⟨Nat.le_of_ble_eq_true rfl, Nat.le_of_ble_eq_true rfl⟩) rfl hl.1 rfl (Nat.le_of_ble_eq_true rfl) dX10_far_130 ⟨Nat.le_of_ble_eq_true rfl, Nat.le_of_ble_eq_true rfl⟩) hW (fun r_124 L_122 h_123 H locs p_125 hW => ?_)
          obtain ⟨hr_126, hT, hs⟩ := p_125
          replace hT : hx_T T_tb L_122 h_123 := hT
          replace hs : hx_S T_tb [] L h L_122 h_123 := hs
          replace ex_110 := ex_110.trans (hs.a (gqls.S hM) rfl _).1.symm
          replace ex_111 := ex_111.trans (hs.a (gqag.S hM) rfl _).1.symm
          replace ex_112 := ex_112.trans (hs.a (gqdx.S hM) rfl _).1.symm
          replace hM := hM.tr (hs.mono (by decide))
          exact hx_reti hx hb hr hlk hW ⟨⟨by unfold hx_fr; rw [← hc3, ← hc4, ← hc5, ← hc6]; exact hr_126.1, by omega, by omega⟩, hT, hM⟩ dX10_far_133
      · skip
        refine lv_bipush (v := 50) hx hb dX10_far_69 (by decide) ?_
        refine lv_goto (tgt := 90) hx hb dX10_far_71 (by decide) ?_
        refine lv_istore (lv' := [(5, .int (50 : Int32)), (4, .int (50 : Int32)), (3, .int (50 : Int32)), (0, .ref x), (1, .int i1), (2, .int i2)]) hx hb dX10_far_90 hl (by decide) rfl (fun ls hl => ?_)
        refine lv_iload_n hx hb dX10_far_92 rfl (lv_at hl 5 rfl) ?_
        refine lv_aload_n hx hb dX10_far_93 rfl (lv_at hl 3 rfl) ?_
        refine hk_geti hx hb hts hC_10 hown hW (gx.S hM) tt_10 90 (by decide) rfl kw_1233 ⟨rfl, rfl, rfl⟩ ((hM.o gx trivial rfl).1.trans f_x_90) dX10_far_94 ?_
        refine hb_icmp_ne (zx := i2.toInt) (zy := n0.toInt) (tgt := 105) hx hb rfl rfl dX10_far_97 (by decide) (fun c_127 => ?_) (fun c_127 => ?_)
        · skip
          refine lv_aload_n hx hb dX10_far_105 rfl (lv_at hl 3 rfl) ?_
          refine hk_getr hx hb hts hC_10 hown hW (gx.S hM) tt_10 25 (by decide) rfl kw_1168 ⟨rfl, rfl, rfl⟩ ((hM.o gx trivial rfl).2.trans f_x_25) dX10_far_106 ?_
          refine lv_aload_n hx hb dX10_far_109 rfl (lv_at hl 3 rfl) ?_
          refine hk_getr hx hb hts hC_10 hown hW (gx.S hM) tt_10 38 (by decide) rfl kw_1181 ⟨rfl, rfl, rfl⟩ ((hM.o gx trivial rfl).2.trans f_x_38) dX10_far_110 ?_
          refine lv_aload_n hx hb dX10_far_113 rfl (lv_at hl 3 rfl) ?_
          refine hk_getr hx hb hts hC_10 hown hW (gx.S hM) tt_10 91 (by decide) rfl kw_1234 ⟨rfl, rfl, rfl⟩ ((hM.o gx trivial rfl).2.trans f_x_91) dX10_far_114 ?_
          refine lv_iload_n hx hb dX10_far_117 rfl (lv_at hl 5 rfl) ?_
          refine hx_iald hx hb hW hT (gqls.S hM) tt_112 rfl ⟨by omega, by omega⟩ dX10_far_118 (fun x_128 ex_128 lx_128 ux_128 => ?_)
          have ax_128 : x_128 = lf i2.toNatClampNeg := ex_128.trans (congrFun (hx_afS hM gqls rfl af_qls) _)
          refine hx_iald hx hb hW hT (gqag.S hM) tt_73 rfl ⟨by omega, by omega⟩ dX10_far_119 (fun x_129 ex_129 lx_129 ux_129 => ?_)
          have ax_129 : x_129 = agf x_128.toNatClampNeg := ex_129.trans (congrFun (hx_afS hM gqag rfl af_qag) _)
          refine hx_iald hx hb hW hT (gqdy.S hM) tt_62 rfl ⟨by omega, by omega⟩ dX10_far_120 (fun x_130 ex_130 lx_130 ux_130 => ?_)
          have ax_130 : x_130 = dyf x_129.toNatClampNeg := ex_130.trans (congrFun (hx_afS hM gqdy rfl af_qdy) _)
          refine lv_istore (lv' := [(6, .int x_130), (5, .int (50 : Int32)), (4, .int (50 : Int32)), (3, .int (50 : Int32)), (0, .ref x), (1, .int i1), (2, .int i2)]) hx hb dX10_far_121 hl (by decide) rfl (fun ls hl => ?_)
          have hc3 : (50 : Int32).toInt = hx_cx lf agf dxf n0.toInt i1.toInt := by unfold hx_cx; rw [if_pos (by omega)]; decide
          have hc4 : (50 : Int32).toInt = hx_cx lf agf dyf n0.toInt i1.toInt := by unfold hx_cx; rw [if_pos (by omega)]; decide
          have hc5 : (50 : Int32).toInt = hx_cx lf agf dxf n0.toInt i2.toInt := by unfold hx_cx; rw [if_pos (by omega)]; decide
          have hc6 : x_130.toInt = hx_cx lf agf dyf n0.toInt i2.toInt := by unfold hx_cx; rw [if_neg (by omega)]; exact congrArg Int32.toInt (ax_130.trans (congrArg (fun z : Int32 => dyf z.toInt.toNat) (ax_129.trans (congrArg (fun z : Int32 => agf z.toInt.toNat) ax_128))))
          refine lv_iload_n hx hb dX10_far_123 rfl (lv_at hl 3 rfl) ?_
          refine lv_iload hx hb dX10_far_124 (lv_at hl 2 rfl) ?_
          refine lv_iload hx hb dX10_far_126 (lv_at hl 1 rfl) ?_
          refine lv_iload hx hb dX10_far_128 (lv_at hl 0 rfl) ?_
          have zc_50 : (50 : Int32).toInt = 50 := by decide
          refine hx_goi (hx_runS (As := [.int (50 : Int32), .int (50 : Int32), .int (50 : Int32), .int x_130]) (rest := []) ⟨hx, hb, hml, hown, hts⟩ hW (t_X10_stepsBetween_2 l dC dI dA L h s.heap.size (50 : Int32) (50 : Int32) (50 : Int32) x_130 hT ⟨by omega, by omega⟩ ⟨by omega, by omega⟩ ⟨by omega, by omega⟩ ⟨by omega, by omega⟩) (va_cwS 4 hts (hx_gS kw_1728 kw_1726 kw_1727 kw_103) rfl rfl rfl (by decide +kernel) ⟨Nat.le_of_ble_eq_true rfl, Nat.le_of_ble_eq_true rfl⟩) rfl hl.1 rfl (Nat.le_of_ble_eq_true rfl) dX10_far_130 ⟨Nat.le_of_ble_eq_true rfl, Nat.le_of_ble_eq_true rfl⟩) hW (fun r_133 L_131 h_132 H locs p_134 hW => ?_)
          obtain ⟨hr_135, hT, hs⟩ := p_134
          replace hT : hx_T T_tb L_131 h_132 := hT
          replace hs : hx_S T_tb [] L h L_131 h_132 := hs
          replace ex_128 := ex_128.trans (hs.a (gqls.S hM) rfl _).1.symm
          replace ex_129 := ex_129.trans (hs.a (gqag.S hM) rfl _).1.symm
          replace ex_130 := ex_130.trans (hs.a (gqdy.S hM) rfl _).1.symm
          replace hM := hM.tr (hs.mono (by decide))
          exact hx_reti hx hb hr hlk hW ⟨⟨by unfold hx_fr; rw [← hc3, ← hc4, ← hc5, ← hc6]; exact hr_135.1, by omega, by omega⟩, hT, hM⟩ dX10_far_133
        · skip
          refine lv_bipush (v := 50) hx hb dX10_far_100 (by decide) ?_
          refine lv_goto (tgt := 121) hx hb dX10_far_102 (by decide) ?_
          refine lv_istore (lv' := [(6, .int (50 : Int32)), (5, .int (50 : Int32)), (4, .int (50 : Int32)), (3, .int (50 : Int32)), (0, .ref x), (1, .int i1), (2, .int i2)]) hx hb dX10_far_121 hl (by decide) rfl (fun ls hl => ?_)
          have hc3 : (50 : Int32).toInt = hx_cx lf agf dxf n0.toInt i1.toInt := by unfold hx_cx; rw [if_pos (by omega)]; decide
          have hc4 : (50 : Int32).toInt = hx_cx lf agf dyf n0.toInt i1.toInt := by unfold hx_cx; rw [if_pos (by omega)]; decide
          have hc5 : (50 : Int32).toInt = hx_cx lf agf dxf n0.toInt i2.toInt := by unfold hx_cx; rw [if_pos (by omega)]; decide
          have hc6 : (50 : Int32).toInt = hx_cx lf agf dyf n0.toInt i2.toInt := by unfold hx_cx; rw [if_pos (by omega)]; decide
          refine lv_iload_n hx hb dX10_far_123 rfl (lv_at hl 3 rfl) ?_
          refine lv_iload hx hb dX10_far_124 (lv_at hl 2 rfl) ?_
          refine lv_iload hx hb dX10_far_126 (lv_at hl 1 rfl) ?_
          refine lv_iload hx hb dX10_far_128 (lv_at hl 0 rfl) ?_
          have zc_50 : (50 : Int32).toInt = 50 := by decide
          refine hx_goi (hx_runS (As := [.int (50 : Int32), .int (50 : Int32), .int (50 : Int32), .int (50 : Int32)]) (rest := []) ⟨hx, hb, hml, hown, hts⟩ hW (t_X10_stepsBetween_2 l dC dI dA L h s.heap.size (50 : Int32) (50 : Int32) (50 : Int32) (50 : Int32) hT ⟨by omega, by omega⟩ ⟨by omega, by omega⟩ ⟨by omega, by omega⟩ ⟨by omega, by omega⟩) (va_cwS 4 hts (hx_gS kw_1728 kw_1726 kw_1727 kw_103) rfl rfl rfl (by decide +kernel) ⟨Nat.le_of_ble_eq_true rfl, Nat.le_of_ble_eq_true rfl⟩) rfl hl.1 rfl (Nat.le_of_ble_eq_true rfl) dX10_far_130 ⟨Nat.le_of_ble_eq_true rfl, Nat.le_of_ble_eq_true rfl⟩) hW (fun r_138 L_136 h_137 H locs p_139 hW => ?_)
          obtain ⟨hr_140, hT, hs⟩ := p_139
          replace hT : hx_T T_tb L_136 h_137 := hT
          replace hs : hx_S T_tb [] L h L_136 h_137 := hs
          replace hM := hM.tr (hs.mono (by decide))
          exact hx_reti hx hb hr hlk hW ⟨⟨by unfold hx_fr; rw [← hc3, ← hc4, ← hc5, ← hc6]; exact hr_140.1, by omega, by omega⟩, hT, hM⟩ dX10_far_133


set_option maxHeartbeats 4000000 in
set_option maxRecDepth 100000 in
theorem t_X10_lesser_2 (l : Launch) (dC : Nat → ClassId) (dI : Nat → Nat → Nat) (dA : Nat → ClassId) (L : List Nat) (h : hx_h) (sz : Nat) (i1 : Int32) (i2 : Int32) (hT : hx_T T_tb L h)   : Met l yX10_lesser (Cond.code yX10_lesser cX10_lesser 2 (some .int) :: hx_all) ({ frames := 0, cells := 0, slots := 0, locals := 0 }) (va_Pc [.int i1, .int i2] (hx_B T_tb (P_ty dA) (dC, dI) vwCl L h sz)) (va_Qi (fun (r : Int32) (u : List Nat × hx_h) => ((r = i1 ∧ i1.toInt < i2.toInt) ∨ (r = i2 ∧ i2.toInt ≤ i1.toInt)) ∧ hx_T T_tb u.1 u.2 ∧ hx_S T_tb [] L h u.1 u.2) (hx_E T_tb (P_ty dA) (dC, dI) vwCl (hx_A L sz)) (hx_A L sz)) 0 0 (hx_A L sz) := by
  refine hx_met (lv := [(0, .int i1), (1, .int i2)]) (by decide +kernel) rfl (Nat.le_of_ble_eq_true rfl) rfl ?_
  intro p e s m below meth c hx hb hml hr hlk hts0 hown hin hsz hW ls hl
  have hts : ∀ w ∈ hx_all, w.before _ s = true := fun w hw => hts0 w (List.mem_cons_of_mem _ hw)
  have hown : s.vm.findClass "SmallCourtModel" = some m.cls := hown
  have hM : hx_S T_tb [] L h L h := hx_S.rf
  refine lv_iload_n hx hb dX10_lesser_0 rfl (lv_at hl 0 rfl) ?_
  refine lv_iload_n hx hb dX10_lesser_1 rfl (lv_at hl 1 rfl) ?_
  refine hb_icmp_ge (zx := i1.toInt) (zy := i2.toInt) (tgt := 9) hx hb rfl rfl dX10_lesser_2 (by decide) (fun c_1 => ?_) (fun c_1 => ?_)
  · skip
    refine lv_iload_n hx hb dX10_lesser_9 rfl (lv_at hl 1 rfl) ?_
    exact hx_reti hx hb hr hlk hW ⟨(by first | exact Or.inl ⟨rfl, by omega⟩ | exact Or.inr ⟨rfl, by omega⟩), hT, hM⟩ dX10_lesser_10
  · skip
    refine lv_iload_n hx hb dX10_lesser_5 rfl (lv_at hl 0 rfl) ?_
    refine lv_goto (tgt := 10) hx hb dX10_lesser_6 (by decide) ?_
    exact hx_reti hx hb hr hlk hW ⟨(by first | exact Or.inl ⟨rfl, by omega⟩ | exact Or.inr ⟨rfl, by omega⟩), hT, hM⟩ dX10_lesser_10

def wNX10_walk : Nat := 102546202219902619730257780274166191624176720872766602188580526406409924196800049726957281546109838690543175914228800666361604639561819411857755624356104432326118832071154168564186619496323673965665428097894271478707888184530849131298337427585561346060625585340463374783529077972640924431472074487619166577877451210867011163719396019990248194827089370316831760691174049153158275563317956433203913300056383588150710866430877468286311993369079774411439501133901964555268408481204162499687808497540318104446182003852140806866878165001014158921746548114654679889251296212229361910360718029235854727585000374699664969655143073011578153051892228
theorem wX10_walk_c : hz_cd cX10_walk wNX10_walk 265 := ⟨by decide +kernel, by decide +kernel⟩
theorem dX10_walk_0 : decode cX10_walk 0 = .ok (.iconst 1, 1) := dw_4 wX10_walk_c rfl
theorem dX10_walk_1 : decode cX10_walk 1 = .ok (.aload_n 0, 1) := dw_42 wX10_walk_c rfl
theorem dX10_walk_2 : decode cX10_walk 2 = .ok (.getfield 468, 3) := dw_180 wX10_walk_c 1 212 rfl rfl
theorem dX10_walk_5 : decode cX10_walk 5 = .ok (.ishl, 1) := dw_120 wX10_walk_c rfl
theorem dX10_walk_6 : decode cX10_walk 6 = .ok (.istore_n 1, 1) := dw_60 wX10_walk_c rfl
theorem dX10_walk_7 : decode cX10_walk 7 = .ok (.iconst 0, 1) := dw_3 wX10_walk_c rfl
theorem dX10_walk_8 : decode cX10_walk 8 = .ok (.istore_n 2, 1) := dw_61 wX10_walk_c rfl
theorem dX10_walk_9 : decode cX10_walk 9 = .ok (.iload_n 2, 1) := dw_28 wX10_walk_c rfl
theorem dX10_walk_10 : decode cX10_walk 10 = .ok (.iload_n 1, 1) := dw_27 wX10_walk_c rfl
theorem dX10_walk_11 : decode cX10_walk 11 = .ok (.if_icmp .ge 119, 3) := dw_162 wX10_walk_c 0 119 rfl rfl rfl
theorem dX10_walk_14 : decode cX10_walk 14 = .ok (.iconst 0, 1) := dw_3 wX10_walk_c rfl
theorem dX10_walk_15 : decode cX10_walk 15 = .ok (.istore_n 3, 1) := dw_62 wX10_walk_c rfl
theorem dX10_walk_16 : decode cX10_walk 16 = .ok (.iload_n 3, 1) := dw_29 wX10_walk_c rfl
theorem dX10_walk_17 : decode cX10_walk 17 = .ok (.aload_n 0, 1) := dw_42 wX10_walk_c rfl
theorem dX10_walk_18 : decode cX10_walk 18 = .ok (.getfield 468, 3) := dw_180 wX10_walk_c 1 212 rfl rfl
theorem dX10_walk_21 : decode cX10_walk 21 = .ok (.if_icmp .gt 103, 3) := dw_163 wX10_walk_c 0 103 rfl rfl rfl
theorem dX10_walk_24 : decode cX10_walk 24 = .ok (.iload_n 2, 1) := dw_28 wX10_walk_c rfl
theorem dX10_walk_25 : decode cX10_walk 25 = .ok (.ifCond .ne 15, 3) := dw_154 wX10_walk_c 0 15 rfl rfl rfl
theorem dX10_walk_28 : decode cX10_walk 28 = .ok (.aload_n 0, 1) := dw_42 wX10_walk_c rfl
theorem dX10_walk_29 : decode cX10_walk 29 = .ok (.iload_n 3, 1) := dw_29 wX10_walk_c rfl
theorem dX10_walk_30 : decode cX10_walk 30 = .ok (.aload_n 0, 1) := dw_42 wX10_walk_c rfl
theorem dX10_walk_31 : decode cX10_walk 31 = .ok (.getfield 468, 3) := dw_180 wX10_walk_c 1 212 rfl rfl
theorem dX10_walk_34 : decode cX10_walk 34 = .ok (.invokevirtual 475, 3) := dw_182 wX10_walk_c 1 219 rfl rfl
theorem dX10_walk_37 : decode cX10_walk 37 = .ok (.goto 6, 3) := dw_167 wX10_walk_c 0 6 rfl rfl rfl
theorem dX10_walk_40 : decode cX10_walk 40 = .ok (.ldc_w 431, 3) := dw_19 wX10_walk_c 1 175 rfl rfl
theorem dX10_walk_43 : decode cX10_walk 43 = .ok (.istore 4, 2) := dw_54 wX10_walk_c 4 rfl
theorem dX10_walk_45 : decode cX10_walk 45 = .ok (.iconst 0, 1) := dw_3 wX10_walk_c rfl
theorem dX10_walk_46 : decode cX10_walk 46 = .ok (.istore 5, 2) := dw_54 wX10_walk_c 5 rfl
theorem dX10_walk_48 : decode cX10_walk 48 = .ok (.iload 5, 2) := dw_21 wX10_walk_c 5 rfl
theorem dX10_walk_50 : decode cX10_walk 50 = .ok (.aload_n 0, 1) := dw_42 wX10_walk_c rfl
theorem dX10_walk_51 : decode cX10_walk 51 = .ok (.getfield 468, 3) := dw_180 wX10_walk_c 1 212 rfl rfl
theorem dX10_walk_54 : decode cX10_walk 54 = .ok (.if_icmp .ge 51, 3) := dw_162 wX10_walk_c 0 51 rfl rfl rfl
theorem dX10_walk_57 : decode cX10_walk 57 = .ok (.iload_n 2, 1) := dw_28 wX10_walk_c rfl
theorem dX10_walk_58 : decode cX10_walk 58 = .ok (.iload 5, 2) := dw_21 wX10_walk_c 5 rfl
theorem dX10_walk_60 : decode cX10_walk 60 = .ok (.ishr, 1) := dw_122 wX10_walk_c rfl
theorem dX10_walk_61 : decode cX10_walk 61 = .ok (.iconst 1, 1) := dw_4 wX10_walk_c rfl
theorem dX10_walk_62 : decode cX10_walk 62 = .ok (.iand, 1) := dw_126 wX10_walk_c rfl
theorem dX10_walk_63 : decode cX10_walk 63 = .ok (.iconst 1, 1) := dw_4 wX10_walk_c rfl
theorem dX10_walk_64 : decode cX10_walk 64 = .ok (.if_icmp .ne 35, 3) := dw_160 wX10_walk_c 0 35 rfl rfl rfl
theorem dX10_walk_67 : decode cX10_walk 67 = .ok (.iload 4, 2) := dw_21 wX10_walk_c 4 rfl
theorem dX10_walk_69 : decode cX10_walk 69 = .ok (.aload_n 0, 1) := dw_42 wX10_walk_c rfl
theorem dX10_walk_70 : decode cX10_walk 70 = .ok (.iload_n 3, 1) := dw_29 wX10_walk_c rfl
theorem dX10_walk_71 : decode cX10_walk 71 = .ok (.iload 5, 2) := dw_21 wX10_walk_c 5 rfl
theorem dX10_walk_73 : decode cX10_walk 73 = .ok (.invokevirtual 475, 3) := dw_182 wX10_walk_c 1 219 rfl rfl
theorem dX10_walk_76 : decode cX10_walk 76 = .ok (.aload_n 0, 1) := dw_42 wX10_walk_c rfl
theorem dX10_walk_77 : decode cX10_walk 77 = .ok (.getfield 207, 3) := dw_180 wX10_walk_c 0 207 rfl rfl
theorem dX10_walk_80 : decode cX10_walk 80 = .ok (.bipush 9, 2) := dw_16 wX10_walk_c 9 rfl rfl rfl
theorem dX10_walk_82 : decode cX10_walk 82 = .ok (.iload_n 2, 1) := dw_28 wX10_walk_c rfl
theorem dX10_walk_83 : decode cX10_walk 83 = .ok (.iconst 1, 1) := dw_4 wX10_walk_c rfl
theorem dX10_walk_84 : decode cX10_walk 84 = .ok (.iload 5, 2) := dw_21 wX10_walk_c 5 rfl
theorem dX10_walk_86 : decode cX10_walk 86 = .ok (.ishl, 1) := dw_120 wX10_walk_c rfl
theorem dX10_walk_87 : decode cX10_walk 87 = .ok (.ixor, 1) := dw_130 wX10_walk_c rfl
theorem dX10_walk_88 : decode cX10_walk 88 = .ok (.imul, 1) := dw_104 wX10_walk_c rfl
theorem dX10_walk_89 : decode cX10_walk 89 = .ok (.iload 5, 2) := dw_21 wX10_walk_c 5 rfl
theorem dX10_walk_91 : decode cX10_walk 91 = .ok (.iadd, 1) := dw_96 wX10_walk_c rfl
theorem dX10_walk_92 : decode cX10_walk 92 = .ok (.iaload, 1) := dw_46 wX10_walk_c rfl
theorem dX10_walk_93 : decode cX10_walk 93 = .ok (.iadd, 1) := dw_96 wX10_walk_c rfl
theorem dX10_walk_94 : decode cX10_walk 94 = .ok (.invokestatic 448, 3) := dw_184 wX10_walk_c 1 192 rfl rfl
theorem dX10_walk_97 : decode cX10_walk 97 = .ok (.istore 4, 2) := dw_54 wX10_walk_c 4 rfl
theorem dX10_walk_99 : decode cX10_walk 99 = .ok (.iinc 5 1, 3) := dw_132 wX10_walk_c 5 1 rfl rfl rfl
theorem dX10_walk_102 : decode cX10_walk 102 = .ok (.goto (-54), 3) := dn_167 wX10_walk_c 255 202 rfl (by decide)
theorem dX10_walk_105 : decode cX10_walk 105 = .ok (.aload_n 0, 1) := dw_42 wX10_walk_c rfl
theorem dX10_walk_106 : decode cX10_walk 106 = .ok (.getfield 207, 3) := dw_180 wX10_walk_c 0 207 rfl rfl
theorem dX10_walk_109 : decode cX10_walk 109 = .ok (.bipush 9, 2) := dw_16 wX10_walk_c 9 rfl rfl rfl
theorem dX10_walk_111 : decode cX10_walk 111 = .ok (.iload_n 2, 1) := dw_28 wX10_walk_c rfl
theorem dX10_walk_112 : decode cX10_walk 112 = .ok (.imul, 1) := dw_104 wX10_walk_c rfl
theorem dX10_walk_113 : decode cX10_walk 113 = .ok (.iload_n 3, 1) := dw_29 wX10_walk_c rfl
theorem dX10_walk_114 : decode cX10_walk 114 = .ok (.iadd, 1) := dw_96 wX10_walk_c rfl
theorem dX10_walk_115 : decode cX10_walk 115 = .ok (.iload 4, 2) := dw_21 wX10_walk_c 4 rfl
theorem dX10_walk_117 : decode cX10_walk 117 = .ok (.iastore, 1) := dw_79 wX10_walk_c rfl
theorem dX10_walk_118 : decode cX10_walk 118 = .ok (.iinc 3 1, 3) := dw_132 wX10_walk_c 3 1 rfl rfl rfl
theorem dX10_walk_121 : decode cX10_walk 121 = .ok (.goto (-105), 3) := dn_167 wX10_walk_c 255 151 rfl (by decide)
theorem dX10_walk_124 : decode cX10_walk 124 = .ok (.iinc 2 1, 3) := dw_132 wX10_walk_c 2 1 rfl rfl rfl
theorem dX10_walk_127 : decode cX10_walk 127 = .ok (.goto (-118), 3) := dn_167 wX10_walk_c 255 138 rfl (by decide)
theorem dX10_walk_130 : decode cX10_walk 130 = .ok (.iload_n 1, 1) := dw_27 wX10_walk_c rfl
theorem dX10_walk_131 : decode cX10_walk 131 = .ok (.iconst 1, 1) := dw_4 wX10_walk_c rfl
theorem dX10_walk_132 : decode cX10_walk 132 = .ok (.isub, 1) := dw_100 wX10_walk_c rfl
theorem dX10_walk_133 : decode cX10_walk 133 = .ok (.istore_n 2, 1) := dw_61 wX10_walk_c rfl
theorem dX10_walk_134 : decode cX10_walk 134 = .ok (.aload_n 0, 1) := dw_42 wX10_walk_c rfl
theorem dX10_walk_135 : decode cX10_walk 135 = .ok (.getfield 468, 3) := dw_180 wX10_walk_c 1 212 rfl rfl
theorem dX10_walk_138 : decode cX10_walk 138 = .ok (.istore_n 3, 1) := dw_62 wX10_walk_c rfl
theorem dX10_walk_139 : decode cX10_walk 139 = .ok (.aload_n 0, 1) := dw_42 wX10_walk_c rfl
theorem dX10_walk_140 : decode cX10_walk 140 = .ok (.getfield 207, 3) := dw_180 wX10_walk_c 0 207 rfl rfl
theorem dX10_walk_143 : decode cX10_walk 143 = .ok (.bipush 9, 2) := dw_16 wX10_walk_c 9 rfl rfl rfl
theorem dX10_walk_145 : decode cX10_walk 145 = .ok (.iload_n 2, 1) := dw_28 wX10_walk_c rfl
theorem dX10_walk_146 : decode cX10_walk 146 = .ok (.imul, 1) := dw_104 wX10_walk_c rfl
theorem dX10_walk_147 : decode cX10_walk 147 = .ok (.iload_n 3, 1) := dw_29 wX10_walk_c rfl
theorem dX10_walk_148 : decode cX10_walk 148 = .ok (.iadd, 1) := dw_96 wX10_walk_c rfl
theorem dX10_walk_149 : decode cX10_walk 149 = .ok (.iaload, 1) := dw_46 wX10_walk_c rfl
theorem dX10_walk_150 : decode cX10_walk 150 = .ok (.istore 4, 2) := dw_54 wX10_walk_c 4 rfl
theorem dX10_walk_152 : decode cX10_walk 152 = .ok (.aload_n 0, 1) := dw_42 wX10_walk_c rfl
theorem dX10_walk_153 : decode cX10_walk 153 = .ok (.iconst 0, 1) := dw_3 wX10_walk_c rfl
theorem dX10_walk_154 : decode cX10_walk 154 = .ok (.putfield 478, 3) := dw_181 wX10_walk_c 1 222 rfl rfl
theorem dX10_walk_157 : decode cX10_walk 157 = .ok (.iload_n 2, 1) := dw_28 wX10_walk_c rfl
theorem dX10_walk_158 : decode cX10_walk 158 = .ok (.ifCond .eq 99, 3) := dw_153 wX10_walk_c 0 99 rfl rfl rfl
theorem dX10_walk_161 : decode cX10_walk 161 = .ok (.iconst 0, 1) := dw_3 wX10_walk_c rfl
theorem dX10_walk_162 : decode cX10_walk 162 = .ok (.istore 5, 2) := dw_54 wX10_walk_c 5 rfl
theorem dX10_walk_164 : decode cX10_walk 164 = .ok (.iload_n 2, 1) := dw_28 wX10_walk_c rfl
theorem dX10_walk_165 : decode cX10_walk 165 = .ok (.iload 5, 2) := dw_21 wX10_walk_c 5 rfl
theorem dX10_walk_167 : decode cX10_walk 167 = .ok (.ishr, 1) := dw_122 wX10_walk_c rfl
theorem dX10_walk_168 : decode cX10_walk 168 = .ok (.iconst 1, 1) := dw_4 wX10_walk_c rfl
theorem dX10_walk_169 : decode cX10_walk 169 = .ok (.iand, 1) := dw_126 wX10_walk_c rfl
theorem dX10_walk_170 : decode cX10_walk 170 = .ok (.ifCond .eq 42, 3) := dw_153 wX10_walk_c 0 42 rfl rfl rfl
theorem dX10_walk_173 : decode cX10_walk 173 = .ok (.aload_n 0, 1) := dw_42 wX10_walk_c rfl
theorem dX10_walk_174 : decode cX10_walk 174 = .ok (.iload_n 3, 1) := dw_29 wX10_walk_c rfl
theorem dX10_walk_175 : decode cX10_walk 175 = .ok (.iload 5, 2) := dw_21 wX10_walk_c 5 rfl
theorem dX10_walk_177 : decode cX10_walk 177 = .ok (.invokevirtual 475, 3) := dw_182 wX10_walk_c 1 219 rfl rfl
theorem dX10_walk_180 : decode cX10_walk 180 = .ok (.aload_n 0, 1) := dw_42 wX10_walk_c rfl
theorem dX10_walk_181 : decode cX10_walk 181 = .ok (.getfield 207, 3) := dw_180 wX10_walk_c 0 207 rfl rfl
theorem dX10_walk_184 : decode cX10_walk 184 = .ok (.bipush 9, 2) := dw_16 wX10_walk_c 9 rfl rfl rfl
theorem dX10_walk_186 : decode cX10_walk 186 = .ok (.iload_n 2, 1) := dw_28 wX10_walk_c rfl
theorem dX10_walk_187 : decode cX10_walk 187 = .ok (.iconst 1, 1) := dw_4 wX10_walk_c rfl
theorem dX10_walk_188 : decode cX10_walk 188 = .ok (.iload 5, 2) := dw_21 wX10_walk_c 5 rfl
theorem dX10_walk_190 : decode cX10_walk 190 = .ok (.ishl, 1) := dw_120 wX10_walk_c rfl
theorem dX10_walk_191 : decode cX10_walk 191 = .ok (.ixor, 1) := dw_130 wX10_walk_c rfl
theorem dX10_walk_192 : decode cX10_walk 192 = .ok (.imul, 1) := dw_104 wX10_walk_c rfl
theorem dX10_walk_193 : decode cX10_walk 193 = .ok (.iload 5, 2) := dw_21 wX10_walk_c 5 rfl
theorem dX10_walk_195 : decode cX10_walk 195 = .ok (.iadd, 1) := dw_96 wX10_walk_c rfl
theorem dX10_walk_196 : decode cX10_walk 196 = .ok (.iaload, 1) := dw_46 wX10_walk_c rfl
theorem dX10_walk_197 : decode cX10_walk 197 = .ok (.iadd, 1) := dw_96 wX10_walk_c rfl
theorem dX10_walk_198 : decode cX10_walk 198 = .ok (.aload_n 0, 1) := dw_42 wX10_walk_c rfl
theorem dX10_walk_199 : decode cX10_walk 199 = .ok (.getfield 207, 3) := dw_180 wX10_walk_c 0 207 rfl rfl
theorem dX10_walk_202 : decode cX10_walk 202 = .ok (.bipush 9, 2) := dw_16 wX10_walk_c 9 rfl rfl rfl
theorem dX10_walk_204 : decode cX10_walk 204 = .ok (.iload_n 2, 1) := dw_28 wX10_walk_c rfl
theorem dX10_walk_205 : decode cX10_walk 205 = .ok (.imul, 1) := dw_104 wX10_walk_c rfl
theorem dX10_walk_206 : decode cX10_walk 206 = .ok (.iload_n 3, 1) := dw_29 wX10_walk_c rfl
theorem dX10_walk_207 : decode cX10_walk 207 = .ok (.iadd, 1) := dw_96 wX10_walk_c rfl
theorem dX10_walk_208 : decode cX10_walk 208 = .ok (.iaload, 1) := dw_46 wX10_walk_c rfl
theorem dX10_walk_209 : decode cX10_walk 209 = .ok (.if_icmp .eq 9, 3) := dw_159 wX10_walk_c 0 9 rfl rfl rfl
theorem dX10_walk_212 : decode cX10_walk 212 = .ok (.iinc 5 1, 3) := dw_132 wX10_walk_c 5 1 rfl rfl rfl
theorem dX10_walk_215 : decode cX10_walk 215 = .ok (.goto (-51), 3) := dn_167 wX10_walk_c 255 205 rfl (by decide)
theorem dX10_walk_218 : decode cX10_walk 218 = .ok (.aload_n 0, 1) := dw_42 wX10_walk_c rfl
theorem dX10_walk_219 : decode cX10_walk 219 = .ok (.getfield 204, 3) := dw_180 wX10_walk_c 0 204 rfl rfl
theorem dX10_walk_222 : decode cX10_walk 222 = .ok (.aload_n 0, 1) := dw_42 wX10_walk_c rfl
theorem dX10_walk_223 : decode cX10_walk 223 = .ok (.getfield 478, 3) := dw_180 wX10_walk_c 1 222 rfl rfl
theorem dX10_walk_226 : decode cX10_walk 226 = .ok (.aload_n 0, 1) := dw_42 wX10_walk_c rfl
theorem dX10_walk_227 : decode cX10_walk 227 = .ok (.getfield 201, 3) := dw_180 wX10_walk_c 0 201 rfl rfl
theorem dX10_walk_230 : decode cX10_walk 230 = .ok (.iload 5, 2) := dw_21 wX10_walk_c 5 rfl
theorem dX10_walk_232 : decode cX10_walk 232 = .ok (.iaload, 1) := dw_46 wX10_walk_c rfl
theorem dX10_walk_233 : decode cX10_walk 233 = .ok (.iastore, 1) := dw_79 wX10_walk_c rfl
theorem dX10_walk_234 : decode cX10_walk 234 = .ok (.aload_n 0, 1) := dw_42 wX10_walk_c rfl
theorem dX10_walk_235 : decode cX10_walk 235 = .ok (.dup, 1) := dw_89 wX10_walk_c rfl
theorem dX10_walk_236 : decode cX10_walk 236 = .ok (.getfield 478, 3) := dw_180 wX10_walk_c 1 222 rfl rfl
theorem dX10_walk_239 : decode cX10_walk 239 = .ok (.iconst 1, 1) := dw_4 wX10_walk_c rfl
theorem dX10_walk_240 : decode cX10_walk 240 = .ok (.iadd, 1) := dw_96 wX10_walk_c rfl
theorem dX10_walk_241 : decode cX10_walk 241 = .ok (.putfield 478, 3) := dw_181 wX10_walk_c 1 222 rfl rfl
theorem dX10_walk_244 : decode cX10_walk 244 = .ok (.iload_n 2, 1) := dw_28 wX10_walk_c rfl
theorem dX10_walk_245 : decode cX10_walk 245 = .ok (.iconst 1, 1) := dw_4 wX10_walk_c rfl
theorem dX10_walk_246 : decode cX10_walk 246 = .ok (.iload 5, 2) := dw_21 wX10_walk_c 5 rfl
theorem dX10_walk_248 : decode cX10_walk 248 = .ok (.ishl, 1) := dw_120 wX10_walk_c rfl
theorem dX10_walk_249 : decode cX10_walk 249 = .ok (.ixor, 1) := dw_130 wX10_walk_c rfl
theorem dX10_walk_250 : decode cX10_walk 250 = .ok (.istore_n 2, 1) := dw_61 wX10_walk_c rfl
theorem dX10_walk_251 : decode cX10_walk 251 = .ok (.iload 5, 2) := dw_21 wX10_walk_c 5 rfl
theorem dX10_walk_253 : decode cX10_walk 253 = .ok (.istore_n 3, 1) := dw_62 wX10_walk_c rfl
theorem dX10_walk_254 : decode cX10_walk 254 = .ok (.goto (-97), 3) := dn_167 wX10_walk_c 255 159 rfl (by decide)
theorem dX10_walk_257 : decode cX10_walk 257 = .ok (.aload_n 0, 1) := dw_42 wX10_walk_c rfl
theorem dX10_walk_258 : decode cX10_walk 258 = .ok (.iconst 0, 1) := dw_3 wX10_walk_c rfl
theorem dX10_walk_259 : decode cX10_walk 259 = .ok (.putfield 468, 3) := dw_181 wX10_walk_c 1 212 rfl rfl
theorem dX10_walk_262 : decode cX10_walk 262 = .ok (.iload 4, 2) := dw_21 wX10_walk_c 4 rfl
theorem dX10_walk_264 : decode cX10_walk 264 = .ok (.ireturn, 1) := dw_172 wX10_walk_c rfl
set_option maxHeartbeats 4000000 in
set_option maxRecDepth 100000 in
theorem t_X10_walk (l : Launch) (dC : Nat → ClassId) (dI : Nat → Nat → Nat) (dA : Nat → ClassId) (L : List Nat) (h : hx_h) (sz : Nat) (x : Nat) (hT : hx_T T_tb L h) (gx : hx_g L h x 10) (qls : Nat) (gqls : hx_g L h qls 112) (f_x_91 : h.2.2 x 91 = some qls) (qag : Nat) (gqag : hx_g L h qag 73) (f_x_38 : h.2.2 x 38 = some qag) (qdx : Nat) (gqdx : hx_g L h qdx 61) (f_x_24 : h.2.2 x 24 = some qdx) (qdy : Nat) (gqdy : hx_g L h qdy 62) (f_x_25 : h.2.2 x 25 = some qdy) (qhm : Nat) (gqhm : hx_g L h qhm 114) (f_x_94 : h.2.2 x 94 = some qhm) (qwd : Nat) (gqwd : hx_g L h qwd 113) (f_x_93 : h.2.2 x 93 = some qwd) (lf : Nat → Int32) (af_qls : h.2.1 qls = lf) (agf : Nat → Int32) (af_qag : h.2.1 qag = agf) (dxf : Nat → Int32) (af_qdx : h.2.1 qdx = dxf) (dyf : Nat → Int32) (af_qdy : h.2.1 qdy = dyf) (hm0 : Nat → Int32) (af_qhm : h.2.1 qhm = hm0) (wd0 : Nat → Int32) (af_qwd : h.2.1 qwd = wd0) (n0 : Int32) (f_x_90 : h.2.1 x 90 = n0) : Met l yX10_walk (Cond.code yX10_walk cX10_walk 6 (some .int) :: hx_all) ({ frames := 2, cells := 0, slots := 0, locals := 49 }) (va_Pc [.ref x] (hx_B T_tb (P_ty dA) (dC, dI) vwCl L h sz)) (va_Qi (fun (r : Int32) (u : List Nat × hx_h) => (∃ (ln1 : Int32) (wm1 : Int32) (wd1 : Nat → Int32), u.2.2.1 x 90 = ln1 ∧ u.2.2.1 x 92 = wm1 ∧ u.2.2.1 qwd = wd1 ∧ (ln1.toInt = 0 ∧ wm1.toInt = n0.toInt ∧ hx_WA (hx_fr lf agf dxf dyf n0.toInt) n0.toInt lf wd1 r.toInt)) ∧ hx_T T_tb u.1 u.2 ∧ hx_S T_tb [(10, 90), (10, 92), (113, 0), (114, 0)] L h u.1 u.2) (hx_E T_tb (P_ty dA) (dC, dI) vwCl (hx_A L sz)) (hx_A L sz)) 0 0 (hx_A L sz) := by
  refine hx_met (lv := [(0, .ref x)]) (by decide +kernel) rfl (Nat.le_of_ble_eq_true rfl) rfl ?_
  intro p e s m below meth c hx hb hml hr hlk hts0 hown hin hsz hW ls hl
  have hts : ∀ w ∈ hx_all, w.before _ s = true := fun w hw => hts0 w (List.mem_cons_of_mem _ hw)
  have hown : s.vm.findClass "SmallCourtModel" = some m.cls := hown
  have hM : hx_S T_tb [(10, 90), (10, 92), (113, 0), (114, 0)] L h L h := hx_S.rf
  have b_n0 := hT.gi gx tt_10 (k := 90) rfl
  rw [f_x_90] at b_n0
  have b_n0 : 0 ≤ n0.toInt ∧ n0.toInt ≤ 8 := b_n0
  refine lv_iconst (v := 1) hx hb dX10_walk_0 (by decide) ?_
  refine lv_aload_n hx hb dX10_walk_1 rfl (lv_at hl 0 rfl) ?_
  refine hk_geti hx hb hts hC_10 hown hW (gx.S hM) tt_10 90 (by decide) rfl kw_1233 ⟨rfl, rfl, rfl⟩ f_x_90 dX10_walk_2 ?_
  refine lv_ishl hx hb dX10_walk_5 ?_
  refine lv_topi (fun x_1 ex_1 => ?_)
  have zx_1 : 1 ≤ x_1.toInt ∧ x_1.toInt ≤ 256 := by rw [ex_1]; exact hx_shl8 (by omega) (by omega)
  refine lv_istore_n (lv' := [(1, .int x_1), (0, .ref x)]) hx hb dX10_walk_6 rfl hl (by decide) rfl (fun ls hl => ?_)
  have hsets : x_1.toInt = 2 ^ n0.toInt.toNat := by rw [ex_1]; exact hx_sh2 (by omega) (by omega)
  refine lv_iconst (v := 0) hx hb dX10_walk_7 (by decide) ?_
  refine lv_istore_n (lv' := [(2, .int (0 : Int32)), (1, .int x_1), (0, .ref x)]) hx hb dX10_walk_8 rfl hl (by decide) rfl (fun ls hl => ?_)
  have loop9 : ∀ (n9 : Nat) (iv9_2 : Int32) (ia9_qhm : Nat → Int32) (H : Heap) (locs : List Loc) (hL1 : List Nat) (hl1 : hx_h), 0 ≤ iv9_2.toInt → iv9_2.toInt ≤ 256 → (hx_D (hx_fr lf agf dxf dyf n0.toInt) n0.toInt ia9_qhm iv9_2.toInt 0) → ∀ (ls : Array Slot), 256 - iv9_2.toInt < (n9 : Int) → hx_W T_tb (P_ty dA) (dC, dI) vwCl (hx_A L sz) s.heap hL1 hl1 s H locs → hx_T T_tb hL1 hl1 → hx_S T_tb [(10, 90), (10, 92), (113, 0), (114, 0)] L h hL1 hl1 → hl1.2.1 x 90 = n0 → hl1.2.1 qhm = ia9_qhm → hl1.2.1 qwd = wd0 → lv_has ls 6 [(2, .int iv9_2), (1, .int x_1), (0, .ref x)] → W p l e ({ frames := 2, cells := 0, slots := 0, locals := 49 }) s m ([.ref x] : List Value).toArray below meth c H locs 0 0 (MQ below (va_Qi (fun (r : Int32) (u : List Nat × hx_h) => (∃ (ln1 : Int32) (wm1 : Int32) (wd1 : Nat → Int32), u.2.2.1 x 90 = ln1 ∧ u.2.2.1 x 92 = wm1 ∧ u.2.2.1 qwd = wd1 ∧ (ln1.toInt = 0 ∧ wm1.toInt = n0.toInt ∧ hx_WA (hx_fr lf agf dxf dyf n0.toInt) n0.toInt lf wd1 r.toInt)) ∧ hx_T T_tb u.1 u.2 ∧ hx_S T_tb [(10, 90), (10, 92), (113, 0), (114, 0)] L h u.1 u.2) (hx_E T_tb (P_ty dA) (dC, dI) vwCl (hx_A L sz)) (hx_A L sz)) ([.ref x] : List Value).toArray s 0 0 (hx_A L sz)) (F0 m 9 ls []) := by
    intro n9
    induction n9 with
    | zero => intro iv9_2 ia9_qhm H locs hL1 hl1 bliv9_2 buiv9_2 vi9_0 ls hn9; exfalso; omega
    | succ n9 ih9 =>
      intro iv9_2 ia9_qhm H locs hL1 hl1 bliv9_2 buiv9_2 vi9_0 ls hn9 hW hT hM f_x_90 nia9_qhm af_qwd hl
      refine lv_iload_n hx hb dX10_walk_9 rfl (lv_at hl 0 rfl) ?_
      refine lv_iload_n hx hb dX10_walk_10 rfl (lv_at hl 1 rfl) ?_
      refine hb_icmp_ge (zx := iv9_2.toInt) (zy := x_1.toInt) (tgt := 130) hx hb rfl rfl dX10_walk_11 (by decide) (fun c_2 => ?_) (fun c_2 => ?_)
      · skip
        refine lv_iload_n hx hb dX10_walk_130 rfl (lv_at hl 1 rfl) ?_
        refine lv_iconst (v := 1) hx hb dX10_walk_131 (by decide) ?_
        refine lv_isub hx hb dX10_walk_132 ?_
        have rg_3 := i32_r x_1
        refine lv_topi (fun x_4 ex_4 => ?_)
        have zx_4 : x_4.toInt = x_1.toInt - 1 := by rw [ex_4]; exact i32_sub rfl (by decide) (by omega) (by omega)
        refine lv_istore_n (lv' := [(2, .int x_4), (1, .int x_1), (0, .ref x)]) hx hb dX10_walk_133 rfl hl (by decide) rfl (fun ls hl => ?_)
        refine lv_aload_n hx hb dX10_walk_134 rfl (lv_at hl 2 rfl) ?_
        refine hk_geti hx hb hts hC_10 hown hW (gx.S hM) tt_10 90 (by decide) rfl kw_1233 ⟨rfl, rfl, rfl⟩ f_x_90 dX10_walk_135 ?_
        refine lv_istore_n (lv' := [(3, .int n0), (2, .int x_4), (1, .int x_1), (0, .ref x)]) hx hb dX10_walk_138 rfl hl (by decide) rfl (fun ls hl => ?_)
        refine lv_aload_n hx hb dX10_walk_139 rfl (lv_at hl 3 rfl) ?_
        refine hk_getr hx hb hts hC_10 hown hW (gx.S hM) tt_10 94 (by decide) rfl kw_1237 ⟨rfl, rfl, rfl⟩ ((hM.o gx trivial rfl).2.trans f_x_94) dX10_walk_140 ?_
        refine lv_bipush (v := 9) hx hb dX10_walk_143 (by decide) ?_
        refine lv_iload_n hx hb dX10_walk_145 rfl (lv_at hl 1 rfl) ?_
        refine lv_imul hx hb dX10_walk_146 ?_
        refine lv_topi (fun x_5 ex_5 => ?_)
        have zx_5 : x_5.toInt = 9 * x_4.toInt := by rw [ex_5]; exact i32_mul (by decide) rfl rfl (by omega) (by omega)
        refine lv_iload_n hx hb dX10_walk_147 rfl (lv_at hl 0 rfl) ?_
        refine lv_iadd hx hb dX10_walk_148 ?_
        have rg_6 := i32_r x_5
        have rg_7 := i32_r n0
        refine lv_topi (fun x_8 ex_8 => ?_)
        have zx_8 : x_8.toInt = x_5.toInt + n0.toInt := by rw [ex_8]; exact i32_add rfl rfl (by omega) (by omega)
        refine hx_iald hx hb hW hT (gqhm.S hM) tt_114 rfl ⟨by omega, by omega⟩ dX10_walk_149 (fun x_9 ex_9 lx_9 ux_9 => ?_)
        have ax_9 : x_9 = ia9_qhm x_8.toNatClampNeg := ex_9.trans (congrFun nia9_qhm _)
        have hDf : hx_D (hx_fr lf agf dxf dyf n0.toInt) n0.toInt ia9_qhm (2 ^ n0.toInt.toNat) 0 := hx_D_le vi9_0 (by omega)
        have hl0 : x_4.toInt = 2 ^ n0.toInt.toNat - 1 := by omega
        have hv0 : x_9.toInt = hx_HM ia9_qhm (2 ^ n0.toInt.toNat - 1) n0.toInt := (congrArg Int32.toInt ax_9).trans (congrArg (fun z => (ia9_qhm z).toInt) (by unfold Int32.toNatClampNeg; omega))
        have hRf : hx_mn (hx_fr lf agf dxf dyf n0.toInt) (hx_HM ia9_qhm) n0.toInt (2 ^ n0.toInt.toNat - 1) n0.toInt x_9.toInt := by rw [hv0]; exact hx_D_mn hDf (by omega) (by omega) (by omega) (by omega)
        refine lv_istore (lv' := [(4, .int x_9), (3, .int n0), (2, .int x_4), (1, .int x_1), (0, .ref x)]) hx hb dX10_walk_150 hl (by decide) rfl (fun ls hl => ?_)
        have hpc0 : hx_pc x_4.toInt = n0.toInt := by rw [zx_4, hsets]; exact hx_pc_all (by omega) (by omega)
        refine lv_aload_n hx hb dX10_walk_152 rfl (lv_at hl 4 rfl) ?_
        refine lv_iconst (v := 0) hx hb dX10_walk_153 (by decide) ?_
        refine hx_puti hx hb hts hC_10 hown hW hT (hx_S.rf (M := [(10, 92)])) (gx.S hM) tt_10 92 (by decide) rfl kw_1235 ⟨rfl, rfl, rfl⟩ rfl (x := (0 : Int32)) (by decide) rfl rfl rfl (List.mem_singleton.mpr rfl) dX10_walk_154 (fun H locs h_10 eh_10 hW hT hs => ?_)
        replace f_x_90 := (hs.o (gx.S hM) trivial rfl).1.trans f_x_90
        replace af_qwd : h_10.2.1 qwd = wd0 := (funext fun j => (hs.a (gqwd.S hM) rfl j).1).trans af_qwd
        replace nia9_qhm : h_10.2.1 qhm = ia9_qhm := (funext fun j => (hs.a (gqhm.S hM) rfl j).1).trans nia9_qhm
        replace ex_9 := ex_9.trans (hs.a (gqhm.S hM) rfl _).1.symm
        replace hM := hM.tr (hs.mono (by decide))
        have f_11 : h_10.2.1 x 92 = (0 : Int32) := by rw [eh_10]; exact hx_pi_at _ _ _ _
        have loop157 : ∀ (n157 : Nat) (iv157_2 iv157_3 fw157_x_92 : Int32) (ia157_qwd : Nat → Int32) (H : Heap) (locs : List Loc) (hL1 : List Nat) (hl1 : hx_h), 0 ≤ iv157_2.toInt → iv157_2.toInt ≤ 255 → 0 ≤ iv157_3.toInt → iv157_3.toInt ≤ 8 → 0 ≤ fw157_x_92.toInt → fw157_x_92.toInt ≤ 8 → (iv157_2.toInt < x_1.toInt) → (iv157_3.toInt ≤ n0.toInt) → (fw157_x_92.toInt + hx_pc iv157_2.toInt = n0.toInt) → (hx_wj (hx_fr lf agf dxf dyf n0.toInt) (hx_HM ia9_qhm) n0.toInt x_9.toInt lf ia157_qwd fw157_x_92.toInt iv157_2.toInt iv157_3.toInt (hx_HM ia9_qhm iv157_2.toInt iv157_3.toInt)) → ∀ (ls : Array Slot), iv157_2.toInt < (n157 : Int) → hx_W T_tb (P_ty dA) (dC, dI) vwCl (hx_A L sz) s.heap hL1 hl1 s H locs → hx_T T_tb hL1 hl1 → hx_S T_tb [(10, 90), (10, 92), (113, 0), (114, 0)] L h hL1 hl1 → hl1.2.1 x 92 = fw157_x_92 → hl1.2.1 x 90 = n0 → hl1.2.1 qwd = ia157_qwd → hl1.2.1 qhm = ia9_qhm → lv_has ls 6 [(4, .int x_9), (3, .int iv157_3), (2, .int iv157_2), (1, .int x_1), (0, .ref x)] → W p l e ({ frames := 2, cells := 0, slots := 0, locals := 49 }) s m ([.ref x] : List Value).toArray below meth c H locs 0 0 (MQ below (va_Qi (fun (r : Int32) (u : List Nat × hx_h) => (∃ (ln1 : Int32) (wm1 : Int32) (wd1 : Nat → Int32), u.2.2.1 x 90 = ln1 ∧ u.2.2.1 x 92 = wm1 ∧ u.2.2.1 qwd = wd1 ∧ (ln1.toInt = 0 ∧ wm1.toInt = n0.toInt ∧ hx_WA (hx_fr lf agf dxf dyf n0.toInt) n0.toInt lf wd1 r.toInt)) ∧ hx_T T_tb u.1 u.2 ∧ hx_S T_tb [(10, 90), (10, 92), (113, 0), (114, 0)] L h u.1 u.2) (hx_E T_tb (P_ty dA) (dC, dI) vwCl (hx_A L sz)) (hx_A L sz)) ([.ref x] : List Value).toArray s 0 0 (hx_A L sz)) (F0 m 157 ls []) := by
          intro n157
          induction n157 with
          | zero => intro iv157_2 iv157_3 fw157_x_92 ia157_qwd H locs hL1 hl1 bliv157_2 buiv157_2 bliv157_3 buiv157_3 blfw157_x_92 bufw157_x_92 vi157_0 vi157_1 vi157_2 vi157_3 ls hn157; exfalso; omega
          | succ n157 ih157 =>
            intro iv157_2 iv157_3 fw157_x_92 ia157_qwd H locs hL1 hl1 bliv157_2 buiv157_2 bliv157_3 buiv157_3 blfw157_x_92 bufw157_x_92 vi157_0 vi157_1 vi157_2 vi157_3 ls hn157 hW hT hM ffw157_x_92 f_x_90 nia157_qwd nia9_qhm hl
            refine lv_iload_n hx hb dX10_walk_157 rfl (lv_at hl 2 rfl) ?_
            refine hb_if_eq (zx := iv157_2.toInt) (tgt := 257) hx hb rfl dX10_walk_158 (by decide) (fun c_12 => ?_) (fun c_12 => ?_)
            · skip
              refine lv_aload_n hx hb dX10_walk_257 rfl (lv_at hl 4 rfl) ?_
              refine lv_iconst (v := 0) hx hb dX10_walk_258 (by decide) ?_
              refine hx_puti hx hb hts hC_10 hown hW hT (hx_S.rf (M := [(10, 90)])) (gx.S hM) tt_10 90 (by decide) rfl kw_1233 ⟨rfl, rfl, rfl⟩ rfl (x := (0 : Int32)) (by decide) rfl rfl rfl (List.mem_singleton.mpr rfl) dX10_walk_259 (fun H locs h_13 eh_13 hW hT hs => ?_)
              replace ffw157_x_92 := (hs.o (gx.S hM) trivial rfl).1.trans ffw157_x_92
              replace nia9_qhm : h_13.2.1 qhm = ia9_qhm := (funext fun j => (hs.a (gqhm.S hM) rfl j).1).trans nia9_qhm
              replace nia157_qwd : h_13.2.1 qwd = ia157_qwd := (funext fun j => (hs.a (gqwd.S hM) rfl j).1).trans nia157_qwd
              replace hM := hM.tr (hs.mono (by decide))
              have f_14 : h_13.2.1 x 90 = (0 : Int32) := by rw [eh_13]; exact hx_pi_at _ _ _ _
              refine lv_iload hx hb dX10_walk_262 (lv_at hl 0 rfl) ?_
              have zo_0 : (0 : Int32).toInt = 0 := by decide
              have hz0 : iv157_2.toInt = 0 := by omega
              have hwm := vi157_2
              rw [hz0, hx_pc_0] at hwm
              exact hx_reti hx hb hr hlk hW ⟨⟨(0 : Int32), fw157_x_92, ia157_qwd, f_14, ffw157_x_92, nia157_qwd, ⟨by decide, by omega, hx_HM ia9_qhm, hx_D_WT hDf, hRf, _, _, _, hx_wj_j vi157_3 (by omega)⟩⟩, hT, hM⟩ dX10_walk_264
            · skip
              obtain ⟨ks, hk0, hk1, hk2, hk3⟩ := (vi9_0.1 iv157_2.toInt iv157_3.toInt (by omega) (by omega) (by omega) (by omega)).2.2.1 (by omega)
              have hpc1 := hx_pc_1 (l := iv157_2.toInt) (by omega) (by omega)
              refine lv_iconst (v := 0) hx hb dX10_walk_161 (by decide) ?_
              refine lv_istore (lv' := [(5, .int (0 : Int32)), (4, .int x_9), (3, .int iv157_3), (2, .int iv157_2), (1, .int x_1), (0, .ref x)]) hx hb dX10_walk_162 hl (by decide) rfl (fun ls hl => ?_)
              have loop164 : ∀ (n164 : Nat) (iv164_5 : Int32) (H : Heap) (locs : List Loc) (hL1 : List Nat) (hl1 : hx_h), 0 ≤ iv164_5.toInt → iv164_5.toInt ≤ 7 → (iv164_5.toInt ≤ ks) → (∀ k' : Int, 0 ≤ k' → k' < iv164_5.toInt → hx_bt iv157_2.toInt k' = true → (hx_fr lf agf dxf dyf n0.toInt) iv157_3.toInt k' + hx_HM ia9_qhm (iv157_2.toInt - hx_p2 k') k' ≠ hx_HM ia9_qhm iv157_2.toInt iv157_3.toInt) → ∀ (ls : Array Slot), 7 - iv164_5.toInt < (n164 : Int) → hx_W T_tb (P_ty dA) (dC, dI) vwCl (hx_A L sz) s.heap hL1 hl1 s H locs → hx_T T_tb hL1 hl1 → hx_S T_tb [(10, 90), (10, 92), (113, 0), (114, 0)] L h hL1 hl1 → hl1.2.1 x 90 = n0 → hl1.2.1 x 92 = fw157_x_92 → hl1.2.1 qhm = ia9_qhm → hl1.2.1 qwd = ia157_qwd → lv_has ls 6 [(5, .int iv164_5), (4, .int x_9), (3, .int iv157_3), (2, .int iv157_2), (1, .int x_1), (0, .ref x)] → W p l e ({ frames := 2, cells := 0, slots := 0, locals := 49 }) s m ([.ref x] : List Value).toArray below meth c H locs 0 0 (MQ below (va_Qi (fun (r : Int32) (u : List Nat × hx_h) => (∃ (ln1 : Int32) (wm1 : Int32) (wd1 : Nat → Int32), u.2.2.1 x 90 = ln1 ∧ u.2.2.1 x 92 = wm1 ∧ u.2.2.1 qwd = wd1 ∧ (ln1.toInt = 0 ∧ wm1.toInt = n0.toInt ∧ hx_WA (hx_fr lf agf dxf dyf n0.toInt) n0.toInt lf wd1 r.toInt)) ∧ hx_T T_tb u.1 u.2 ∧ hx_S T_tb [(10, 90), (10, 92), (113, 0), (114, 0)] L h u.1 u.2) (hx_E T_tb (P_ty dA) (dC, dI) vwCl (hx_A L sz)) (hx_A L sz)) ([.ref x] : List Value).toArray s 0 0 (hx_A L sz)) (F0 m 164 ls []) := by
                intro n164
                induction n164 with
                | zero => intro iv164_5 H locs hL1 hl1 bliv164_5 buiv164_5 vi164_0 vi164_1 ls hn164; exfalso; omega
                | succ n164 ih164 =>
                  intro iv164_5 H locs hL1 hl1 bliv164_5 buiv164_5 vi164_0 vi164_1 ls hn164 hW hT hM f_x_90 ffw157_x_92 nia9_qhm nia157_qwd hl
                  refine lv_iload_n hx hb dX10_walk_164 rfl (lv_at hl 3 rfl) ?_
                  have hbits := hx_bits (L := iv157_2) (K := iv164_5) (by omega) (by omega) (by omega) (by omega)
                  refine lv_iload hx hb dX10_walk_165 (lv_at hl 0 rfl) ?_
                  refine lv_ishr hx hb dX10_walk_167 ?_
                  refine lv_topi (fun x_15 ex_15 => ?_)
                  refine lv_iconst (v := 1) hx hb dX10_walk_168 (by decide) ?_
                  refine lv_iand hx hb dX10_walk_169 ?_
                  refine lv_topi (fun x_16 ex_16 => ?_)
                  have zx_16 : 0 ≤ x_16.toInt ∧ x_16.toInt ≤ 1 := by rw [ex_16]; exact hx_andR (by decide) (by decide)
                  refine hb_if_eq (zx := x_16.toInt) (tgt := 212) hx hb rfl dX10_walk_170 (by decide) (fun c_17 => ?_) (fun c_17 => ?_)
                  · skip
                    have hbf := hx_bit_no hbits.1 ex_15 ex_16 (by omega)
                    have hne : iv164_5.toInt ≠ ks := fun z => by have q := hbf; rw [z, hk2] at q; cases q
                    obtain ⟨x_18, ex_18⟩ : ∃ y : Int32, y = iv164_5 + Int32.ofInt 1 := ⟨_, rfl⟩
                    have rg_19 := i32_r iv164_5
                    have zx_18 : x_18.toInt = iv164_5.toInt + (1) := by rw [ex_18]; exact i32_add rfl (by decide) (by omega) (by omega)
                    refine lv_iinc (v := x_18) (lv' := [(5, .int x_18), (4, .int x_9), (3, .int iv157_3), (2, .int iv157_2), (1, .int x_1), (0, .ref x)]) hx hb dX10_walk_212 hl (k := 0) rfl ex_18.symm (by decide) rfl (fun ls hl => ?_)
                    refine lv_goto (tgt := 164) hx hb dX10_walk_215 (by decide) ?_
                    exact ih164 x_18 _ _ hL1 hl1 (by omega) (by omega) (by omega) (fun k' h0 h1 hb => by rcases (show k' < iv164_5.toInt ∨ k' = iv164_5.toInt by omega) with z | z; exact vi164_1 k' h0 z hb; subst z; exact (by exfalso; rw [hbf] at hb; cases hb)) ls (by omega) hW hT hM f_x_90 ffw157_x_92 nia9_qhm nia157_qwd (lv_sub hl [0, 1, 2, 3, 4, 5] rfl)
                  · skip
                    have hbt := hx_bit_yes hbits.1 ex_15 ex_16 (by omega)
                    refine lv_aload_n hx hb dX10_walk_173 rfl (lv_at hl 5 rfl) ?_
                    refine lv_iload_n hx hb dX10_walk_174 rfl (lv_at hl 2 rfl) ?_
                    refine lv_iload hx hb dX10_walk_175 (lv_at hl 0 rfl) ?_
                    refine hx_goi (hx_runV (As := [.int iv157_3, .int iv164_5]) (rest := []) ⟨hx, hb, hml, hown, hts⟩ hW (gx.S hM) tt_10 (T := TX10) (N := 98) rfl (t_X10_far_2 l dC dI dA hL1 hl1 H.size x iv157_3 iv164_5 hT (gx.S hM) qls (gqls.S hM) ((hM.o gx trivial rfl).2.trans f_x_91) qag (gqag.S hM) ((hM.o gx trivial rfl).2.trans f_x_38) qdx (gqdx.S hM) ((hM.o gx trivial rfl).2.trans f_x_24) qdy (gqdy.S hM) ((hM.o gx trivial rfl).2.trans f_x_25) lf (hx_afS hM gqls rfl af_qls) agf (hx_afS hM gqag rfl af_qag) dxf (hx_afS hM gqdx rfl af_qdx) dyf (hx_afS hM gqdy rfl af_qdy) n0 f_x_90 ⟨by omega, by omega⟩ ⟨by omega, by omega⟩) (cwV 2 hts (hx_gV kw_1725 kw_1722 kw_1724 kw_90 kw_103) rfl rfl rfl (by decide +kernel) ⟨Nat.le_of_ble_eq_true rfl, Nat.le_of_ble_eq_true rfl⟩) rfl hl.1 rfl (Nat.le_of_ble_eq_true rfl) dX10_walk_177 ⟨Nat.le_of_ble_eq_true rfl, Nat.le_of_ble_eq_true rfl⟩) hW (fun r_22 L_20 h_21 H locs p_23 hW => ?_)
                    obtain ⟨hr_24, hT, hs⟩ := p_23
                    replace hT : hx_T T_tb L_20 h_21 := hT
                    replace hs : hx_S T_tb [] hL1 hl1 L_20 h_21 := hs
                    replace f_x_90 := (hs.o (gx.S hM) trivial rfl).1.trans f_x_90
                    replace ffw157_x_92 := (hs.o (gx.S hM) trivial rfl).1.trans ffw157_x_92
                    replace nia9_qhm : h_21.2.1 qhm = ia9_qhm := (funext fun j => (hs.a (gqhm.S hM) rfl j).1).trans nia9_qhm
                    replace nia157_qwd : h_21.2.1 qwd = ia157_qwd := (funext fun j => (hs.a (gqwd.S hM) rfl j).1).trans nia157_qwd
                    replace hM := hM.tr (hs.mono (by decide))
                    refine lv_aload_n hx hb dX10_walk_180 rfl (lv_at hl 5 rfl) ?_
                    refine hk_getr hx hb hts hC_10 hown hW (gx.S hM) tt_10 94 (by decide) rfl kw_1237 ⟨rfl, rfl, rfl⟩ ((hM.o gx trivial rfl).2.trans f_x_94) dX10_walk_181 ?_
                    refine lv_bipush (v := 9) hx hb dX10_walk_184 (by decide) ?_
                    refine lv_iload_n hx hb dX10_walk_186 rfl (lv_at hl 3 rfl) ?_
                    refine lv_iconst (v := 1) hx hb dX10_walk_187 (by decide) ?_
                    refine lv_iload hx hb dX10_walk_188 (lv_at hl 0 rfl) ?_
                    refine lv_ishl hx hb dX10_walk_190 ?_
                    refine lv_topi (fun x_25 ex_25 => ?_)
                    have zx_25 : 1 ≤ x_25.toInt ∧ x_25.toInt ≤ 128 := by rw [ex_25]; exact hx_shl7 (by omega) (by omega)
                    refine lv_ixor hx hb dX10_walk_191 ?_
                    refine lv_topi (fun x_26 ex_26 => ?_)
                    have hX := hbits.2.2.2 hbt
                    rw [← ex_25, ← ex_26] at hX
                    have hX1 := hX.1; have hX2 := hX.2.1; have hX3 := hX.2.2.1
                    refine lv_imul hx hb dX10_walk_192 ?_
                    refine lv_topi (fun x_27 ex_27 => ?_)
                    have zx_27 : x_27.toInt = 9 * x_26.toInt := by rw [ex_27]; exact i32_mul (by decide) rfl rfl (by omega) (by omega)
                    refine lv_iload hx hb dX10_walk_193 (lv_at hl 0 rfl) ?_
                    refine lv_iadd hx hb dX10_walk_195 ?_
                    have rg_28 := i32_r x_27
                    have rg_29 := i32_r iv164_5
                    refine lv_topi (fun x_30 ex_30 => ?_)
                    have zx_30 : x_30.toInt = x_27.toInt + iv164_5.toInt := by rw [ex_30]; exact i32_add rfl rfl (by omega) (by omega)
                    refine hx_iald hx hb hW hT (gqhm.S hM) tt_114 rfl ⟨by omega, by omega⟩ dX10_walk_196 (fun x_31 ex_31 lx_31 ux_31 => ?_)
                    have ax_31 : x_31 = ia9_qhm x_30.toNatClampNeg := ex_31.trans (congrFun nia9_qhm _)
                    have hh : x_31.toInt = (ia9_qhm (9 * (iv157_2.toInt - hx_p2 iv164_5.toInt) + iv164_5.toInt).toNat).toInt := (congrArg Int32.toInt ax_31).trans (congrArg (fun z => (ia9_qhm z).toInt) (by unfold Int32.toNatClampNeg; omega))
                    have hdd := vi9_0.1 (iv157_2.toInt - hx_p2 iv164_5.toInt) iv164_5.toInt (by omega) (by omega) (by omega) (by omega)
                    have hdd1 := hdd.1; have hdd2 := hdd.2.1
                    refine lv_iadd hx hb dX10_walk_197 ?_
                    have rg_32 := i32_r r_22
                    have rg_33 := i32_r x_31
                    refine lv_topi (fun x_34 ex_34 => ?_)
                    have zx_34 : x_34.toInt = r_22.toInt + x_31.toInt := by rw [ex_34]; exact i32_add rfl rfl (by omega) (by omega)
                    refine lv_aload_n hx hb dX10_walk_198 rfl (lv_at hl 5 rfl) ?_
                    refine hk_getr hx hb hts hC_10 hown hW (gx.S hM) tt_10 94 (by decide) rfl kw_1237 ⟨rfl, rfl, rfl⟩ ((hM.o gx trivial rfl).2.trans f_x_94) dX10_walk_199 ?_
                    refine lv_bipush (v := 9) hx hb dX10_walk_202 (by decide) ?_
                    refine lv_iload_n hx hb dX10_walk_204 rfl (lv_at hl 3 rfl) ?_
                    refine lv_imul hx hb dX10_walk_205 ?_
                    refine lv_topi (fun x_35 ex_35 => ?_)
                    have zx_35 : x_35.toInt = 9 * iv157_2.toInt := by rw [ex_35]; exact i32_mul (by decide) rfl rfl (by omega) (by omega)
                    refine lv_iload_n hx hb dX10_walk_206 rfl (lv_at hl 2 rfl) ?_
                    refine lv_iadd hx hb dX10_walk_207 ?_
                    have rg_36 := i32_r x_35
                    have rg_37 := i32_r iv157_3
                    refine lv_topi (fun x_38 ex_38 => ?_)
                    have zx_38 : x_38.toInt = x_35.toInt + iv157_3.toInt := by rw [ex_38]; exact i32_add rfl rfl (by omega) (by omega)
                    refine hx_iald hx hb hW hT (gqhm.S hM) tt_114 rfl ⟨by omega, by omega⟩ dX10_walk_208 (fun x_39 ex_39 lx_39 ux_39 => ?_)
                    have ax_39 : x_39 = ia9_qhm x_38.toNatClampNeg := ex_39.trans (congrFun nia9_qhm _)
                    have hv : x_39.toInt = (ia9_qhm (9 * iv157_2.toInt + iv157_3.toInt).toNat).toInt := (congrArg Int32.toInt ax_39).trans (congrArg (fun z => (ia9_qhm z).toInt) (by unfold Int32.toNatClampNeg; omega))
                    have hfr := hr_24.1
                    refine hb_icmp_eq (zx := x_34.toInt) (zy := x_39.toInt) (tgt := 218) hx hb rfl rfl dX10_walk_209 (by decide) (fun c_40 => ?_) (fun c_40 => ?_)
                    · skip
                      have hsum : (hx_fr lf agf dxf dyf n0.toInt) iv157_3.toInt iv164_5.toInt + hx_HM ia9_qhm (iv157_2.toInt - hx_p2 iv164_5.toInt) iv164_5.toInt = hx_HM ia9_qhm iv157_2.toInt iv157_3.toInt := by unfold hx_HM; rw [← hfr, ← hh, ← hv]; omega
                      refine lv_aload_n hx hb dX10_walk_218 rfl (lv_at hl 5 rfl) ?_
                      refine hk_getr hx hb hts hC_10 hown hW (gx.S hM) tt_10 93 (by decide) rfl kw_1236 ⟨rfl, rfl, rfl⟩ ((hM.o gx trivial rfl).2.trans f_x_93) dX10_walk_219 ?_
                      refine lv_aload_n hx hb dX10_walk_222 rfl (lv_at hl 5 rfl) ?_
                      refine hk_geti hx hb hts hC_10 hown hW (gx.S hM) tt_10 92 (by decide) rfl kw_1235 ⟨rfl, rfl, rfl⟩ ffw157_x_92 dX10_walk_223 ?_
                      refine lv_aload_n hx hb dX10_walk_226 rfl (lv_at hl 5 rfl) ?_
                      refine hk_getr hx hb hts hC_10 hown hW (gx.S hM) tt_10 91 (by decide) rfl kw_1234 ⟨rfl, rfl, rfl⟩ ((hM.o gx trivial rfl).2.trans f_x_91) dX10_walk_227 ?_
                      refine lv_iload hx hb dX10_walk_230 (lv_at hl 0 rfl) ?_
                      refine hx_iald hx hb hW hT (gqls.S hM) tt_112 rfl ⟨by omega, by omega⟩ dX10_walk_232 (fun x_41 ex_41 lx_41 ux_41 => ?_)
                      have ax_41 : x_41 = lf iv164_5.toNatClampNeg := ex_41.trans (congrFun (hx_afS hM gqls rfl af_qls) _)
                      have nia157_qwdO := nia157_qwd
                      refine hx_iast hx hb hW hT (hx_S.rf (M := [(113, 0)])) (gqwd.S hM) tt_113 rfl ⟨by omega, by omega⟩ rfl ⟨by omega, by omega⟩ (List.mem_singleton.mpr rfl) dX10_walk_233 (fun H locs h_42 eh_42 hW hT hs => ?_)
                      replace f_x_90 := (hs.o (gx.S hM) trivial rfl).1.trans f_x_90
                      replace ffw157_x_92 := (hs.o (gx.S hM) trivial rfl).1.trans ffw157_x_92
                      replace nia9_qhm : h_42.2.1 qhm = ia9_qhm := (funext fun j => (hs.a (gqhm.S hM) rfl j).1).trans nia9_qhm
                      replace ex_31 := ex_31.trans (hs.a (gqhm.S hM) rfl _).1.symm
                      replace ex_39 := ex_39.trans (hs.a (gqhm.S hM) rfl _).1.symm
                      replace ex_41 := ex_41.trans (hs.a (gqls.S hM) rfl _).1.symm
                      replace hM := hM.tr (hs.mono (by decide))
                      obtain ⟨fa_43, dfa_43⟩ : ∃ g : Nat → Int32, g = hx_up ia157_qwd fw157_x_92.toNatClampNeg x_41 := ⟨_, rfl⟩
                      have nfa_43 : h_42.2.1 qwd = fa_43 := by rw [eh_42, dfa_43, ← nia157_qwdO]; exact hx_pi_fun _ _ _ _
                      refine lv_aload_n hx hb dX10_walk_234 rfl (lv_at hl 5 rfl) ?_
                      refine lv_dup hx hb dX10_walk_235 rfl ?_
                      refine hk_geti hx hb hts hC_10 hown hW (gx.S hM) tt_10 92 (by decide) rfl kw_1235 ⟨rfl, rfl, rfl⟩ ffw157_x_92 dX10_walk_236 ?_
                      refine lv_iconst (v := 1) hx hb dX10_walk_239 (by decide) ?_
                      refine lv_iadd hx hb dX10_walk_240 ?_
                      have rg_44 := i32_r fw157_x_92
                      refine lv_topi (fun x_45 ex_45 => ?_)
                      have zx_45 : x_45.toInt = fw157_x_92.toInt + 1 := by rw [ex_45]; exact i32_add rfl (by decide) (by omega) (by omega)
                      refine hx_puti hx hb hts hC_10 hown hW hT (hx_S.rf (M := [(10, 92)])) (gx.S hM) tt_10 92 (by decide) rfl kw_1235 ⟨rfl, rfl, rfl⟩ rfl (x := x_45) ⟨by omega, by omega⟩ rfl rfl rfl (List.mem_singleton.mpr rfl) dX10_walk_241 (fun H locs h_46 eh_46 hW hT hs => ?_)
                      replace f_x_90 := (hs.o (gx.S hM) trivial rfl).1.trans f_x_90
                      replace nia9_qhm : h_46.2.1 qhm = ia9_qhm := (funext fun j => (hs.a (gqhm.S hM) rfl j).1).trans nia9_qhm
                      replace nfa_43 : h_46.2.1 qwd = fa_43 := (funext fun j => (hs.a (gqwd.S hM) rfl j).1).trans nfa_43
                      replace ex_31 := ex_31.trans (hs.a (gqhm.S hM) rfl _).1.symm
                      replace ex_39 := ex_39.trans (hs.a (gqhm.S hM) rfl _).1.symm
                      replace ex_41 := ex_41.trans (hs.a (gqls.S hM) rfl _).1.symm
                      replace hM := hM.tr (hs.mono (by decide))
                      have f_47 : h_46.2.1 x 92 = x_45 := by rw [eh_46]; exact hx_pi_at _ _ _ _
                      refine lv_iload_n hx hb dX10_walk_244 rfl (lv_at hl 3 rfl) ?_
                      refine lv_iconst (v := 1) hx hb dX10_walk_245 (by decide) ?_
                      refine lv_iload hx hb dX10_walk_246 (lv_at hl 0 rfl) ?_
                      refine lv_ishl hx hb dX10_walk_248 ?_
                      refine lv_topi (fun x_48 ex_48 => ?_)
                      have zx_48 : 1 ≤ x_48.toInt ∧ x_48.toInt ≤ 128 := by rw [ex_48]; exact hx_shl7 (by omega) (by omega)
                      refine lv_ixor hx hb dX10_walk_249 ?_
                      refine lv_topi (fun x_49 ex_49 => ?_)
                      have hX := hbits.2.2.2 hbt
                      rw [← ex_48, ← ex_49] at hX
                      have hX1 := hX.1; have hX2 := hX.2.1; have hX3 := hX.2.2.1
                      have hpcX : hx_pc x_49.toInt = hx_pc iv157_2.toInt - 1 := by rw [hX.1]; exact hX.2.2.2
                      refine lv_istore_n (lv' := [(2, .int x_49), (5, .int iv164_5), (4, .int x_9), (3, .int iv157_3), (1, .int x_1), (0, .ref x)]) hx hb dX10_walk_250 rfl hl (by decide) rfl (fun ls hl => ?_)
                      refine lv_iload hx hb dX10_walk_251 (lv_at hl 1 rfl) ?_
                      refine lv_istore_n (lv' := [(3, .int iv164_5), (2, .int x_49), (5, .int iv164_5), (4, .int x_9), (1, .int x_1), (0, .ref x)]) hx hb dX10_walk_253 rfl hl (by decide) rfl (fun ls hl => ?_)
                      refine lv_goto (tgt := 157) hx hb dX10_walk_254 (by decide) ?_
                      exact ih157 x_49 iv164_5 x_45 fa_43 _ _ L_20 h_46 (by omega) (by omega) (by omega) (by omega) (by omega) (by omega) (by omega) (by omega) (by omega) (hx_wj_s vi157_3 (by omega) ⟨by omega, by omega, hbt, hsum, vi164_1, hX1, rfl⟩ dfa_43 (by unfold Int32.toNatClampNeg; omega) (by rw [ax_41]; rfl) (by omega)) ls (by omega) hW hT hM f_47 f_x_90 nfa_43 nia9_qhm (lv_sub hl [3, 0, 1, 4, 5] rfl)
                    · skip
                      have hne : iv164_5.toInt ≠ ks := fun z => by have q := hk3; rw [← z] at q; omega
                      obtain ⟨x_50, ex_50⟩ : ∃ y : Int32, y = iv164_5 + Int32.ofInt 1 := ⟨_, rfl⟩
                      have zx_50 : x_50.toInt = iv164_5.toInt + (1) := by rw [ex_50]; exact i32_add rfl (by decide) (by omega) (by omega)
                      refine lv_iinc (v := x_50) (lv' := [(5, .int x_50), (4, .int x_9), (3, .int iv157_3), (2, .int iv157_2), (1, .int x_1), (0, .ref x)]) hx hb dX10_walk_212 hl (k := 0) rfl ex_50.symm (by decide) rfl (fun ls hl => ?_)
                      refine lv_goto (tgt := 164) hx hb dX10_walk_215 (by decide) ?_
                      exact ih164 x_50 _ _ L_20 h_21 (by omega) (by omega) (by omega) (fun k' h0 h1 hb => by rcases (show k' < iv164_5.toInt ∨ k' = iv164_5.toInt by omega) with z | z; exact vi164_1 k' h0 z hb; subst z; exact (fun w => by unfold hx_HM at w; rw [← hfr, ← hh, ← hv] at w; omega)) ls (by omega) hW hT hM f_x_90 ffw157_x_92 nia9_qhm nia157_qwd (lv_sub hl [0, 1, 2, 3, 4, 5] rfl)
              have zk_0 : (0 : Int32).toInt = 0 := by decide
              exact loop164 8 (0 : Int32) _ _ hL1 hl1 (by decide) (by decide) (by omega) (fun k' h0 h1 => absurd h1 (by omega)) ls (by omega) hW hT hM f_x_90 ffw157_x_92 nia9_qhm nia157_qwd hl
        have zk_0 : (0 : Int32).toInt = 0 := by decide
        exact loop157 256 x_4 n0 (0 : Int32) wd0 _ _ hL1 h_10 (by omega) (by omega) (by omega) (by omega) (by decide) (by decide) (by omega) (by omega) (by omega) (hx_wj_i (by omega) (by omega) (by omega) (by rw [hv0, hl0, show n0.toInt = n0.toInt by omega])) ls (by omega) hW hT hM f_11 f_x_90 af_qwd nia9_qhm hl
      · skip
        refine lv_iconst (v := 0) hx hb dX10_walk_14 (by decide) ?_
        refine lv_istore_n (lv' := [(3, .int (0 : Int32)), (2, .int iv9_2), (1, .int x_1), (0, .ref x)]) hx hb dX10_walk_15 rfl hl (by decide) rfl (fun ls hl => ?_)
        have loop16 : ∀ (n16 : Nat) (iv16_3 : Int32) (ia16_qhm : Nat → Int32) (H : Heap) (locs : List Loc) (hL1 : List Nat) (hl1 : hx_h), 0 ≤ iv16_3.toInt → iv16_3.toInt ≤ 9 → (hx_D (hx_fr lf agf dxf dyf n0.toInt) n0.toInt ia16_qhm iv9_2.toInt iv16_3.toInt) → ∀ (ls : Array Slot), 9 - iv16_3.toInt < (n16 : Int) → hx_W T_tb (P_ty dA) (dC, dI) vwCl (hx_A L sz) s.heap hL1 hl1 s H locs → hx_T T_tb hL1 hl1 → hx_S T_tb [(10, 90), (10, 92), (113, 0), (114, 0)] L h hL1 hl1 → hl1.2.1 x 90 = n0 → hl1.2.1 qhm = ia16_qhm → hl1.2.1 qwd = wd0 → lv_has ls 6 [(3, .int iv16_3), (2, .int iv9_2), (1, .int x_1), (0, .ref x)] → W p l e ({ frames := 2, cells := 0, slots := 0, locals := 49 }) s m ([.ref x] : List Value).toArray below meth c H locs 0 0 (MQ below (va_Qi (fun (r : Int32) (u : List Nat × hx_h) => (∃ (ln1 : Int32) (wm1 : Int32) (wd1 : Nat → Int32), u.2.2.1 x 90 = ln1 ∧ u.2.2.1 x 92 = wm1 ∧ u.2.2.1 qwd = wd1 ∧ (ln1.toInt = 0 ∧ wm1.toInt = n0.toInt ∧ hx_WA (hx_fr lf agf dxf dyf n0.toInt) n0.toInt lf wd1 r.toInt)) ∧ hx_T T_tb u.1 u.2 ∧ hx_S T_tb [(10, 90), (10, 92), (113, 0), (114, 0)] L h u.1 u.2) (hx_E T_tb (P_ty dA) (dC, dI) vwCl (hx_A L sz)) (hx_A L sz)) ([.ref x] : List Value).toArray s 0 0 (hx_A L sz)) (F0 m 16 ls []) := by
          intro n16
          induction n16 with
          | zero => intro iv16_3 ia16_qhm H locs hL1 hl1 bliv16_3 buiv16_3 vi16_0 ls hn16; exfalso; omega
          | succ n16 ih16 =>
            intro iv16_3 ia16_qhm H locs hL1 hl1 bliv16_3 buiv16_3 vi16_0 ls hn16 hW hT hM f_x_90 nia16_qhm af_qwd hl
            refine lv_iload_n hx hb dX10_walk_16 rfl (lv_at hl 0 rfl) ?_
            refine lv_aload_n hx hb dX10_walk_17 rfl (lv_at hl 3 rfl) ?_
            refine hk_geti hx hb hts hC_10 hown hW (gx.S hM) tt_10 90 (by decide) rfl kw_1233 ⟨rfl, rfl, rfl⟩ f_x_90 dX10_walk_18 ?_
            refine hb_icmp_gt (zx := iv16_3.toInt) (zy := n0.toInt) (tgt := 124) hx hb rfl rfl dX10_walk_21 (by decide) (fun c_51 => ?_) (fun c_51 => ?_)
            · skip
              obtain ⟨x_52, ex_52⟩ : ∃ y : Int32, y = iv9_2 + Int32.ofInt 1 := ⟨_, rfl⟩
              have rg_53 := i32_r iv9_2
              have zx_52 : x_52.toInt = iv9_2.toInt + (1) := by rw [ex_52]; exact i32_add rfl (by decide) (by omega) (by omega)
              refine lv_iinc (v := x_52) (lv' := [(2, .int x_52), (3, .int iv16_3), (1, .int x_1), (0, .ref x)]) hx hb dX10_walk_124 hl (k := 1) rfl ex_52.symm (by decide) rfl (fun ls hl => ?_)
              refine lv_goto (tgt := 9) hx hb dX10_walk_127 (by decide) ?_
              exact ih9 x_52 ia16_qhm _ _ hL1 hl1 (by omega) (by omega) (hx_D_row vi16_0 (by omega) zx_52) ls (by omega) hW hT hM f_x_90 nia16_qhm af_qwd (lv_sub hl [0, 2, 3] rfl)
            · skip
              refine lv_iload_n hx hb dX10_walk_24 rfl (lv_at hl 1 rfl) ?_
              refine hb_if_ne (zx := iv9_2.toInt) (tgt := 40) hx hb rfl dX10_walk_25 (by decide) (fun c_54 => ?_) (fun c_54 => ?_)
              · skip
                refine lv_ldcw (v := 1000000000) hx hb hown (hts _ kw_1678) dX10_walk_40 ?_
                refine lv_istore (lv' := [(4, .int (1000000000 : Int32)), (3, .int iv16_3), (2, .int iv9_2), (1, .int x_1), (0, .ref x)]) hx hb dX10_walk_43 hl (by decide) rfl (fun ls hl => ?_)
                refine lv_iconst (v := 0) hx hb dX10_walk_45 (by decide) ?_
                refine lv_istore (lv' := [(5, .int (0 : Int32)), (4, .int (1000000000 : Int32)), (3, .int iv16_3), (2, .int iv9_2), (1, .int x_1), (0, .ref x)]) hx hb dX10_walk_46 hl (by decide) rfl (fun ls hl => ?_)
                have loop48 : ∀ (n48 : Nat) (iv48_4 iv48_5 : Int32) (H : Heap) (locs : List Loc) (hL1 : List Nat) (hl1 : hx_h), -2147483648 ≤ iv48_4.toInt → iv48_4.toInt ≤ 2147483647 → 0 ≤ iv48_5.toInt → iv48_5.toInt ≤ 8 → ((iv9_2.toInt = 0 ∧ 0 ≤ iv48_4.toInt ∧ iv48_4.toInt ≤ 198 ∧ iv48_4.toInt = (hx_fr lf agf dxf dyf n0.toInt) iv16_3.toInt n0.toInt) ∨ (iv9_2.toInt ≠ 0 ∧ hx_best (hx_fr lf agf dxf dyf n0.toInt) ia16_qhm iv9_2.toInt iv16_3.toInt iv48_5.toInt iv48_4.toInt)) → (iv48_5.toInt ≤ n0.toInt) → ∀ (ls : Array Slot), 8 - iv48_5.toInt < (n48 : Int) → hx_W T_tb (P_ty dA) (dC, dI) vwCl (hx_A L sz) s.heap hL1 hl1 s H locs → hx_T T_tb hL1 hl1 → hx_S T_tb [(10, 90), (10, 92), (113, 0), (114, 0)] L h hL1 hl1 → hl1.2.1 x 90 = n0 → hl1.2.1 qwd = wd0 → hl1.2.1 qhm = ia16_qhm → lv_has ls 6 [(5, .int iv48_5), (4, .int iv48_4), (3, .int iv16_3), (2, .int iv9_2), (1, .int x_1), (0, .ref x)] → W p l e ({ frames := 2, cells := 0, slots := 0, locals := 49 }) s m ([.ref x] : List Value).toArray below meth c H locs 0 0 (MQ below (va_Qi (fun (r : Int32) (u : List Nat × hx_h) => (∃ (ln1 : Int32) (wm1 : Int32) (wd1 : Nat → Int32), u.2.2.1 x 90 = ln1 ∧ u.2.2.1 x 92 = wm1 ∧ u.2.2.1 qwd = wd1 ∧ (ln1.toInt = 0 ∧ wm1.toInt = n0.toInt ∧ hx_WA (hx_fr lf agf dxf dyf n0.toInt) n0.toInt lf wd1 r.toInt)) ∧ hx_T T_tb u.1 u.2 ∧ hx_S T_tb [(10, 90), (10, 92), (113, 0), (114, 0)] L h u.1 u.2) (hx_E T_tb (P_ty dA) (dC, dI) vwCl (hx_A L sz)) (hx_A L sz)) ([.ref x] : List Value).toArray s 0 0 (hx_A L sz)) (F0 m 48 ls []) := by
                  intro n48
                  induction n48 with
                  | zero => intro iv48_4 iv48_5 H locs hL1 hl1 bliv48_4 buiv48_4 bliv48_5 buiv48_5 vi48_0 vi48_1 ls hn48; exfalso; omega
                  | succ n48 ih48 =>
                    intro iv48_4 iv48_5 H locs hL1 hl1 bliv48_4 buiv48_4 bliv48_5 buiv48_5 vi48_0 vi48_1 ls hn48 hW hT hM f_x_90 af_qwd nia16_qhm hl
                    refine lv_iload hx hb dX10_walk_48 (lv_at hl 0 rfl) ?_
                    refine lv_aload_n hx hb dX10_walk_50 rfl (lv_at hl 5 rfl) ?_
                    refine hk_geti hx hb hts hC_10 hown hW (gx.S hM) tt_10 90 (by decide) rfl kw_1233 ⟨rfl, rfl, rfl⟩ f_x_90 dX10_walk_51 ?_
                    refine hb_icmp_ge (zx := iv48_5.toInt) (zy := n0.toInt) (tgt := 105) hx hb rfl rfl dX10_walk_54 (by decide) (fun c_55 => ?_) (fun c_55 => ?_)
                    · skip
                      have hkn : iv48_5.toInt = n0.toInt := by omega
                      have hbst : (iv9_2.toInt = 0 ∧ 0 ≤ iv48_4.toInt ∧ iv48_4.toInt ≤ 198 ∧ iv48_4.toInt = (hx_fr lf agf dxf dyf n0.toInt) iv16_3.toInt n0.toInt) ∨ (iv9_2.toInt ≠ 0 ∧ iv9_2.toInt < 2 ^ n0.toInt.toNat ∧ hx_best (hx_fr lf agf dxf dyf n0.toInt) ia16_qhm iv9_2.toInt iv16_3.toInt n0.toInt iv48_4.toInt) := vi48_0.elim (fun q => Or.inl q) (fun q => Or.inr ⟨q.1, by omega, by have w := q.2; rw [hkn] at w; exact w⟩)
                      refine lv_aload_n hx hb dX10_walk_105 rfl (lv_at hl 5 rfl) ?_
                      refine hk_getr hx hb hts hC_10 hown hW (gx.S hM) tt_10 94 (by decide) rfl kw_1237 ⟨rfl, rfl, rfl⟩ ((hM.o gx trivial rfl).2.trans f_x_94) dX10_walk_106 ?_
                      refine lv_bipush (v := 9) hx hb dX10_walk_109 (by decide) ?_
                      refine lv_iload_n hx hb dX10_walk_111 rfl (lv_at hl 3 rfl) ?_
                      refine lv_imul hx hb dX10_walk_112 ?_
                      refine lv_topi (fun x_56 ex_56 => ?_)
                      have zx_56 : x_56.toInt = 9 * iv9_2.toInt := by rw [ex_56]; exact i32_mul (by decide) rfl rfl (by omega) (by omega)
                      refine lv_iload_n hx hb dX10_walk_113 rfl (lv_at hl 2 rfl) ?_
                      refine lv_iadd hx hb dX10_walk_114 ?_
                      have rg_57 := i32_r x_56
                      have rg_58 := i32_r iv16_3
                      refine lv_topi (fun x_59 ex_59 => ?_)
                      have zx_59 : x_59.toInt = x_56.toInt + iv16_3.toInt := by rw [ex_59]; exact i32_add rfl rfl (by omega) (by omega)
                      refine lv_iload hx hb dX10_walk_115 (lv_at hl 1 rfl) ?_
                      have nia16_qhmO := nia16_qhm
                      refine hx_iast hx hb hW hT (hx_S.rf (M := [(114, 0)])) (gqhm.S hM) tt_114 rfl ⟨by omega, by omega⟩ rfl (i32_r _) (List.mem_singleton.mpr rfl) dX10_walk_117 (fun H locs h_60 eh_60 hW hT hs => ?_)
                      replace f_x_90 := (hs.o (gx.S hM) trivial rfl).1.trans f_x_90
                      replace af_qwd : h_60.2.1 qwd = wd0 := (funext fun j => (hs.a (gqwd.S hM) rfl j).1).trans af_qwd
                      replace hM := hM.tr (hs.mono (by decide))
                      obtain ⟨fa_61, dfa_61⟩ : ∃ g : Nat → Int32, g = hx_up ia16_qhm x_59.toNatClampNeg iv48_4 := ⟨_, rfl⟩
                      have nfa_61 : h_60.2.1 qhm = fa_61 := by rw [eh_60, dfa_61, ← nia16_qhmO]; exact hx_pi_fun _ _ _ _
                      obtain ⟨x_62, ex_62⟩ : ∃ y : Int32, y = iv16_3 + Int32.ofInt 1 := ⟨_, rfl⟩
                      have zx_62 : x_62.toInt = iv16_3.toInt + (1) := by rw [ex_62]; exact i32_add rfl (by decide) (by omega) (by omega)
                      refine lv_iinc (v := x_62) (lv' := [(3, .int x_62), (5, .int iv48_5), (4, .int iv48_4), (2, .int iv9_2), (1, .int x_1), (0, .ref x)]) hx hb dX10_walk_118 hl (k := 2) rfl ex_62.symm (by decide) rfl (fun ls hl => ?_)
                      refine lv_goto (tgt := 16) hx hb dX10_walk_121 (by decide) ?_
                      exact ih16 x_62 fa_61 _ _ hL1 h_60 (by omega) (by omega) (hx_D_put vi16_0 (by omega) (by omega) (by omega) (by omega) (by omega) (by omega) rfl dfa_61 zx_62 hbst) ls (by omega) hW hT hM f_x_90 nfa_61 af_qwd (lv_sub hl [0, 3, 4, 5] rfl)
                    · skip
                      have hbits := hx_bits (L := iv9_2) (K := iv48_5) (by omega) (by omega) (by omega) (by omega)
                      refine lv_iload_n hx hb dX10_walk_57 rfl (lv_at hl 3 rfl) ?_
                      refine lv_iload hx hb dX10_walk_58 (lv_at hl 0 rfl) ?_
                      refine lv_ishr hx hb dX10_walk_60 ?_
                      refine lv_topi (fun x_63 ex_63 => ?_)
                      refine lv_iconst (v := 1) hx hb dX10_walk_61 (by decide) ?_
                      refine lv_iand hx hb dX10_walk_62 ?_
                      refine lv_topi (fun x_64 ex_64 => ?_)
                      have zx_64 : 0 ≤ x_64.toInt ∧ x_64.toInt ≤ 1 := by rw [ex_64]; exact hx_andR (by decide) (by decide)
                      refine lv_iconst (v := 1) hx hb dX10_walk_63 (by decide) ?_
                      refine hb_icmp_ne (zx := x_64.toInt) (zy := 1) (tgt := 99) hx hb rfl (by decide) dX10_walk_64 (by decide) (fun c_65 => ?_) (fun c_65 => ?_)
                      · skip
                        have hbf := hx_bit_no hbits.1 ex_63 ex_64 (by omega)
                        obtain ⟨x_66, ex_66⟩ : ∃ y : Int32, y = iv48_5 + Int32.ofInt 1 := ⟨_, rfl⟩
                        have rg_67 := i32_r iv48_5
                        have zx_66 : x_66.toInt = iv48_5.toInt + (1) := by rw [ex_66]; exact i32_add rfl (by decide) (by omega) (by omega)
                        refine lv_iinc (v := x_66) (lv' := [(5, .int x_66), (4, .int iv48_4), (3, .int iv16_3), (2, .int iv9_2), (1, .int x_1), (0, .ref x)]) hx hb dX10_walk_99 hl (k := 0) rfl ex_66.symm (by decide) rfl (fun ls hl => ?_)
                        refine lv_goto (tgt := 48) hx hb dX10_walk_102 (by decide) ?_
                        exact ih48 iv48_4 x_66 _ _ hL1 hl1 (i32_r _).1 (i32_r _).2 (by omega) (by omega) (vi48_0.elim (fun q => Or.inl q) (fun q => Or.inr ⟨q.1, hx_best_no q.2 hbf zx_66⟩)) (by omega) ls (by omega) hW hT hM f_x_90 af_qwd nia16_qhm (lv_sub hl [0, 1, 2, 3, 4, 5] rfl)
                      · skip
                        have hbt := hx_bit_yes hbits.1 ex_63 ex_64 (by omega)
                        refine lv_iload hx hb dX10_walk_67 (lv_at hl 1 rfl) ?_
                        refine lv_aload_n hx hb dX10_walk_69 rfl (lv_at hl 5 rfl) ?_
                        refine lv_iload_n hx hb dX10_walk_70 rfl (lv_at hl 2 rfl) ?_
                        refine lv_iload hx hb dX10_walk_71 (lv_at hl 0 rfl) ?_
                        refine hx_goi (hx_runV (As := [.int iv16_3, .int iv48_5]) (rest := [.int iv48_4]) ⟨hx, hb, hml, hown, hts⟩ hW (gx.S hM) tt_10 (T := TX10) (N := 98) rfl (t_X10_far_2 l dC dI dA hL1 hl1 H.size x iv16_3 iv48_5 hT (gx.S hM) qls (gqls.S hM) ((hM.o gx trivial rfl).2.trans f_x_91) qag (gqag.S hM) ((hM.o gx trivial rfl).2.trans f_x_38) qdx (gqdx.S hM) ((hM.o gx trivial rfl).2.trans f_x_24) qdy (gqdy.S hM) ((hM.o gx trivial rfl).2.trans f_x_25) lf (hx_afS hM gqls rfl af_qls) agf (hx_afS hM gqag rfl af_qag) dxf (hx_afS hM gqdx rfl af_qdx) dyf (hx_afS hM gqdy rfl af_qdy) n0 f_x_90 ⟨by omega, by omega⟩ ⟨by omega, by omega⟩) (cwV 2 hts (hx_gV kw_1725 kw_1722 kw_1724 kw_90 kw_103) rfl rfl rfl (by decide +kernel) ⟨Nat.le_of_ble_eq_true rfl, Nat.le_of_ble_eq_true rfl⟩) rfl hl.1 rfl (Nat.le_of_ble_eq_true rfl) dX10_walk_73 ⟨Nat.le_of_ble_eq_true rfl, Nat.le_of_ble_eq_true rfl⟩) hW (fun r_70 L_68 h_69 H locs p_71 hW => ?_)
                        obtain ⟨hr_72, hT, hs⟩ := p_71
                        replace hT : hx_T T_tb L_68 h_69 := hT
                        replace hs : hx_S T_tb [] hL1 hl1 L_68 h_69 := hs
                        replace f_x_90 := (hs.o (gx.S hM) trivial rfl).1.trans f_x_90
                        replace af_qwd : h_69.2.1 qwd = wd0 := (funext fun j => (hs.a (gqwd.S hM) rfl j).1).trans af_qwd
                        replace nia16_qhm : h_69.2.1 qhm = ia16_qhm := (funext fun j => (hs.a (gqhm.S hM) rfl j).1).trans nia16_qhm
                        replace hM := hM.tr (hs.mono (by decide))
                        refine lv_aload_n hx hb dX10_walk_76 rfl (lv_at hl 5 rfl) ?_
                        refine hk_getr hx hb hts hC_10 hown hW (gx.S hM) tt_10 94 (by decide) rfl kw_1237 ⟨rfl, rfl, rfl⟩ ((hM.o gx trivial rfl).2.trans f_x_94) dX10_walk_77 ?_
                        refine lv_bipush (v := 9) hx hb dX10_walk_80 (by decide) ?_
                        refine lv_iload_n hx hb dX10_walk_82 rfl (lv_at hl 3 rfl) ?_
                        refine lv_iconst (v := 1) hx hb dX10_walk_83 (by decide) ?_
                        refine lv_iload hx hb dX10_walk_84 (lv_at hl 0 rfl) ?_
                        refine lv_ishl hx hb dX10_walk_86 ?_
                        refine lv_topi (fun x_73 ex_73 => ?_)
                        have zx_73 : 1 ≤ x_73.toInt ∧ x_73.toInt ≤ 128 := by rw [ex_73]; exact hx_shl7 (by omega) (by omega)
                        refine lv_ixor hx hb dX10_walk_87 ?_
                        refine lv_topi (fun x_74 ex_74 => ?_)
                        have hX := hbits.2.2.2 hbt
                        rw [← ex_73, ← ex_74] at hX
                        have hX1 := hX.1; have hX2 := hX.2.1; have hX3 := hX.2.2.1
                        refine lv_imul hx hb dX10_walk_88 ?_
                        refine lv_topi (fun x_75 ex_75 => ?_)
                        have zx_75 : x_75.toInt = 9 * x_74.toInt := by rw [ex_75]; exact i32_mul (by decide) rfl rfl (by omega) (by omega)
                        refine lv_iload hx hb dX10_walk_89 (lv_at hl 0 rfl) ?_
                        refine lv_iadd hx hb dX10_walk_91 ?_
                        have rg_76 := i32_r x_75
                        have rg_77 := i32_r iv48_5
                        refine lv_topi (fun x_78 ex_78 => ?_)
                        have zx_78 : x_78.toInt = x_75.toInt + iv48_5.toInt := by rw [ex_78]; exact i32_add rfl rfl (by omega) (by omega)
                        refine hx_iald hx hb hW hT (gqhm.S hM) tt_114 rfl ⟨by omega, by omega⟩ dX10_walk_92 (fun x_79 ex_79 lx_79 ux_79 => ?_)
                        have ax_79 : x_79 = ia16_qhm x_78.toNatClampNeg := ex_79.trans (congrFun nia16_qhm _)
                        have hh : x_79.toInt = (ia16_qhm (9 * (iv9_2.toInt - hx_p2 iv48_5.toInt) + iv48_5.toInt).toNat).toInt := (congrArg Int32.toInt ax_79).trans (congrArg (fun z => (ia16_qhm z).toInt) (by unfold Int32.toNatClampNeg; omega))
                        have hdd := vi16_0.1 (iv9_2.toInt - hx_p2 iv48_5.toInt) iv48_5.toInt (by omega) (by omega) (by omega) (by omega)
                        have hdd1 := hdd.1; have hdd2 := hdd.2.1
                        refine lv_iadd hx hb dX10_walk_93 ?_
                        have rg_80 := i32_r r_70
                        have rg_81 := i32_r x_79
                        refine lv_topi (fun x_82 ex_82 => ?_)
                        have zx_82 : x_82.toInt = r_70.toInt + x_79.toInt := by rw [ex_82]; exact i32_add rfl rfl (by omega) (by omega)
                        refine hx_goi (hx_runS (As := [.int iv48_4, .int x_82]) (rest := []) ⟨hx, hb, hml, hown, hts⟩ hW (t_X10_lesser_2 l dC dI dA L_68 h_69 H.size iv48_4 x_82 hT) (va_cwS 2 hts (hx_gS kw_1705 kw_1703 kw_1704 kw_103) rfl rfl rfl (by decide +kernel) ⟨Nat.le_of_ble_eq_true rfl, Nat.le_of_ble_eq_true rfl⟩) rfl hl.1 rfl (Nat.le_of_ble_eq_true rfl) dX10_walk_94 ⟨Nat.le_of_ble_eq_true rfl, Nat.le_of_ble_eq_true rfl⟩) hW (fun r_85 L_83 h_84 H locs p_86 hW => ?_)
                        obtain ⟨hr_87, hT, hs⟩ := p_86
                        replace hT : hx_T T_tb L_83 h_84 := hT
                        replace hs : hx_S T_tb [] L_68 h_69 L_83 h_84 := hs
                        replace f_x_90 := (hs.o (gx.S hM) trivial rfl).1.trans f_x_90
                        replace af_qwd : h_84.2.1 qwd = wd0 := (funext fun j => (hs.a (gqwd.S hM) rfl j).1).trans af_qwd
                        replace nia16_qhm : h_84.2.1 qhm = ia16_qhm := (funext fun j => (hs.a (gqhm.S hM) rfl j).1).trans nia16_qhm
                        replace ex_79 := ex_79.trans (hs.a (gqhm.S hM) rfl _).1.symm
                        replace hM := hM.tr (hs.mono (by decide))
                        refine lv_istore (lv' := [(4, .int r_85), (5, .int iv48_5), (3, .int iv16_3), (2, .int iv9_2), (1, .int x_1), (0, .ref x)]) hx hb dX10_walk_97 hl (by decide) rfl (fun ls hl => ?_)
                        have hcand : x_82.toInt = (hx_fr lf agf dxf dyf n0.toInt) iv16_3.toInt iv48_5.toInt + (ia16_qhm (9 * (iv9_2.toInt - hx_p2 iv48_5.toInt) + iv48_5.toInt).toNat).toInt := by rw [zx_82, hr_72.1, hh]
                        have hF0 : 0 ≤ (hx_fr lf agf dxf dyf n0.toInt) iv16_3.toInt iv48_5.toInt := by rw [← hr_72.1]; exact hr_72.2.1
                        have hF1 : (hx_fr lf agf dxf dyf n0.toInt) iv16_3.toInt iv48_5.toInt ≤ 198 := by rw [← hr_72.1]; exact hr_72.2.2
                        obtain ⟨x_88, ex_88⟩ : ∃ y : Int32, y = iv48_5 + Int32.ofInt 1 := ⟨_, rfl⟩
                        have zx_88 : x_88.toInt = iv48_5.toInt + (1) := by rw [ex_88]; exact i32_add rfl (by decide) (by omega) (by omega)
                        refine lv_iinc (v := x_88) (lv' := [(5, .int x_88), (4, .int r_85), (3, .int iv16_3), (2, .int iv9_2), (1, .int x_1), (0, .ref x)]) hx hb dX10_walk_99 hl (k := 1) rfl ex_88.symm (by decide) rfl (fun ls hl => ?_)
                        refine lv_goto (tgt := 48) hx hb dX10_walk_102 (by decide) ?_
                        exact ih48 r_85 x_88 _ _ L_83 h_84 (i32_r _).1 (i32_r _).2 (by omega) (by omega) (vi48_0.elim (fun q => by exfalso; have hl0 : iv9_2.toInt = 0 := q.1; omega) (fun q => Or.inr ⟨q.1, hx_best_yes vi16_0 q.2 hbt hX2 hX3 (by omega) (by omega) (by omega) hF0 hF1 hcand (hr_87.elim (fun w => Or.inl ⟨congrArg Int32.toInt w.1, w.2⟩) (fun w => Or.inr ⟨congrArg Int32.toInt w.1, w.2⟩)) zx_88⟩)) (by omega) ls (by omega) hW hT hM f_x_90 af_qwd nia16_qhm (lv_sub hl [0, 1, 2, 3, 4, 5] rfl)
                have zk_1000000000 : (1000000000 : Int32).toInt = 1000000000 := by decide
                have zk_0 : (0 : Int32).toInt = 0 := by decide
                exact loop48 9 (1000000000 : Int32) (0 : Int32) _ _ hL1 hl1 (by decide) (by decide) (by decide) (by decide) (Or.inr ⟨by omega, hx_best0⟩) (by omega) ls (by omega) hW hT hM f_x_90 af_qwd nia16_qhm hl
              · skip
                refine lv_aload_n hx hb dX10_walk_28 rfl (lv_at hl 3 rfl) ?_
                refine lv_iload_n hx hb dX10_walk_29 rfl (lv_at hl 0 rfl) ?_
                refine lv_aload_n hx hb dX10_walk_30 rfl (lv_at hl 3 rfl) ?_
                refine hk_geti hx hb hts hC_10 hown hW (gx.S hM) tt_10 90 (by decide) rfl kw_1233 ⟨rfl, rfl, rfl⟩ f_x_90 dX10_walk_31 ?_
                refine hx_goi (hx_runV (As := [.int iv16_3, .int n0]) (rest := []) ⟨hx, hb, hml, hown, hts⟩ hW (gx.S hM) tt_10 (T := TX10) (N := 98) rfl (t_X10_far_2 l dC dI dA hL1 hl1 H.size x iv16_3 n0 hT (gx.S hM) qls (gqls.S hM) ((hM.o gx trivial rfl).2.trans f_x_91) qag (gqag.S hM) ((hM.o gx trivial rfl).2.trans f_x_38) qdx (gqdx.S hM) ((hM.o gx trivial rfl).2.trans f_x_24) qdy (gqdy.S hM) ((hM.o gx trivial rfl).2.trans f_x_25) lf (hx_afS hM gqls rfl af_qls) agf (hx_afS hM gqag rfl af_qag) dxf (hx_afS hM gqdx rfl af_qdx) dyf (hx_afS hM gqdy rfl af_qdy) n0 f_x_90 ⟨by omega, by omega⟩ ⟨by omega, by omega⟩) (cwV 2 hts (hx_gV kw_1725 kw_1722 kw_1724 kw_90 kw_103) rfl rfl rfl (by decide +kernel) ⟨Nat.le_of_ble_eq_true rfl, Nat.le_of_ble_eq_true rfl⟩) rfl hl.1 rfl (Nat.le_of_ble_eq_true rfl) dX10_walk_34 ⟨Nat.le_of_ble_eq_true rfl, Nat.le_of_ble_eq_true rfl⟩) hW (fun r_91 L_89 h_90 H locs p_92 hW => ?_)
                obtain ⟨hr_93, hT, hs⟩ := p_92
                replace hT : hx_T T_tb L_89 h_90 := hT
                replace hs : hx_S T_tb [] hL1 hl1 L_89 h_90 := hs
                replace f_x_90 := (hs.o (gx.S hM) trivial rfl).1.trans f_x_90
                replace af_qwd : h_90.2.1 qwd = wd0 := (funext fun j => (hs.a (gqwd.S hM) rfl j).1).trans af_qwd
                replace nia16_qhm : h_90.2.1 qhm = ia16_qhm := (funext fun j => (hs.a (gqhm.S hM) rfl j).1).trans nia16_qhm
                replace hM := hM.tr (hs.mono (by decide))
                refine lv_goto (tgt := 43) hx hb dX10_walk_37 (by decide) ?_
                refine lv_istore (lv' := [(4, .int r_91), (3, .int iv16_3), (2, .int iv9_2), (1, .int x_1), (0, .ref x)]) hx hb dX10_walk_43 hl (by decide) rfl (fun ls hl => ?_)
                refine lv_iconst (v := 0) hx hb dX10_walk_45 (by decide) ?_
                refine lv_istore (lv' := [(5, .int (0 : Int32)), (4, .int r_91), (3, .int iv16_3), (2, .int iv9_2), (1, .int x_1), (0, .ref x)]) hx hb dX10_walk_46 hl (by decide) rfl (fun ls hl => ?_)
                have loop48 : ∀ (n48 : Nat) (iv48_4 iv48_5 : Int32) (H : Heap) (locs : List Loc) (hL1 : List Nat) (hl1 : hx_h), -2147483648 ≤ iv48_4.toInt → iv48_4.toInt ≤ 2147483647 → 0 ≤ iv48_5.toInt → iv48_5.toInt ≤ 8 → ((iv9_2.toInt = 0 ∧ 0 ≤ iv48_4.toInt ∧ iv48_4.toInt ≤ 198 ∧ iv48_4.toInt = (hx_fr lf agf dxf dyf n0.toInt) iv16_3.toInt n0.toInt) ∨ (iv9_2.toInt ≠ 0 ∧ hx_best (hx_fr lf agf dxf dyf n0.toInt) ia16_qhm iv9_2.toInt iv16_3.toInt iv48_5.toInt iv48_4.toInt)) → (iv48_5.toInt ≤ n0.toInt) → ∀ (ls : Array Slot), 8 - iv48_5.toInt < (n48 : Int) → hx_W T_tb (P_ty dA) (dC, dI) vwCl (hx_A L sz) s.heap hL1 hl1 s H locs → hx_T T_tb hL1 hl1 → hx_S T_tb [(10, 90), (10, 92), (113, 0), (114, 0)] L h hL1 hl1 → hl1.2.1 x 90 = n0 → hl1.2.1 qwd = wd0 → hl1.2.1 qhm = ia16_qhm → lv_has ls 6 [(5, .int iv48_5), (4, .int iv48_4), (3, .int iv16_3), (2, .int iv9_2), (1, .int x_1), (0, .ref x)] → W p l e ({ frames := 2, cells := 0, slots := 0, locals := 49 }) s m ([.ref x] : List Value).toArray below meth c H locs 0 0 (MQ below (va_Qi (fun (r : Int32) (u : List Nat × hx_h) => (∃ (ln1 : Int32) (wm1 : Int32) (wd1 : Nat → Int32), u.2.2.1 x 90 = ln1 ∧ u.2.2.1 x 92 = wm1 ∧ u.2.2.1 qwd = wd1 ∧ (ln1.toInt = 0 ∧ wm1.toInt = n0.toInt ∧ hx_WA (hx_fr lf agf dxf dyf n0.toInt) n0.toInt lf wd1 r.toInt)) ∧ hx_T T_tb u.1 u.2 ∧ hx_S T_tb [(10, 90), (10, 92), (113, 0), (114, 0)] L h u.1 u.2) (hx_E T_tb (P_ty dA) (dC, dI) vwCl (hx_A L sz)) (hx_A L sz)) ([.ref x] : List Value).toArray s 0 0 (hx_A L sz)) (F0 m 48 ls []) := by
                  intro n48
                  induction n48 with
                  | zero => intro iv48_4 iv48_5 H locs hL1 hl1 bliv48_4 buiv48_4 bliv48_5 buiv48_5 vi48_0 vi48_1 ls hn48; exfalso; omega
                  | succ n48 ih48 =>
                    intro iv48_4 iv48_5 H locs hL1 hl1 bliv48_4 buiv48_4 bliv48_5 buiv48_5 vi48_0 vi48_1 ls hn48 hW hT hM f_x_90 af_qwd nia16_qhm hl
                    refine lv_iload hx hb dX10_walk_48 (lv_at hl 0 rfl) ?_
                    refine lv_aload_n hx hb dX10_walk_50 rfl (lv_at hl 5 rfl) ?_
                    refine hk_geti hx hb hts hC_10 hown hW (gx.S hM) tt_10 90 (by decide) rfl kw_1233 ⟨rfl, rfl, rfl⟩ f_x_90 dX10_walk_51 ?_
                    refine hb_icmp_ge (zx := iv48_5.toInt) (zy := n0.toInt) (tgt := 105) hx hb rfl rfl dX10_walk_54 (by decide) (fun c_94 => ?_) (fun c_94 => ?_)
                    · skip
                      have hkn : iv48_5.toInt = n0.toInt := by omega
                      have hbst : (iv9_2.toInt = 0 ∧ 0 ≤ iv48_4.toInt ∧ iv48_4.toInt ≤ 198 ∧ iv48_4.toInt = (hx_fr lf agf dxf dyf n0.toInt) iv16_3.toInt n0.toInt) ∨ (iv9_2.toInt ≠ 0 ∧ iv9_2.toInt < 2 ^ n0.toInt.toNat ∧ hx_best (hx_fr lf agf dxf dyf n0.toInt) ia16_qhm iv9_2.toInt iv16_3.toInt n0.toInt iv48_4.toInt) := vi48_0.elim (fun q => Or.inl q) (fun q => Or.inr ⟨q.1, by omega, by have w := q.2; rw [hkn] at w; exact w⟩)
                      refine lv_aload_n hx hb dX10_walk_105 rfl (lv_at hl 5 rfl) ?_
                      refine hk_getr hx hb hts hC_10 hown hW (gx.S hM) tt_10 94 (by decide) rfl kw_1237 ⟨rfl, rfl, rfl⟩ ((hM.o gx trivial rfl).2.trans f_x_94) dX10_walk_106 ?_
                      refine lv_bipush (v := 9) hx hb dX10_walk_109 (by decide) ?_
                      refine lv_iload_n hx hb dX10_walk_111 rfl (lv_at hl 3 rfl) ?_
                      refine lv_imul hx hb dX10_walk_112 ?_
                      refine lv_topi (fun x_95 ex_95 => ?_)
                      have zx_95 : x_95.toInt = 9 * iv9_2.toInt := by rw [ex_95]; exact i32_mul (by decide) rfl rfl (by omega) (by omega)
                      refine lv_iload_n hx hb dX10_walk_113 rfl (lv_at hl 2 rfl) ?_
                      refine lv_iadd hx hb dX10_walk_114 ?_
                      have rg_96 := i32_r x_95
                      have rg_97 := i32_r iv16_3
                      refine lv_topi (fun x_98 ex_98 => ?_)
                      have zx_98 : x_98.toInt = x_95.toInt + iv16_3.toInt := by rw [ex_98]; exact i32_add rfl rfl (by omega) (by omega)
                      refine lv_iload hx hb dX10_walk_115 (lv_at hl 1 rfl) ?_
                      have nia16_qhmO := nia16_qhm
                      refine hx_iast hx hb hW hT (hx_S.rf (M := [(114, 0)])) (gqhm.S hM) tt_114 rfl ⟨by omega, by omega⟩ rfl (i32_r _) (List.mem_singleton.mpr rfl) dX10_walk_117 (fun H locs h_99 eh_99 hW hT hs => ?_)
                      replace f_x_90 := (hs.o (gx.S hM) trivial rfl).1.trans f_x_90
                      replace af_qwd : h_99.2.1 qwd = wd0 := (funext fun j => (hs.a (gqwd.S hM) rfl j).1).trans af_qwd
                      replace hM := hM.tr (hs.mono (by decide))
                      obtain ⟨fa_100, dfa_100⟩ : ∃ g : Nat → Int32, g = hx_up ia16_qhm x_98.toNatClampNeg iv48_4 := ⟨_, rfl⟩
                      have nfa_100 : h_99.2.1 qhm = fa_100 := by rw [eh_99, dfa_100, ← nia16_qhmO]; exact hx_pi_fun _ _ _ _
                      obtain ⟨x_101, ex_101⟩ : ∃ y : Int32, y = iv16_3 + Int32.ofInt 1 := ⟨_, rfl⟩
                      have zx_101 : x_101.toInt = iv16_3.toInt + (1) := by rw [ex_101]; exact i32_add rfl (by decide) (by omega) (by omega)
                      refine lv_iinc (v := x_101) (lv' := [(3, .int x_101), (5, .int iv48_5), (4, .int iv48_4), (2, .int iv9_2), (1, .int x_1), (0, .ref x)]) hx hb dX10_walk_118 hl (k := 2) rfl ex_101.symm (by decide) rfl (fun ls hl => ?_)
                      refine lv_goto (tgt := 16) hx hb dX10_walk_121 (by decide) ?_
                      exact ih16 x_101 fa_100 _ _ hL1 h_99 (by omega) (by omega) (hx_D_put vi16_0 (by omega) (by omega) (by omega) (by omega) (by omega) (by omega) rfl dfa_100 zx_101 hbst) ls (by omega) hW hT hM f_x_90 nfa_100 af_qwd (lv_sub hl [0, 3, 4, 5] rfl)
                    · skip
                      have hbits := hx_bits (L := iv9_2) (K := iv48_5) (by omega) (by omega) (by omega) (by omega)
                      refine lv_iload_n hx hb dX10_walk_57 rfl (lv_at hl 3 rfl) ?_
                      refine lv_iload hx hb dX10_walk_58 (lv_at hl 0 rfl) ?_
                      refine lv_ishr hx hb dX10_walk_60 ?_
                      refine lv_topi (fun x_102 ex_102 => ?_)
                      refine lv_iconst (v := 1) hx hb dX10_walk_61 (by decide) ?_
                      refine lv_iand hx hb dX10_walk_62 ?_
                      refine lv_topi (fun x_103 ex_103 => ?_)
                      have zx_103 : 0 ≤ x_103.toInt ∧ x_103.toInt ≤ 1 := by rw [ex_103]; exact hx_andR (by decide) (by decide)
                      refine lv_iconst (v := 1) hx hb dX10_walk_63 (by decide) ?_
                      refine hb_icmp_ne (zx := x_103.toInt) (zy := 1) (tgt := 99) hx hb rfl (by decide) dX10_walk_64 (by decide) (fun c_104 => ?_) (fun c_104 => ?_)
                      · skip
                        have hbf := hx_bit_no hbits.1 ex_102 ex_103 (by omega)
                        obtain ⟨x_105, ex_105⟩ : ∃ y : Int32, y = iv48_5 + Int32.ofInt 1 := ⟨_, rfl⟩
                        have rg_106 := i32_r iv48_5
                        have zx_105 : x_105.toInt = iv48_5.toInt + (1) := by rw [ex_105]; exact i32_add rfl (by decide) (by omega) (by omega)
                        refine lv_iinc (v := x_105) (lv' := [(5, .int x_105), (4, .int iv48_4), (3, .int iv16_3), (2, .int iv9_2), (1, .int x_1), (0, .ref x)]) hx hb dX10_walk_99 hl (k := 0) rfl ex_105.symm (by decide) rfl (fun ls hl => ?_)
                        refine lv_goto (tgt := 48) hx hb dX10_walk_102 (by decide) ?_
                        exact ih48 iv48_4 x_105 _ _ hL1 hl1 (i32_r _).1 (i32_r _).2 (by omega) (by omega) (vi48_0.elim (fun q => Or.inl q) (fun q => Or.inr ⟨q.1, hx_best_no q.2 hbf zx_105⟩)) (by omega) ls (by omega) hW hT hM f_x_90 af_qwd nia16_qhm (lv_sub hl [0, 1, 2, 3, 4, 5] rfl)
                      · skip
                        have hbt := hx_bit_yes hbits.1 ex_102 ex_103 (by omega)
                        refine lv_iload hx hb dX10_walk_67 (lv_at hl 1 rfl) ?_
                        refine lv_aload_n hx hb dX10_walk_69 rfl (lv_at hl 5 rfl) ?_
                        refine lv_iload_n hx hb dX10_walk_70 rfl (lv_at hl 2 rfl) ?_
                        refine lv_iload hx hb dX10_walk_71 (lv_at hl 0 rfl) ?_
                        refine hx_goi (hx_runV (As := [.int iv16_3, .int iv48_5]) (rest := [.int iv48_4]) ⟨hx, hb, hml, hown, hts⟩ hW (gx.S hM) tt_10 (T := TX10) (N := 98) rfl (t_X10_far_2 l dC dI dA hL1 hl1 H.size x iv16_3 iv48_5 hT (gx.S hM) qls (gqls.S hM) ((hM.o gx trivial rfl).2.trans f_x_91) qag (gqag.S hM) ((hM.o gx trivial rfl).2.trans f_x_38) qdx (gqdx.S hM) ((hM.o gx trivial rfl).2.trans f_x_24) qdy (gqdy.S hM) ((hM.o gx trivial rfl).2.trans f_x_25) lf (hx_afS hM gqls rfl af_qls) agf (hx_afS hM gqag rfl af_qag) dxf (hx_afS hM gqdx rfl af_qdx) dyf (hx_afS hM gqdy rfl af_qdy) n0 f_x_90 ⟨by omega, by omega⟩ ⟨by omega, by omega⟩) (cwV 2 hts (hx_gV kw_1725 kw_1722 kw_1724 kw_90 kw_103) rfl rfl rfl (by decide +kernel) ⟨Nat.le_of_ble_eq_true rfl, Nat.le_of_ble_eq_true rfl⟩) rfl hl.1 rfl (Nat.le_of_ble_eq_true rfl) dX10_walk_73 ⟨Nat.le_of_ble_eq_true rfl, Nat.le_of_ble_eq_true rfl⟩) hW (fun r_109 L_107 h_108 H locs p_110 hW => ?_)
                        obtain ⟨hr_111, hT, hs⟩ := p_110
                        replace hT : hx_T T_tb L_107 h_108 := hT
                        replace hs : hx_S T_tb [] hL1 hl1 L_107 h_108 := hs
                        replace f_x_90 := (hs.o (gx.S hM) trivial rfl).1.trans f_x_90
                        replace af_qwd : h_108.2.1 qwd = wd0 := (funext fun j => (hs.a (gqwd.S hM) rfl j).1).trans af_qwd
                        replace nia16_qhm : h_108.2.1 qhm = ia16_qhm := (funext fun j => (hs.a (gqhm.S hM) rfl j).1).trans nia16_qhm
                        replace hM := hM.tr (hs.mono (by decide))
                        refine lv_aload_n hx hb dX10_walk_76 rfl (lv_at hl 5 rfl) ?_
                        refine hk_getr hx hb hts hC_10 hown hW (gx.S hM) tt_10 94 (by decide) rfl kw_1237 ⟨rfl, rfl, rfl⟩ ((hM.o gx trivial rfl).2.trans f_x_94) dX10_walk_77 ?_
                        refine lv_bipush (v := 9) hx hb dX10_walk_80 (by decide) ?_
                        refine lv_iload_n hx hb dX10_walk_82 rfl (lv_at hl 3 rfl) ?_
                        refine lv_iconst (v := 1) hx hb dX10_walk_83 (by decide) ?_
                        refine lv_iload hx hb dX10_walk_84 (lv_at hl 0 rfl) ?_
                        refine lv_ishl hx hb dX10_walk_86 ?_
                        refine lv_topi (fun x_112 ex_112 => ?_)
                        have zx_112 : 1 ≤ x_112.toInt ∧ x_112.toInt ≤ 128 := by rw [ex_112]; exact hx_shl7 (by omega) (by omega)
                        refine lv_ixor hx hb dX10_walk_87 ?_
                        refine lv_topi (fun x_113 ex_113 => ?_)
                        have hX := hbits.2.2.2 hbt
                        rw [← ex_112, ← ex_113] at hX
                        have hX1 := hX.1; have hX2 := hX.2.1; have hX3 := hX.2.2.1
                        refine lv_imul hx hb dX10_walk_88 ?_
                        refine lv_topi (fun x_114 ex_114 => ?_)
                        have zx_114 : x_114.toInt = 9 * x_113.toInt := by rw [ex_114]; exact i32_mul (by decide) rfl rfl (by omega) (by omega)
                        refine lv_iload hx hb dX10_walk_89 (lv_at hl 0 rfl) ?_
                        refine lv_iadd hx hb dX10_walk_91 ?_
                        have rg_115 := i32_r x_114
                        have rg_116 := i32_r iv48_5
                        refine lv_topi (fun x_117 ex_117 => ?_)
                        have zx_117 : x_117.toInt = x_114.toInt + iv48_5.toInt := by rw [ex_117]; exact i32_add rfl rfl (by omega) (by omega)
                        refine hx_iald hx hb hW hT (gqhm.S hM) tt_114 rfl ⟨by omega, by omega⟩ dX10_walk_92 (fun x_118 ex_118 lx_118 ux_118 => ?_)
                        have ax_118 : x_118 = ia16_qhm x_117.toNatClampNeg := ex_118.trans (congrFun nia16_qhm _)
                        have hh : x_118.toInt = (ia16_qhm (9 * (iv9_2.toInt - hx_p2 iv48_5.toInt) + iv48_5.toInt).toNat).toInt := (congrArg Int32.toInt ax_118).trans (congrArg (fun z => (ia16_qhm z).toInt) (by unfold Int32.toNatClampNeg; omega))
                        have hdd := vi16_0.1 (iv9_2.toInt - hx_p2 iv48_5.toInt) iv48_5.toInt (by omega) (by omega) (by omega) (by omega)
                        have hdd1 := hdd.1; have hdd2 := hdd.2.1
                        refine lv_iadd hx hb dX10_walk_93 ?_
                        have rg_119 := i32_r r_109
                        have rg_120 := i32_r x_118
                        refine lv_topi (fun x_121 ex_121 => ?_)
                        have zx_121 : x_121.toInt = r_109.toInt + x_118.toInt := by rw [ex_121]; exact i32_add rfl rfl (by omega) (by omega)
                        refine hx_goi (hx_runS (As := [.int iv48_4, .int x_121]) (rest := []) ⟨hx, hb, hml, hown, hts⟩ hW (t_X10_lesser_2 l dC dI dA L_107 h_108 H.size iv48_4 x_121 hT) (va_cwS 2 hts (hx_gS kw_1705 kw_1703 kw_1704 kw_103) rfl rfl rfl (by decide +kernel) ⟨Nat.le_of_ble_eq_true rfl, Nat.le_of_ble_eq_true rfl⟩) rfl hl.1 rfl (Nat.le_of_ble_eq_true rfl) dX10_walk_94 ⟨Nat.le_of_ble_eq_true rfl, Nat.le_of_ble_eq_true rfl⟩) hW (fun r_124 L_122 h_123 H locs p_125 hW => ?_)
                        obtain ⟨hr_126, hT, hs⟩ := p_125
                        replace hT : hx_T T_tb L_122 h_123 := hT
                        replace hs : hx_S T_tb [] L_107 h_108 L_122 h_123 := hs
                        replace f_x_90 := (hs.o (gx.S hM) trivial rfl).1.trans f_x_90
                        replace af_qwd : h_123.2.1 qwd = wd0 := (funext fun j => (hs.a (gqwd.S hM) rfl j).1).trans af_qwd
                        replace nia16_qhm : h_123.2.1 qhm = ia16_qhm := (funext fun j => (hs.a (gqhm.S hM) rfl j).1).trans nia16_qhm
                        replace ex_118 := ex_118.trans (hs.a (gqhm.S hM) rfl _).1.symm
                        replace hM := hM.tr (hs.mono (by decide))
                        refine lv_istore (lv' := [(4, .int r_124), (5, .int iv48_5), (3, .int iv16_3), (2, .int iv9_2), (1, .int x_1), (0, .ref x)]) hx hb dX10_walk_97 hl (by decide) rfl (fun ls hl => ?_)
                        have hcand : x_121.toInt = (hx_fr lf agf dxf dyf n0.toInt) iv16_3.toInt iv48_5.toInt + (ia16_qhm (9 * (iv9_2.toInt - hx_p2 iv48_5.toInt) + iv48_5.toInt).toNat).toInt := by rw [zx_121, hr_111.1, hh]
                        have hF0 : 0 ≤ (hx_fr lf agf dxf dyf n0.toInt) iv16_3.toInt iv48_5.toInt := by rw [← hr_111.1]; exact hr_111.2.1
                        have hF1 : (hx_fr lf agf dxf dyf n0.toInt) iv16_3.toInt iv48_5.toInt ≤ 198 := by rw [← hr_111.1]; exact hr_111.2.2
                        obtain ⟨x_127, ex_127⟩ : ∃ y : Int32, y = iv48_5 + Int32.ofInt 1 := ⟨_, rfl⟩
                        have zx_127 : x_127.toInt = iv48_5.toInt + (1) := by rw [ex_127]; exact i32_add rfl (by decide) (by omega) (by omega)
                        refine lv_iinc (v := x_127) (lv' := [(5, .int x_127), (4, .int r_124), (3, .int iv16_3), (2, .int iv9_2), (1, .int x_1), (0, .ref x)]) hx hb dX10_walk_99 hl (k := 1) rfl ex_127.symm (by decide) rfl (fun ls hl => ?_)
                        refine lv_goto (tgt := 48) hx hb dX10_walk_102 (by decide) ?_
                        exact ih48 r_124 x_127 _ _ L_122 h_123 (i32_r _).1 (i32_r _).2 (by omega) (by omega) (vi48_0.elim (fun q => by exfalso; have hl0 : iv9_2.toInt = 0 := q.1; omega) (fun q => Or.inr ⟨q.1, hx_best_yes vi16_0 q.2 hbt hX2 hX3 (by omega) (by omega) (by omega) hF0 hF1 hcand (hr_126.elim (fun w => Or.inl ⟨congrArg Int32.toInt w.1, w.2⟩) (fun w => Or.inr ⟨congrArg Int32.toInt w.1, w.2⟩)) zx_127⟩)) (by omega) ls (by omega) hW hT hM f_x_90 af_qwd nia16_qhm (lv_sub hl [0, 1, 2, 3, 4, 5] rfl)
                have zk_0 : (0 : Int32).toInt = 0 := by decide
                exact loop48 9 r_91 (0 : Int32) _ _ L_89 h_90 (i32_r _).1 (i32_r _).2 (by decide) (by decide) (Or.inl ⟨by omega, by omega, by omega, by rw [hr_93.1]⟩) (by omega) ls (by omega) hW hT hM f_x_90 af_qwd nia16_qhm hl
        have zk_0 : (0 : Int32).toInt = 0 := by decide
        exact loop16 10 (0 : Int32) ia9_qhm _ _ hL1 hl1 (by decide) (by decide) vi9_0 ls (by omega) hW hT hM f_x_90 nia9_qhm af_qwd hl
  have zk_0 : (0 : Int32).toInt = 0 := by decide
  exact loop9 257 (0 : Int32) hm0 _ _ L h (by decide) (by decide) hx_D0 ls (by omega) hW hT hM f_x_90 af_qhm af_qwd hl
