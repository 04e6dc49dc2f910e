section
set_option maxHeartbeats 4000000 in
set_option maxRecDepth 100000 in
theorem t_X10_stepsBetween_2 (l : Launch) (dC : Nat → ClassId) (dI : Nat → Nat → Nat) (dA : Nat → ClassId) (L : List Nat) (h : hx_h) (sz : Nat) (i1 : Int32) (i2 : Int32) (i3 : Int32) (i4 : Int32) (hT : hx_T T_tb L h)  (hi1 : 0 ≤ i1.toInt ∧ i1.toInt ≤ 99) (hi2 : 0 ≤ i2.toInt ∧ i2.toInt ≤ 99) (hi3 : 0 ≤ i3.toInt ∧ i3.toInt ≤ 99) (hi4 : 0 ≤ i4.toInt ∧ i4.toInt ≤ 99) : Met l yX10_stepsBetween (Cond.code yX10_stepsBetween cX10_stepsBetween 4 (some .int) :: hx_all) ({ frames := 0, cells := 0, slots := 0, locals := 0 }) (va_Pc [.int i1, .int i2, .int i3, .int i4] (hx_B T_tb (P_ty dA) (dC, dI) vwCl L h sz)) (va_Qi (fun (r : Int32) (u : List Nat × hx_h) => (r.toInt = hx_ab i1.toInt i3.toInt + hx_ab i2.toInt i4.toInt ∧ 0 ≤ r.toInt ∧ r.toInt ≤ 198) ∧ hx_T T_tb u.1 u.2 ∧ hx_S T_tb [] L h u.1 u.2) (hx_E T_tb (P_ty dA) (dC, dI) vwCl (hx_A L sz)) (hx_A L sz)) 0 0 (hx_A L sz) := by
  refine hx_met (lv := [(0, .int i1), (1, .int i2), (2, .int i3), (3, .int i4)]) (by decide +kernel) rfl (Nat.le_of_ble_eq_true rfl) rfl ?_
  intro p e s m below meth c hx hb hml hr hlk hts0 hown hin hsz hW ls hl
  have hts : ∀ w ∈ hx_all, w.before _ s = true := fun w hw => hts0 w (List.mem_cons_of_mem _ hw)
  have hown : s.vm.findClass "SmallCourtModel" = some m.cls := hown
  have hM : hx_S T_tb [] L h L h := hx_S.rf
  refine lv_iload_n hx hb dX10_stepsBetween_0 rfl (lv_at hl 0 rfl) ?_
  refine lv_iload_n hx hb dX10_stepsBetween_1 rfl (lv_at hl 2 rfl) ?_
  refine hb_icmp_ge (zx := i1.toInt) (zy := i3.toInt) (tgt := 11) hx hb rfl rfl dX10_stepsBetween_2 ?o0 (fun c_1 => ?_) (fun c_1 => ?_)
  case o0 => decide
  · skip
    refine lv_iload_n hx hb dX10_stepsBetween_11 rfl (lv_at hl 0 rfl) ?_
    refine lv_iload_n hx hb dX10_stepsBetween_12 rfl (lv_at hl 2 rfl) ?_
    refine lv_isub hx hb dX10_stepsBetween_13 ?_
    have rg_2 := i32_r i1
    have rg_3 := i32_r i3
    refine lv_topi (fun x_4 ex_4 => ?_)
    have zx_4 : x_4.toInt = i1.toInt - i3.toInt := ?o1
    case o1 =>
      rw [ex_4]
      refine i32_sub rfl rfl ?o2 ?o3
      case o2 => omega
      case o3 => omega
    refine lv_iload_n hx hb dX10_stepsBetween_14 rfl (lv_at hl 1 rfl) ?_
    refine lv_iload_n hx hb dX10_stepsBetween_15 rfl (lv_at hl 3 rfl) ?_
    refine hb_icmp_ge (zx := i2.toInt) (zy := i4.toInt) (tgt := 25) hx hb rfl rfl dX10_stepsBetween_16 ?o4 (fun c_5 => ?_) (fun c_5 => ?_)
    case o4 => decide
    · skip
      refine lv_iload_n hx hb dX10_stepsBetween_25 rfl (lv_at hl 1 rfl) ?_
      refine lv_iload_n hx hb dX10_stepsBetween_26 rfl (lv_at hl 3 rfl) ?_
      refine lv_isub hx hb dX10_stepsBetween_27 ?_
      have rg_6 := i32_r i2
      have rg_7 := i32_r i4
      refine lv_topi (fun x_8 ex_8 => ?_)
      have zx_8 : x_8.toInt = i2.toInt - i4.toInt := ?o5
      case o5 =>
        rw [ex_8]
        refine i32_sub rfl rfl ?o6 ?o7
        case o6 => omega
        case o7 => omega
      refine lv_iadd hx hb dX10_stepsBetween_28 ?_
      have rg_9 := i32_r x_4
      have rg_10 := i32_r x_8
      refine lv_topi (fun x_11 ex_11 => ?_)
      have zx_11 : x_11.toInt = x_4.toInt + x_8.toInt := ?o8
      case o8 =>
        rw [ex_11]
        refine i32_add rfl rfl ?o9 ?o10
        case o9 => omega
        case o10 => omega
      refine hx_reti hx hb hr hlk hW ⟨⟨by simp only [hx_ab]; (repeat' split) <;> omega, ?o11, ?o12⟩, hT, hM⟩ dX10_stepsBetween_29
      case o11 => omega
      case o12 => omega
    · skip
      refine lv_iload_n hx hb dX10_stepsBetween_19 rfl (lv_at hl 3 rfl) ?_
      refine lv_iload_n hx hb dX10_stepsBetween_20 rfl (lv_at hl 1 rfl) ?_
      refine lv_isub hx hb dX10_stepsBetween_21 ?_
      have rg_12 := i32_r i4
      have rg_13 := i32_r i2
      refine lv_topi (fun x_14 ex_14 => ?_)
      have zx_14 : x_14.toInt = i4.toInt - i2.toInt := ?o13
      case o13 =>
        rw [ex_14]
        refine i32_sub rfl rfl ?o14 ?o15
        case o14 => omega
        case o15 => omega
      refine lv_goto (tgt := 28) hx hb dX10_stepsBetween_22 ?o16 ?_
      case o16 => decide
      refine lv_iadd hx hb dX10_stepsBetween_28 ?_
      have rg_15 := i32_r x_4
      have rg_16 := i32_r x_14
      refine lv_topi (fun x_17 ex_17 => ?_)
      have zx_17 : x_17.toInt = x_4.toInt + x_14.toInt := ?o17
      case o17 =>
        rw [ex_17]
        refine i32_add rfl rfl ?o18 ?o19
        case o18 => omega
        case o19 => omega
      refine hx_reti hx hb hr hlk hW ⟨⟨by simp only [hx_ab]; (repeat' split) <;> omega, ?o20, ?o21⟩, hT, hM⟩ dX10_stepsBetween_29
      case o20 => omega
      case o21 => omega
  · skip
    refine lv_iload_n hx hb dX10_stepsBetween_5 rfl (lv_at hl 2 rfl) ?_
    refine lv_iload_n hx hb dX10_stepsBetween_6 rfl (lv_at hl 0 rfl) ?_
    refine lv_isub hx hb dX10_stepsBetween_7 ?_
    have rg_18 := i32_r i3
    have rg_19 := i32_r i1
    refine lv_topi (fun x_20 ex_20 => ?_)
    have zx_20 : x_20.toInt = i3.toInt - i1.toInt := ?o22
    case o22 =>
      rw [ex_20]
      refine i32_sub rfl rfl ?o23 ?o24
      case o23 => omega
      case o24 => omega
    refine lv_goto (tgt := 14) hx hb dX10_stepsBetween_8 ?o25 ?_
    case o25 => decide
    refine lv_iload_n hx hb dX10_stepsBetween_14 rfl (lv_at hl 1 rfl) ?_
    refine lv_iload_n hx hb dX10_stepsBetween_15 rfl (lv_at hl 3 rfl) ?_
    refine hb_icmp_ge (zx := i2.toInt) (zy := i4.toInt) (tgt := 25) hx hb rfl rfl dX10_stepsBetween_16 ?o26 (fun c_21 => ?_) (fun c_21 => ?_)
    case o26 => decide
    · skip
      refine lv_iload_n hx hb dX10_stepsBetween_25 rfl (lv_at hl 1 rfl) ?_
      refine lv_iload_n hx hb dX10_stepsBetween_26 rfl (lv_at hl 3 rfl) ?_
      refine lv_isub hx hb dX10_stepsBetween_27 ?_
      have rg_22 := i32_r i2
      have rg_23 := i32_r i4
      refine lv_topi (fun x_24 ex_24 => ?_)
      have zx_24 : x_24.toInt = i2.toInt - i4.toInt := ?o27
      case o27 =>
        rw [ex_24]
        refine i32_sub rfl rfl ?o28 ?o29
        case o28 => omega
        case o29 => omega
      refine lv_iadd hx hb dX10_stepsBetween_28 ?_
      have rg_25 := i32_r x_20
      have rg_26 := i32_r x_24
      refine lv_topi (fun x_27 ex_27 => ?_)
      have zx_27 : x_27.toInt = x_20.toInt + x_24.toInt := ?o30
      case o30 =>
        rw [ex_27]
        refine i32_add rfl rfl ?o31 ?o32
        case o31 => omega
        case o32 => omega
      refine hx_reti hx hb hr hlk hW ⟨⟨by simp only [hx_ab]; (repeat' split) <;> omega, ?o33, ?o34⟩, hT, hM⟩ dX10_stepsBetween_29
      case o33 => omega
      case o34 => omega
    · skip
      refine lv_iload_n hx hb dX10_stepsBetween_19 rfl (lv_at hl 3 rfl) ?_
      refine lv_iload_n hx hb dX10_stepsBetween_20 rfl (lv_at hl 1 rfl) ?_
      refine lv_isub hx hb dX10_stepsBetween_21 ?_
      have rg_28 := i32_r i4
      have rg_29 := i32_r i2
      refine lv_topi (fun x_30 ex_30 => ?_)
      have zx_30 : x_30.toInt = i4.toInt - i2.toInt := ?o35
      case o35 =>
        rw [ex_30]
        refine i32_sub rfl rfl ?o36 ?o37
        case o36 => omega
        case o37 => omega
      refine lv_goto (tgt := 28) hx hb dX10_stepsBetween_22 ?o38 ?_
      case o38 => decide
      refine lv_iadd hx hb dX10_stepsBetween_28 ?_
      have rg_31 := i32_r x_20
      have rg_32 := i32_r x_30
      refine lv_topi (fun x_33 ex_33 => ?_)
      have zx_33 : x_33.toInt = x_20.toInt + x_30.toInt := ?o39
      case o39 =>
        rw [ex_33]
        refine i32_add rfl rfl ?o40 ?o41
        case o40 => omega
        case o41 => omega
      refine hx_reti hx hb hr hlk hW ⟨⟨by simp only [hx_ab]; (repeat' split) <;> omega, ?o42, ?o43⟩, hT, hM⟩ dX10_stepsBetween_29
      case o42 => omega
      case o43 => omega


set_option maxHeartbeats 4000000 in
set_option maxRecDepth 100000 in
theorem t_X10_far_2 (l : Launch) (dC : Nat → ClassId) (dI : Nat → Nat → Nat) (dA : Nat → ClassId) (L : List Nat) (h : hx_h) (sz : Nat) (x : Nat) (i1 : Int32) (i2 : Int32) (hT : hx_T T_tb L h) (gx : hx_g L h x 10) (qls : Nat) (gqls : hx_g L h qls 112) (f_x_91 : h.2.2 x 91 = some qls) (qag : Nat) (gqag : hx_g L h qag 73) (f_x_38 : h.2.2 x 38 = some qag) (qdx : Nat) (gqdx : hx_g L h qdx 61) (f_x_24 : h.2.2 x 24 = some qdx) (qdy : Nat) (gqdy : hx_g L h qdy 62) (f_x_25 : h.2.2 x 25 = some qdy) (lf : Nat → Int32) (af_qls : h.2.1 qls = lf) (agf : Nat → Int32) (af_qag : h.2.1 qag = agf) (dxf : Nat → Int32) (af_qdx : h.2.1 qdx = dxf) (dyf : Nat → Int32) (af_qdy : h.2.1 qdy = dyf) (n0 : Int32) (f_x_90 : h.2.1 x 90 = n0) (hi1 : 0 ≤ i1.toInt ∧ i1.toInt ≤ n0.toInt) (hi2 : 0 ≤ i2.toInt ∧ i2.toInt ≤ n0.toInt) : Met l yX10_far (Cond.code yX10_far cX10_far 7 (some .int) :: hx_all) ({ frames := 1, cells := 0, slots := 0, locals := 23 }) (va_Pc [.ref x, .int i1, .int i2] (hx_B T_tb (P_ty dA) (dC, dI) vwCl L h sz)) (va_Qi (fun (r : Int32) (u : List Nat × hx_h) => (r.toInt = hx_fr lf agf dxf dyf n0.toInt i1.toInt i2.toInt ∧ 0 ≤ r.toInt ∧ r.toInt ≤ 198) ∧ hx_T T_tb u.1 u.2 ∧ hx_S T_tb [] L h u.1 u.2) (hx_E T_tb (P_ty dA) (dC, dI) vwCl (hx_A L sz)) (hx_A L sz)) 0 0 (hx_A L sz) := by
  refine hx_met (lv := [(0, .ref x), (1, .int i1), (2, .int i2)]) (by decide +kernel) rfl (Nat.le_of_ble_eq_true rfl) rfl ?_
  intro p e s m below meth c hx hb hml hr hlk hts0 hown hin hsz hW ls hl
  have hts : ∀ w ∈ hx_all, w.before _ s = true := fun w hw => hts0 w (List.mem_cons_of_mem _ hw)
  have hown : s.vm.findClass "SmallCourtModel" = some m.cls := hown
  have hM : hx_S T_tb [] L h L h := hx_S.rf
  have b_n0 := hT.gi gx tt_10 (k := 90) rfl
  rw [f_x_90] at b_n0
  have b_n0 : 0 ≤ n0.toInt ∧ n0.toInt ≤ 8 := b_n0
  refine lv_iload_n hx hb dX10_far_0 rfl (lv_at hl 1 rfl) ?_
  refine lv_aload_n hx hb dX10_far_1 rfl (lv_at hl 0 rfl) ?_
  refine hk_geti hx hb hts hC_10 hown hW (gx.S hM) tt_10 90 ?o0 rfl kw_1233 ⟨rfl, rfl, rfl⟩ ((hM.o gx trivial rfl).1.trans f_x_90) dX10_far_2 ?_
  case o0 => decide
  refine hb_icmp_ne (zx := i1.toInt) (zy := n0.toInt) (tgt := 13) hx hb rfl rfl dX10_far_5 ?o1 (fun c_1 => ?_) (fun c_1 => ?_)
  case o1 => decide
  · skip
    refine lv_aload_n hx hb dX10_far_13 rfl (lv_at hl 0 rfl) ?_
    refine hk_getr hx hb hts hC_10 hown hW (gx.S hM) tt_10 24 ?o2 rfl kw_1167 ⟨rfl, rfl, rfl⟩ ((hM.o gx trivial rfl).2.trans f_x_24) dX10_far_14 ?_
    case o2 => decide
    refine lv_aload_n hx hb dX10_far_17 rfl (lv_at hl 0 rfl) ?_
    refine hk_getr hx hb hts hC_10 hown hW (gx.S hM) tt_10 38 ?o3 rfl kw_1181 ⟨rfl, rfl, rfl⟩ ((hM.o gx trivial rfl).2.trans f_x_38) dX10_far_18 ?_
    case o3 => decide
    refine lv_aload_n hx hb dX10_far_21 rfl (lv_at hl 0 rfl) ?_
    refine hk_getr hx hb hts hC_10 hown hW (gx.S hM) tt_10 91 ?o4 rfl kw_1234 ⟨rfl, rfl, rfl⟩ ((hM.o gx trivial rfl).2.trans f_x_91) dX10_far_22 ?_
    case o4 => decide
    refine lv_iload_n hx hb dX10_far_25 rfl (lv_at hl 1 rfl) ?_
    refine hx_iald hx hb hW hT (gqls.S hM) tt_112 rfl ⟨?o5, ?o6⟩ dX10_far_26 (fun x_2 ex_2 lx_2 ux_2 => ?_)
    case o5 => omega
    case o6 => omega
    have ax_2 : x_2 = lf i1.toNatClampNeg := ex_2.trans (congrFun (hx_afS hM gqls rfl af_qls) _)
    refine hx_iald hx hb hW hT (gqag.S hM) tt_73 rfl ⟨?o7, ?o8⟩ dX10_far_27 (fun x_3 ex_3 lx_3 ux_3 => ?_)
    case o7 => omega
    case o8 => omega
    have ax_3 : x_3 = agf x_2.toNatClampNeg := ex_3.trans (congrFun (hx_afS hM gqag rfl af_qag) _)
    refine hx_iald hx hb hW hT (gqdx.S hM) tt_61 rfl ⟨?o9, ?o10⟩ dX10_far_28 (fun x_4 ex_4 lx_4 ux_4 => ?_)
    case o9 => omega
    case o10 => omega
    have ax_4 : x_4 = dxf x_3.toNatClampNeg := ex_4.trans (congrFun (hx_afS hM gqdx rfl af_qdx) _)
    refine lv_istore_n (lv' := [(3, .int x_4), (0, .ref x), (1, .int i1), (2, .int i2)]) hx hb dX10_far_29 rfl hl ?o11 rfl (fun ls hl => ?_)
    case o11 => decide
    refine lv_iload_n hx hb dX10_far_30 rfl (lv_at hl 2 rfl) ?_
    refine lv_aload_n hx hb dX10_far_31 rfl (lv_at hl 1 rfl) ?_
    refine hk_geti hx hb hts hC_10 hown hW (gx.S hM) tt_10 90 ?o12 rfl kw_1233 ⟨rfl, rfl, rfl⟩ ((hM.o gx trivial rfl).1.trans f_x_90) dX10_far_32 ?_
    case o12 => decide
    refine hb_icmp_ne (zx := i1.toInt) (zy := n0.toInt) (tgt := 43) hx hb rfl rfl dX10_far_35 ?o13 (fun c_5 => ?_) (fun c_5 => ?_)
    case o13 => decide
    · skip
      refine lv_aload_n hx hb dX10_far_43 rfl (lv_at hl 1 rfl) ?_
      refine hk_getr hx hb hts hC_10 hown hW (gx.S hM) tt_10 25 ?o14 rfl kw_1168 ⟨rfl, rfl, rfl⟩ ((hM.o gx trivial rfl).2.trans f_x_25) dX10_far_44 ?_
      case o14 => decide
      refine lv_aload_n hx hb dX10_far_47 rfl (lv_at hl 1 rfl) ?_
      refine hk_getr hx hb hts hC_10 hown hW (gx.S hM) tt_10 38 ?o15 rfl kw_1181 ⟨rfl, rfl, rfl⟩ ((hM.o gx trivial rfl).2.trans f_x_38) dX10_far_48 ?_
      case o15 => decide
      refine lv_aload_n hx hb dX10_far_51 rfl (lv_at hl 1 rfl) ?_
      refine hk_getr hx hb hts hC_10 hown hW (gx.S hM) tt_10 91 ?o16 rfl kw_1234 ⟨rfl, rfl, rfl⟩ ((hM.o gx trivial rfl).2.trans f_x_91) dX10_far_52 ?_
      case o16 => decide
      refine lv_iload_n hx hb dX10_far_55 rfl (lv_at hl 2 rfl) ?_
      refine hx_iald hx hb hW hT (gqls.S hM) tt_112 rfl ⟨?o17, ?o18⟩ dX10_far_56 (fun x_6 ex_6 lx_6 ux_6 => ?_)
      case o17 => omega
      case o18 => omega
      have ax_6 : x_6 = lf i1.toNatClampNeg := ex_6.trans (congrFun (hx_afS hM gqls rfl af_qls) _)
      obtain rfl : x_2 = x_6 := ex_2.trans ex_6.symm
      refine hx_iald hx hb hW hT (gqag.S hM) tt_73 rfl ⟨?o19, ?o20⟩ dX10_far_57 (fun x_7 ex_7 lx_7 ux_7 => ?_)
      case o19 => omega
      case o20 => omega
      have ax_7 : x_7 = agf x_2.toNatClampNeg := ex_7.trans (congrFun (hx_afS hM gqag rfl af_qag) _)
      obtain rfl : x_3 = x_7 := ex_3.trans ex_7.symm
      refine hx_iald hx hb hW hT (gqdy.S hM) tt_62 rfl ⟨?o21, ?o22⟩ dX10_far_58 (fun x_8 ex_8 lx_8 ux_8 => ?_)
      case o21 => omega
      case o22 => omega
      have ax_8 : x_8 = dyf x_3.toNatClampNeg := ex_8.trans (congrFun (hx_afS hM gqdy rfl af_qdy) _)
      refine lv_istore (lv' := [(4, .int x_8), (3, .int x_4), (0, .ref x), (1, .int i1), (2, .int i2)]) hx hb dX10_far_59 hl ?o23 rfl (fun ls hl => ?_)
      case o23 => decide
      refine lv_iload_n hx hb dX10_far_61 rfl (lv_at hl 4 rfl) ?_
      refine lv_aload_n hx hb dX10_far_62 rfl (lv_at hl 2 rfl) ?_
      refine hk_geti hx hb hts hC_10 hown hW (gx.S hM) tt_10 90 ?o24 rfl kw_1233 ⟨rfl, rfl, rfl⟩ ((hM.o gx trivial rfl).1.trans f_x_90) dX10_far_63 ?_
      case o24 => decide
      refine hb_icmp_ne (zx := i2.toInt) (zy := n0.toInt) (tgt := 74) hx hb rfl rfl dX10_far_66 ?o25 (fun c_9 => ?_) (fun c_9 => ?_)
      case o25 => decide
      · skip
        refine lv_aload_n hx hb dX10_far_74 rfl (lv_at hl 2 rfl) ?_
        refine hk_getr hx hb hts hC_10 hown hW (gx.S hM) tt_10 24 ?o26 rfl kw_1167 ⟨rfl, rfl, rfl⟩ ((hM.o gx trivial rfl).2.trans f_x_24) dX10_far_75 ?_
        case o26 => decide
        refine lv_aload_n hx hb dX10_far_78 rfl (lv_at hl 2 rfl) ?_
        refine hk_getr hx hb hts hC_10 hown hW (gx.S hM) tt_10 38 ?o27 rfl kw_1181 ⟨rfl, rfl, rfl⟩ ((hM.o gx trivial rfl).2.trans f_x_38) dX10_far_79 ?_
        case o27 => decide
        refine lv_aload_n hx hb dX10_far_82 rfl (lv_at hl 2 rfl) ?_
        refine hk_getr hx hb hts hC_10 hown hW (gx.S hM) tt_10 91 ?o28 rfl kw_1234 ⟨rfl, rfl, rfl⟩ ((hM.o gx trivial rfl).2.trans f_x_91) dX10_far_83 ?_
        case o28 => decide
        refine lv_iload_n hx hb dX10_far_86 rfl (lv_at hl 4 rfl) ?_
        refine hx_iald hx hb hW hT (gqls.S hM) tt_112 rfl ⟨?o29, ?o30⟩ dX10_far_87 (fun x_10 ex_10 lx_10 ux_10 => ?_)
        case o29 => omega
        case o30 => omega
        have ax_10 : x_10 = lf i2.toNatClampNeg := ex_10.trans (congrFun (hx_afS hM gqls rfl af_qls) _)
        refine hx_iald hx hb hW hT (gqag.S hM) tt_73 rfl ⟨?o31, ?o32⟩ dX10_far_88 (fun x_11 ex_11 lx_11 ux_11 => ?_)
        case o31 => omega
        case o32 => omega
        have ax_11 : x_11 = agf x_10.toNatClampNeg := ex_11.trans (congrFun (hx_afS hM gqag rfl af_qag) _)
        refine hx_iald hx hb hW hT (gqdx.S hM) tt_61 rfl ⟨?o33, ?o34⟩ dX10_far_89 (fun x_12 ex_12 lx_12 ux_12 => ?_)
        case o33 => omega
        case o34 => omega
        have ax_12 : x_12 = dxf x_11.toNatClampNeg := ex_12.trans (congrFun (hx_afS hM gqdx rfl af_qdx) _)
        refine lv_istore (lv' := [(5, .int x_12), (4, .int x_8), (3, .int x_4), (0, .ref x), (1, .int i1), (2, .int i2)]) hx hb dX10_far_90 hl ?o35 rfl (fun ls hl => ?_)
        case o35 => decide
        refine lv_iload_n hx hb dX10_far_92 rfl (lv_at hl 5 rfl) ?_
        refine lv_aload_n hx hb dX10_far_93 rfl (lv_at hl 3 rfl) ?_
        refine hk_geti hx hb hts hC_10 hown hW (gx.S hM) tt_10 90 ?o36 rfl kw_1233 ⟨rfl, rfl, rfl⟩ ((hM.o gx trivial rfl).1.trans f_x_90) dX10_far_94 ?_
        case o36 => decide
        refine hb_icmp_ne (zx := i2.toInt) (zy := n0.toInt) (tgt := 105) hx hb rfl rfl dX10_far_97 ?o37 (fun c_13 => ?_) (fun c_13 => ?_)
        case o37 => decide
        · skip
          refine lv_aload_n hx hb dX10_far_105 rfl (lv_at hl 3 rfl) ?_
          refine hk_getr hx hb hts hC_10 hown hW (gx.S hM) tt_10 25 ?o38 rfl kw_1168 ⟨rfl, rfl, rfl⟩ ((hM.o gx trivial rfl).2.trans f_x_25) dX10_far_106 ?_
          case o38 => decide
          refine lv_aload_n hx hb dX10_far_109 rfl (lv_at hl 3 rfl) ?_
          refine hk_getr hx hb hts hC_10 hown hW (gx.S hM) tt_10 38 ?o39 rfl kw_1181 ⟨rfl, rfl, rfl⟩ ((hM.o gx trivial rfl).2.trans f_x_38) dX10_far_110 ?_
          case o39 => decide
          refine lv_aload_n hx hb dX10_far_113 rfl (lv_at hl 3 rfl) ?_
          refine hk_getr hx hb hts hC_10 hown hW (gx.S hM) tt_10 91 ?o40 rfl kw_1234 ⟨rfl, rfl, rfl⟩ ((hM.o gx trivial rfl).2.trans f_x_91) dX10_far_114 ?_
          case o40 => decide
          refine lv_iload_n hx hb dX10_far_117 rfl (lv_at hl 5 rfl) ?_
          refine hx_iald hx hb hW hT (gqls.S hM) tt_112 rfl ⟨?o41, ?o42⟩ dX10_far_118 (fun x_14 ex_14 lx_14 ux_14 => ?_)
          case o41 => omega
          case o42 => omega
          have ax_14 : x_14 = lf i2.toNatClampNeg := ex_14.trans (congrFun (hx_afS hM gqls rfl af_qls) _)
          obtain rfl : x_10 = x_14 := ex_10.trans ex_14.symm
          refine hx_iald hx hb hW hT (gqag.S hM) tt_73 rfl ⟨?o43, ?o44⟩ dX10_far_119 (fun x_15 ex_15 lx_15 ux_15 => ?_)
          case o43 => omega
          case o44 => omega
          have ax_15 : x_15 = agf x_10.toNatClampNeg := ex_15.trans (congrFun (hx_afS hM gqag rfl af_qag) _)
          obtain rfl : x_11 = x_15 := ex_11.trans ex_15.symm
          refine hx_iald hx hb hW hT (gqdy.S hM) tt_62 rfl ⟨?o45, ?o46⟩ dX10_far_120 (fun x_16 ex_16 lx_16 ux_16 => ?_)
          case o45 => omega
          case o46 => omega
          have ax_16 : x_16 = dyf x_11.toNatClampNeg := ex_16.trans (congrFun (hx_afS hM gqdy rfl af_qdy) _)
          refine lv_istore (lv' := [(6, .int x_16), (5, .int x_12), (4, .int x_8), (3, .int x_4), (0, .ref x), (1, .int i1), (2, .int i2)]) hx hb dX10_far_121 hl ?o47 rfl (fun ls hl => ?_)
          case o47 => decide
          have hc3 : x_4.toInt = hx_cx lf agf dxf n0.toInt i1.toInt := ?o48
          case o48 =>
            unfold hx_cx
            rw [if_neg (by omega)]
            exact congrArg Int32.toInt (ax_4.trans (congrArg (fun z : Int32 => dxf z.toInt.toNat) (ax_3.trans (congrArg (fun z : Int32 => agf z.toInt.toNat) ax_2))))
          have hc4 : x_8.toInt = hx_cx lf agf dyf n0.toInt i1.toInt := ?o49
          case o49 =>
            unfold hx_cx
            rw [if_neg (by omega)]
            exact congrArg Int32.toInt (ax_8.trans (congrArg (fun z : Int32 => dyf z.toInt.toNat) (ax_3.trans (congrArg (fun z : Int32 => agf z.toInt.toNat) ax_2))))
          have hc5 : x_12.toInt = hx_cx lf agf dxf n0.toInt i2.toInt := ?o50
          case o50 =>
            unfold hx_cx
            rw [if_neg (by omega)]
            exact congrArg Int32.toInt (ax_12.trans (congrArg (fun z : Int32 => dxf z.toInt.toNat) (ax_11.trans (congrArg (fun z : Int32 => agf z.toInt.toNat) ax_10))))
          have hc6 : x_16.toInt = hx_cx lf agf dyf n0.toInt i2.toInt := ?o51
          case o51 =>
            unfold hx_cx
            rw [if_neg (by omega)]
            exact congrArg Int32.toInt (ax_16.trans (congrArg (fun z : Int32 => dyf z.toInt.toNat) (ax_11.trans (congrArg (fun z : Int32 => agf z.toInt.toNat) ax_10))))
          refine lv_iload_n hx hb dX10_far_123 rfl (lv_at hl 3 rfl) ?_
          refine lv_iload hx hb dX10_far_124 (lv_at hl 2 rfl) ?_
          refine lv_iload hx hb dX10_far_126 (lv_at hl 1 rfl) ?_
          refine lv_iload hx hb dX10_far_128 (lv_at hl 0 rfl) ?_
          refine hx_goi (hx_runS (As := [.int x_4, .int x_8, .int x_12, .int x_16]) (rest := []) ⟨hx, hb, hml, hown, hts⟩ hW (t_X10_stepsBetween_2 l dC dI dA L h s.heap.size x_4 x_8 x_12 x_16 hT ⟨?o52, ?o53⟩ ⟨?o54, ?o55⟩ ⟨?o56, ?o57⟩ ⟨?o58, ?o59⟩) (va_cwS 4 hts (hx_gS kw_1728 kw_1726 kw_1727 kw_103) rfl rfl rfl (by decide +kernel) ⟨Nat.le_of_ble_eq_true rfl, Nat.le_of_ble_eq_true rfl⟩) rfl hl.1 rfl (Nat.le_of_ble_eq_true rfl) dX10_far_130 ⟨Nat.le_of_ble_eq_true rfl, Nat.le_of_ble_eq_true rfl⟩) hW (fun r_19 L_17 h_18 H locs p_20 hW => ?_)
          case o52 => omega
          case o53 => omega
          case o54 => omega
          case o55 => omega
          case o56 => omega
          case o57 => omega
          case o58 => omega
          case o59 => omega
          obtain ⟨hr_21, hT, hs⟩ := p_20
          replace hT : hx_T T_tb L_17 h_18 := hT
          replace hs : hx_S T_tb [] L h L_17 h_18 := hs
          replace ex_2 := ex_2.trans (hs.a (gqls.S hM) rfl _).1.symm
          replace ex_3 := ex_3.trans (hs.a (gqag.S hM) rfl _).1.symm
          replace ex_4 := ex_4.trans (hs.a (gqdx.S hM) rfl _).1.symm
          replace ex_8 := ex_8.trans (hs.a (gqdy.S hM) rfl _).1.symm
          replace ex_10 := ex_10.trans (hs.a (gqls.S hM) rfl _).1.symm
          replace ex_11 := ex_11.trans (hs.a (gqag.S hM) rfl _).1.symm
          replace ex_12 := ex_12.trans (hs.a (gqdx.S hM) rfl _).1.symm
          replace ex_16 := ex_16.trans (hs.a (gqdy.S hM) rfl _).1.symm
          replace hM := hM.tr (hs.mono ?o60)
          case o60 => decide
          refine hx_reti hx hb hr hlk hW ⟨⟨by unfold hx_fr; rw [← hc3, ← hc4, ← hc5, ← hc6]; exact hr_21.1, ?o61, ?o62⟩, hT, hM⟩ dX10_far_133
          case o61 => omega
          case o62 => omega
        · skip
          refine lv_bipush (v := 50) hx hb dX10_far_100 ?o63 ?_
          case o63 => decide
          refine lv_goto (tgt := 121) hx hb dX10_far_102 ?o64 ?_
          case o64 => decide
          refine lv_istore (lv' := [(6, .int (50 : Int32)), (5, .int x_12), (4, .int x_8), (3, .int x_4), (0, .ref x), (1, .int i1), (2, .int i2)]) hx hb dX10_far_121 hl ?o65 rfl (fun ls hl => ?_)
          case o65 => decide
          have hc3 : x_4.toInt = hx_cx lf agf dxf n0.toInt i1.toInt := ?o66
          case o66 =>
            unfold hx_cx
            rw [if_neg (by omega)]
            exact congrArg Int32.toInt (ax_4.trans (congrArg (fun z : Int32 => dxf z.toInt.toNat) (ax_3.trans (congrArg (fun z : Int32 => agf z.toInt.toNat) ax_2))))
          have hc4 : x_8.toInt = hx_cx lf agf dyf n0.toInt i1.toInt := ?o67
          case o67 =>
            unfold hx_cx
            rw [if_neg (by omega)]
            exact congrArg Int32.toInt (ax_8.trans (congrArg (fun z : Int32 => dyf z.toInt.toNat) (ax_3.trans (congrArg (fun z : Int32 => agf z.toInt.toNat) ax_2))))
          have hc5 : x_12.toInt = hx_cx lf agf dxf n0.toInt i2.toInt := ?o68
          case o68 =>
            unfold hx_cx
            rw [if_neg (by omega)]
            exact congrArg Int32.toInt (ax_12.trans (congrArg (fun z : Int32 => dxf z.toInt.toNat) (ax_11.trans (congrArg (fun z : Int32 => agf z.toInt.toNat) ax_10))))
          have hc6 : (50 : Int32).toInt = hx_cx lf agf dyf n0.toInt i2.toInt := ?o69
          case o69 =>
            unfold hx_cx
            rw [if_pos (by omega)]
            decide
          refine lv_iload_n hx hb dX10_far_123 rfl (lv_at hl 3 rfl) ?_
          refine lv_iload hx hb dX10_far_124 (lv_at hl 2 rfl) ?_
          refine lv_iload hx hb dX10_far_126 (lv_at hl 1 rfl) ?_
          refine lv_iload hx hb dX10_far_128 (lv_at hl 0 rfl) ?_
          have zc_50 : (50 : Int32).toInt = 50 := ?o70
          case o70 => decide
          refine hx_goi (hx_runS (As := [.int x_4, .int x_8, .int x_12, .int (50 : Int32)]) (rest := []) ⟨hx, hb, hml, hown, hts⟩ hW (t_X10_stepsBetween_2 l dC dI dA L h s.heap.size x_4 x_8 x_12 (50 : Int32) hT ⟨?o71, ?o72⟩ ⟨?o73, ?o74⟩ ⟨?o75, ?o76⟩ ⟨?o77, ?o78⟩) (va_cwS 4 hts (hx_gS kw_1728 kw_1726 kw_1727 kw_103) rfl rfl rfl (by decide +kernel) ⟨Nat.le_of_ble_eq_true rfl, Nat.le_of_ble_eq_true rfl⟩) rfl hl.1 rfl (Nat.le_of_ble_eq_true rfl) dX10_far_130 ⟨Nat.le_of_ble_eq_true rfl, Nat.le_of_ble_eq_true rfl⟩) hW (fun r_24 L_22 h_23 H locs p_25 hW => ?_)
          case o71 => omega
          case o72 => omega
          case o73 => omega
          case o74 => omega
          case o75 => omega
          case o76 => omega
          case o77 => omega
          case o78 => omega
          obtain ⟨hr_26, hT, hs⟩ := p_25
          replace hT : hx_T T_tb L_22 h_23 := hT
          replace hs : hx_S T_tb [] L h L_22 h_23 := hs
          replace ex_2 := ex_2.trans (hs.a (gqls.S hM) rfl _).1.symm
          replace ex_3 := ex_3.trans (hs.a (gqag.S hM) rfl _).1.symm
          replace ex_4 := ex_4.trans (hs.a (gqdx.S hM) rfl _).1.symm
          replace ex_8 := ex_8.trans (hs.a (gqdy.S hM) rfl _).1.symm
          replace ex_10 := ex_10.trans (hs.a (gqls.S hM) rfl _).1.symm
          replace ex_11 := ex_11.trans (hs.a (gqag.S hM) rfl _).1.symm
          replace ex_12 := ex_12.trans (hs.a (gqdx.S hM) rfl _).1.symm
          replace hM := hM.tr (hs.mono ?o79)
          case o79 => decide
          refine hx_reti hx hb hr hlk hW ⟨⟨by unfold hx_fr; rw [← hc3, ← hc4, ← hc5, ← hc6]; exact hr_26.1, ?o80, ?o81⟩, hT, hM⟩ dX10_far_133
          case o80 => omega
          case o81 => omega
      · skip
        refine lv_bipush (v := 50) hx hb dX10_far_69 ?o82 ?_
        case o82 => decide
        refine lv_goto (tgt := 90) hx hb dX10_far_71 ?o83 ?_
        case o83 => decide
        refine lv_istore (lv' := [(5, .int (50 : Int32)), (4, .int x_8), (3, .int x_4), (0, .ref x), (1, .int i1), (2, .int i2)]) hx hb dX10_far_90 hl ?o84 rfl (fun ls hl => ?_)
        case o84 => decide
        refine lv_iload_n hx hb dX10_far_92 rfl (lv_at hl 5 rfl) ?_
        refine lv_aload_n hx hb dX10_far_93 rfl (lv_at hl 3 rfl) ?_
        refine hk_geti hx hb hts hC_10 hown hW (gx.S hM) tt_10 90 ?o85 rfl kw_1233 ⟨rfl, rfl, rfl⟩ ((hM.o gx trivial rfl).1.trans f_x_90) dX10_far_94 ?_
        case o85 => decide
        refine hb_icmp_ne (zx := i2.toInt) (zy := n0.toInt) (tgt := 105) hx hb rfl rfl dX10_far_97 ?o86 (fun c_27 => ?_) (fun c_27 => ?_)
        case o86 => decide
        · skip
          refine lv_aload_n hx hb dX10_far_105 rfl (lv_at hl 3 rfl) ?_
          refine hk_getr hx hb hts hC_10 hown hW (gx.S hM) tt_10 25 ?o87 rfl kw_1168 ⟨rfl, rfl, rfl⟩ ((hM.o gx trivial rfl).2.trans f_x_25) dX10_far_106 ?_
          case o87 => decide
          refine lv_aload_n hx hb dX10_far_109 rfl (lv_at hl 3 rfl) ?_
          refine hk_getr hx hb hts hC_10 hown hW (gx.S hM) tt_10 38 ?o88 rfl kw_1181 ⟨rfl, rfl, rfl⟩ ((hM.o gx trivial rfl).2.trans f_x_38) dX10_far_110 ?_
          case o88 => decide
          refine lv_aload_n hx hb dX10_far_113 rfl (lv_at hl 3 rfl) ?_
          refine hk_getr hx hb hts hC_10 hown hW (gx.S hM) tt_10 91 ?o89 rfl kw_1234 ⟨rfl, rfl, rfl⟩ ((hM.o gx trivial rfl).2.trans f_x_91) dX10_far_114 ?_
          case o89 => decide
          refine lv_iload_n hx hb dX10_far_117 rfl (lv_at hl 5 rfl) ?_
          refine hx_iald hx hb hW hT (gqls.S hM) tt_112 rfl ⟨?o90, ?o91⟩ dX10_far_118 (fun x_28 ex_28 lx_28 ux_28 => ?_)
          case o90 => omega
          case o91 => omega
          have ax_28 : x_28 = lf i2.toNatClampNeg := ex_28.trans (congrFun (hx_afS hM gqls rfl af_qls) _)
          refine hx_iald hx hb hW hT (gqag.S hM) tt_73 rfl ⟨?o92, ?o93⟩ dX10_far_119 (fun x_29 ex_29 lx_29 ux_29 => ?_)
          case o92 => omega
          case o93 => omega
          have ax_29 : x_29 = agf x_28.toNatClampNeg := ex_29.trans (congrFun (hx_afS hM gqag rfl af_qag) _)
          refine hx_iald hx hb hW hT (gqdy.S hM) tt_62 rfl ⟨?o94, ?o95⟩ dX10_far_120 (fun x_30 ex_30 lx_30 ux_30 => ?_)
          case o94 => omega
          case o95 => omega
          have ax_30 : x_30 = dyf x_29.toNatClampNeg := ex_30.trans (congrFun (hx_afS hM gqdy rfl af_qdy) _)
          refine lv_istore (lv' := [(6, .int x_30), (5, .int (50 : Int32)), (4, .int x_8), (3, .int x_4), (0, .ref x), (1, .int i1), (2, .int i2)]) hx hb dX10_far_121 hl ?o96 rfl (fun ls hl => ?_)
          case o96 => decide
          have hc3 : x_4.toInt = hx_cx lf agf dxf n0.toInt i1.toInt := ?o97
          case o97 =>
            unfold hx_cx
            rw [if_neg (by omega)]
            exact congrArg Int32.toInt (ax_4.trans (congrArg (fun z : Int32 => dxf z.toInt.toNat) (ax_3.trans (congrArg (fun z : Int32 => agf z.toInt.toNat) ax_2))))
          have hc4 : x_8.toInt = hx_cx lf agf dyf n0.toInt i1.toInt := ?o98
          case o98 =>
            unfold hx_cx
            rw [if_neg (by omega)]
            exact congrArg Int32.toInt (ax_8.trans (congrArg (fun z : Int32 => dyf z.toInt.toNat) (ax_3.trans (congrArg (fun z : Int32 => agf z.toInt.toNat) ax_2))))
          have hc5 : (50 : Int32).toInt = hx_cx lf agf dxf n0.toInt i2.toInt := ?o99
          case o99 =>
            unfold hx_cx
            rw [if_pos (by omega)]
            decide
          have hc6 : x_30.toInt = hx_cx lf agf dyf n0.toInt i2.toInt := ?o100
          case o100 =>
            unfold hx_cx
            rw [if_neg (by omega)]
            exact congrArg Int32.toInt (ax_30.trans (congrArg (fun z : Int32 => dyf z.toInt.toNat) (ax_29.trans (congrArg (fun z : Int32 => agf z.toInt.toNat) ax_28))))
          refine lv_iload_n hx hb dX10_far_123 rfl (lv_at hl 3 rfl) ?_
          refine lv_iload hx hb dX10_far_124 (lv_at hl 2 rfl) ?_
          refine lv_iload hx hb dX10_far_126 (lv_at hl 1 rfl) ?_
          refine lv_iload hx hb dX10_far_128 (lv_at hl 0 rfl) ?_
          have zc_50 : (50 : Int32).toInt = 50 := ?o101
          case o101 => decide
          refine hx_goi (hx_runS (As := [.int x_4, .int x_8, .int (50 : Int32), .int x_30]) (rest := []) ⟨hx, hb, hml, hown, hts⟩ hW (t_X10_stepsBetween_2 l dC dI dA L h s.heap.size x_4 x_8 (50 : Int32) x_30 hT ⟨?o102, ?o103⟩ ⟨?o104, ?o105⟩ ⟨?o106, ?o107⟩ ⟨?o108, ?o109⟩) (va_cwS 4 hts (hx_gS kw_1728 kw_1726 kw_1727 kw_103) rfl rfl rfl (by decide +kernel) ⟨Nat.le_of_ble_eq_true rfl, Nat.le_of_ble_eq_true rfl⟩) rfl hl.1 rfl (Nat.le_of_ble_eq_true rfl) dX10_far_130 ⟨Nat.le_of_ble_eq_true rfl, Nat.le_of_ble_eq_true rfl⟩) hW (fun r_33 L_31 h_32 H locs p_34 hW => ?_)
          case o102 => omega
          case o103 => omega
          case o104 => omega
          case o105 => omega
          case o106 => omega
          case o107 => omega
          case o108 => omega
          case o109 => omega
          obtain ⟨hr_35, hT, hs⟩ := p_34
          replace hT : hx_T T_tb L_31 h_32 := hT
          replace hs : hx_S T_tb [] L h L_31 h_32 := hs
          replace ex_2 := ex_2.trans (hs.a (gqls.S hM) rfl _).1.symm
          replace ex_3 := ex_3.trans (hs.a (gqag.S hM) rfl _).1.symm
          replace ex_4 := ex_4.trans (hs.a (gqdx.S hM) rfl _).1.symm
          replace ex_8 := ex_8.trans (hs.a (gqdy.S hM) rfl _).1.symm
          replace ex_28 := ex_28.trans (hs.a (gqls.S hM) rfl _).1.symm
          replace ex_29 := ex_29.trans (hs.a (gqag.S hM) rfl _).1.symm
          replace ex_30 := ex_30.trans (hs.a (gqdy.S hM) rfl _).1.symm
          replace hM := hM.tr (hs.mono ?o110)
          case o110 => decide
          refine hx_reti hx hb hr hlk hW ⟨⟨by unfold hx_fr; rw [← hc3, ← hc4, ← hc5, ← hc6]; exact hr_35.1, ?o111, ?o112⟩, hT, hM⟩ dX10_far_133
          case o111 => omega
          case o112 => omega
        · skip
          refine lv_bipush (v := 50) hx hb dX10_far_100 ?o113 ?_
          case o113 => decide
          refine lv_goto (tgt := 121) hx hb dX10_far_102 ?o114 ?_
          case o114 => decide
          refine lv_istore (lv' := [(6, .int (50 : Int32)), (5, .int (50 : Int32)), (4, .int x_8), (3, .int x_4), (0, .ref x), (1, .int i1), (2, .int i2)]) hx hb dX10_far_121 hl ?o115 rfl (fun ls hl => ?_)
          case o115 => decide
          have hc3 : x_4.toInt = hx_cx lf agf dxf n0.toInt i1.toInt := ?o116
          case o116 =>
            unfold hx_cx
            rw [if_neg (by omega)]
            exact congrArg Int32.toInt (ax_4.trans (congrArg (fun z : Int32 => dxf z.toInt.toNat) (ax_3.trans (congrArg (fun z : Int32 => agf z.toInt.toNat) ax_2))))
          have hc4 : x_8.toInt = hx_cx lf agf dyf n0.toInt i1.toInt := ?o117
          case o117 =>
            unfold hx_cx
            rw [if_neg (by omega)]
            exact congrArg Int32.toInt (ax_8.trans (congrArg (fun z : Int32 => dyf z.toInt.toNat) (ax_3.trans (congrArg (fun z : Int32 => agf z.toInt.toNat) ax_2))))
          have hc5 : (50 : Int32).toInt = hx_cx lf agf dxf n0.toInt i2.toInt := ?o118
          case o118 =>
            unfold hx_cx
            rw [if_pos (by omega)]
            decide
          have hc6 : (50 : Int32).toInt = hx_cx lf agf dyf n0.toInt i2.toInt := ?o119
          case o119 =>
            unfold hx_cx
            rw [if_pos (by omega)]
            decide
          refine lv_iload_n hx hb dX10_far_123 rfl (lv_at hl 3 rfl) ?_
          refine lv_iload hx hb dX10_far_124 (lv_at hl 2 rfl) ?_
          refine lv_iload hx hb dX10_far_126 (lv_at hl 1 rfl) ?_
          refine lv_iload hx hb dX10_far_128 (lv_at hl 0 rfl) ?_
          have zc_50 : (50 : Int32).toInt = 50 := ?o120
          case o120 => decide
          refine hx_goi (hx_runS (As := [.int x_4, .int x_8, .int (50 : Int32), .int (50 : Int32)]) (rest := []) ⟨hx, hb, hml, hown, hts⟩ hW (t_X10_stepsBetween_2 l dC dI dA L h s.heap.size x_4 x_8 (50 : Int32) (50 : Int32) hT ⟨?o121, ?o122⟩ ⟨?o123, ?o124⟩ ⟨?o125, ?o126⟩ ⟨?o127, ?o128⟩) (va_cwS 4 hts (hx_gS kw_1728 kw_1726 kw_1727 kw_103) rfl rfl rfl (by decide +kernel) ⟨Nat.le_of_ble_eq_true rfl, Nat.le_of_ble_eq_true rfl⟩) rfl hl.1 rfl (Nat.le_of_ble_eq_true rfl) dX10_far_130 ⟨Nat.le_of_ble_eq_true rfl, Nat.le_of_ble_eq_true rfl⟩) hW (fun r_38 L_36 h_37 H locs p_39 hW => ?_)
          case o121 => omega
          case o122 => omega
          case o123 => omega
          case o124 => omega
          case o125 => omega
          case o126 => omega
          case o127 => omega
          case o128 => omega
          obtain ⟨hr_40, hT, hs⟩ := p_39
          replace hT : hx_T T_tb L_36 h_37 := hT
          replace hs : hx_S T_tb [] L h L_36 h_37 := hs
          replace ex_2 := ex_2.trans (hs.a (gqls.S hM) rfl _).1.symm
          replace ex_3 := ex_3.trans (hs.a (gqag.S hM) rfl _).1.symm
          replace ex_4 := ex_4.trans (hs.a (gqdx.S hM) rfl _).1.symm
          replace ex_8 := ex_8.trans (hs.a (gqdy.S hM) rfl _).1.symm
          replace hM := hM.tr (hs.mono ?o129)
          case o129 => decide
          refine hx_reti hx hb hr hlk hW ⟨⟨by unfold hx_fr; rw [← hc3, ← hc4, ← hc5, ← hc6]; exact hr_40.1, ?o130, ?o131⟩, hT, hM⟩ dX10_far_133
          case o130 => omega
          case o131 => omega
    · skip
      refine lv_bipush (v := 50) hx hb dX10_far_38 ?o132 ?_
      case o132 => decide
      refine lv_goto (tgt := 59) hx hb dX10_far_40 ?o133 ?_
      case o133 => decide
      refine lv_istore (lv' := [(4, .int (50 : Int32)), (3, .int x_4), (0, .ref x), (1, .int i1), (2, .int i2)]) hx hb dX10_far_59 hl ?o134 rfl (fun ls hl => ?_)
      case o134 => decide
      refine lv_iload_n hx hb dX10_far_61 rfl (lv_at hl 4 rfl) ?_
      refine lv_aload_n hx hb dX10_far_62 rfl (lv_at hl 2 rfl) ?_
      refine hk_geti hx hb hts hC_10 hown hW (gx.S hM) tt_10 90 ?o135 rfl kw_1233 ⟨rfl, rfl, rfl⟩ ((hM.o gx trivial rfl).1.trans f_x_90) dX10_far_63 ?_
      case o135 => decide
      refine hb_icmp_ne (zx := i2.toInt) (zy := n0.toInt) (tgt := 74) hx hb rfl rfl dX10_far_66 ?o136 (fun c_41 => ?_) (fun c_41 => ?_)
      case o136 => decide
      · skip
        refine lv_aload_n hx hb dX10_far_74 rfl (lv_at hl 2 rfl) ?_
        refine hk_getr hx hb hts hC_10 hown hW (gx.S hM) tt_10 24 ?o137 rfl kw_1167 ⟨rfl, rfl, rfl⟩ ((hM.o gx trivial rfl).2.trans f_x_24) dX10_far_75 ?_
        case o137 => decide
        refine lv_aload_n hx hb dX10_far_78 rfl (lv_at hl 2 rfl) ?_
        refine hk_getr hx hb hts hC_10 hown hW (gx.S hM) tt_10 38 ?o138 rfl kw_1181 ⟨rfl, rfl, rfl⟩ ((hM.o gx trivial rfl).2.trans f_x_38) dX10_far_79 ?_
        case o138 => decide
        refine lv_aload_n hx hb dX10_far_82 rfl (lv_at hl 2 rfl) ?_
        refine hk_getr hx hb hts hC_10 hown hW (gx.S hM) tt_10 91 ?o139 rfl kw_1234 ⟨rfl, rfl, rfl⟩ ((hM.o gx trivial rfl).2.trans f_x_91) dX10_far_83 ?_
        case o139 => decide
        refine lv_iload_n hx hb dX10_far_86 rfl (lv_at hl 4 rfl) ?_
        refine hx_iald hx hb hW hT (gqls.S hM) tt_112 rfl ⟨?o140, ?o141⟩ dX10_far_87 (fun x_42 ex_42 lx_42 ux_42 => ?_)
        case o140 => omega
        case o141 => omega
        have ax_42 : x_42 = lf i2.toNatClampNeg := ex_42.trans (congrFun (hx_afS hM gqls rfl af_qls) _)
        refine hx_iald hx hb hW hT (gqag.S hM) tt_73 rfl ⟨?o142, ?o143⟩ dX10_far_88 (fun x_43 ex_43 lx_43 ux_43 => ?_)
        case o142 => omega
        case o143 => omega
        have ax_43 : x_43 = agf x_42.toNatClampNeg := ex_43.trans (congrFun (hx_afS hM gqag rfl af_qag) _)
        refine hx_iald hx hb hW hT (gqdx.S hM) tt_61 rfl ⟨?o144, ?o145⟩ dX10_far_89 (fun x_44 ex_44 lx_44 ux_44 => ?_)
        case o144 => omega
        case o145 => omega
        have ax_44 : x_44 = dxf x_43.toNatClampNeg := ex_44.trans (congrFun (hx_afS hM gqdx rfl af_qdx) _)
        refine lv_istore (lv' := [(5, .int x_44), (4, .int (50 : Int32)), (3, .int x_4), (0, .ref x), (1, .int i1), (2, .int i2)]) hx hb dX10_far_90 hl ?o146 rfl (fun ls hl => ?_)
        case o146 => decide
        refine lv_iload_n hx hb dX10_far_92 rfl (lv_at hl 5 rfl) ?_
        refine lv_aload_n hx hb dX10_far_93 rfl (lv_at hl 3 rfl) ?_
        refine hk_geti hx hb hts hC_10 hown hW (gx.S hM) tt_10 90 ?o147 rfl kw_1233 ⟨rfl, rfl, rfl⟩ ((hM.o gx trivial rfl).1.trans f_x_90) dX10_far_94 ?_
        case o147 => decide
        refine hb_icmp_ne (zx := i2.toInt) (zy := n0.toInt) (tgt := 105) hx hb rfl rfl dX10_far_97 ?o148 (fun c_45 => ?_) (fun c_45 => ?_)
        case o148 => decide
        · skip
          refine lv_aload_n hx hb dX10_far_105 rfl (lv_at hl 3 rfl) ?_
          refine hk_getr hx hb hts hC_10 hown hW (gx.S hM) tt_10 25 ?o149 rfl kw_1168 ⟨rfl, rfl, rfl⟩ ((hM.o gx trivial rfl).2.trans f_x_25) dX10_far_106 ?_
          case o149 => decide
          refine lv_aload_n hx hb dX10_far_109 rfl (lv_at hl 3 rfl) ?_
          refine hk_getr hx hb hts hC_10 hown hW (gx.S hM) tt_10 38 ?o150 rfl kw_1181 ⟨rfl, rfl, rfl⟩ ((hM.o gx trivial rfl).2.trans f_x_38) dX10_far_110 ?_
          case o150 => decide
          refine lv_aload_n hx hb dX10_far_113 rfl (lv_at hl 3 rfl) ?_
          refine hk_getr hx hb hts hC_10 hown hW (gx.S hM) tt_10 91 ?o151 rfl kw_1234 ⟨rfl, rfl, rfl⟩ ((hM.o gx trivial rfl).2.trans f_x_91) dX10_far_114 ?_
          case o151 => decide
          refine lv_iload_n hx hb dX10_far_117 rfl (lv_at hl 5 rfl) ?_
          refine hx_iald hx hb hW hT (gqls.S hM) tt_112 rfl ⟨?o152, ?o153⟩ dX10_far_118 (fun x_46 ex_46 lx_46 ux_46 => ?_)
          case o152 => omega
          case o153 => omega
          have ax_46 : x_46 = lf i2.toNatClampNeg := ex_46.trans (congrFun (hx_afS hM gqls rfl af_qls) _)
          obtain rfl : x_42 = x_46 := ex_42.trans ex_46.symm
          refine hx_iald hx hb hW hT (gqag.S hM) tt_73 rfl ⟨?o154, ?o155⟩ dX10_far_119 (fun x_47 ex_47 lx_47 ux_47 => ?_)
          case o154 => omega
          case o155 => omega
          have ax_47 : x_47 = agf x_42.toNatClampNeg := ex_47.trans (congrFun (hx_afS hM gqag rfl af_qag) _)
          obtain rfl : x_43 = x_47 := ex_43.trans ex_47.symm
          refine hx_iald hx hb hW hT (gqdy.S hM) tt_62 rfl ⟨?o156, ?o157⟩ dX10_far_120 (fun x_48 ex_48 lx_48 ux_48 => ?_)
          case o156 => omega
          case o157 => omega
          have ax_48 : x_48 = dyf x_43.toNatClampNeg := ex_48.trans (congrFun (hx_afS hM gqdy rfl af_qdy) _)
          refine lv_istore (lv' := [(6, .int x_48), (5, .int x_44), (4, .int (50 : Int32)), (3, .int x_4), (0, .ref x), (1, .int i1), (2, .int i2)]) hx hb dX10_far_121 hl ?o158 rfl (fun ls hl => ?_)
          case o158 => decide
          have hc3 : x_4.toInt = hx_cx lf agf dxf n0.toInt i1.toInt := ?o159
          case o159 =>
            unfold hx_cx
            rw [if_neg (by omega)]
            exact congrArg Int32.toInt (ax_4.trans (congrArg (fun z : Int32 => dxf z.toInt.toNat) (ax_3.trans (congrArg (fun z : Int32 => agf z.toInt.toNat) ax_2))))
          have hc4 : (50 : Int32).toInt = hx_cx lf agf dyf n0.toInt i1.toInt := ?o160
          case o160 =>
            unfold hx_cx
            rw [if_pos (by omega)]
            decide
          have hc5 : x_44.toInt = hx_cx lf agf dxf n0.toInt i2.toInt := ?o161
          case o161 =>
            unfold hx_cx
            rw [if_neg (by omega)]
            exact congrArg Int32.toInt (ax_44.trans (congrArg (fun z : Int32 => dxf z.toInt.toNat) (ax_43.trans (congrArg (fun z : Int32 => agf z.toInt.toNat) ax_42))))
          have hc6 : x_48.toInt = hx_cx lf agf dyf n0.toInt i2.toInt := ?o162
          case o162 =>
            unfold hx_cx
            rw [if_neg (by omega)]
            exact congrArg Int32.toInt (ax_48.trans (congrArg (fun z : Int32 => dyf z.toInt.toNat) (ax_43.trans (congrArg (fun z : Int32 => agf z.toInt.toNat) ax_42))))
          refine lv_iload_n hx hb dX10_far_123 rfl (lv_at hl 3 rfl) ?_
          refine lv_iload hx hb dX10_far_124 (lv_at hl 2 rfl) ?_
          refine lv_iload hx hb dX10_far_126 (lv_at hl 1 rfl) ?_
          refine lv_iload hx hb dX10_far_128 (lv_at hl 0 rfl) ?_
          have zc_50 : (50 : Int32).toInt = 50 := ?o163
          case o163 => decide
          refine hx_goi (hx_runS (As := [.int x_4, .int (50 : Int32), .int x_44, .int x_48]) (rest := []) ⟨hx, hb, hml, hown, hts⟩ hW (t_X10_stepsBetween_2 l dC dI dA L h s.heap.size x_4 (50 : Int32) x_44 x_48 hT ⟨?o164, ?o165⟩ ⟨?o166, ?o167⟩ ⟨?o168, ?o169⟩ ⟨?o170, ?o171⟩) (va_cwS 4 hts (hx_gS kw_1728 kw_1726 kw_1727 kw_103) rfl rfl rfl (by decide +kernel) ⟨Nat.le_of_ble_eq_true rfl, Nat.le_of_ble_eq_true rfl⟩) rfl hl.1 rfl (Nat.le_of_ble_eq_true rfl) dX10_far_130 ⟨Nat.le_of_ble_eq_true rfl, Nat.le_of_ble_eq_true rfl⟩) hW (fun r_51 L_49 h_50 H locs p_52 hW => ?_)
          case o164 => omega
          case o165 => omega
          case o166 => omega
          case o167 => omega
          case o168 => omega
          case o169 => omega
          case o170 => omega
          case o171 => omega
          obtain ⟨hr_53, hT, hs⟩ := p_52
          replace hT : hx_T T_tb L_49 h_50 := hT
          replace hs : hx_S T_tb [] L h L_49 h_50 := hs
          replace ex_2 := ex_2.trans (hs.a (gqls.S hM) rfl _).1.symm
          replace ex_3 := ex_3.trans (hs.a (gqag.S hM) rfl _).1.symm
          replace ex_4 := ex_4.trans (hs.a (gqdx.S hM) rfl _).1.symm
          replace ex_42 := ex_42.trans (hs.a (gqls.S hM) rfl _).1.symm
          replace ex_43 := ex_43.trans (hs.a (gqag.S hM) rfl _).1.symm
          replace ex_44 := ex_44.trans (hs.a (gqdx.S hM) rfl _).1.symm
          replace ex_48 := ex_48.trans (hs.a (gqdy.S hM) rfl _).1.symm
          replace hM := hM.tr (hs.mono ?o172)
          case o172 => decide
          refine hx_reti hx hb hr hlk hW ⟨⟨by unfold hx_fr; rw [← hc3, ← hc4, ← hc5, ← hc6]; exact hr_53.1, ?o173, ?o174⟩, hT, hM⟩ dX10_far_133
          case o173 => omega
          case o174 => omega
        · skip
          refine lv_bipush (v := 50) hx hb dX10_far_100 ?o175 ?_
          case o175 => decide
          refine lv_goto (tgt := 121) hx hb dX10_far_102 ?o176 ?_
          case o176 => decide
          refine lv_istore (lv' := [(6, .int (50 : Int32)), (5, .int x_44), (4, .int (50 : Int32)), (3, .int x_4), (0, .ref x), (1, .int i1), (2, .int i2)]) hx hb dX10_far_121 hl ?o177 rfl (fun ls hl => ?_)
          case o177 => decide
          have hc3 : x_4.toInt = hx_cx lf agf dxf n0.toInt i1.toInt := ?o178
          case o178 =>
            unfold hx_cx
            rw [if_neg (by omega)]
            exact congrArg Int32.toInt (ax_4.trans (congrArg (fun z : Int32 => dxf z.toInt.toNat) (ax_3.trans (congrArg (fun z : Int32 => agf z.toInt.toNat) ax_2))))
          have hc4 : (50 : Int32).toInt = hx_cx lf agf dyf n0.toInt i1.toInt := ?o179
          case o179 =>
            unfold hx_cx
            rw [if_pos (by omega)]
            decide
          have hc5 : x_44.toInt = hx_cx lf agf dxf n0.toInt i2.toInt := ?o180
          case o180 =>
            unfold hx_cx
            rw [if_neg (by omega)]
            exact congrArg Int32.toInt (ax_44.trans (congrArg (fun z : Int32 => dxf z.toInt.toNat) (ax_43.trans (congrArg (fun z : Int32 => agf z.toInt.toNat) ax_42))))
          have hc6 : (50 : Int32).toInt = hx_cx lf agf dyf n0.toInt i2.toInt := ?o181
          case o181 =>
            unfold hx_cx
            rw [if_pos (by omega)]
            decide
          refine lv_iload_n hx hb dX10_far_123 rfl (lv_at hl 3 rfl) ?_
          refine lv_iload hx hb dX10_far_124 (lv_at hl 2 rfl) ?_
          refine lv_iload hx hb dX10_far_126 (lv_at hl 1 rfl) ?_
          refine lv_iload hx hb dX10_far_128 (lv_at hl 0 rfl) ?_
          have zc_50 : (50 : Int32).toInt = 50 := ?o182
          case o182 => decide
          refine hx_goi (hx_runS (As := [.int x_4, .int (50 : Int32), .int x_44, .int (50 : Int32)]) (rest := []) ⟨hx, hb, hml, hown, hts⟩ hW (t_X10_stepsBetween_2 l dC dI dA L h s.heap.size x_4 (50 : Int32) x_44 (50 : Int32) hT ⟨?o183, ?o184⟩ ⟨?o185, ?o186⟩ ⟨?o187, ?o188⟩ ⟨?o189, ?o190⟩) (va_cwS 4 hts (hx_gS kw_1728 kw_1726 kw_1727 kw_103) rfl rfl rfl (by decide +kernel) ⟨Nat.le_of_ble_eq_true rfl, Nat.le_of_ble_eq_true rfl⟩) rfl hl.1 rfl (Nat.le_of_ble_eq_true rfl) dX10_far_130 ⟨Nat.le_of_ble_eq_true rfl, Nat.le_of_ble_eq_true rfl⟩) hW (fun r_56 L_54 h_55 H locs p_57 hW => ?_)
          case o183 => omega
          case o184 => omega
          case o185 => omega
          case o186 => omega
          case o187 => omega
          case o188 => omega
          case o189 => omega
          case o190 => omega
          obtain ⟨hr_58, hT, hs⟩ := p_57
          replace hT : hx_T T_tb L_54 h_55 := hT
          replace hs : hx_S T_tb [] L h L_54 h_55 := hs
          replace ex_2 := ex_2.trans (hs.a (gqls.S hM) rfl _).1.symm
          replace ex_3 := ex_3.trans (hs.a (gqag.S hM) rfl _).1.symm
          replace ex_4 := ex_4.trans (hs.a (gqdx.S hM) rfl _).1.symm
          replace ex_42 := ex_42.trans (hs.a (gqls.S hM) rfl _).1.symm
          replace ex_43 := ex_43.trans (hs.a (gqag.S hM) rfl _).1.symm
          replace ex_44 := ex_44.trans (hs.a (gqdx.S hM) rfl _).1.symm
          replace hM := hM.tr (hs.mono ?o191)
          case o191 => decide
          refine hx_reti hx hb hr hlk hW ⟨⟨by unfold hx_fr; rw [← hc3, ← hc4, ← hc5, ← hc6]; exact hr_58.1, ?o192, ?o193⟩, hT, hM⟩ dX10_far_133
          case o192 => omega
          case o193 => omega
      · skip
        refine lv_bipush (v := 50) hx hb dX10_far_69 ?o194 ?_
        case o194 => decide
        refine lv_goto (tgt := 90) hx hb dX10_far_71 ?o195 ?_
        case o195 => decide
        refine lv_istore (lv' := [(5, .int (50 : Int32)), (4, .int (50 : Int32)), (3, .int x_4), (0, .ref x), (1, .int i1), (2, .int i2)]) hx hb dX10_far_90 hl ?o196 rfl (fun ls hl => ?_)
        case o196 => decide
        refine lv_iload_n hx hb dX10_far_92 rfl (lv_at hl 5 rfl) ?_
        refine lv_aload_n hx hb dX10_far_93 rfl (lv_at hl 3 rfl) ?_
        refine hk_geti hx hb hts hC_10 hown hW (gx.S hM) tt_10 90 ?o197 rfl kw_1233 ⟨rfl, rfl, rfl⟩ ((hM.o gx trivial rfl).1.trans f_x_90) dX10_far_94 ?_
        case o197 => decide
        refine hb_icmp_ne (zx := i2.toInt) (zy := n0.toInt) (tgt := 105) hx hb rfl rfl dX10_far_97 ?o198 (fun c_59 => ?_) (fun c_59 => ?_)
        case o198 => decide
        · skip
          refine lv_aload_n hx hb dX10_far_105 rfl (lv_at hl 3 rfl) ?_
          refine hk_getr hx hb hts hC_10 hown hW (gx.S hM) tt_10 25 ?o199 rfl kw_1168 ⟨rfl, rfl, rfl⟩ ((hM.o gx trivial rfl).2.trans f_x_25) dX10_far_106 ?_
          case o199 => decide
          refine lv_aload_n hx hb dX10_far_109 rfl (lv_at hl 3 rfl) ?_
          refine hk_getr hx hb hts hC_10 hown hW (gx.S hM) tt_10 38 ?o200 rfl kw_1181 ⟨rfl, rfl, rfl⟩ ((hM.o gx trivial rfl).2.trans f_x_38) dX10_far_110 ?_
          case o200 => decide
          refine lv_aload_n hx hb dX10_far_113 rfl (lv_at hl 3 rfl) ?_
          refine hk_getr hx hb hts hC_10 hown hW (gx.S hM) tt_10 91 ?o201 rfl kw_1234 ⟨rfl, rfl, rfl⟩ ((hM.o gx trivial rfl).2.trans f_x_91) dX10_far_114 ?_
          case o201 => decide
          refine lv_iload_n hx hb dX10_far_117 rfl (lv_at hl 5 rfl) ?_
          refine hx_iald hx hb hW hT (gqls.S hM) tt_112 rfl ⟨?o202, ?o203⟩ dX10_far_118 (fun x_60 ex_60 lx_60 ux_60 => ?_)
          case o202 => omega
          case o203 => omega
          have ax_60 : x_60 = lf i2.toNatClampNeg := ex_60.trans (congrFun (hx_afS hM gqls rfl af_qls) _)
          refine hx_iald hx hb hW hT (gqag.S hM) tt_73 rfl ⟨?o204, ?o205⟩ dX10_far_119 (fun x_61 ex_61 lx_61 ux_61 => ?_)
          case o204 => omega
          case o205 => omega
          have ax_61 : x_61 = agf x_60.toNatClampNeg := ex_61.trans (congrFun (hx_afS hM gqag rfl af_qag) _)
          refine hx_iald hx hb hW hT (gqdy.S hM) tt_62 rfl ⟨?o206, ?o207⟩ dX10_far_120 (fun x_62 ex_62 lx_62 ux_62 => ?_)
          case o206 => omega
          case o207 => omega
          have ax_62 : x_62 = dyf x_61.toNatClampNeg := ex_62.trans (congrFun (hx_afS hM gqdy rfl af_qdy) _)
          refine lv_istore (lv' := [(6, .int x_62), (5, .int (50 : Int32)), (4, .int (50 : Int32)), (3, .int x_4), (0, .ref x), (1, .int i1), (2, .int i2)]) hx hb dX10_far_121 hl ?o208 rfl (fun ls hl => ?_)
          case o208 => decide
          have hc3 : x_4.toInt = hx_cx lf agf dxf n0.toInt i1.toInt := ?o209
          case o209 =>
            unfold hx_cx
            rw [if_neg (by omega)]
            exact congrArg Int32.toInt (ax_4.trans (congrArg (fun z : Int32 => dxf z.toInt.toNat) (ax_3.trans (congrArg (fun z : Int32 => agf z.toInt.toNat) ax_2))))
          have hc4 : (50 : Int32).toInt = hx_cx lf agf dyf n0.toInt i1.toInt := ?o210
          case o210 =>
            unfold hx_cx
            rw [if_pos (by omega)]
            decide
          have hc5 : (50 : Int32).toInt = hx_cx lf agf dxf n0.toInt i2.toInt := ?o211
          case o211 =>
            unfold hx_cx
            rw [if_pos (by omega)]
            decide
          have hc6 : x_62.toInt = hx_cx lf agf dyf n0.toInt i2.toInt := ?o212
          case o212 =>
            unfold hx_cx
            rw [if_neg (by omega)]
            exact congrArg Int32.toInt (ax_62.trans (congrArg (fun z : Int32 => dyf z.toInt.toNat) (ax_61.trans (congrArg (fun z : Int32 => agf z.toInt.toNat) ax_60))))
          refine lv_iload_n hx hb dX10_far_123 rfl (lv_at hl 3 rfl) ?_
          refine lv_iload hx hb dX10_far_124 (lv_at hl 2 rfl) ?_
          refine lv_iload hx hb dX10_far_126 (lv_at hl 1 rfl) ?_
          refine lv_iload hx hb dX10_far_128 (lv_at hl 0 rfl) ?_
          have zc_50 : (50 : Int32).toInt = 50 := ?o213
          case o213 => decide
          refine hx_goi (hx_runS (As := [.int x_4, .int (50 : Int32), .int (50 : Int32), .int x_62]) (rest := []) ⟨hx, hb, hml, hown, hts⟩ hW (t_X10_stepsBetween_2 l dC dI dA L h s.heap.size x_4 (50 : Int32) (50 : Int32) x_62 hT ⟨?o214, ?o215⟩ ⟨?o216, ?o217⟩ ⟨?o218, ?o219⟩ ⟨?o220, ?o221⟩) (va_cwS 4 hts (hx_gS kw_1728 kw_1726 kw_1727 kw_103) rfl rfl rfl (by decide +kernel) ⟨Nat.le_of_ble_eq_true rfl, Nat.le_of_ble_eq_true rfl⟩) rfl hl.1 rfl (Nat.le_of_ble_eq_true rfl) dX10_far_130 ⟨Nat.le_of_ble_eq_true rfl, Nat.le_of_ble_eq_true rfl⟩) hW (fun r_65 L_63 h_64 H locs p_66 hW => ?_)
          case o214 => omega
          case o215 => omega
          case o216 => omega
          case o217 => omega
          case o218 => omega
          case o219 => omega
          case o220 => omega
          case o221 => omega
          obtain ⟨hr_67, hT, hs⟩ := p_66
          replace hT : hx_T T_tb L_63 h_64 := hT
          replace hs : hx_S T_tb [] L h L_63 h_64 := hs
          replace ex_2 := ex_2.trans (hs.a (gqls.S hM) rfl _).1.symm
          replace ex_3 := ex_3.trans (hs.a (gqag.S hM) rfl _).1.symm
          replace ex_4 := ex_4.trans (hs.a (gqdx.S hM) rfl _).1.symm
          replace ex_60 := ex_60.trans (hs.a (gqls.S hM) rfl _).1.symm
          replace ex_61 := ex_61.trans (hs.a (gqag.S hM) rfl _).1.symm
          replace ex_62 := ex_62.trans (hs.a (gqdy.S hM) rfl _).1.symm
          replace hM := hM.tr (hs.mono ?o222)
          case o222 => decide
          refine hx_reti hx hb hr hlk hW ⟨⟨by unfold hx_fr; rw [← hc3, ← hc4, ← hc5, ← hc6]; exact hr_67.1, ?o223, ?o224⟩, hT, hM⟩ dX10_far_133
          case o223 => omega
          case o224 => omega
        · skip
          refine lv_bipush (v := 50) hx hb dX10_far_100 ?o225 ?_
          case o225 => decide
          refine lv_goto (tgt := 121) hx hb dX10_far_102 ?o226 ?_
          case o226 => decide
          refine lv_istore (lv' := [(6, .int (50 : Int32)), (5, .int (50 : Int32)), (4, .int (50 : Int32)), (3, .int x_4), (0, .ref x), (1, .int i1), (2, .int i2)]) hx hb dX10_far_121 hl ?o227 rfl (fun ls hl => ?_)
          case o227 => decide
          have hc3 : x_4.toInt = hx_cx lf agf dxf n0.toInt i1.toInt := ?o228
          case o228 =>
            unfold hx_cx
            rw [if_neg (by omega)]
            exact congrArg Int32.toInt (ax_4.trans (congrArg (fun z : Int32 => dxf z.toInt.toNat) (ax_3.trans (congrArg (fun z : Int32 => agf z.toInt.toNat) ax_2))))
          have hc4 : (50 : Int32).toInt = hx_cx lf agf dyf n0.toInt i1.toInt := ?o229
          case o229 =>
            unfold hx_cx
            rw [if_pos (by omega)]
            decide
          have hc5 : (50 : Int32).toInt = hx_cx lf agf dxf n0.toInt i2.toInt := ?o230
          case o230 =>
            unfold hx_cx
            rw [if_pos (by omega)]
            decide
          have hc6 : (50 : Int32).toInt = hx_cx lf agf dyf n0.toInt i2.toInt := ?o231
          case o231 =>
            unfold hx_cx
            rw [if_pos (by omega)]
            decide
          refine lv_iload_n hx hb dX10_far_123 rfl (lv_at hl 3 rfl) ?_
          refine lv_iload hx hb dX10_far_124 (lv_at hl 2 rfl) ?_
          refine lv_iload hx hb dX10_far_126 (lv_at hl 1 rfl) ?_
          refine lv_iload hx hb dX10_far_128 (lv_at hl 0 rfl) ?_
          have zc_50 : (50 : Int32).toInt = 50 := ?o232
          case o232 => decide
          refine hx_goi (hx_runS (As := [.int x_4, .int (50 : Int32), .int (50 : Int32), .int (50 : Int32)]) (rest := []) ⟨hx, hb, hml, hown, hts⟩ hW (t_X10_stepsBetween_2 l dC dI dA L h s.heap.size x_4 (50 : Int32) (50 : Int32) (50 : Int32) hT ⟨?o233, ?o234⟩ ⟨?o235, ?o236⟩ ⟨?o237, ?o238⟩ ⟨?o239, ?o240⟩) (va_cwS 4 hts (hx_gS kw_1728 kw_1726 kw_1727 kw_103) rfl rfl rfl (by decide +kernel) ⟨Nat.le_of_ble_eq_true rfl, Nat.le_of_ble_eq_true rfl⟩) rfl hl.1 rfl (Nat.le_of_ble_eq_true rfl) dX10_far_130 ⟨Nat.le_of_ble_eq_true rfl, Nat.le_of_ble_eq_true rfl⟩) hW (fun r_70 L_68 h_69 H locs p_71 hW => ?_)
          case o233 => omega
          case o234 => omega
          case o235 => omega
          case o236 => omega
          case o237 => omega
          case o238 => omega
          case o239 => omega
          case o240 => omega
          obtain ⟨hr_72, hT, hs⟩ := p_71
          replace hT : hx_T T_tb L_68 h_69 := hT
          replace hs : hx_S T_tb [] L h L_68 h_69 := hs
          replace ex_2 := ex_2.trans (hs.a (gqls.S hM) rfl _).1.symm
          replace ex_3 := ex_3.trans (hs.a (gqag.S hM) rfl _).1.symm
          replace ex_4 := ex_4.trans (hs.a (gqdx.S hM) rfl _).1.symm
          replace hM := hM.tr (hs.mono ?o241)
          case o241 => decide
          refine hx_reti hx hb hr hlk hW ⟨⟨by unfold hx_fr; rw [← hc3, ← hc4, ← hc5, ← hc6]; exact hr_72.1, ?o242, ?o243⟩, hT, hM⟩ dX10_far_133
          case o242 => omega
          case o243 => omega
  · skip
    refine lv_bipush (v := 50) hx hb dX10_far_8 ?o244 ?_
    case o244 => decide
    refine lv_goto (tgt := 29) hx hb dX10_far_10 ?o245 ?_
    case o245 => decide
    refine lv_istore_n (lv' := [(3, .int (50 : Int32)), (0, .ref x), (1, .int i1), (2, .int i2)]) hx hb dX10_far_29 rfl hl ?o246 rfl (fun ls hl => ?_)
    case o246 => decide
    refine lv_iload_n hx hb dX10_far_30 rfl (lv_at hl 2 rfl) ?_
    refine lv_aload_n hx hb dX10_far_31 rfl (lv_at hl 1 rfl) ?_
    refine hk_geti hx hb hts hC_10 hown hW (gx.S hM) tt_10 90 ?o247 rfl kw_1233 ⟨rfl, rfl, rfl⟩ ((hM.o gx trivial rfl).1.trans f_x_90) dX10_far_32 ?_
    case o247 => decide
    refine hb_icmp_ne (zx := i1.toInt) (zy := n0.toInt) (tgt := 43) hx hb rfl rfl dX10_far_35 ?o248 (fun c_73 => ?_) (fun c_73 => ?_)
    case o248 => decide
    · skip
      refine lv_aload_n hx hb dX10_far_43 rfl (lv_at hl 1 rfl) ?_
      refine hk_getr hx hb hts hC_10 hown hW (gx.S hM) tt_10 25 ?o249 rfl kw_1168 ⟨rfl, rfl, rfl⟩ ((hM.o gx trivial rfl).2.trans f_x_25) dX10_far_44 ?_
      case o249 => decide
      refine lv_aload_n hx hb dX10_far_47 rfl (lv_at hl 1 rfl) ?_
      refine hk_getr hx hb hts hC_10 hown hW (gx.S hM) tt_10 38 ?o250 rfl kw_1181 ⟨rfl, rfl, rfl⟩ ((hM.o gx trivial rfl).2.trans f_x_38) dX10_far_48 ?_
      case o250 => decide
      refine lv_aload_n hx hb dX10_far_51 rfl (lv_at hl 1 rfl) ?_
      refine hk_getr hx hb hts hC_10 hown hW (gx.S hM) tt_10 91 ?o251 rfl kw_1234 ⟨rfl, rfl, rfl⟩ ((hM.o gx trivial rfl).2.trans f_x_91) dX10_far_52 ?_
      case o251 => decide
      refine lv_iload_n hx hb dX10_far_55 rfl (lv_at hl 2 rfl) ?_
      refine hx_iald hx hb hW hT (gqls.S hM) tt_112 rfl ⟨?o252, ?o253⟩ dX10_far_56 (fun x_74 ex_74 lx_74 ux_74 => ?_)
      case o252 => omega
      case o253 => omega
      have ax_74 : x_74 = lf i1.toNatClampNeg := ex_74.trans (congrFun (hx_afS hM gqls rfl af_qls) _)
      refine hx_iald hx hb hW hT (gqag.S hM) tt_73 rfl ⟨?o254, ?o255⟩ dX10_far_57 (fun x_75 ex_75 lx_75 ux_75 => ?_)
      case o254 => omega
      case o255 => omega
      have ax_75 : x_75 = agf x_74.toNatClampNeg := ex_75.trans (congrFun (hx_afS hM gqag rfl af_qag) _)
      refine hx_iald hx hb hW hT (gqdy.S hM) tt_62 rfl ⟨?o256, ?o257⟩ dX10_far_58 (fun x_76 ex_76 lx_76 ux_76 => ?_)
      case o256 => omega
      case o257 => omega
      have ax_76 : x_76 = dyf x_75.toNatClampNeg := ex_76.trans (congrFun (hx_afS hM gqdy rfl af_qdy) _)
      refine lv_istore (lv' := [(4, .int x_76), (3, .int (50 : Int32)), (0, .ref x), (1, .int i1), (2, .int i2)]) hx hb dX10_far_59 hl ?o258 rfl (fun ls hl => ?_)
      case o258 => decide
      refine lv_iload_n hx hb dX10_far_61 rfl (lv_at hl 4 rfl) ?_
      refine lv_aload_n hx hb dX10_far_62 rfl (lv_at hl 2 rfl) ?_
      refine hk_geti hx hb hts hC_10 hown hW (gx.S hM) tt_10 90 ?o259 rfl kw_1233 ⟨rfl, rfl, rfl⟩ ((hM.o gx trivial rfl).1.trans f_x_90) dX10_far_63 ?_
      case o259 => decide
      refine hb_icmp_ne (zx := i2.toInt) (zy := n0.toInt) (tgt := 74) hx hb rfl rfl dX10_far_66 ?o260 (fun c_77 => ?_) (fun c_77 => ?_)
      case o260 => decide
      · skip
        refine lv_aload_n hx hb dX10_far_74 rfl (lv_at hl 2 rfl) ?_
        refine hk_getr hx hb hts hC_10 hown hW (gx.S hM) tt_10 24 ?o261 rfl kw_1167 ⟨rfl, rfl, rfl⟩ ((hM.o gx trivial rfl).2.trans f_x_24) dX10_far_75 ?_
        case o261 => decide
        refine lv_aload_n hx hb dX10_far_78 rfl (lv_at hl 2 rfl) ?_
        refine hk_getr hx hb hts hC_10 hown hW (gx.S hM) tt_10 38 ?o262 rfl kw_1181 ⟨rfl, rfl, rfl⟩ ((hM.o gx trivial rfl).2.trans f_x_38) dX10_far_79 ?_
        case o262 => decide
        refine lv_aload_n hx hb dX10_far_82 rfl (lv_at hl 2 rfl) ?_
        refine hk_getr hx hb hts hC_10 hown hW (gx.S hM) tt_10 91 ?o263 rfl kw_1234 ⟨rfl, rfl, rfl⟩ ((hM.o gx trivial rfl).2.trans f_x_91) dX10_far_83 ?_
        case o263 => decide
        refine lv_iload_n hx hb dX10_far_86 rfl (lv_at hl 4 rfl) ?_
        refine hx_iald hx hb hW hT (gqls.S hM) tt_112 rfl ⟨?o264, ?o265⟩ dX10_far_87 (fun x_78 ex_78 lx_78 ux_78 => ?_)
        case o264 => omega
        case o265 => omega
        have ax_78 : x_78 = lf i2.toNatClampNeg := ex_78.trans (congrFun (hx_afS hM gqls rfl af_qls) _)
        refine hx_iald hx hb hW hT (gqag.S hM) tt_73 rfl ⟨?o266, ?o267⟩ dX10_far_88 (fun x_79 ex_79 lx_79 ux_79 => ?_)
        case o266 => omega
        case o267 => omega
        have ax_79 : x_79 = agf x_78.toNatClampNeg := ex_79.trans (congrFun (hx_afS hM gqag rfl af_qag) _)
        refine hx_iald hx hb hW hT (gqdx.S hM) tt_61 rfl ⟨?o268, ?o269⟩ dX10_far_89 (fun x_80 ex_80 lx_80 ux_80 => ?_)
        case o268 => omega
        case o269 => omega
        have ax_80 : x_80 = dxf x_79.toNatClampNeg := ex_80.trans (congrFun (hx_afS hM gqdx rfl af_qdx) _)
        refine lv_istore (lv' := [(5, .int x_80), (4, .int x_76), (3, .int (50 : Int32)), (0, .ref x), (1, .int i1), (2, .int i2)]) hx hb dX10_far_90 hl ?o270 rfl (fun ls hl => ?_)
        case o270 => decide
        refine lv_iload_n hx hb dX10_far_92 rfl (lv_at hl 5 rfl) ?_
        refine lv_aload_n hx hb dX10_far_93 rfl (lv_at hl 3 rfl) ?_
        refine hk_geti hx hb hts hC_10 hown hW (gx.S hM) tt_10 90 ?o271 rfl kw_1233 ⟨rfl, rfl, rfl⟩ ((hM.o gx trivial rfl).1.trans f_x_90) dX10_far_94 ?_
        case o271 => decide
        refine hb_icmp_ne (zx := i2.toInt) (zy := n0.toInt) (tgt := 105) hx hb rfl rfl dX10_far_97 ?o272 (fun c_81 => ?_) (fun c_81 => ?_)
        case o272 => decide
        · skip
          refine lv_aload_n hx hb dX10_far_105 rfl (lv_at hl 3 rfl) ?_
          refine hk_getr hx hb hts hC_10 hown hW (gx.S hM) tt_10 25 ?o273 rfl kw_1168 ⟨rfl, rfl, rfl⟩ ((hM.o gx trivial rfl).2.trans f_x_25) dX10_far_106 ?_
          case o273 => decide
          refine lv_aload_n hx hb dX10_far_109 rfl (lv_at hl 3 rfl) ?_
          refine hk_getr hx hb hts hC_10 hown hW (gx.S hM) tt_10 38 ?o274 rfl kw_1181 ⟨rfl, rfl, rfl⟩ ((hM.o gx trivial rfl).2.trans f_x_38) dX10_far_110 ?_
          case o274 => decide
          refine lv_aload_n hx hb dX10_far_113 rfl (lv_at hl 3 rfl) ?_
          refine hk_getr hx hb hts hC_10 hown hW (gx.S hM) tt_10 91 ?o275 rfl kw_1234 ⟨rfl, rfl, rfl⟩ ((hM.o gx trivial rfl).2.trans f_x_91) dX10_far_114 ?_
          case o275 => decide
          refine lv_iload_n hx hb dX10_far_117 rfl (lv_at hl 5 rfl) ?_
          refine hx_iald hx hb hW hT (gqls.S hM) tt_112 rfl ⟨?o276, ?o277⟩ dX10_far_118 (fun x_82 ex_82 lx_82 ux_82 => ?_)
          case o276 => omega
          case o277 => omega
          have ax_82 : x_82 = lf i2.toNatClampNeg := ex_82.trans (congrFun (hx_afS hM gqls rfl af_qls) _)
          obtain rfl : x_78 = x_82 := ex_78.trans ex_82.symm
          refine hx_iald hx hb hW hT (gqag.S hM) tt_73 rfl ⟨?o278, ?o279⟩ dX10_far_119 (fun x_83 ex_83 lx_83 ux_83 => ?_)
          case o278 => omega
          case o279 => omega
          have ax_83 : x_83 = agf x_78.toNatClampNeg := ex_83.trans (congrFun (hx_afS hM gqag rfl af_qag) _)
          obtain rfl : x_79 = x_83 := ex_79.trans ex_83.symm
          refine hx_iald hx hb hW hT (gqdy.S hM) tt_62 rfl ⟨?o280, ?o281⟩ dX10_far_120 (fun x_84 ex_84 lx_84 ux_84 => ?_)
          case o280 => omega
          case o281 => omega
          have ax_84 : x_84 = dyf x_79.toNatClampNeg := ex_84.trans (congrFun (hx_afS hM gqdy rfl af_qdy) _)
          refine lv_istore (lv' := [(6, .int x_84), (5, .int x_80), (4, .int x_76), (3, .int (50 : Int32)), (0, .ref x), (1, .int i1), (2, .int i2)]) hx hb dX10_far_121 hl ?o282 rfl (fun ls hl => ?_)
          case o282 => decide
          have hc3 : (50 : Int32).toInt = hx_cx lf agf dxf n0.toInt i1.toInt := ?o283
          case o283 =>
            unfold hx_cx
            rw [if_pos (by omega)]
            decide
          have hc4 : x_76.toInt = hx_cx lf agf dyf n0.toInt i1.toInt := ?o284
          case o284 =>
            unfold hx_cx
            rw [if_neg (by omega)]
            exact congrArg Int32.toInt (ax_76.trans (congrArg (fun z : Int32 => dyf z.toInt.toNat) (ax_75.trans (congrArg (fun z : Int32 => agf z.toInt.toNat) ax_74))))
          have hc5 : x_80.toInt = hx_cx lf agf dxf n0.toInt i2.toInt := ?o285
          case o285 =>
            unfold hx_cx
            rw [if_neg (by omega)]
            exact congrArg Int32.toInt (ax_80.trans (congrArg (fun z : Int32 => dxf z.toInt.toNat) (ax_79.trans (congrArg (fun z : Int32 => agf z.toInt.toNat) ax_78))))
          have hc6 : x_84.toInt = hx_cx lf agf dyf n0.toInt i2.toInt := ?o286
          case o286 =>
            unfold hx_cx
            rw [if_neg (by omega)]
            exact congrArg Int32.toInt (ax_84.trans (congrArg (fun z : Int32 => dyf z.toInt.toNat) (ax_79.trans (congrArg (fun z : Int32 => agf z.toInt.toNat) ax_78))))
          refine lv_iload_n hx hb dX10_far_123 rfl (lv_at hl 3 rfl) ?_
          refine lv_iload hx hb dX10_far_124 (lv_at hl 2 rfl) ?_
          refine lv_iload hx hb dX10_far_126 (lv_at hl 1 rfl) ?_
          refine lv_iload hx hb dX10_far_128 (lv_at hl 0 rfl) ?_
          have zc_50 : (50 : Int32).toInt = 50 := ?o287
          case o287 => decide
          refine hx_goi (hx_runS (As := [.int (50 : Int32), .int x_76, .int x_80, .int x_84]) (rest := []) ⟨hx, hb, hml, hown, hts⟩ hW (t_X10_stepsBetween_2 l dC dI dA L h s.heap.size (50 : Int32) x_76 x_80 x_84 hT ⟨?o288, ?o289⟩ ⟨?o290, ?o291⟩ ⟨?o292, ?o293⟩ ⟨?o294, ?o295⟩) (va_cwS 4 hts (hx_gS kw_1728 kw_1726 kw_1727 kw_103) rfl rfl rfl (by decide +kernel) ⟨Nat.le_of_ble_eq_true rfl, Nat.le_of_ble_eq_true rfl⟩) rfl hl.1 rfl (Nat.le_of_ble_eq_true rfl) dX10_far_130 ⟨Nat.le_of_ble_eq_true rfl, Nat.le_of_ble_eq_true rfl⟩) hW (fun r_87 L_85 h_86 H locs p_88 hW => ?_)
          case o288 => omega
          case o289 => omega
          case o290 => omega
          case o291 => omega
          case o292 => omega
          case o293 => omega
          case o294 => omega
          case o295 => omega
          obtain ⟨hr_89, hT, hs⟩ := p_88
          replace hT : hx_T T_tb L_85 h_86 := hT
          replace hs : hx_S T_tb [] L h L_85 h_86 := hs
          replace ex_74 := ex_74.trans (hs.a (gqls.S hM) rfl _).1.symm
          replace ex_75 := ex_75.trans (hs.a (gqag.S hM) rfl _).1.symm
          replace ex_76 := ex_76.trans (hs.a (gqdy.S hM) rfl _).1.symm
          replace ex_78 := ex_78.trans (hs.a (gqls.S hM) rfl _).1.symm
          replace ex_79 := ex_79.trans (hs.a (gqag.S hM) rfl _).1.symm
          replace ex_80 := ex_80.trans (hs.a (gqdx.S hM) rfl _).1.symm
          replace ex_84 := ex_84.trans (hs.a (gqdy.S hM) rfl _).1.symm
          replace hM := hM.tr (hs.mono ?o296)
          case o296 => decide
          refine hx_reti hx hb hr hlk hW ⟨⟨by unfold hx_fr; rw [← hc3, ← hc4, ← hc5, ← hc6]; exact hr_89.1, ?o297, ?o298⟩, hT, hM⟩ dX10_far_133
          case o297 => omega
          case o298 => omega
        · skip
          refine lv_bipush (v := 50) hx hb dX10_far_100 ?o299 ?_
          case o299 => decide
          refine lv_goto (tgt := 121) hx hb dX10_far_102 ?o300 ?_
          case o300 => decide
          refine lv_istore (lv' := [(6, .int (50 : Int32)), (5, .int x_80), (4, .int x_76), (3, .int (50 : Int32)), (0, .ref x), (1, .int i1), (2, .int i2)]) hx hb dX10_far_121 hl ?o301 rfl (fun ls hl => ?_)
          case o301 => decide
          have hc3 : (50 : Int32).toInt = hx_cx lf agf dxf n0.toInt i1.toInt := ?o302
          case o302 =>
            unfold hx_cx
            rw [if_pos (by omega)]
            decide
          have hc4 : x_76.toInt = hx_cx lf agf dyf n0.toInt i1.toInt := ?o303
          case o303 =>
            unfold hx_cx
            rw [if_neg (by omega)]
            exact congrArg Int32.toInt (ax_76.trans (congrArg (fun z : Int32 => dyf z.toInt.toNat) (ax_75.trans (congrArg (fun z : Int32 => agf z.toInt.toNat) ax_74))))
          have hc5 : x_80.toInt = hx_cx lf agf dxf n0.toInt i2.toInt := ?o304
          case o304 =>
            unfold hx_cx
            rw [if_neg (by omega)]
            exact congrArg Int32.toInt (ax_80.trans (congrArg (fun z : Int32 => dxf z.toInt.toNat) (ax_79.trans (congrArg (fun z : Int32 => agf z.toInt.toNat) ax_78))))
          have hc6 : (50 : Int32).toInt = hx_cx lf agf dyf n0.toInt i2.toInt := ?o305
          case o305 =>
            unfold hx_cx
            rw [if_pos (by omega)]
            decide
          refine lv_iload_n hx hb dX10_far_123 rfl (lv_at hl 3 rfl) ?_
          refine lv_iload hx hb dX10_far_124 (lv_at hl 2 rfl) ?_
          refine lv_iload hx hb dX10_far_126 (lv_at hl 1 rfl) ?_
          refine lv_iload hx hb dX10_far_128 (lv_at hl 0 rfl) ?_
          have zc_50 : (50 : Int32).toInt = 50 := ?o306
          case o306 => decide
          refine hx_goi (hx_runS (As := [.int (50 : Int32), .int x_76, .int x_80, .int (50 : Int32)]) (rest := []) ⟨hx, hb, hml, hown, hts⟩ hW (t_X10_stepsBetween_2 l dC dI dA L h s.heap.size (50 : Int32) x_76 x_80 (50 : Int32) hT ⟨?o307, ?o308⟩ ⟨?o309, ?o310⟩ ⟨?o311, ?o312⟩ ⟨?o313, ?o314⟩) (va_cwS 4 hts (hx_gS kw_1728 kw_1726 kw_1727 kw_103) rfl rfl rfl (by decide +kernel) ⟨Nat.le_of_ble_eq_true rfl, Nat.le_of_ble_eq_true rfl⟩) rfl hl.1 rfl (Nat.le_of_ble_eq_true rfl) dX10_far_130 ⟨Nat.le_of_ble_eq_true rfl, Nat.le_of_ble_eq_true rfl⟩) hW (fun r_92 L_90 h_91 H locs p_93 hW => ?_)
          case o307 => omega
          case o308 => omega
          case o309 => omega
          case o310 => omega
          case o311 => omega
          case o312 => omega
          case o313 => omega
          case o314 => omega
          obtain ⟨hr_94, hT, hs⟩ := p_93
          replace hT : hx_T T_tb L_90 h_91 := hT
          replace hs : hx_S T_tb [] L h L_90 h_91 := hs
          replace ex_74 := ex_74.trans (hs.a (gqls.S hM) rfl _).1.symm
          replace ex_75 := ex_75.trans (hs.a (gqag.S hM) rfl _).1.symm
          replace ex_76 := ex_76.trans (hs.a (gqdy.S hM) rfl _).1.symm
          replace ex_78 := ex_78.trans (hs.a (gqls.S hM) rfl _).1.symm
          replace ex_79 := ex_79.trans (hs.a (gqag.S hM) rfl _).1.symm
          replace ex_80 := ex_80.trans (hs.a (gqdx.S hM) rfl _).1.symm
          replace hM := hM.tr (hs.mono ?o315)
          case o315 => decide
          refine hx_reti hx hb hr hlk hW ⟨⟨by unfold hx_fr; rw [← hc3, ← hc4, ← hc5, ← hc6]; exact hr_94.1, ?o316, ?o317⟩, hT, hM⟩ dX10_far_133
          case o316 => omega
          case o317 => omega
      · skip
        refine lv_bipush (v := 50) hx hb dX10_far_69 ?o318 ?_
        case o318 => decide
        refine lv_goto (tgt := 90) hx hb dX10_far_71 ?o319 ?_
        case o319 => decide
        refine lv_istore (lv' := [(5, .int (50 : Int32)), (4, .int x_76), (3, .int (50 : Int32)), (0, .ref x), (1, .int i1), (2, .int i2)]) hx hb dX10_far_90 hl ?o320 rfl (fun ls hl => ?_)
        case o320 => decide
        refine lv_iload_n hx hb dX10_far_92 rfl (lv_at hl 5 rfl) ?_
        refine lv_aload_n hx hb dX10_far_93 rfl (lv_at hl 3 rfl) ?_
        refine hk_geti hx hb hts hC_10 hown hW (gx.S hM) tt_10 90 ?o321 rfl kw_1233 ⟨rfl, rfl, rfl⟩ ((hM.o gx trivial rfl).1.trans f_x_90) dX10_far_94 ?_
        case o321 => decide
        refine hb_icmp_ne (zx := i2.toInt) (zy := n0.toInt) (tgt := 105) hx hb rfl rfl dX10_far_97 ?o322 (fun c_95 => ?_) (fun c_95 => ?_)
        case o322 => decide
        · skip
          refine lv_aload_n hx hb dX10_far_105 rfl (lv_at hl 3 rfl) ?_
          refine hk_getr hx hb hts hC_10 hown hW (gx.S hM) tt_10 25 ?o323 rfl kw_1168 ⟨rfl, rfl, rfl⟩ ((hM.o gx trivial rfl).2.trans f_x_25) dX10_far_106 ?_
          case o323 => decide
          refine lv_aload_n hx hb dX10_far_109 rfl (lv_at hl 3 rfl) ?_
          refine hk_getr hx hb hts hC_10 hown hW (gx.S hM) tt_10 38 ?o324 rfl kw_1181 ⟨rfl, rfl, rfl⟩ ((hM.o gx trivial rfl).2.trans f_x_38) dX10_far_110 ?_
          case o324 => decide
          refine lv_aload_n hx hb dX10_far_113 rfl (lv_at hl 3 rfl) ?_
          refine hk_getr hx hb hts hC_10 hown hW (gx.S hM) tt_10 91 ?o325 rfl kw_1234 ⟨rfl, rfl, rfl⟩ ((hM.o gx trivial rfl).2.trans f_x_91) dX10_far_114 ?_
          case o325 => decide
          refine lv_iload_n hx hb dX10_far_117 rfl (lv_at hl 5 rfl) ?_
          refine hx_iald hx hb hW hT (gqls.S hM) tt_112 rfl ⟨?o326, ?o327⟩ dX10_far_118 (fun x_96 ex_96 lx_96 ux_96 => ?_)
          case o326 => omega
          case o327 => omega
          have ax_96 : x_96 = lf i2.toNatClampNeg := ex_96.trans (congrFun (hx_afS hM gqls rfl af_qls) _)
          refine hx_iald hx hb hW hT (gqag.S hM) tt_73 rfl ⟨?o328, ?o329⟩ dX10_far_119 (fun x_97 ex_97 lx_97 ux_97 => ?_)
          case o328 => omega
          case o329 => omega
          have ax_97 : x_97 = agf x_96.toNatClampNeg := ex_97.trans (congrFun (hx_afS hM gqag rfl af_qag) _)
          refine hx_iald hx hb hW hT (gqdy.S hM) tt_62 rfl ⟨?o330, ?o331⟩ dX10_far_120 (fun x_98 ex_98 lx_98 ux_98 => ?_)
          case o330 => omega
          case o331 => omega
          have ax_98 : x_98 = dyf x_97.toNatClampNeg := ex_98.trans (congrFun (hx_afS hM gqdy rfl af_qdy) _)
          refine lv_istore (lv' := [(6, .int x_98), (5, .int (50 : Int32)), (4, .int x_76), (3, .int (50 : Int32)), (0, .ref x), (1, .int i1), (2, .int i2)]) hx hb dX10_far_121 hl ?o332 rfl (fun ls hl => ?_)
          case o332 => decide
          have hc3 : (50 : Int32).toInt = hx_cx lf agf dxf n0.toInt i1.toInt := ?o333
          case o333 =>
            unfold hx_cx
            rw [if_pos (by omega)]
            decide
          have hc4 : x_76.toInt = hx_cx lf agf dyf n0.toInt i1.toInt := ?o334
          case o334 =>
            unfold hx_cx
            rw [if_neg (by omega)]
            exact congrArg Int32.toInt (ax_76.trans (congrArg (fun z : Int32 => dyf z.toInt.toNat) (ax_75.trans (congrArg (fun z : Int32 => agf z.toInt.toNat) ax_74))))
          have hc5 : (50 : Int32).toInt = hx_cx lf agf dxf n0.toInt i2.toInt := ?o335
          case o335 =>
            unfold hx_cx
            rw [if_pos (by omega)]
            decide
          have hc6 : x_98.toInt = hx_cx lf agf dyf n0.toInt i2.toInt := ?o336
          case o336 =>
            unfold hx_cx
            rw [if_neg (by omega)]
            exact congrArg Int32.toInt (ax_98.trans (congrArg (fun z : Int32 => dyf z.toInt.toNat) (ax_97.trans (congrArg (fun z : Int32 => agf z.toInt.toNat) ax_96))))
          refine lv_iload_n hx hb dX10_far_123 rfl (lv_at hl 3 rfl) ?_
          refine lv_iload hx hb dX10_far_124 (lv_at hl 2 rfl) ?_
          refine lv_iload hx hb dX10_far_126 (lv_at hl 1 rfl) ?_
          refine lv_iload hx hb dX10_far_128 (lv_at hl 0 rfl) ?_
          have zc_50 : (50 : Int32).toInt = 50 := ?o337
          case o337 => decide
          refine hx_goi (hx_runS (As := [.int (50 : Int32), .int x_76, .int (50 : Int32), .int x_98]) (rest := []) ⟨hx, hb, hml, hown, hts⟩ hW (t_X10_stepsBetween_2 l dC dI dA L h s.heap.size (50 : Int32) x_76 (50 : Int32) x_98 hT ⟨?o338, ?o339⟩ ⟨?o340, ?o341⟩ ⟨?o342, ?o343⟩ ⟨?o344, ?o345⟩) (va_cwS 4 hts (hx_gS kw_1728 kw_1726 kw_1727 kw_103) rfl rfl rfl (by decide +kernel) ⟨Nat.le_of_ble_eq_true rfl, Nat.le_of_ble_eq_true rfl⟩) rfl hl.1 rfl (Nat.le_of_ble_eq_true rfl) dX10_far_130 ⟨Nat.le_of_ble_eq_true rfl, Nat.le_of_ble_eq_true rfl⟩) hW (fun r_101 L_99 h_100 H locs p_102 hW => ?_)
          case o338 => omega
          case o339 => omega
          case o340 => omega
          case o341 => omega
          case o342 => omega
          case o343 => omega
          case o344 => omega
          case o345 => omega
          obtain ⟨hr_103, hT, hs⟩ := p_102
          replace hT : hx_T T_tb L_99 h_100 := hT
          replace hs : hx_S T_tb [] L h L_99 h_100 := hs
          replace ex_74 := ex_74.trans (hs.a (gqls.S hM) rfl _).1.symm
          replace ex_75 := ex_75.trans (hs.a (gqag.S hM) rfl _).1.symm
          replace ex_76 := ex_76.trans (hs.a (gqdy.S hM) rfl _).1.symm
          replace ex_96 := ex_96.trans (hs.a (gqls.S hM) rfl _).1.symm
          replace ex_97 := ex_97.trans (hs.a (gqag.S hM) rfl _).1.symm
          replace ex_98 := ex_98.trans (hs.a (gqdy.S hM) rfl _).1.symm
          replace hM := hM.tr (hs.mono ?o346)
          case o346 => decide
          refine hx_reti hx hb hr hlk hW ⟨⟨by unfold hx_fr; rw [← hc3, ← hc4, ← hc5, ← hc6]; exact hr_103.1, ?o347, ?o348⟩, hT, hM⟩ dX10_far_133
          case o347 => omega
          case o348 => omega
        · skip
          refine lv_bipush (v := 50) hx hb dX10_far_100 ?o349 ?_
          case o349 => decide
          refine lv_goto (tgt := 121) hx hb dX10_far_102 ?o350 ?_
          case o350 => decide
          refine lv_istore (lv' := [(6, .int (50 : Int32)), (5, .int (50 : Int32)), (4, .int x_76), (3, .int (50 : Int32)), (0, .ref x), (1, .int i1), (2, .int i2)]) hx hb dX10_far_121 hl ?o351 rfl (fun ls hl => ?_)
          case o351 => decide
          have hc3 : (50 : Int32).toInt = hx_cx lf agf dxf n0.toInt i1.toInt := ?o352
          case o352 =>
            unfold hx_cx
            rw [if_pos (by omega)]
            decide
          have hc4 : x_76.toInt = hx_cx lf agf dyf n0.toInt i1.toInt := ?o353
          case o353 =>
            unfold hx_cx
            rw [if_neg (by omega)]
            exact congrArg Int32.toInt (ax_76.trans (congrArg (fun z : Int32 => dyf z.toInt.toNat) (ax_75.trans (congrArg (fun z : Int32 => agf z.toInt.toNat) ax_74))))
          have hc5 : (50 : Int32).toInt = hx_cx lf agf dxf n0.toInt i2.toInt := ?o354
          case o354 =>
            unfold hx_cx
            rw [if_pos (by omega)]
            decide
          have hc6 : (50 : Int32).toInt = hx_cx lf agf dyf n0.toInt i2.toInt := ?o355
          case o355 =>
            unfold hx_cx
            rw [if_pos (by omega)]
            decide
          refine lv_iload_n hx hb dX10_far_123 rfl (lv_at hl 3 rfl) ?_
          refine lv_iload hx hb dX10_far_124 (lv_at hl 2 rfl) ?_
          refine lv_iload hx hb dX10_far_126 (lv_at hl 1 rfl) ?_
          refine lv_iload hx hb dX10_far_128 (lv_at hl 0 rfl) ?_
          have zc_50 : (50 : Int32).toInt = 50 := ?o356
          case o356 => decide
          refine hx_goi (hx_runS (As := [.int (50 : Int32), .int x_76, .int (50 : Int32), .int (50 : Int32)]) (rest := []) ⟨hx, hb, hml, hown, hts⟩ hW (t_X10_stepsBetween_2 l dC dI dA L h s.heap.size (50 : Int32) x_76 (50 : Int32) (50 : Int32) hT ⟨?o357, ?o358⟩ ⟨?o359, ?o360⟩ ⟨?o361, ?o362⟩ ⟨?o363, ?o364⟩) (va_cwS 4 hts (hx_gS kw_1728 kw_1726 kw_1727 kw_103) rfl rfl rfl (by decide +kernel) ⟨Nat.le_of_ble_eq_true rfl, Nat.le_of_ble_eq_true rfl⟩) rfl hl.1 rfl (Nat.le_of_ble_eq_true rfl) dX10_far_130 ⟨Nat.le_of_ble_eq_true rfl, Nat.le_of_ble_eq_true rfl⟩) hW (fun r_106 L_104 h_105 H locs p_107 hW => ?_)
          case o357 => omega
          case o358 => omega
          case o359 => omega
          case o360 => omega
          case o361 => omega
          case o362 => omega
          case o363 => omega
          case o364 => omega
          obtain ⟨hr_108, hT, hs⟩ := p_107
          replace hT : hx_T T_tb L_104 h_105 := hT
          replace hs : hx_S T_tb [] L h L_104 h_105 := hs
          replace ex_74 := ex_74.trans (hs.a (gqls.S hM) rfl _).1.symm
          replace ex_75 := ex_75.trans (hs.a (gqag.S hM) rfl _).1.symm
          replace ex_76 := ex_76.trans (hs.a (gqdy.S hM) rfl _).1.symm
          replace hM := hM.tr (hs.mono ?o365)
          case o365 => decide
          refine hx_reti hx hb hr hlk hW ⟨⟨by unfold hx_fr; rw [← hc3, ← hc4, ← hc5, ← hc6]; exact hr_108.1, ?o366, ?o367⟩, hT, hM⟩ dX10_far_133
          case o366 => omega
          case o367 => omega
    · skip
      refine lv_bipush (v := 50) hx hb dX10_far_38 ?o368 ?_
      case o368 => decide
      refine lv_goto (tgt := 59) hx hb dX10_far_40 ?o369 ?_
      case o369 => decide
      refine lv_istore (lv' := [(4, .int (50 : Int32)), (3, .int (50 : Int32)), (0, .ref x), (1, .int i1), (2, .int i2)]) hx hb dX10_far_59 hl ?o370 rfl (fun ls hl => ?_)
      case o370 => decide
      refine lv_iload_n hx hb dX10_far_61 rfl (lv_at hl 4 rfl) ?_
      refine lv_aload_n hx hb dX10_far_62 rfl (lv_at hl 2 rfl) ?_
      refine hk_geti hx hb hts hC_10 hown hW (gx.S hM) tt_10 90 ?o371 rfl kw_1233 ⟨rfl, rfl, rfl⟩ ((hM.o gx trivial rfl).1.trans f_x_90) dX10_far_63 ?_
      case o371 => decide
      refine hb_icmp_ne (zx := i2.toInt) (zy := n0.toInt) (tgt := 74) hx hb rfl rfl dX10_far_66 ?o372 (fun c_109 => ?_) (fun c_109 => ?_)
      case o372 => decide
      · skip
        refine lv_aload_n hx hb dX10_far_74 rfl (lv_at hl 2 rfl) ?_
        refine hk_getr hx hb hts hC_10 hown hW (gx.S hM) tt_10 24 ?o373 rfl kw_1167 ⟨rfl, rfl, rfl⟩ ((hM.o gx trivial rfl).2.trans f_x_24) dX10_far_75 ?_
        case o373 => decide
        refine lv_aload_n hx hb dX10_far_78 rfl (lv_at hl 2 rfl) ?_
        refine hk_getr hx hb hts hC_10 hown hW (gx.S hM) tt_10 38 ?o374 rfl kw_1181 ⟨rfl, rfl, rfl⟩ ((hM.o gx trivial rfl).2.trans f_x_38) dX10_far_79 ?_
        case o374 => decide
        refine lv_aload_n hx hb dX10_far_82 rfl (lv_at hl 2 rfl) ?_
        refine hk_getr hx hb hts hC_10 hown hW (gx.S hM) tt_10 91 ?o375 rfl kw_1234 ⟨rfl, rfl, rfl⟩ ((hM.o gx trivial rfl).2.trans f_x_91) dX10_far_83 ?_
        case o375 => decide
        refine lv_iload_n hx hb dX10_far_86 rfl (lv_at hl 4 rfl) ?_
        refine hx_iald hx hb hW hT (gqls.S hM) tt_112 rfl ⟨?o376, ?o377⟩ dX10_far_87 (fun x_110 ex_110 lx_110 ux_110 => ?_)
        case o376 => omega
        case o377 => omega
        have ax_110 : x_110 = lf i2.toNatClampNeg := ex_110.trans (congrFun (hx_afS hM gqls rfl af_qls) _)
        refine hx_iald hx hb hW hT (gqag.S hM) tt_73 rfl ⟨?o378, ?o379⟩ dX10_far_88 (fun x_111 ex_111 lx_111 ux_111 => ?_)
        case o378 => omega
        case o379 => omega
        have ax_111 : x_111 = agf x_110.toNatClampNeg := ex_111.trans (congrFun (hx_afS hM gqag rfl af_qag) _)
        refine hx_iald hx hb hW hT (gqdx.S hM) tt_61 rfl ⟨?o380, ?o381⟩ dX10_far_89 (fun x_112 ex_112 lx_112 ux_112 => ?_)
        case o380 => omega
        case o381 => omega
        have ax_112 : x_112 = dxf x_111.toNatClampNeg := ex_112.trans (congrFun (hx_afS hM gqdx rfl af_qdx) _)
        refine lv_istore (lv' := [(5, .int x_112), (4, .int (50 : Int32)), (3, .int (50 : Int32)), (0, .ref x), (1, .int i1), (2, .int i2)]) hx hb dX10_far_90 hl ?o382 rfl (fun ls hl => ?_)
        case o382 => decide
        refine lv_iload_n hx hb dX10_far_92 rfl (lv_at hl 5 rfl) ?_
        refine lv_aload_n hx hb dX10_far_93 rfl (lv_at hl 3 rfl) ?_
        refine hk_geti hx hb hts hC_10 hown hW (gx.S hM) tt_10 90 ?o383 rfl kw_1233 ⟨rfl, rfl, rfl⟩ ((hM.o gx trivial rfl).1.trans f_x_90) dX10_far_94 ?_
        case o383 => decide
        refine hb_icmp_ne (zx := i2.toInt) (zy := n0.toInt) (tgt := 105) hx hb rfl rfl dX10_far_97 ?o384 (fun c_113 => ?_) (fun c_113 => ?_)
        case o384 => decide
        · skip
          refine lv_aload_n hx hb dX10_far_105 rfl (lv_at hl 3 rfl) ?_
          refine hk_getr hx hb hts hC_10 hown hW (gx.S hM) tt_10 25 ?o385 rfl kw_1168 ⟨rfl, rfl, rfl⟩ ((hM.o gx trivial rfl).2.trans f_x_25) dX10_far_106 ?_
          case o385 => decide
          refine lv_aload_n hx hb dX10_far_109 rfl (lv_at hl 3 rfl) ?_
          refine hk_getr hx hb hts hC_10 hown hW (gx.S hM) tt_10 38 ?o386 rfl kw_1181 ⟨rfl, rfl, rfl⟩ ((hM.o gx trivial rfl).2.trans f_x_38) dX10_far_110 ?_
          case o386 => decide
          refine lv_aload_n hx hb dX10_far_113 rfl (lv_at hl 3 rfl) ?_
          refine hk_getr hx hb hts hC_10 hown hW (gx.S hM) tt_10 91 ?o387 rfl kw_1234 ⟨rfl, rfl, rfl⟩ ((hM.o gx trivial rfl).2.trans f_x_91) dX10_far_114 ?_
          case o387 => decide
          refine lv_iload_n hx hb dX10_far_117 rfl (lv_at hl 5 rfl) ?_
          refine hx_iald hx hb hW hT (gqls.S hM) tt_112 rfl ⟨?o388, ?o389⟩ dX10_far_118 (fun x_114 ex_114 lx_114 ux_114 => ?_)
          case o388 => omega
          case o389 => omega
          have ax_114 : x_114 = lf i2.toNatClampNeg := ex_114.trans (congrFun (hx_afS hM gqls rfl af_qls) _)
          obtain rfl : x_110 = x_114 := ex_110.trans ex_114.symm
          refine hx_iald hx hb hW hT (gqag.S hM) tt_73 rfl ⟨?o390, ?o391⟩ dX10_far_119 (fun x_115 ex_115 lx_115 ux_115 => ?_)
          case o390 => omega
          case o391 => omega
          have ax_115 : x_115 = agf x_110.toNatClampNeg := ex_115.trans (congrFun (hx_afS hM gqag rfl af_qag) _)
          obtain rfl : x_111 = x_115 := ex_111.trans ex_115.symm
          refine hx_iald hx hb hW hT (gqdy.S hM) tt_62 rfl ⟨?o392, ?o393⟩ dX10_far_120 (fun x_116 ex_116 lx_116 ux_116 => ?_)
          case o392 => omega
          case o393 => omega
          have ax_116 : x_116 = dyf x_111.toNatClampNeg := ex_116.trans (congrFun (hx_afS hM gqdy rfl af_qdy) _)
          refine lv_istore (lv' := [(6, .int x_116), (5, .int x_112), (4, .int (50 : Int32)), (3, .int (50 : Int32)), (0, .ref x), (1, .int i1), (2, .int i2)]) hx hb dX10_far_121 hl ?o394 rfl (fun ls hl => ?_)
          case o394 => decide
          have hc3 : (50 : Int32).toInt = hx_cx lf agf dxf n0.toInt i1.toInt := ?o395
          case o395 =>
            unfold hx_cx
            rw [if_pos (by omega)]
            decide
          have hc4 : (50 : Int32).toInt = hx_cx lf agf dyf n0.toInt i1.toInt := ?o396
          case o396 =>
            unfold hx_cx
            rw [if_pos (by omega)]
            decide
          have hc5 : x_112.toInt = hx_cx lf agf dxf n0.toInt i2.toInt := ?o397
          case o397 =>
            unfold hx_cx
            rw [if_neg (by omega)]
            exact congrArg Int32.toInt (ax_112.trans (congrArg (fun z : Int32 => dxf z.toInt.toNat) (ax_111.trans (congrArg (fun z : Int32 => agf z.toInt.toNat) ax_110))))
          have hc6 : x_116.toInt = hx_cx lf agf dyf n0.toInt i2.toInt := ?o398
          case o398 =>
            unfold hx_cx
            rw [if_neg (by omega)]
            exact congrArg Int32.toInt (ax_116.trans (congrArg (fun z : Int32 => dyf z.toInt.toNat) (ax_111.trans (congrArg (fun z : Int32 => agf z.toInt.toNat) ax_110))))
          refine lv_iload_n hx hb dX10_far_123 rfl (lv_at hl 3 rfl) ?_
          refine lv_iload hx hb dX10_far_124 (lv_at hl 2 rfl) ?_
          refine lv_iload hx hb dX10_far_126 (lv_at hl 1 rfl) ?_
          refine lv_iload hx hb dX10_far_128 (lv_at hl 0 rfl) ?_
          have zc_50 : (50 : Int32).toInt = 50 := ?o399
          case o399 => decide
          refine hx_goi (hx_runS (As := [.int (50 : Int32), .int (50 : Int32), .int x_112, .int x_116]) (rest := []) ⟨hx, hb, hml, hown, hts⟩ hW (t_X10_stepsBetween_2 l dC dI dA L h s.heap.size (50 : Int32) (50 : Int32) x_112 x_116 hT ⟨?o400, ?o401⟩ ⟨?o402, ?o403⟩ ⟨?o404, ?o405⟩ ⟨?o406, ?o407⟩) (va_cwS 4 hts (hx_gS kw_1728 kw_1726 kw_1727 kw_103) rfl rfl rfl (by decide +kernel) ⟨Nat.le_of_ble_eq_true rfl, Nat.le_of_ble_eq_true rfl⟩) rfl hl.1 rfl (Nat.le_of_ble_eq_true rfl) dX10_far_130 ⟨Nat.le_of_ble_eq_true rfl, Nat.le_of_ble_eq_true rfl⟩) hW (fun r_119 L_117 h_118 H locs p_120 hW => ?_)
          case o400 => omega
          case o401 => omega
          case o402 => omega
          case o403 => omega
          case o404 => omega
          case o405 => omega
          case o406 => omega
          case o407 => omega
          obtain ⟨hr_121, hT, hs⟩ := p_120
          replace hT : hx_T T_tb L_117 h_118 := hT
          replace hs : hx_S T_tb [] L h L_117 h_118 := hs
          replace ex_110 := ex_110.trans (hs.a (gqls.S hM) rfl _).1.symm
          replace ex_111 := ex_111.trans (hs.a (gqag.S hM) rfl _).1.symm
          replace ex_112 := ex_112.trans (hs.a (gqdx.S hM) rfl _).1.symm
          replace ex_116 := ex_116.trans (hs.a (gqdy.S hM) rfl _).1.symm
          replace hM := hM.tr (hs.mono ?o408)
          case o408 => decide
          refine hx_reti hx hb hr hlk hW ⟨⟨by unfold hx_fr; rw [← hc3, ← hc4, ← hc5, ← hc6]; exact hr_121.1, ?o409, ?o410⟩, hT, hM⟩ dX10_far_133
          case o409 => omega
          case o410 => omega
        · skip
          refine lv_bipush (v := 50) hx hb dX10_far_100 ?o411 ?_
          case o411 => decide
          refine lv_goto (tgt := 121) hx hb dX10_far_102 ?o412 ?_
          case o412 => decide
          refine lv_istore (lv' := [(6, .int (50 : Int32)), (5, .int x_112), (4, .int (50 : Int32)), (3, .int (50 : Int32)), (0, .ref x), (1, .int i1), (2, .int i2)]) hx hb dX10_far_121 hl ?o413 rfl (fun ls hl => ?_)
          case o413 => decide
          have hc3 : (50 : Int32).toInt = hx_cx lf agf dxf n0.toInt i1.toInt := ?o414
          case o414 =>
            unfold hx_cx
            rw [if_pos (by omega)]
            decide
          have hc4 : (50 : Int32).toInt = hx_cx lf agf dyf n0.toInt i1.toInt := ?o415
          case o415 =>
            unfold hx_cx
            rw [if_pos (by omega)]
            decide
          have hc5 : x_112.toInt = hx_cx lf agf dxf n0.toInt i2.toInt := ?o416
          case o416 =>
            unfold hx_cx
            rw [if_neg (by omega)]
            exact congrArg Int32.toInt (ax_112.trans (congrArg (fun z : Int32 => dxf z.toInt.toNat) (ax_111.trans (congrArg (fun z : Int32 => agf z.toInt.toNat) ax_110))))
          have hc6 : (50 : Int32).toInt = hx_cx lf agf dyf n0.toInt i2.toInt := ?o417
          case o417 =>
            unfold hx_cx
            rw [if_pos (by omega)]
            decide
          refine lv_iload_n hx hb dX10_far_123 rfl (lv_at hl 3 rfl) ?_
          refine lv_iload hx hb dX10_far_124 (lv_at hl 2 rfl) ?_
          refine lv_iload hx hb dX10_far_126 (lv_at hl 1 rfl) ?_
          refine lv_iload hx hb dX10_far_128 (lv_at hl 0 rfl) ?_
          have zc_50 : (50 : Int32).toInt = 50 := ?o418
          case o418 => decide
          refine hx_goi (hx_runS (As := [.int (50 : Int32), .int (50 : Int32), .int x_112, .int (50 : Int32)]) (rest := []) ⟨hx, hb, hml, hown, hts⟩ hW (t_X10_stepsBetween_2 l dC dI dA L h s.heap.size (50 : Int32) (50 : Int32) x_112 (50 : Int32) hT ⟨?o419, ?o420⟩ ⟨?o421, ?o422⟩ ⟨?o423, ?o424⟩ ⟨?o425, ?o426⟩) (va_cwS 4 hts (hx_gS kw_1728 kw_1726 kw_1727 kw_103) rfl rfl rfl (by decide +kernel) ⟨Nat.le_of_ble_eq_true rfl, Nat.le_of_ble_eq_true rfl⟩) rfl hl.1 rfl (Nat.le_of_ble_eq_true rfl) dX10_far_130 ⟨Nat.le_of_ble_eq_true rfl, Nat.le_of_ble_eq_true rfl⟩) hW (fun r_124 L_122 h_123 H locs p_125 hW => ?_)
          case o419 => omega
          case o420 => omega
          case o421 => omega
          case o422 => omega
          case o423 => omega
          case o424 => omega
          case o425 => omega
          case o426 => omega
          obtain ⟨hr_126, hT, hs⟩ := p_125
          replace hT : hx_T T_tb L_122 h_123 := hT
          replace hs : hx_S T_tb [] L h L_122 h_123 := hs
          replace ex_110 := ex_110.trans (hs.a (gqls.S hM) rfl _).1.symm
          replace ex_111 := ex_111.trans (hs.a (gqag.S hM) rfl _).1.symm
          replace ex_112 := ex_112.trans (hs.a (gqdx.S hM) rfl _).1.symm
          replace hM := hM.tr (hs.mono ?o427)
          case o427 => decide
          refine hx_reti hx hb hr hlk hW ⟨⟨by unfold hx_fr; rw [← hc3, ← hc4, ← hc5, ← hc6]; exact hr_126.1, ?o428, ?o429⟩, hT, hM⟩ dX10_far_133
          case o428 => omega
          case o429 => omega
      · skip
        refine lv_bipush (v := 50) hx hb dX10_far_69 ?o430 ?_
        case o430 => decide
        refine lv_goto (tgt := 90) hx hb dX10_far_71 ?o431 ?_
        case o431 => decide
        refine lv_istore (lv' := [(5, .int (50 : Int32)), (4, .int (50 : Int32)), (3, .int (50 : Int32)), (0, .ref x), (1, .int i1), (2, .int i2)]) hx hb dX10_far_90 hl ?o432 rfl (fun ls hl => ?_)
        case o432 => decide
        refine lv_iload_n hx hb dX10_far_92 rfl (lv_at hl 5 rfl) ?_
        refine lv_aload_n hx hb dX10_far_93 rfl (lv_at hl 3 rfl) ?_
        refine hk_geti hx hb hts hC_10 hown hW (gx.S hM) tt_10 90 ?o433 rfl kw_1233 ⟨rfl, rfl, rfl⟩ ((hM.o gx trivial rfl).1.trans f_x_90) dX10_far_94 ?_
        case o433 => decide
        refine hb_icmp_ne (zx := i2.toInt) (zy := n0.toInt) (tgt := 105) hx hb rfl rfl dX10_far_97 ?o434 (fun c_127 => ?_) (fun c_127 => ?_)
        case o434 => decide
        · skip
          refine lv_aload_n hx hb dX10_far_105 rfl (lv_at hl 3 rfl) ?_
          refine hk_getr hx hb hts hC_10 hown hW (gx.S hM) tt_10 25 ?o435 rfl kw_1168 ⟨rfl, rfl, rfl⟩ ((hM.o gx trivial rfl).2.trans f_x_25) dX10_far_106 ?_
          case o435 => decide
          refine lv_aload_n hx hb dX10_far_109 rfl (lv_at hl 3 rfl) ?_
          refine hk_getr hx hb hts hC_10 hown hW (gx.S hM) tt_10 38 ?o436 rfl kw_1181 ⟨rfl, rfl, rfl⟩ ((hM.o gx trivial rfl).2.trans f_x_38) dX10_far_110 ?_
          case o436 => decide
          refine lv_aload_n hx hb dX10_far_113 rfl (lv_at hl 3 rfl) ?_
          refine hk_getr hx hb hts hC_10 hown hW (gx.S hM) tt_10 91 ?o437 rfl kw_1234 ⟨rfl, rfl, rfl⟩ ((hM.o gx trivial rfl).2.trans f_x_91) dX10_far_114 ?_
          case o437 => decide
          refine lv_iload_n hx hb dX10_far_117 rfl (lv_at hl 5 rfl) ?_
          refine hx_iald hx hb hW hT (gqls.S hM) tt_112 rfl ⟨?o438, ?o439⟩ dX10_far_118 (fun x_128 ex_128 lx_128 ux_128 => ?_)
          case o438 => omega
          case o439 => omega
          have ax_128 : x_128 = lf i2.toNatClampNeg := ex_128.trans (congrFun (hx_afS hM gqls rfl af_qls) _)
          refine hx_iald hx hb hW hT (gqag.S hM) tt_73 rfl ⟨?o440, ?o441⟩ dX10_far_119 (fun x_129 ex_129 lx_129 ux_129 => ?_)
          case o440 => omega
          case o441 => omega
          have ax_129 : x_129 = agf x_128.toNatClampNeg := ex_129.trans (congrFun (hx_afS hM gqag rfl af_qag) _)
          refine hx_iald hx hb hW hT (gqdy.S hM) tt_62 rfl ⟨?o442, ?o443⟩ dX10_far_120 (fun x_130 ex_130 lx_130 ux_130 => ?_)
          case o442 => omega
          case o443 => omega
          have ax_130 : x_130 = dyf x_129.toNatClampNeg := ex_130.trans (congrFun (hx_afS hM gqdy rfl af_qdy) _)
          refine lv_istore (lv' := [(6, .int x_130), (5, .int (50 : Int32)), (4, .int (50 : Int32)), (3, .int (50 : Int32)), (0, .ref x), (1, .int i1), (2, .int i2)]) hx hb dX10_far_121 hl ?o444 rfl (fun ls hl => ?_)
          case o444 => decide
          have hc3 : (50 : Int32).toInt = hx_cx lf agf dxf n0.toInt i1.toInt := ?o445
          case o445 =>
            unfold hx_cx
            rw [if_pos (by omega)]
            decide
          have hc4 : (50 : Int32).toInt = hx_cx lf agf dyf n0.toInt i1.toInt := ?o446
          case o446 =>
            unfold hx_cx
            rw [if_pos (by omega)]
            decide
          have hc5 : (50 : Int32).toInt = hx_cx lf agf dxf n0.toInt i2.toInt := ?o447
          case o447 =>
            unfold hx_cx
            rw [if_pos (by omega)]
            decide
          have hc6 : x_130.toInt = hx_cx lf agf dyf n0.toInt i2.toInt := ?o448
          case o448 =>
            unfold hx_cx
            rw [if_neg (by omega)]
            exact congrArg Int32.toInt (ax_130.trans (congrArg (fun z : Int32 => dyf z.toInt.toNat) (ax_129.trans (congrArg (fun z : Int32 => agf z.toInt.toNat) ax_128))))
          refine lv_iload_n hx hb dX10_far_123 rfl (lv_at hl 3 rfl) ?_
          refine lv_iload hx hb dX10_far_124 (lv_at hl 2 rfl) ?_
          refine lv_iload hx hb dX10_far_126 (lv_at hl 1 rfl) ?_
          refine lv_iload hx hb dX10_far_128 (lv_at hl 0 rfl) ?_
          have zc_50 : (50 : Int32).toInt = 50 := ?o449
          case o449 => decide
          refine hx_goi (hx_runS (As := [.int (50 : Int32), .int (50 : Int32), .int (50 : Int32), .int x_130]) (rest := []) ⟨hx, hb, hml, hown, hts⟩ hW (t_X10_stepsBetween_2 l dC dI dA L h s.heap.size (50 : Int32) (50 : Int32) (50 : Int32) x_130 hT ⟨?o450, ?o451⟩ ⟨?o452, ?o453⟩ ⟨?o454, ?o455⟩ ⟨?o456, ?o457⟩) (va_cwS 4 hts (hx_gS kw_1728 kw_1726 kw_1727 kw_103) rfl rfl rfl (by decide +kernel) ⟨Nat.le_of_ble_eq_true rfl, Nat.le_of_ble_eq_true rfl⟩) rfl hl.1 rfl (Nat.le_of_ble_eq_true rfl) dX10_far_130 ⟨Nat.le_of_ble_eq_true rfl, Nat.le_of_ble_eq_true rfl⟩) hW (fun r_133 L_131 h_132 H locs p_134 hW => ?_)
          case o450 => omega
          case o451 => omega
          case o452 => omega
          case o453 => omega
          case o454 => omega
          case o455 => omega
          case o456 => omega
          case o457 => omega
          obtain ⟨hr_135, hT, hs⟩ := p_134
          replace hT : hx_T T_tb L_131 h_132 := hT
          replace hs : hx_S T_tb [] L h L_131 h_132 := hs
          replace ex_128 := ex_128.trans (hs.a (gqls.S hM) rfl _).1.symm
          replace ex_129 := ex_129.trans (hs.a (gqag.S hM) rfl _).1.symm
          replace ex_130 := ex_130.trans (hs.a (gqdy.S hM) rfl _).1.symm
          replace hM := hM.tr (hs.mono ?o458)
          case o458 => decide
          refine hx_reti hx hb hr hlk hW ⟨⟨by unfold hx_fr; rw [← hc3, ← hc4, ← hc5, ← hc6]; exact hr_135.1, ?o459, ?o460⟩, hT, hM⟩ dX10_far_133
          case o459 => omega
          case o460 => omega
        · skip
          refine lv_bipush (v := 50) hx hb dX10_far_100 ?o461 ?_
          case o461 => decide
          refine lv_goto (tgt := 121) hx hb dX10_far_102 ?o462 ?_
          case o462 => decide
          refine lv_istore (lv' := [(6, .int (50 : Int32)), (5, .int (50 : Int32)), (4, .int (50 : Int32)), (3, .int (50 : Int32)), (0, .ref x), (1, .int i1), (2, .int i2)]) hx hb dX10_far_121 hl ?o463 rfl (fun ls hl => ?_)
          case o463 => decide
          have hc3 : (50 : Int32).toInt = hx_cx lf agf dxf n0.toInt i1.toInt := ?o464
          case o464 =>
            unfold hx_cx
            rw [if_pos (by omega)]
            decide
          have hc4 : (50 : Int32).toInt = hx_cx lf agf dyf n0.toInt i1.toInt := ?o465
          case o465 =>
            unfold hx_cx
            rw [if_pos (by omega)]
            decide
          have hc5 : (50 : Int32).toInt = hx_cx lf agf dxf n0.toInt i2.toInt := ?o466
          case o466 =>
            unfold hx_cx
            rw [if_pos (by omega)]
            decide
          have hc6 : (50 : Int32).toInt = hx_cx lf agf dyf n0.toInt i2.toInt := ?o467
          case o467 =>
            unfold hx_cx
            rw [if_pos (by omega)]
            decide
          refine lv_iload_n hx hb dX10_far_123 rfl (lv_at hl 3 rfl) ?_
          refine lv_iload hx hb dX10_far_124 (lv_at hl 2 rfl) ?_
          refine lv_iload hx hb dX10_far_126 (lv_at hl 1 rfl) ?_
          refine lv_iload hx hb dX10_far_128 (lv_at hl 0 rfl) ?_
          have zc_50 : (50 : Int32).toInt = 50 := ?o468
          case o468 => decide
          refine hx_goi (hx_runS (As := [.int (50 : Int32), .int (50 : Int32), .int (50 : Int32), .int (50 : Int32)]) (rest := []) ⟨hx, hb, hml, hown, hts⟩ hW (t_X10_stepsBetween_2 l dC dI dA L h s.heap.size (50 : Int32) (50 : Int32) (50 : Int32) (50 : Int32) hT ⟨?o469, ?o470⟩ ⟨?o471, ?o472⟩ ⟨?o473, ?o474⟩ ⟨?o475, ?o476⟩) (va_cwS 4 hts (hx_gS kw_1728 kw_1726 kw_1727 kw_103) rfl rfl rfl (by decide +kernel) ⟨Nat.le_of_ble_eq_true rfl, Nat.le_of_ble_eq_true rfl⟩) rfl hl.1 rfl (Nat.le_of_ble_eq_true rfl) dX10_far_130 ⟨Nat.le_of_ble_eq_true rfl, Nat.le_of_ble_eq_true rfl⟩) hW (fun r_138 L_136 h_137 H locs p_139 hW => ?_)
          case o469 => omega
          case o470 => omega
          case o471 => omega
          case o472 => omega
          case o473 => omega
          case o474 => omega
          case o475 => omega
          case o476 => omega
          obtain ⟨hr_140, hT, hs⟩ := p_139
          replace hT : hx_T T_tb L_136 h_137 := hT
          replace hs : hx_S T_tb [] L h L_136 h_137 := hs
          replace hM := hM.tr (hs.mono ?o477)
          case o477 => decide
          refine hx_reti hx hb hr hlk hW ⟨⟨by unfold hx_fr; rw [← hc3, ← hc4, ← hc5, ← hc6]; exact hr_140.1, ?o478, ?o479⟩, hT, hM⟩ dX10_far_133
          case o478 => omega
          case o479 => omega


set_option maxHeartbeats 4000000 in
set_option maxRecDepth 100000 in
theorem t_X10_lesser_2 (l : Launch) (dC : Nat → ClassId) (dI : Nat → Nat → Nat) (dA : Nat → ClassId) (L : List Nat) (h : hx_h) (sz : Nat) (i1 : Int32) (i2 : Int32) (hT : hx_T T_tb L h)   : Met l yX10_lesser (Cond.code yX10_lesser cX10_lesser 2 (some .int) :: hx_all) ({ frames := 0, cells := 0, slots := 0, locals := 0 }) (va_Pc [.int i1, .int i2] (hx_B T_tb (P_ty dA) (dC, dI) vwCl L h sz)) (va_Qi (fun (r : Int32) (u : List Nat × hx_h) => ((r = i1 ∧ i1.toInt < i2.toInt) ∨ (r = i2 ∧ i2.toInt ≤ i1.toInt)) ∧ hx_T T_tb u.1 u.2 ∧ hx_S T_tb [] L h u.1 u.2) (hx_E T_tb (P_ty dA) (dC, dI) vwCl (hx_A L sz)) (hx_A L sz)) 0 0 (hx_A L sz) := by
  refine hx_met (lv := [(0, .int i1), (1, .int i2)]) (by decide +kernel) rfl (Nat.le_of_ble_eq_true rfl) rfl ?_
  intro p e s m below meth c hx hb hml hr hlk hts0 hown hin hsz hW ls hl
  have hts : ∀ w ∈ hx_all, w.before _ s = true := fun w hw => hts0 w (List.mem_cons_of_mem _ hw)
  have hown : s.vm.findClass "SmallCourtModel" = some m.cls := hown
  have hM : hx_S T_tb [] L h L h := hx_S.rf
  refine lv_iload_n hx hb dX10_lesser_0 rfl (lv_at hl 0 rfl) ?_
  refine lv_iload_n hx hb dX10_lesser_1 rfl (lv_at hl 1 rfl) ?_
  refine hb_icmp_ge (zx := i1.toInt) (zy := i2.toInt) (tgt := 9) hx hb rfl rfl dX10_lesser_2 ?o0 (fun c_1 => ?_) (fun c_1 => ?_)
  case o0 => decide
  · skip
    refine lv_iload_n hx hb dX10_lesser_9 rfl (lv_at hl 1 rfl) ?_
    exact hx_reti hx hb hr hlk hW ⟨(by first | exact Or.inl ⟨rfl, by omega⟩ | exact Or.inr ⟨rfl, by omega⟩), hT, hM⟩ dX10_lesser_10
  · skip
    refine lv_iload_n hx hb dX10_lesser_5 rfl (lv_at hl 0 rfl) ?_
    refine lv_goto (tgt := 10) hx hb dX10_lesser_6 ?o1 ?_
    case o1 => decide
    exact hx_reti hx hb hr hlk hW ⟨(by first | exact Or.inl ⟨rfl, by omega⟩ | exact Or.inr ⟨rfl, by omega⟩), hT, hM⟩ dX10_lesser_10

def wNX10_walk : Nat := 102546202219902619730257780274166191624176720872766602188580526406409924196800049726957281546109838690543175914228800666361604639561819411857755624356104432326118832071154168564186619496323673965665428097894271478707888184530849131298337427585561346060625585340463374783529077972640924431472074487619166577877451210867011163719396019990248194827089370316831760691174049153158275563317956433203913300056383588150710866430877468286311993369079774411439501133901964555268408481204162499687808497540318104446182003852140806866878165001014158921746548114654679889251296212229361910360718029235854727585000374699664969655143073011578153051892228
theorem wX10_walk_c : hz_cd cX10_walk wNX10_walk 265 := ⟨by decide +kernel, by decide +kernel⟩
theorem dX10_walk_0 : decode cX10_walk 0 = .ok (.iconst 1, 1) := dw_4 wX10_walk_c rfl
theorem dX10_walk_1 : decode cX10_walk 1 = .ok (.aload_n 0, 1) := dw_42 wX10_walk_c rfl
theorem dX10_walk_2 : decode cX10_walk 2 = .ok (.getfield 468, 3) := dw_180 wX10_walk_c 1 212 rfl rfl
theorem dX10_walk_5 : decode cX10_walk 5 = .ok (.ishl, 1) := dw_120 wX10_walk_c rfl
theorem dX10_walk_6 : decode cX10_walk 6 = .ok (.istore_n 1, 1) := dw_60 wX10_walk_c rfl
theorem dX10_walk_7 : decode cX10_walk 7 = .ok (.iconst 0, 1) := dw_3 wX10_walk_c rfl
theorem dX10_walk_8 : decode cX10_walk 8 = .ok (.istore_n 2, 1) := dw_61 wX10_walk_c rfl
theorem dX10_walk_9 : decode cX10_walk 9 = .ok (.iload_n 2, 1) := dw_28 wX10_walk_c rfl
theorem dX10_walk_10 : decode cX10_walk 10 = .ok (.iload_n 1, 1) := dw_27 wX10_walk_c rfl
theorem dX10_walk_11 : decode cX10_walk 11 = .ok (.if_icmp .ge 119, 3) := dw_162 wX10_walk_c 0 119 rfl rfl rfl
theorem dX10_walk_14 : decode cX10_walk 14 = .ok (.iconst 0, 1) := dw_3 wX10_walk_c rfl
theorem dX10_walk_15 : decode cX10_walk 15 = .ok (.istore_n 3, 1) := dw_62 wX10_walk_c rfl
theorem dX10_walk_16 : decode cX10_walk 16 = .ok (.iload_n 3, 1) := dw_29 wX10_walk_c rfl
theorem dX10_walk_17 : decode cX10_walk 17 = .ok (.aload_n 0, 1) := dw_42 wX10_walk_c rfl
theorem dX10_walk_18 : decode cX10_walk 18 = .ok (.getfield 468, 3) := dw_180 wX10_walk_c 1 212 rfl rfl
theorem dX10_walk_21 : decode cX10_walk 21 = .ok (.if_icmp .gt 103, 3) := dw_163 wX10_walk_c 0 103 rfl rfl rfl
theorem dX10_walk_24 : decode cX10_walk 24 = .ok (.iload_n 2, 1) := dw_28 wX10_walk_c rfl
theorem dX10_walk_25 : decode cX10_walk 25 = .ok (.ifCond .ne 15, 3) := dw_154 wX10_walk_c 0 15 rfl rfl rfl
theorem dX10_walk_28 : decode cX10_walk 28 = .ok (.aload_n 0, 1) := dw_42 wX10_walk_c rfl
theorem dX10_walk_29 : decode cX10_walk 29 = .ok (.iload_n 3, 1) := dw_29 wX10_walk_c rfl
theorem dX10_walk_30 : decode cX10_walk 30 = .ok (.aload_n 0, 1) := dw_42 wX10_walk_c rfl
theorem dX10_walk_31 : decode cX10_walk 31 = .ok (.getfield 468, 3) := dw_180 wX10_walk_c 1 212 rfl rfl
theorem dX10_walk_34 : decode cX10_walk 34 = .ok (.invokevirtual 475, 3) := dw_182 wX10_walk_c 1 219 rfl rfl
theorem dX10_walk_37 : decode cX10_walk 37 = .ok (.goto 6, 3) := dw_167 wX10_walk_c 0 6 rfl rfl rfl
theorem dX10_walk_40 : decode cX10_walk 40 = .ok (.ldc_w 431, 3) := dw_19 wX10_walk_c 1 175 rfl rfl
theorem dX10_walk_43 : decode cX10_walk 43 = .ok (.istore 4, 2) := dw_54 wX10_walk_c 4 rfl
theorem dX10_walk_45 : decode cX10_walk 45 = .ok (.iconst 0, 1) := dw_3 wX10_walk_c rfl
theorem dX10_walk_46 : decode cX10_walk 46 = .ok (.istore 5, 2) := dw_54 wX10_walk_c 5 rfl
theorem dX10_walk_48 : decode cX10_walk 48 = .ok (.iload 5, 2) := dw_21 wX10_walk_c 5 rfl
theorem dX10_walk_50 : decode cX10_walk 50 = .ok (.aload_n 0, 1) := dw_42 wX10_walk_c rfl
theorem dX10_walk_51 : decode cX10_walk 51 = .ok (.getfield 468, 3) := dw_180 wX10_walk_c 1 212 rfl rfl
theorem dX10_walk_54 : decode cX10_walk 54 = .ok (.if_icmp .ge 51, 3) := dw_162 wX10_walk_c 0 51 rfl rfl rfl
theorem dX10_walk_57 : decode cX10_walk 57 = .ok (.iload_n 2, 1) := dw_28 wX10_walk_c rfl
theorem dX10_walk_58 : decode cX10_walk 58 = .ok (.iload 5, 2) := dw_21 wX10_walk_c 5 rfl
theorem dX10_walk_60 : decode cX10_walk 60 = .ok (.ishr, 1) := dw_122 wX10_walk_c rfl
theorem dX10_walk_61 : decode cX10_walk 61 = .ok (.iconst 1, 1) := dw_4 wX10_walk_c rfl
theorem dX10_walk_62 : decode cX10_walk 62 = .ok (.iand, 1) := dw_126 wX10_walk_c rfl
theorem dX10_walk_63 : decode cX10_walk 63 = .ok (.iconst 1, 1) := dw_4 wX10_walk_c rfl
theorem dX10_walk_64 : decode cX10_walk 64 = .ok (.if_icmp .ne 35, 3) := dw_160 wX10_walk_c 0 35 rfl rfl rfl
theorem dX10_walk_67 : decode cX10_walk 67 = .ok (.iload 4, 2) := dw_21 wX10_walk_c 4 rfl
theorem dX10_walk_69 : decode cX10_walk 69 = .ok (.aload_n 0, 1) := dw_42 wX10_walk_c rfl
theorem dX10_walk_70 : decode cX10_walk 70 = .ok (.iload_n 3, 1) := dw_29 wX10_walk_c rfl
theorem dX10_walk_71 : decode cX10_walk 71 = .ok (.iload 5, 2) := dw_21 wX10_walk_c 5 rfl
theorem dX10_walk_73 : decode cX10_walk 73 = .ok (.invokevirtual 475, 3) := dw_182 wX10_walk_c 1 219 rfl rfl
theorem dX10_walk_76 : decode cX10_walk 76 = .ok (.aload_n 0, 1) := dw_42 wX10_walk_c rfl
theorem dX10_walk_77 : decode cX10_walk 77 = .ok (.getfield 207, 3) := dw_180 wX10_walk_c 0 207 rfl rfl
theorem dX10_walk_80 : decode cX10_walk 80 = .ok (.bipush 9, 2) := dw_16 wX10_walk_c 9 rfl rfl rfl
theorem dX10_walk_82 : decode cX10_walk 82 = .ok (.iload_n 2, 1) := dw_28 wX10_walk_c rfl
theorem dX10_walk_83 : decode cX10_walk 83 = .ok (.iconst 1, 1) := dw_4 wX10_walk_c rfl
theorem dX10_walk_84 : decode cX10_walk 84 = .ok (.iload 5, 2) := dw_21 wX10_walk_c 5 rfl
theorem dX10_walk_86 : decode cX10_walk 86 = .ok (.ishl, 1) := dw_120 wX10_walk_c rfl
theorem dX10_walk_87 : decode cX10_walk 87 = .ok (.ixor, 1) := dw_130 wX10_walk_c rfl
theorem dX10_walk_88 : decode cX10_walk 88 = .ok (.imul, 1) := dw_104 wX10_walk_c rfl
theorem dX10_walk_89 : decode cX10_walk 89 = .ok (.iload 5, 2) := dw_21 wX10_walk_c 5 rfl
theorem dX10_walk_91 : decode cX10_walk 91 = .ok (.iadd, 1) := dw_96 wX10_walk_c rfl
theorem dX10_walk_92 : decode cX10_walk 92 = .ok (.iaload, 1) := dw_46 wX10_walk_c rfl
theorem dX10_walk_93 : decode cX10_walk 93 = .ok (.iadd, 1) := dw_96 wX10_walk_c rfl
theorem dX10_walk_94 : decode cX10_walk 94 = .ok (.invokestatic 448, 3) := dw_184 wX10_walk_c 1 192 rfl rfl
theorem dX10_walk_97 : decode cX10_walk 97 = .ok (.istore 4, 2) := dw_54 wX10_walk_c 4 rfl
theorem dX10_walk_99 : decode cX10_walk 99 = .ok (.iinc 5 1, 3) := dw_132 wX10_walk_c 5 1 rfl rfl rfl
theorem dX10_walk_102 : decode cX10_walk 102 = .ok (.goto (-54), 3) := dn_167 wX10_walk_c 255 202 rfl (by decide)
theorem dX10_walk_105 : decode cX10_walk 105 = .ok (.aload_n 0, 1) := dw_42 wX10_walk_c rfl
theorem dX10_walk_106 : decode cX10_walk 106 = .ok (.getfield 207, 3) := dw_180 wX10_walk_c 0 207 rfl rfl
theorem dX10_walk_109 : decode cX10_walk 109 = .ok (.bipush 9, 2) := dw_16 wX10_walk_c 9 rfl rfl rfl
theorem dX10_walk_111 : decode cX10_walk 111 = .ok (.iload_n 2, 1) := dw_28 wX10_walk_c rfl
theorem dX10_walk_112 : decode cX10_walk 112 = .ok (.imul, 1) := dw_104 wX10_walk_c rfl
theorem dX10_walk_113 : decode cX10_walk 113 = .ok (.iload_n 3, 1) := dw_29 wX10_walk_c rfl
theorem dX10_walk_114 : decode cX10_walk 114 = .ok (.iadd, 1) := dw_96 wX10_walk_c rfl
theorem dX10_walk_115 : decode cX10_walk 115 = .ok (.iload 4, 2) := dw_21 wX10_walk_c 4 rfl
theorem dX10_walk_117 : decode cX10_walk 117 = .ok (.iastore, 1) := dw_79 wX10_walk_c rfl
theorem dX10_walk_118 : decode cX10_walk 118 = .ok (.iinc 3 1, 3) := dw_132 wX10_walk_c 3 1 rfl rfl rfl
theorem dX10_walk_121 : decode cX10_walk 121 = .ok (.goto (-105), 3) := dn_167 wX10_walk_c 255 151 rfl (by decide)
theorem dX10_walk_124 : decode cX10_walk 124 = .ok (.iinc 2 1, 3) := dw_132 wX10_walk_c 2 1 rfl rfl rfl
theorem dX10_walk_127 : decode cX10_walk 127 = .ok (.goto (-118), 3) := dn_167 wX10_walk_c 255 138 rfl (by decide)
theorem dX10_walk_130 : decode cX10_walk 130 = .ok (.iload_n 1, 1) := dw_27 wX10_walk_c rfl
theorem dX10_walk_131 : decode cX10_walk 131 = .ok (.iconst 1, 1) := dw_4 wX10_walk_c rfl
theorem dX10_walk_132 : decode cX10_walk 132 = .ok (.isub, 1) := dw_100 wX10_walk_c rfl
theorem dX10_walk_133 : decode cX10_walk 133 = .ok (.istore_n 2, 1) := dw_61 wX10_walk_c rfl
theorem dX10_walk_134 : decode cX10_walk 134 = .ok (.aload_n 0, 1) := dw_42 wX10_walk_c rfl
theorem dX10_walk_135 : decode cX10_walk 135 = .ok (.getfield 468, 3) := dw_180 wX10_walk_c 1 212 rfl rfl
theorem dX10_walk_138 : decode cX10_walk 138 = .ok (.istore_n 3, 1) := dw_62 wX10_walk_c rfl
theorem dX10_walk_139 : decode cX10_walk 139 = .ok (.aload_n 0, 1) := dw_42 wX10_walk_c rfl
theorem dX10_walk_140 : decode cX10_walk 140 = .ok (.getfield 207, 3) := dw_180 wX10_walk_c 0 207 rfl rfl
theorem dX10_walk_143 : decode cX10_walk 143 = .ok (.bipush 9, 2) := dw_16 wX10_walk_c 9 rfl rfl rfl
theorem dX10_walk_145 : decode cX10_walk 145 = .ok (.iload_n 2, 1) := dw_28 wX10_walk_c rfl
theorem dX10_walk_146 : decode cX10_walk 146 = .ok (.imul, 1) := dw_104 wX10_walk_c rfl
theorem dX10_walk_147 : decode cX10_walk 147 = .ok (.iload_n 3, 1) := dw_29 wX10_walk_c rfl
theorem dX10_walk_148 : decode cX10_walk 148 = .ok (.iadd, 1) := dw_96 wX10_walk_c rfl
theorem dX10_walk_149 : decode cX10_walk 149 = .ok (.iaload, 1) := dw_46 wX10_walk_c rfl
theorem dX10_walk_150 : decode cX10_walk 150 = .ok (.istore 4, 2) := dw_54 wX10_walk_c 4 rfl
theorem dX10_walk_152 : decode cX10_walk 152 = .ok (.aload_n 0, 1) := dw_42 wX10_walk_c rfl
theorem dX10_walk_153 : decode cX10_walk 153 = .ok (.iconst 0, 1) := dw_3 wX10_walk_c rfl
theorem dX10_walk_154 : decode cX10_walk 154 = .ok (.putfield 478, 3) := dw_181 wX10_walk_c 1 222 rfl rfl
theorem dX10_walk_157 : decode cX10_walk 157 = .ok (.iload_n 2, 1) := dw_28 wX10_walk_c rfl
theorem dX10_walk_158 : decode cX10_walk 158 = .ok (.ifCond .eq 99, 3) := dw_153 wX10_walk_c 0 99 rfl rfl rfl
theorem dX10_walk_161 : decode cX10_walk 161 = .ok (.iconst 0, 1) := dw_3 wX10_walk_c rfl
theorem dX10_walk_162 : decode cX10_walk 162 = .ok (.istore 5, 2) := dw_54 wX10_walk_c 5 rfl
theorem dX10_walk_164 : decode cX10_walk 164 = .ok (.iload_n 2, 1) := dw_28 wX10_walk_c rfl
theorem dX10_walk_165 : decode cX10_walk 165 = .ok (.iload 5, 2) := dw_21 wX10_walk_c 5 rfl
theorem dX10_walk_167 : decode cX10_walk 167 = .ok (.ishr, 1) := dw_122 wX10_walk_c rfl
theorem dX10_walk_168 : decode cX10_walk 168 = .ok (.iconst 1, 1) := dw_4 wX10_walk_c rfl
theorem dX10_walk_169 : decode cX10_walk 169 = .ok (.iand, 1) := dw_126 wX10_walk_c rfl
theorem dX10_walk_170 : decode cX10_walk 170 = .ok (.ifCond .eq 42, 3) := dw_153 wX10_walk_c 0 42 rfl rfl rfl
theorem dX10_walk_173 : decode cX10_walk 173 = .ok (.aload_n 0, 1) := dw_42 wX10_walk_c rfl
theorem dX10_walk_174 : decode cX10_walk 174 = .ok (.iload_n 3, 1) := dw_29 wX10_walk_c rfl
theorem dX10_walk_175 : decode cX10_walk 175 = .ok (.iload 5, 2) := dw_21 wX10_walk_c 5 rfl
theorem dX10_walk_177 : decode cX10_walk 177 = .ok (.invokevirtual 475, 3) := dw_182 wX10_walk_c 1 219 rfl rfl
theorem dX10_walk_180 : decode cX10_walk 180 = .ok (.aload_n 0, 1) := dw_42 wX10_walk_c rfl
theorem dX10_walk_181 : decode cX10_walk 181 = .ok (.getfield 207, 3) := dw_180 wX10_walk_c 0 207 rfl rfl
theorem dX10_walk_184 : decode cX10_walk 184 = .ok (.bipush 9, 2) := dw_16 wX10_walk_c 9 rfl rfl rfl
theorem dX10_walk_186 : decode cX10_walk 186 = .ok (.iload_n 2, 1) := dw_28 wX10_walk_c rfl
theorem dX10_walk_187 : decode cX10_walk 187 = .ok (.iconst 1, 1) := dw_4 wX10_walk_c rfl
theorem dX10_walk_188 : decode cX10_walk 188 = .ok (.iload 5, 2) := dw_21 wX10_walk_c 5 rfl
theorem dX10_walk_190 : decode cX10_walk 190 = .ok (.ishl, 1) := dw_120 wX10_walk_c rfl
theorem dX10_walk_191 : decode cX10_walk 191 = .ok (.ixor, 1) := dw_130 wX10_walk_c rfl
theorem dX10_walk_192 : decode cX10_walk 192 = .ok (.imul, 1) := dw_104 wX10_walk_c rfl
theorem dX10_walk_193 : decode cX10_walk 193 = .ok (.iload 5, 2) := dw_21 wX10_walk_c 5 rfl
theorem dX10_walk_195 : decode cX10_walk 195 = .ok (.iadd, 1) := dw_96 wX10_walk_c rfl
theorem dX10_walk_196 : decode cX10_walk 196 = .ok (.iaload, 1) := dw_46 wX10_walk_c rfl
theorem dX10_walk_197 : decode cX10_walk 197 = .ok (.iadd, 1) := dw_96 wX10_walk_c rfl
theorem dX10_walk_198 : decode cX10_walk 198 = .ok (.aload_n 0, 1) := dw_42 wX10_walk_c rfl
theorem dX10_walk_199 : decode cX10_walk 199 = .ok (.getfield 207, 3) := dw_180 wX10_walk_c 0 207 rfl rfl
theorem dX10_walk_202 : decode cX10_walk 202 = .ok (.bipush 9, 2) := dw_16 wX10_walk_c 9 rfl rfl rfl
theorem dX10_walk_204 : decode cX10_walk 204 = .ok (.iload_n 2, 1) := dw_28 wX10_walk_c rfl
theorem dX10_walk_205 : decode cX10_walk 205 = .ok (.imul, 1) := dw_104 wX10_walk_c rfl
theorem dX10_walk_206 : decode cX10_walk 206 = .ok (.iload_n 3, 1) := dw_29 wX10_walk_c rfl
theorem dX10_walk_207 : decode cX10_walk 207 = .ok (.iadd, 1) := dw_96 wX10_walk_c rfl
theorem dX10_walk_208 : decode cX10_walk 208 = .ok (.iaload, 1) := dw_46 wX10_walk_c rfl
theorem dX10_walk_209 : decode cX10_walk 209 = .ok (.if_icmp .eq 9, 3) := dw_159 wX10_walk_c 0 9 rfl rfl rfl
theorem dX10_walk_212 : decode cX10_walk 212 = .ok (.iinc 5 1, 3) := dw_132 wX10_walk_c 5 1 rfl rfl rfl
theorem dX10_walk_215 : decode cX10_walk 215 = .ok (.goto (-51), 3) := dn_167 wX10_walk_c 255 205 rfl (by decide)
theorem dX10_walk_218 : decode cX10_walk 218 = .ok (.aload_n 0, 1) := dw_42 wX10_walk_c rfl
theorem dX10_walk_219 : decode cX10_walk 219 = .ok (.getfield 204, 3) := dw_180 wX10_walk_c 0 204 rfl rfl
theorem dX10_walk_222 : decode cX10_walk 222 = .ok (.aload_n 0, 1) := dw_42 wX10_walk_c rfl
theorem dX10_walk_223 : decode cX10_walk 223 = .ok (.getfield 478, 3) := dw_180 wX10_walk_c 1 222 rfl rfl
theorem dX10_walk_226 : decode cX10_walk 226 = .ok (.aload_n 0, 1) := dw_42 wX10_walk_c rfl
theorem dX10_walk_227 : decode cX10_walk 227 = .ok (.getfield 201, 3) := dw_180 wX10_walk_c 0 201 rfl rfl
theorem dX10_walk_230 : decode cX10_walk 230 = .ok (.iload 5, 2) := dw_21 wX10_walk_c 5 rfl
theorem dX10_walk_232 : decode cX10_walk 232 = .ok (.iaload, 1) := dw_46 wX10_walk_c rfl
theorem dX10_walk_233 : decode cX10_walk 233 = .ok (.iastore, 1) := dw_79 wX10_walk_c rfl
theorem dX10_walk_234 : decode cX10_walk 234 = .ok (.aload_n 0, 1) := dw_42 wX10_walk_c rfl
theorem dX10_walk_235 : decode cX10_walk 235 = .ok (.dup, 1) := dw_89 wX10_walk_c rfl
theorem dX10_walk_236 : decode cX10_walk 236 = .ok (.getfield 478, 3) := dw_180 wX10_walk_c 1 222 rfl rfl
theorem dX10_walk_239 : decode cX10_walk 239 = .ok (.iconst 1, 1) := dw_4 wX10_walk_c rfl
theorem dX10_walk_240 : decode cX10_walk 240 = .ok (.iadd, 1) := dw_96 wX10_walk_c rfl
theorem dX10_walk_241 : decode cX10_walk 241 = .ok (.putfield 478, 3) := dw_181 wX10_walk_c 1 222 rfl rfl
theorem dX10_walk_244 : decode cX10_walk 244 = .ok (.iload_n 2, 1) := dw_28 wX10_walk_c rfl
theorem dX10_walk_245 : decode cX10_walk 245 = .ok (.iconst 1, 1) := dw_4 wX10_walk_c rfl
theorem dX10_walk_246 : decode cX10_walk 246 = .ok (.iload 5, 2) := dw_21 wX10_walk_c 5 rfl
theorem dX10_walk_248 : decode cX10_walk 248 = .ok (.ishl, 1) := dw_120 wX10_walk_c rfl
theorem dX10_walk_249 : decode cX10_walk 249 = .ok (.ixor, 1) := dw_130 wX10_walk_c rfl
theorem dX10_walk_250 : decode cX10_walk 250 = .ok (.istore_n 2, 1) := dw_61 wX10_walk_c rfl
theorem dX10_walk_251 : decode cX10_walk 251 = .ok (.iload 5, 2) := dw_21 wX10_walk_c 5 rfl
theorem dX10_walk_253 : decode cX10_walk 253 = .ok (.istore_n 3, 1) := dw_62 wX10_walk_c rfl
theorem dX10_walk_254 : decode cX10_walk 254 = .ok (.goto (-97), 3) := dn_167 wX10_walk_c 255 159 rfl (by decide)
theorem dX10_walk_257 : decode cX10_walk 257 = .ok (.aload_n 0, 1) := dw_42 wX10_walk_c rfl
theorem dX10_walk_258 : decode cX10_walk 258 = .ok (.iconst 0, 1) := dw_3 wX10_walk_c rfl
theorem dX10_walk_259 : decode cX10_walk 259 = .ok (.putfield 468, 3) := dw_181 wX10_walk_c 1 212 rfl rfl
theorem dX10_walk_262 : decode cX10_walk 262 = .ok (.iload 4, 2) := dw_21 wX10_walk_c 4 rfl
theorem dX10_walk_264 : decode cX10_walk 264 = .ok (.ireturn, 1) := dw_172 wX10_walk_c rfl
set_option maxHeartbeats 4000000 in
set_option maxRecDepth 100000 in
theorem t_X10_walk (l : Launch) (dC : Nat → ClassId) (dI : Nat → Nat → Nat) (dA : Nat → ClassId) (L : List Nat) (h : hx_h) (sz : Nat) (x : Nat) (hT : hx_T T_tb L h) (gx : hx_g L h x 10) (qls : Nat) (gqls : hx_g L h qls 112) (f_x_91 : h.2.2 x 91 = some qls) (qag : Nat) (gqag : hx_g L h qag 73) (f_x_38 : h.2.2 x 38 = some qag) (qdx : Nat) (gqdx : hx_g L h qdx 61) (f_x_24 : h.2.2 x 24 = some qdx) (qdy : Nat) (gqdy : hx_g L h qdy 62) (f_x_25 : h.2.2 x 25 = some qdy) (qhm : Nat) (gqhm : hx_g L h qhm 114) (f_x_94 : h.2.2 x 94 = some qhm) (qwd : Nat) (gqwd : hx_g L h qwd 113) (f_x_93 : h.2.2 x 93 = some qwd) (lf : Nat → Int32) (af_qls : h.2.1 qls = lf) (agf : Nat → Int32) (af_qag : h.2.1 qag = agf) (dxf : Nat → Int32) (af_qdx : h.2.1 qdx = dxf) (dyf : Nat → Int32) (af_qdy : h.2.1 qdy = dyf) (hm0 : Nat → Int32) (af_qhm : h.2.1 qhm = hm0) (wd0 : Nat → Int32) (af_qwd : h.2.1 qwd = wd0) (n0 : Int32) (f_x_90 : h.2.1 x 90 = n0) : Met l yX10_walk (Cond.code yX10_walk cX10_walk 6 (some .int) :: hx_all) ({ frames := 2, cells := 0, slots := 0, locals := 49 }) (va_Pc [.ref x] (hx_B T_tb (P_ty dA) (dC, dI) vwCl L h sz)) (va_Qi (fun (r : Int32) (u : List Nat × hx_h) => (∃ (ln1 : Int32) (wm1 : Int32) (wd1 : Nat → Int32), u.2.2.1 x 90 = ln1 ∧ u.2.2.1 x 92 = wm1 ∧ u.2.2.1 qwd = wd1 ∧ (ln1.toInt = 0 ∧ wm1.toInt = n0.toInt ∧ hx_WA (hx_fr lf agf dxf dyf n0.toInt) n0.toInt lf wd1 r.toInt)) ∧ hx_T T_tb u.1 u.2 ∧ hx_S T_tb [(10, 90), (10, 92), (113, 0), (114, 0)] L h u.1 u.2) (hx_E T_tb (P_ty dA) (dC, dI) vwCl (hx_A L sz)) (hx_A L sz)) 0 0 (hx_A L sz) := by
  refine hx_met (lv := [(0, .ref x)]) (by decide +kernel) rfl (Nat.le_of_ble_eq_true rfl) rfl ?_
  intro p e s m below meth c hx hb hml hr hlk hts0 hown hin hsz hW ls hl
  have hts : ∀ w ∈ hx_all, w.before _ s = true := fun w hw => hts0 w (List.mem_cons_of_mem _ hw)
  have hown : s.vm.findClass "SmallCourtModel" = some m.cls := hown
  have hM : hx_S T_tb [(10, 90), (10, 92), (113, 0), (114, 0)] L h L h := hx_S.rf
  have b_n0 := hT.gi gx tt_10 (k := 90) rfl
  rw [f_x_90] at b_n0
  have b_n0 : 0 ≤ n0.toInt ∧ n0.toInt ≤ 8 := b_n0
  refine lv_iconst (v := 1) hx hb dX10_walk_0 ?o0 ?_
  case o0 => decide
  refine lv_aload_n hx hb dX10_walk_1 rfl (lv_at hl 0 rfl) ?_
  refine hk_geti hx hb hts hC_10 hown hW (gx.S hM) tt_10 90 ?o1 rfl kw_1233 ⟨rfl, rfl, rfl⟩ f_x_90 dX10_walk_2 ?_
  case o1 => decide
  refine lv_ishl hx hb dX10_walk_5 ?_
  refine lv_topi (fun x_1 ex_1 => ?_)
  have zx_1 : 1 ≤ x_1.toInt ∧ x_1.toInt ≤ 256 := ?o2
  case o2 =>
    rw [ex_1]
    refine hx_shl8 ?o3 ?o4
    case o3 => omega
    case o4 => omega
  refine lv_istore_n (lv' := [(1, .int x_1), (0, .ref x)]) hx hb dX10_walk_6 rfl hl ?o5 rfl (fun ls hl => ?_)
  case o5 => decide
  have hsets : x_1.toInt = 2 ^ n0.toInt.toNat := ?o6
  case o6 =>
    rw [ex_1]
    refine hx_sh2 ?o7 ?o8
    case o7 => omega
    case o8 => omega
  refine lv_iconst (v := 0) hx hb dX10_walk_7 ?o9 ?_
  case o9 => decide
  refine lv_istore_n (lv' := [(2, .int (0 : Int32)), (1, .int x_1), (0, .ref x)]) hx hb dX10_walk_8 rfl hl ?o10 rfl (fun ls hl => ?_)
  case o10 => decide
  have loop9 : ∀ (n9 : Nat) (iv9_2 : Int32) (ia9_qhm : Nat → Int32) (H : Heap) (locs : List Loc) (hL1 : List Nat) (hl1 : hx_h), 0 ≤ iv9_2.toInt → iv9_2.toInt ≤ 256 → (hx_D (hx_fr lf agf dxf dyf n0.toInt) n0.toInt ia9_qhm iv9_2.toInt 0) → ∀ (ls : Array Slot), 256 - iv9_2.toInt < (n9 : Int) → hx_W T_tb (P_ty dA) (dC, dI) vwCl (hx_A L sz) s.heap hL1 hl1 s H locs → hx_T T_tb hL1 hl1 → hx_S T_tb [(10, 90), (10, 92), (113, 0), (114, 0)] L h hL1 hl1 → hl1.2.1 x 90 = n0 → hl1.2.1 qhm = ia9_qhm → hl1.2.1 qwd = wd0 → lv_has ls 6 [(2, .int iv9_2), (1, .int x_1), (0, .ref x)] → W p l e ({ frames := 2, cells := 0, slots := 0, locals := 49 }) s m ([.ref x] : List Value).toArray below meth c H locs 0 0 (MQ below (va_Qi (fun (r : Int32) (u : List Nat × hx_h) => (∃ (ln1 : Int32) (wm1 : Int32) (wd1 : Nat → Int32), u.2.2.1 x 90 = ln1 ∧ u.2.2.1 x 92 = wm1 ∧ u.2.2.1 qwd = wd1 ∧ (ln1.toInt = 0 ∧ wm1.toInt = n0.toInt ∧ hx_WA (hx_fr lf agf dxf dyf n0.toInt) n0.toInt lf wd1 r.toInt)) ∧ hx_T T_tb u.1 u.2 ∧ hx_S T_tb [(10, 90), (10, 92), (113, 0), (114, 0)] L h u.1 u.2) (hx_E T_tb (P_ty dA) (dC, dI) vwCl (hx_A L sz)) (hx_A L sz)) ([.ref x] : List Value).toArray s 0 0 (hx_A L sz)) (F0 m 9 ls []) := by
    intro n9
    induction n9 with
    | zero => intro iv9_2 ia9_qhm H locs hL1 hl1 bliv9_2 buiv9_2 vi9_0 ls hn9; exfalso; omega
    | succ n9 ih9 =>
      intro iv9_2 ia9_qhm H locs hL1 hl1 bliv9_2 buiv9_2 vi9_0 ls hn9 hW hT hM f_x_90 nia9_qhm af_qwd hl
      refine lv_iload_n hx hb dX10_walk_9 rfl (lv_at hl 0 rfl) ?_
      refine lv_iload_n hx hb dX10_walk_10 rfl (lv_at hl 1 rfl) ?_
      refine hb_icmp_ge (zx := iv9_2.toInt) (zy := x_1.toInt) (tgt := 130) hx hb rfl rfl dX10_walk_11 ?o11 (fun c_2 => ?_) (fun c_2 => ?_)
      case o11 => decide
      · skip
        refine lv_iload_n hx hb dX10_walk_130 rfl (lv_at hl 1 rfl) ?_
        refine lv_iconst (v := 1) hx hb dX10_walk_131 ?o12 ?_
        case o12 => decide
        refine lv_isub hx hb dX10_walk_132 ?_
        have rg_3 := i32_r x_1
        refine lv_topi (fun x_4 ex_4 => ?_)
        have zx_4 : x_4.toInt = x_1.toInt - 1 := ?o13
        case o13 =>
          rw [ex_4]
          refine i32_sub rfl ?o14 ?o15 ?o16
          case o14 => decide
          case o15 => omega
          case o16 => omega
        refine lv_istore_n (lv' := [(2, .int x_4), (1, .int x_1), (0, .ref x)]) hx hb dX10_walk_133 rfl hl ?o17 rfl (fun ls hl => ?_)
        case o17 => decide
        refine lv_aload_n hx hb dX10_walk_134 rfl (lv_at hl 2 rfl) ?_
        refine hk_geti hx hb hts hC_10 hown hW (gx.S hM) tt_10 90 ?o18 rfl kw_1233 ⟨rfl, rfl, rfl⟩ f_x_90 dX10_walk_135 ?_
        case o18 => decide
        refine lv_istore_n (lv' := [(3, .int n0), (2, .int x_4), (1, .int x_1), (0, .ref x)]) hx hb dX10_walk_138 rfl hl ?o19 rfl (fun ls hl => ?_)
        case o19 => decide
        refine lv_aload_n hx hb dX10_walk_139 rfl (lv_at hl 3 rfl) ?_
        refine hk_getr hx hb hts hC_10 hown hW (gx.S hM) tt_10 94 ?o20 rfl kw_1237 ⟨rfl, rfl, rfl⟩ ((hM.o gx trivial rfl).2.trans f_x_94) dX10_walk_140 ?_
        case o20 => decide
        refine lv_bipush (v := 9) hx hb dX10_walk_143 ?o21 ?_
        case o21 => decide
        refine lv_iload_n hx hb dX10_walk_145 rfl (lv_at hl 1 rfl) ?_
        refine lv_imul hx hb dX10_walk_146 ?_
        refine lv_topi (fun x_5 ex_5 => ?_)
        have zx_5 : x_5.toInt = 9 * x_4.toInt := ?o22
        case o22 =>
          rw [ex_5]
          refine i32_mul ?o23 rfl rfl ?o24 ?o25
          case o23 => decide
          case o24 => omega
          case o25 => omega
        refine lv_iload_n hx hb dX10_walk_147 rfl (lv_at hl 0 rfl) ?_
        refine lv_iadd hx hb dX10_walk_148 ?_
        have rg_6 := i32_r x_5
        have rg_7 := i32_r n0
        refine lv_topi (fun x_8 ex_8 => ?_)
        have zx_8 : x_8.toInt = x_5.toInt + n0.toInt := ?o26
        case o26 =>
          rw [ex_8]
          refine i32_add rfl rfl ?o27 ?o28
          case o27 => omega
          case o28 => omega
        refine hx_iald hx hb hW hT (gqhm.S hM) tt_114 rfl ⟨?o29, ?o30⟩ dX10_walk_149 (fun x_9 ex_9 lx_9 ux_9 => ?_)
        case o29 => omega
        case o30 => omega
        have ax_9 : x_9 = ia9_qhm x_8.toNatClampNeg := ex_9.trans (congrFun nia9_qhm _)
        have hDf : hx_D (hx_fr lf agf dxf dyf n0.toInt) n0.toInt ia9_qhm (2 ^ n0.toInt.toNat) 0 := hx_D_le vi9_0 ?o31
        case o31 => omega
        have hl0 : x_4.toInt = 2 ^ n0.toInt.toNat - 1 := ?o32
        case o32 => omega
        have hv0 : x_9.toInt = hx_HM ia9_qhm (2 ^ n0.toInt.toNat - 1) n0.toInt := (congrArg Int32.toInt ax_9).trans (congrArg (fun z => (ia9_qhm z).toInt) (by unfold Int32.toNatClampNeg; omega))
        have hRf : hx_mn (hx_fr lf agf dxf dyf n0.toInt) (hx_HM ia9_qhm) n0.toInt (2 ^ n0.toInt.toNat - 1) n0.toInt x_9.toInt := ?o33
        case o33 =>
          rw [hv0]
          refine hx_D_mn hDf ?o34 ?o35 ?o36 ?o37
          case o34 => omega
          case o35 => omega
          case o36 => omega
          case o37 => omega
        refine lv_istore (lv' := [(4, .int x_9), (3, .int n0), (2, .int x_4), (1, .int x_1), (0, .ref x)]) hx hb dX10_walk_150 hl ?o38 rfl (fun ls hl => ?_)
        case o38 => decide
        have hpc0 : hx_pc x_4.toInt = n0.toInt := ?o39
        case o39 =>
          rw [zx_4, hsets]
          refine hx_pc_all ?o40 ?o41
          case o40 => omega
          case o41 => omega
        refine lv_aload_n hx hb dX10_walk_152 rfl (lv_at hl 4 rfl) ?_
        refine lv_iconst (v := 0) hx hb dX10_walk_153 ?o42 ?_
        case o42 => decide
        refine hx_puti hx hb hts hC_10 hown hW hT (hx_S.rf (M := [(10, 92)])) (gx.S hM) tt_10 92 ?o43 rfl kw_1235 ⟨rfl, rfl, rfl⟩ rfl (x := (0 : Int32)) ?o44 rfl rfl rfl (List.mem_singleton.mpr rfl) dX10_walk_154 (fun H locs h_10 eh_10 hW hT hs => ?_)
        case o43 => decide
        case o44 => decide
        replace f_x_90 := (hs.o (gx.S hM) trivial rfl).1.trans f_x_90
        replace af_qwd : h_10.2.1 qwd = wd0 := (funext fun j => (hs.a (gqwd.S hM) rfl j).1).trans af_qwd
        replace nia9_qhm : h_10.2.1 qhm = ia9_qhm := (funext fun j => (hs.a (gqhm.S hM) rfl j).1).trans nia9_qhm
        replace ex_9 := ex_9.trans (hs.a (gqhm.S hM) rfl _).1.symm
        replace hM := hM.tr (hs.mono ?o45)
        case o45 => decide
        have f_11 : h_10.2.1 x 92 = (0 : Int32) := ?o46
        case o46 =>
          rw [eh_10]
          exact hx_pi_at _ _ _ _
        have loop157 : ∀ (n157 : Nat) (iv157_2 iv157_3 fw157_x_92 : Int32) (ia157_qwd : Nat → Int32) (H : Heap) (locs : List Loc) (hL1 : List Nat) (hl1 : hx_h), 0 ≤ iv157_2.toInt → iv157_2.toInt ≤ 255 → 0 ≤ iv157_3.toInt → iv157_3.toInt ≤ 8 → 0 ≤ fw157_x_92.toInt → fw157_x_92.toInt ≤ 8 → (iv157_2.toInt < x_1.toInt) → (iv157_3.toInt ≤ n0.toInt) → (fw157_x_92.toInt + hx_pc iv157_2.toInt = n0.toInt) → (hx_wj (hx_fr lf agf dxf dyf n0.toInt) (hx_HM ia9_qhm) n0.toInt x_9.toInt lf ia157_qwd fw157_x_92.toInt iv157_2.toInt iv157_3.toInt (hx_HM ia9_qhm iv157_2.toInt iv157_3.toInt)) → ∀ (ls : Array Slot), iv157_2.toInt < (n157 : Int) → hx_W T_tb (P_ty dA) (dC, dI) vwCl (hx_A L sz) s.heap hL1 hl1 s H locs → hx_T T_tb hL1 hl1 → hx_S T_tb [(10, 90), (10, 92), (113, 0), (114, 0)] L h hL1 hl1 → hl1.2.1 x 92 = fw157_x_92 → hl1.2.1 x 90 = n0 → hl1.2.1 qwd = ia157_qwd → hl1.2.1 qhm = ia9_qhm → lv_has ls 6 [(4, .int x_9), (3, .int iv157_3), (2, .int iv157_2), (1, .int x_1), (0, .ref x)] → W p l e ({ frames := 2, cells := 0, slots := 0, locals := 49 }) s m ([.ref x] : List Value).toArray below meth c H locs 0 0 (MQ below (va_Qi (fun (r : Int32) (u : List Nat × hx_h) => (∃ (ln1 : Int32) (wm1 : Int32) (wd1 : Nat → Int32), u.2.2.1 x 90 = ln1 ∧ u.2.2.1 x 92 = wm1 ∧ u.2.2.1 qwd = wd1 ∧ (ln1.toInt = 0 ∧ wm1.toInt = n0.toInt ∧ hx_WA (hx_fr lf agf dxf dyf n0.toInt) n0.toInt lf wd1 r.toInt)) ∧ hx_T T_tb u.1 u.2 ∧ hx_S T_tb [(10, 90), (10, 92), (113, 0), (114, 0)] L h u.1 u.2) (hx_E T_tb (P_ty dA) (dC, dI) vwCl (hx_A L sz)) (hx_A L sz)) ([.ref x] : List Value).toArray s 0 0 (hx_A L sz)) (F0 m 157 ls []) := by
          intro n157
          induction n157 with
          | zero => intro iv157_2 iv157_3 fw157_x_92 ia157_qwd H locs hL1 hl1 bliv157_2 buiv157_2 bliv157_3 buiv157_3 blfw157_x_92 bufw157_x_92 vi157_0 vi157_1 vi157_2 vi157_3 ls hn157; exfalso; omega
          | succ n157 ih157 =>
            intro iv157_2 iv157_3 fw157_x_92 ia157_qwd H locs hL1 hl1 bliv157_2 buiv157_2 bliv157_3 buiv157_3 blfw157_x_92 bufw157_x_92 vi157_0 vi157_1 vi157_2 vi157_3 ls hn157 hW hT hM ffw157_x_92 f_x_90 nia157_qwd nia9_qhm hl
            refine lv_iload_n hx hb dX10_walk_157 rfl (lv_at hl 2 rfl) ?_
            refine hb_if_eq (zx := iv157_2.toInt) (tgt := 257) hx hb rfl dX10_walk_158 ?o47 (fun c_12 => ?_) (fun c_12 => ?_)
            case o47 => decide
            · skip
              refine lv_aload_n hx hb dX10_walk_257 rfl (lv_at hl 4 rfl) ?_
              refine lv_iconst (v := 0) hx hb dX10_walk_258 ?o48 ?_
              case o48 => decide
              refine hx_puti hx hb hts hC_10 hown hW hT (hx_S.rf (M := [(10, 90)])) (gx.S hM) tt_10 90 ?o49 rfl kw_1233 ⟨rfl, rfl, rfl⟩ rfl (x := (0 : Int32)) ?o50 rfl rfl rfl (List.mem_singleton.mpr rfl) dX10_walk_259 (fun H locs h_13 eh_13 hW hT hs => ?_)
              case o49 => decide
              case o50 => decide
              replace ffw157_x_92 := (hs.o (gx.S hM) trivial rfl).1.trans ffw157_x_92
              replace nia9_qhm : h_13.2.1 qhm = ia9_qhm := (funext fun j => (hs.a (gqhm.S hM) rfl j).1).trans nia9_qhm
              replace nia157_qwd : h_13.2.1 qwd = ia157_qwd := (funext fun j => (hs.a (gqwd.S hM) rfl j).1).trans nia157_qwd
              replace hM := hM.tr (hs.mono ?o51)
              case o51 => decide
              have f_14 : h_13.2.1 x 90 = (0 : Int32) := ?o52
              case o52 =>
                rw [eh_13]
                exact hx_pi_at _ _ _ _
              refine lv_iload hx hb dX10_walk_262 (lv_at hl 0 rfl) ?_
              have zo_0 : (0 : Int32).toInt = 0 := ?o53
              case o53 => decide
              have hz0 : iv157_2.toInt = 0 := ?o54
              case o54 => omega
              have hwm := vi157_2
              rw [hz0, hx_pc_0] at hwm
              refine hx_reti hx hb hr hlk hW ⟨⟨(0 : Int32), fw157_x_92, ia157_qwd, f_14, ffw157_x_92, nia157_qwd, ⟨?o55, ?o56, hx_HM ia9_qhm, hx_D_WT hDf, hRf, _, _, _, hx_wj_j vi157_3 ?o57⟩⟩, hT, hM⟩ dX10_walk_264
              case o55 => decide
              case o56 => omega
              case o57 => omega
            · skip
              obtain ⟨ks, hk0, hk1, hk2, hk3⟩ := (vi9_0.1 iv157_2.toInt iv157_3.toInt (by omega) (by omega) (by omega) (by omega)).2.2.1 (by omega)
              have hpc1 := hx_pc_1 (l := iv157_2.toInt) ?o58 ?o59
              case o58 => omega
              case o59 => omega
              refine lv_iconst (v := 0) hx hb dX10_walk_161 ?o60 ?_
              case o60 => decide
              refine lv_istore (lv' := [(5, .int (0 : Int32)), (4, .int x_9), (3, .int iv157_3), (2, .int iv157_2), (1, .int x_1), (0, .ref x)]) hx hb dX10_walk_162 hl ?o61 rfl (fun ls hl => ?_)
              case o61 => decide
              have loop164 : ∀ (n164 : Nat) (iv164_5 : Int32) (H : Heap) (locs : List Loc) (hL1 : List Nat) (hl1 : hx_h), 0 ≤ iv164_5.toInt → iv164_5.toInt ≤ 7 → (iv164_5.toInt ≤ ks) → (∀ k' : Int, 0 ≤ k' → k' < iv164_5.toInt → hx_bt iv157_2.toInt k' = true → (hx_fr lf agf dxf dyf n0.toInt) iv157_3.toInt k' + hx_HM ia9_qhm (iv157_2.toInt - hx_p2 k') k' ≠ hx_HM ia9_qhm iv157_2.toInt iv157_3.toInt) → ∀ (ls : Array Slot), 7 - iv164_5.toInt < (n164 : Int) → hx_W T_tb (P_ty dA) (dC, dI) vwCl (hx_A L sz) s.heap hL1 hl1 s H locs → hx_T T_tb hL1 hl1 → hx_S T_tb [(10, 90), (10, 92), (113, 0), (114, 0)] L h hL1 hl1 → hl1.2.1 x 90 = n0 → hl1.2.1 x 92 = fw157_x_92 → hl1.2.1 qhm = ia9_qhm → hl1.2.1 qwd = ia157_qwd → lv_has ls 6 [(5, .int iv164_5), (4, .int x_9), (3, .int iv157_3), (2, .int iv157_2), (1, .int x_1), (0, .ref x)] → W p l e ({ frames := 2, cells := 0, slots := 0, locals := 49 }) s m ([.ref x] : List Value).toArray below meth c H locs 0 0 (MQ below (va_Qi (fun (r : Int32) (u : List Nat × hx_h) => (∃ (ln1 : Int32) (wm1 : Int32) (wd1 : Nat → Int32), u.2.2.1 x 90 = ln1 ∧ u.2.2.1 x 92 = wm1 ∧ u.2.2.1 qwd = wd1 ∧ (ln1.toInt = 0 ∧ wm1.toInt = n0.toInt ∧ hx_WA (hx_fr lf agf dxf dyf n0.toInt) n0.toInt lf wd1 r.toInt)) ∧ hx_T T_tb u.1 u.2 ∧ hx_S T_tb [(10, 90), (10, 92), (113, 0), (114, 0)] L h u.1 u.2) (hx_E T_tb (P_ty dA) (dC, dI) vwCl (hx_A L sz)) (hx_A L sz)) ([.ref x] : List Value).toArray s 0 0 (hx_A L sz)) (F0 m 164 ls []) := by
                intro n164
                induction n164 with
                | zero => intro iv164_5 H locs hL1 hl1 bliv164_5 buiv164_5 vi164_0 vi164_1 ls hn164; exfalso; omega
                | succ n164 ih164 =>
                  intro iv164_5 H locs hL1 hl1 bliv164_5 buiv164_5 vi164_0 vi164_1 ls hn164 hW hT hM f_x_90 ffw157_x_92 nia9_qhm nia157_qwd hl
                  refine lv_iload_n hx hb dX10_walk_164 rfl (lv_at hl 3 rfl) ?_
                  have hbits := hx_bits (L := iv157_2) (K := iv164_5) ?o62 ?o63 ?o64 ?o65
                  case o62 => omega
                  case o63 => omega
                  case o64 => omega
                  case o65 => omega
                  refine lv_iload hx hb dX10_walk_165 (lv_at hl 0 rfl) ?_
                  refine lv_ishr hx hb dX10_walk_167 ?_
                  refine lv_topi (fun x_15 ex_15 => ?_)
                  refine lv_iconst (v := 1) hx hb dX10_walk_168 ?o66 ?_
                  case o66 => decide
                  refine lv_iand hx hb dX10_walk_169 ?_
                  refine lv_topi (fun x_16 ex_16 => ?_)
                  have zx_16 : 0 ≤ x_16.toInt ∧ x_16.toInt ≤ 1 := ?o67
                  case o67 =>
                    rw [ex_16]
                    refine hx_andR ?o68 ?o69
                    case o68 => decide
                    case o69 => decide
                  refine hb_if_eq (zx := x_16.toInt) (tgt := 212) hx hb rfl dX10_walk_170 ?o70 (fun c_17 => ?_) (fun c_17 => ?_)
                  case o70 => decide
                  · skip
                    have hbf := hx_bit_no hbits.1 ex_15 ex_16 ?o71
                    case o71 => omega
                    have hne : iv164_5.toInt ≠ ks := fun z => by have q := hbf; rw [z, hk2] at q; cases q
                    obtain ⟨x_18, ex_18⟩ : ∃ y : Int32, y = iv164_5 + Int32.ofInt 1 := ⟨_, rfl⟩
                    have rg_19 := i32_r iv164_5
                    have zx_18 : x_18.toInt = iv164_5.toInt + (1) := ?o72
                    case o72 =>
                      rw [ex_18]
                      refine i32_add rfl ?o73 ?o74 ?o75
                      case o73 => decide
                      case o74 => omega
                      case o75 => omega
                    refine lv_iinc (v := x_18) (lv' := [(5, .int x_18), (4, .int x_9), (3, .int iv157_3), (2, .int iv157_2), (1, .int x_1), (0, .ref x)]) hx hb dX10_walk_212 hl (k := 0) rfl ex_18.symm ?o76 rfl (fun ls hl => ?_)
                    case o76 => decide
                    refine lv_goto (tgt := 164) hx hb dX10_walk_215 ?o77 ?_
                    case o77 => decide
                    refine ih164 x_18 _ _ hL1 hl1 ?o78 ?o79 ?o80 (fun k' h0 h1 hb => by rcases (show k' < iv164_5.toInt ∨ k' = iv164_5.toInt by omega) with z | z; exact vi164_1 k' h0 z hb; subst z; exact (by exfalso; rw [hbf] at hb; cases hb)) ls ?o81 hW hT hM f_x_90 ffw157_x_92 nia9_qhm nia157_qwd (lv_sub hl [0, 1, 2, 3, 4, 5] rfl)
                    case o78 => omega
                    case o79 => omega
                    case o80 => omega
                    case o81 => omega
                  · skip
                    have hbt := hx_bit_yes hbits.1 ex_15 ex_16 ?o82
                    case o82 => omega
                    refine lv_aload_n hx hb dX10_walk_173 rfl (lv_at hl 5 rfl) ?_
                    refine lv_iload_n hx hb dX10_walk_174 rfl (lv_at hl 2 rfl) ?_
                    refine lv_iload hx hb dX10_walk_175 (lv_at hl 0 rfl) ?_
                    refine hx_goi (hx_runV (As := [.int iv157_3, .int iv164_5]) (rest := []) ⟨hx, hb, hml, hown, hts⟩ hW (gx.S hM) tt_10 (T := TX10) (N := 98) rfl (t_X10_far_2 l dC dI dA hL1 hl1 H.size x iv157_3 iv164_5 hT (gx.S hM) qls (gqls.S hM) ((hM.o gx trivial rfl).2.trans f_x_91) qag (gqag.S hM) ((hM.o gx trivial rfl).2.trans f_x_38) qdx (gqdx.S hM) ((hM.o gx trivial rfl).2.trans f_x_24) qdy (gqdy.S hM) ((hM.o gx trivial rfl).2.trans f_x_25) lf (hx_afS hM gqls rfl af_qls) agf (hx_afS hM gqag rfl af_qag) dxf (hx_afS hM gqdx rfl af_qdx) dyf (hx_afS hM gqdy rfl af_qdy) n0 f_x_90 ⟨?o83, ?o84⟩ ⟨?o85, ?o86⟩) (cwV 2 hts (hx_gV kw_1725 kw_1722 kw_1724 kw_90 kw_103) rfl rfl rfl (by decide +kernel) ⟨Nat.le_of_ble_eq_true rfl, Nat.le_of_ble_eq_true rfl⟩) rfl hl.1 rfl (Nat.le_of_ble_eq_true rfl) dX10_walk_177 ⟨Nat.le_of_ble_eq_true rfl, Nat.le_of_ble_eq_true rfl⟩) hW (fun r_22 L_20 h_21 H locs p_23 hW => ?_)
                    case o83 => omega
                    case o84 => omega
                    case o85 => omega
                    case o86 => omega
                    obtain ⟨hr_24, hT, hs⟩ := p_23
                    replace hT : hx_T T_tb L_20 h_21 := hT
                    replace hs : hx_S T_tb [] hL1 hl1 L_20 h_21 := hs
                    replace f_x_90 := (hs.o (gx.S hM) trivial rfl).1.trans f_x_90
                    replace ffw157_x_92 := (hs.o (gx.S hM) trivial rfl).1.trans ffw157_x_92
                    replace nia9_qhm : h_21.2.1 qhm = ia9_qhm := (funext fun j => (hs.a (gqhm.S hM) rfl j).1).trans nia9_qhm
                    replace nia157_qwd : h_21.2.1 qwd = ia157_qwd := (funext fun j => (hs.a (gqwd.S hM) rfl j).1).trans nia157_qwd
                    replace hM := hM.tr (hs.mono ?o87)
                    case o87 => decide
                    refine lv_aload_n hx hb dX10_walk_180 rfl (lv_at hl 5 rfl) ?_
                    refine hk_getr hx hb hts hC_10 hown hW (gx.S hM) tt_10 94 ?o88 rfl kw_1237 ⟨rfl, rfl, rfl⟩ ((hM.o gx trivial rfl).2.trans f_x_94) dX10_walk_181 ?_
                    case o88 => decide
                    refine lv_bipush (v := 9) hx hb dX10_walk_184 ?o89 ?_
                    case o89 => decide
                    refine lv_iload_n hx hb dX10_walk_186 rfl (lv_at hl 3 rfl) ?_
                    refine lv_iconst (v := 1) hx hb dX10_walk_187 ?o90 ?_
                    case o90 => decide
                    refine lv_iload hx hb dX10_walk_188 (lv_at hl 0 rfl) ?_
                    refine lv_ishl hx hb dX10_walk_190 ?_
                    refine lv_topi (fun x_25 ex_25 => ?_)
                    have zx_25 : 1 ≤ x_25.toInt ∧ x_25.toInt ≤ 128 := ?o91
                    case o91 =>
                      rw [ex_25]
                      refine hx_shl7 ?o92 ?o93
                      case o92 => omega
                      case o93 => omega
                    refine lv_ixor hx hb dX10_walk_191 ?_
                    refine lv_topi (fun x_26 ex_26 => ?_)
                    have hX := hbits.2.2.2 hbt
                    rw [← ex_25, ← ex_26] at hX
                    have hX1 := hX.1; have hX2 := hX.2.1; have hX3 := hX.2.2.1
                    refine lv_imul hx hb dX10_walk_192 ?_
                    refine lv_topi (fun x_27 ex_27 => ?_)
                    have zx_27 : x_27.toInt = 9 * x_26.toInt := ?o94
                    case o94 =>
                      rw [ex_27]
                      refine i32_mul ?o95 rfl rfl ?o96 ?o97
                      case o95 => decide
                      case o96 => omega
                      case o97 => omega
                    refine lv_iload hx hb dX10_walk_193 (lv_at hl 0 rfl) ?_
                    refine lv_iadd hx hb dX10_walk_195 ?_
                    have rg_28 := i32_r x_27
                    have rg_29 := i32_r iv164_5
                    refine lv_topi (fun x_30 ex_30 => ?_)
                    have zx_30 : x_30.toInt = x_27.toInt + iv164_5.toInt := ?o98
                    case o98 =>
                      rw [ex_30]
                      refine i32_add rfl rfl ?o99 ?o100
                      case o99 => omega
                      case o100 => omega
                    refine hx_iald hx hb hW hT (gqhm.S hM) tt_114 rfl ⟨?o101, ?o102⟩ dX10_walk_196 (fun x_31 ex_31 lx_31 ux_31 => ?_)
                    case o101 => omega
                    case o102 => omega
                    have ax_31 : x_31 = ia9_qhm x_30.toNatClampNeg := ex_31.trans (congrFun nia9_qhm _)
                    have hh : x_31.toInt = (ia9_qhm (9 * (iv157_2.toInt - hx_p2 iv164_5.toInt) + iv164_5.toInt).toNat).toInt := (congrArg Int32.toInt ax_31).trans (congrArg (fun z => (ia9_qhm z).toInt) (by unfold Int32.toNatClampNeg; omega))
                    have hdd := vi9_0.1 (iv157_2.toInt - hx_p2 iv164_5.toInt) iv164_5.toInt ?o103 ?o104 ?o105 ?o106
                    case o103 => omega
                    case o104 => omega
                    case o105 => omega
                    case o106 => omega
                    have hdd1 := hdd.1; have hdd2 := hdd.2.1
                    refine lv_iadd hx hb dX10_walk_197 ?_
                    have rg_32 := i32_r r_22
                    have rg_33 := i32_r x_31
                    refine lv_topi (fun x_34 ex_34 => ?_)
                    have zx_34 : x_34.toInt = r_22.toInt + x_31.toInt := ?o107
                    case o107 =>
                      rw [ex_34]
                      refine i32_add rfl rfl ?o108 ?o109
                      case o108 => omega
                      case o109 => omega
                    refine lv_aload_n hx hb dX10_walk_198 rfl (lv_at hl 5 rfl) ?_
                    refine hk_getr hx hb hts hC_10 hown hW (gx.S hM) tt_10 94 ?o110 rfl kw_1237 ⟨rfl, rfl, rfl⟩ ((hM.o gx trivial rfl).2.trans f_x_94) dX10_walk_199 ?_
                    case o110 => decide
                    refine lv_bipush (v := 9) hx hb dX10_walk_202 ?o111 ?_
                    case o111 => decide
                    refine lv_iload_n hx hb dX10_walk_204 rfl (lv_at hl 3 rfl) ?_
                    refine lv_imul hx hb dX10_walk_205 ?_
                    refine lv_topi (fun x_35 ex_35 => ?_)
                    have zx_35 : x_35.toInt = 9 * iv157_2.toInt := ?o112
                    case o112 =>
                      rw [ex_35]
                      refine i32_mul ?o113 rfl rfl ?o114 ?o115
                      case o113 => decide
                      case o114 => omega
                      case o115 => omega
                    refine lv_iload_n hx hb dX10_walk_206 rfl (lv_at hl 2 rfl) ?_
                    refine lv_iadd hx hb dX10_walk_207 ?_
                    have rg_36 := i32_r x_35
                    have rg_37 := i32_r iv157_3
                    refine lv_topi (fun x_38 ex_38 => ?_)
                    have zx_38 : x_38.toInt = x_35.toInt + iv157_3.toInt := ?o116
                    case o116 =>
                      rw [ex_38]
                      refine i32_add rfl rfl ?o117 ?o118
                      case o117 => omega
                      case o118 => omega
                    refine hx_iald hx hb hW hT (gqhm.S hM) tt_114 rfl ⟨?o119, ?o120⟩ dX10_walk_208 (fun x_39 ex_39 lx_39 ux_39 => ?_)
                    case o119 => omega
                    case o120 => omega
                    have ax_39 : x_39 = ia9_qhm x_38.toNatClampNeg := ex_39.trans (congrFun nia9_qhm _)
                    have hv : x_39.toInt = (ia9_qhm (9 * iv157_2.toInt + iv157_3.toInt).toNat).toInt := (congrArg Int32.toInt ax_39).trans (congrArg (fun z => (ia9_qhm z).toInt) (by unfold Int32.toNatClampNeg; omega))
                    have hfr := hr_24.1
                    refine hb_icmp_eq (zx := x_34.toInt) (zy := x_39.toInt) (tgt := 218) hx hb rfl rfl dX10_walk_209 ?o121 (fun c_40 => ?_) (fun c_40 => ?_)
                    case o121 => decide
                    · skip
                      have hsum : (hx_fr lf agf dxf dyf n0.toInt) iv157_3.toInt iv164_5.toInt + hx_HM ia9_qhm (iv157_2.toInt - hx_p2 iv164_5.toInt) iv164_5.toInt = hx_HM ia9_qhm iv157_2.toInt iv157_3.toInt := ?o122
                      case o122 =>
                        unfold hx_HM
                        rw [← hfr, ← hh, ← hv]
                        omega
                      refine lv_aload_n hx hb dX10_walk_218 rfl (lv_at hl 5 rfl) ?_
                      refine hk_getr hx hb hts hC_10 hown hW (gx.S hM) tt_10 93 ?o123 rfl kw_1236 ⟨rfl, rfl, rfl⟩ ((hM.o gx trivial rfl).2.trans f_x_93) dX10_walk_219 ?_
                      case o123 => decide
                      refine lv_aload_n hx hb dX10_walk_222 rfl (lv_at hl 5 rfl) ?_
                      refine hk_geti hx hb hts hC_10 hown hW (gx.S hM) tt_10 92 ?o124 rfl kw_1235 ⟨rfl, rfl, rfl⟩ ffw157_x_92 dX10_walk_223 ?_
                      case o124 => decide
                      refine lv_aload_n hx hb dX10_walk_226 rfl (lv_at hl 5 rfl) ?_
                      refine hk_getr hx hb hts hC_10 hown hW (gx.S hM) tt_10 91 ?o125 rfl kw_1234 ⟨rfl, rfl, rfl⟩ ((hM.o gx trivial rfl).2.trans f_x_91) dX10_walk_227 ?_
                      case o125 => decide
                      refine lv_iload hx hb dX10_walk_230 (lv_at hl 0 rfl) ?_
                      refine hx_iald hx hb hW hT (gqls.S hM) tt_112 rfl ⟨?o126, ?o127⟩ dX10_walk_232 (fun x_41 ex_41 lx_41 ux_41 => ?_)
                      case o126 => omega
                      case o127 => omega
                      have ax_41 : x_41 = lf iv164_5.toNatClampNeg := ex_41.trans (congrFun (hx_afS hM gqls rfl af_qls) _)
                      have nia157_qwdO := nia157_qwd
                      refine hx_iast hx hb hW hT (hx_S.rf (M := [(113, 0)])) (gqwd.S hM) tt_113 rfl ⟨?o128, ?o129⟩ rfl ⟨?o130, ?o131⟩ (List.mem_singleton.mpr rfl) dX10_walk_233 (fun H locs h_42 eh_42 hW hT hs => ?_)
                      case o128 => omega
                      case o129 => omega
                      case o130 => omega
                      case o131 => omega
                      replace f_x_90 := (hs.o (gx.S hM) trivial rfl).1.trans f_x_90
                      replace ffw157_x_92 := (hs.o (gx.S hM) trivial rfl).1.trans ffw157_x_92
                      replace nia9_qhm : h_42.2.1 qhm = ia9_qhm := (funext fun j => (hs.a (gqhm.S hM) rfl j).1).trans nia9_qhm
                      replace ex_31 := ex_31.trans (hs.a (gqhm.S hM) rfl _).1.symm
                      replace ex_39 := ex_39.trans (hs.a (gqhm.S hM) rfl _).1.symm
                      replace ex_41 := ex_41.trans (hs.a (gqls.S hM) rfl _).1.symm
                      replace hM := hM.tr (hs.mono ?o132)
                      case o132 => decide
                      obtain ⟨fa_43, dfa_43⟩ : ∃ g : Nat → Int32, g = hx_up ia157_qwd fw157_x_92.toNatClampNeg x_41 := ⟨_, rfl⟩
                      have nfa_43 : h_42.2.1 qwd = fa_43 := ?o133
                      case o133 =>
                        rw [eh_42, dfa_43, ← nia157_qwdO]
                        exact hx_pi_fun _ _ _ _
                      refine lv_aload_n hx hb dX10_walk_234 rfl (lv_at hl 5 rfl) ?_
                      refine lv_dup hx hb dX10_walk_235 rfl ?_
                      refine hk_geti hx hb hts hC_10 hown hW (gx.S hM) tt_10 92 ?o134 rfl kw_1235 ⟨rfl, rfl, rfl⟩ ffw157_x_92 dX10_walk_236 ?_
                      case o134 => decide
                      refine lv_iconst (v := 1) hx hb dX10_walk_239 ?o135 ?_
                      case o135 => decide
                      refine lv_iadd hx hb dX10_walk_240 ?_
                      have rg_44 := i32_r fw157_x_92
                      refine lv_topi (fun x_45 ex_45 => ?_)
                      have zx_45 : x_45.toInt = fw157_x_92.toInt + 1 := ?o136
                      case o136 =>
                        rw [ex_45]
                        refine i32_add rfl ?o137 ?o138 ?o139
                        case o137 => decide
                        case o138 => omega
                        case o139 => omega
                      refine hx_puti hx hb hts hC_10 hown hW hT (hx_S.rf (M := [(10, 92)])) (gx.S hM) tt_10 92 ?o140 rfl kw_1235 ⟨rfl, rfl, rfl⟩ rfl (x := x_45) ⟨?o141, ?o142⟩ rfl rfl rfl (List.mem_singleton.mpr rfl) dX10_walk_241 (fun H locs h_46 eh_46 hW hT hs => ?_)
                      case o140 => decide
                      case o141 => omega
                      case o142 => omega
                      replace f_x_90 := (hs.o (gx.S hM) trivial rfl).1.trans f_x_90
                      replace nia9_qhm : h_46.2.1 qhm = ia9_qhm := (funext fun j => (hs.a (gqhm.S hM) rfl j).1).trans nia9_qhm
                      replace nfa_43 : h_46.2.1 qwd = fa_43 := (funext fun j => (hs.a (gqwd.S hM) rfl j).1).trans nfa_43
                      replace ex_31 := ex_31.trans (hs.a (gqhm.S hM) rfl _).1.symm
                      replace ex_39 := ex_39.trans (hs.a (gqhm.S hM) rfl _).1.symm
                      replace ex_41 := ex_41.trans (hs.a (gqls.S hM) rfl _).1.symm
                      replace hM := hM.tr (hs.mono ?o143)
                      case o143 => decide
                      have f_47 : h_46.2.1 x 92 = x_45 := ?o144
                      case o144 =>
                        rw [eh_46]
                        exact hx_pi_at _ _ _ _
                      refine lv_iload_n hx hb dX10_walk_244 rfl (lv_at hl 3 rfl) ?_
                      refine lv_iconst (v := 1) hx hb dX10_walk_245 ?o145 ?_
                      case o145 => decide
                      refine lv_iload hx hb dX10_walk_246 (lv_at hl 0 rfl) ?_
                      refine lv_ishl hx hb dX10_walk_248 ?_
                      refine lv_topi (fun x_48 ex_48 => ?_)
                      have zx_48 : 1 ≤ x_48.toInt ∧ x_48.toInt ≤ 128 := ?o146
                      case o146 =>
                        rw [ex_48]
                        refine hx_shl7 ?o147 ?o148
                        case o147 => omega
                        case o148 => omega
                      refine lv_ixor hx hb dX10_walk_249 ?_
                      refine lv_topi (fun x_49 ex_49 => ?_)
                      have hX := hbits.2.2.2 hbt
                      rw [← ex_48, ← ex_49] at hX
                      have hX1 := hX.1; have hX2 := hX.2.1; have hX3 := hX.2.2.1
                      have hpcX : hx_pc x_49.toInt = hx_pc iv157_2.toInt - 1 := ?o149
                      case o149 =>
                        rw [hX.1]
                        exact hX.2.2.2
                      refine lv_istore_n (lv' := [(2, .int x_49), (5, .int iv164_5), (4, .int x_9), (3, .int iv157_3), (1, .int x_1), (0, .ref x)]) hx hb dX10_walk_250 rfl hl ?o150 rfl (fun ls hl => ?_)
                      case o150 => decide
                      refine lv_iload hx hb dX10_walk_251 (lv_at hl 1 rfl) ?_
                      refine lv_istore_n (lv' := [(3, .int iv164_5), (2, .int x_49), (5, .int iv164_5), (4, .int x_9), (1, .int x_1), (0, .ref x)]) hx hb dX10_walk_253 rfl hl ?o151 rfl (fun ls hl => ?_)
                      case o151 => decide
                      refine lv_goto (tgt := 157) hx hb dX10_walk_254 ?o152 ?_
                      case o152 => decide
                      refine ih157 x_49 iv164_5 x_45 fa_43 _ _ L_20 h_46 ?o153 ?o154 ?o155 ?o156 ?o157 ?o158 ?o159 ?o160 ?o161 (hx_wj_s vi157_3 ?o162 ⟨?o163, ?o164, hbt, hsum, vi164_1, hX1, rfl⟩ dfa_43 (by unfold Int32.toNatClampNeg; omega) (by rw [ax_41]; rfl) ?o165) ls ?o166 hW hT hM f_47 f_x_90 nfa_43 nia9_qhm (lv_sub hl [3, 0, 1, 4, 5] rfl)
                      case o153 => omega
                      case o154 => omega
                      case o155 => omega
                      case o156 => omega
                      case o157 => omega
                      case o158 => omega
                      case o159 => omega
                      case o160 => omega
                      case o161 => omega
                      case o162 => omega
                      case o163 => omega
                      case o164 => omega
                      case o165 => omega
                      case o166 => omega
                    · skip
                      have hne : iv164_5.toInt ≠ ks := fun z => by have q := hk3; rw [← z] at q; omega
                      obtain ⟨x_50, ex_50⟩ : ∃ y : Int32, y = iv164_5 + Int32.ofInt 1 := ⟨_, rfl⟩
                      have zx_50 : x_50.toInt = iv164_5.toInt + (1) := ?o167
                      case o167 =>
                        rw [ex_50]
                        refine i32_add rfl ?o168 ?o169 ?o170
                        case o168 => decide
                        case o169 => omega
                        case o170 => omega
                      refine lv_iinc (v := x_50) (lv' := [(5, .int x_50), (4, .int x_9), (3, .int iv157_3), (2, .int iv157_2), (1, .int x_1), (0, .ref x)]) hx hb dX10_walk_212 hl (k := 0) rfl ex_50.symm ?o171 rfl (fun ls hl => ?_)
                      case o171 => decide
                      refine lv_goto (tgt := 164) hx hb dX10_walk_215 ?o172 ?_
                      case o172 => decide
                      refine ih164 x_50 _ _ L_20 h_21 ?o173 ?o174 ?o175 (fun k' h0 h1 hb => by rcases (show k' < iv164_5.toInt ∨ k' = iv164_5.toInt by omega) with z | z; exact vi164_1 k' h0 z hb; subst z; exact (fun w => by unfold hx_HM at w; rw [← hfr, ← hh, ← hv] at w; omega)) ls ?o176 hW hT hM f_x_90 ffw157_x_92 nia9_qhm nia157_qwd (lv_sub hl [0, 1, 2, 3, 4, 5] rfl)
                      case o173 => omega
                      case o174 => omega
                      case o175 => omega
                      case o176 => omega
              have zk_0 : (0 : Int32).toInt = 0 := ?o177
              case o177 => decide
              refine loop164 8 (0 : Int32) _ _ hL1 hl1 ?o178 ?o179 ?o180 (fun k' h0 h1 => absurd h1 ?o181) ls ?o182 hW hT hM f_x_90 ffw157_x_92 nia9_qhm nia157_qwd hl
              case o178 => decide
              case o179 => decide
              case o180 => omega
              case o181 => omega
              case o182 => omega
        have zk_0 : (0 : Int32).toInt = 0 := ?o183
        case o183 => decide
        refine loop157 256 x_4 n0 (0 : Int32) wd0 _ _ hL1 h_10 ?o184 ?o185 ?o186 ?o187 ?o188 ?o189 ?o190 ?o191 ?o192 (hx_wj_i ?o193 ?o194 ?o195 (by rw [hv0, hl0, show n0.toInt = n0.toInt by omega])) ls ?o196 hW hT hM f_11 f_x_90 af_qwd nia9_qhm hl
        case o184 => omega
        case o185 => omega
        case o186 => omega
        case o187 => omega
        case o188 => decide
        case o189 => decide
        case o190 => omega
        case o191 => omega
        case o192 => omega
        case o193 => omega
        case o194 => omega
        case o195 => omega
        case o196 => omega
      · skip
        refine lv_iconst (v := 0) hx hb dX10_walk_14 ?o197 ?_
        case o197 => decide
        refine lv_istore_n (lv' := [(3, .int (0 : Int32)), (2, .int iv9_2), (1, .int x_1), (0, .ref x)]) hx hb dX10_walk_15 rfl hl ?o198 rfl (fun ls hl => ?_)
        case o198 => decide
        have loop16 : ∀ (n16 : Nat) (iv16_3 : Int32) (ia16_qhm : Nat → Int32) (H : Heap) (locs : List Loc) (hL1 : List Nat) (hl1 : hx_h), 0 ≤ iv16_3.toInt → iv16_3.toInt ≤ 9 → (hx_D (hx_fr lf agf dxf dyf n0.toInt) n0.toInt ia16_qhm iv9_2.toInt iv16_3.toInt) → ∀ (ls : Array Slot), 9 - iv16_3.toInt < (n16 : Int) → hx_W T_tb (P_ty dA) (dC, dI) vwCl (hx_A L sz) s.heap hL1 hl1 s H locs → hx_T T_tb hL1 hl1 → hx_S T_tb [(10, 90), (10, 92), (113, 0), (114, 0)] L h hL1 hl1 → hl1.2.1 x 90 = n0 → hl1.2.1 qhm = ia16_qhm → hl1.2.1 qwd = wd0 → lv_has ls 6 [(3, .int iv16_3), (2, .int iv9_2), (1, .int x_1), (0, .ref x)] → W p l e ({ frames := 2, cells := 0, slots := 0, locals := 49 }) s m ([.ref x] : List Value).toArray below meth c H locs 0 0 (MQ below (va_Qi (fun (r : Int32) (u : List Nat × hx_h) => (∃ (ln1 : Int32) (wm1 : Int32) (wd1 : Nat → Int32), u.2.2.1 x 90 = ln1 ∧ u.2.2.1 x 92 = wm1 ∧ u.2.2.1 qwd = wd1 ∧ (ln1.toInt = 0 ∧ wm1.toInt = n0.toInt ∧ hx_WA (hx_fr lf agf dxf dyf n0.toInt) n0.toInt lf wd1 r.toInt)) ∧ hx_T T_tb u.1 u.2 ∧ hx_S T_tb [(10, 90), (10, 92), (113, 0), (114, 0)] L h u.1 u.2) (hx_E T_tb (P_ty dA) (dC, dI) vwCl (hx_A L sz)) (hx_A L sz)) ([.ref x] : List Value).toArray s 0 0 (hx_A L sz)) (F0 m 16 ls []) := by
          intro n16
          induction n16 with
          | zero => intro iv16_3 ia16_qhm H locs hL1 hl1 bliv16_3 buiv16_3 vi16_0 ls hn16; exfalso; omega
          | succ n16 ih16 =>
            intro iv16_3 ia16_qhm H locs hL1 hl1 bliv16_3 buiv16_3 vi16_0 ls hn16 hW hT hM f_x_90 nia16_qhm af_qwd hl
            refine lv_iload_n hx hb dX10_walk_16 rfl (lv_at hl 0 rfl) ?_
            refine lv_aload_n hx hb dX10_walk_17 rfl (lv_at hl 3 rfl) ?_
            refine hk_geti hx hb hts hC_10 hown hW (gx.S hM) tt_10 90 ?o199 rfl kw_1233 ⟨rfl, rfl, rfl⟩ f_x_90 dX10_walk_18 ?_
            case o199 => decide
            refine hb_icmp_gt (zx := iv16_3.toInt) (zy := n0.toInt) (tgt := 124) hx hb rfl rfl dX10_walk_21 ?o200 (fun c_51 => ?_) (fun c_51 => ?_)
            case o200 => decide
            · skip
              obtain ⟨x_52, ex_52⟩ : ∃ y : Int32, y = iv9_2 + Int32.ofInt 1 := ⟨_, rfl⟩
              have rg_53 := i32_r iv9_2
              have zx_52 : x_52.toInt = iv9_2.toInt + (1) := ?o201
              case o201 =>
                rw [ex_52]
                refine i32_add rfl ?o202 ?o203 ?o204
                case o202 => decide
                case o203 => omega
                case o204 => omega
              refine lv_iinc (v := x_52) (lv' := [(2, .int x_52), (3, .int iv16_3), (1, .int x_1), (0, .ref x)]) hx hb dX10_walk_124 hl (k := 1) rfl ex_52.symm ?o205 rfl (fun ls hl => ?_)
              case o205 => decide
              refine lv_goto (tgt := 9) hx hb dX10_walk_127 ?o206 ?_
              case o206 => decide
              refine ih9 x_52 ia16_qhm _ _ hL1 hl1 ?o207 ?o208 (hx_D_row vi16_0 ?o209 zx_52) ls ?o210 hW hT hM f_x_90 nia16_qhm af_qwd (lv_sub hl [0, 2, 3] rfl)
              case o207 => omega
              case o208 => omega
              case o209 => omega
              case o210 => omega
            · skip
              refine lv_iload_n hx hb dX10_walk_24 rfl (lv_at hl 1 rfl) ?_
              refine hb_if_ne (zx := iv9_2.toInt) (tgt := 40) hx hb rfl dX10_walk_25 ?o211 (fun c_54 => ?_) (fun c_54 => ?_)
              case o211 => decide
              · skip
                refine lv_ldcw (v := 1000000000) hx hb hown (hts _ kw_1678) dX10_walk_40 ?_
                refine lv_istore (lv' := [(4, .int (1000000000 : Int32)), (3, .int iv16_3), (2, .int iv9_2), (1, .int x_1), (0, .ref x)]) hx hb dX10_walk_43 hl ?o212 rfl (fun ls hl => ?_)
                case o212 => decide
                refine lv_iconst (v := 0) hx hb dX10_walk_45 ?o213 ?_
                case o213 => decide
                refine lv_istore (lv' := [(5, .int (0 : Int32)), (4, .int (1000000000 : Int32)), (3, .int iv16_3), (2, .int iv9_2), (1, .int x_1), (0, .ref x)]) hx hb dX10_walk_46 hl ?o214 rfl (fun ls hl => ?_)
                case o214 => decide
                have loop48 : ∀ (n48 : Nat) (iv48_4 iv48_5 : Int32) (H : Heap) (locs : List Loc) (hL1 : List Nat) (hl1 : hx_h), -2147483648 ≤ iv48_4.toInt → iv48_4.toInt ≤ 2147483647 → 0 ≤ iv48_5.toInt → iv48_5.toInt ≤ 8 → ((iv9_2.toInt = 0 ∧ 0 ≤ iv48_4.toInt ∧ iv48_4.toInt ≤ 198 ∧ iv48_4.toInt = (hx_fr lf agf dxf dyf n0.toInt) iv16_3.toInt n0.toInt) ∨ (iv9_2.toInt ≠ 0 ∧ hx_best (hx_fr lf agf dxf dyf n0.toInt) ia16_qhm iv9_2.toInt iv16_3.toInt iv48_5.toInt iv48_4.toInt)) → (iv48_5.toInt ≤ n0.toInt) → ∀ (ls : Array Slot), 8 - iv48_5.toInt < (n48 : Int) → hx_W T_tb (P_ty dA) (dC, dI) vwCl (hx_A L sz) s.heap hL1 hl1 s H locs → hx_T T_tb hL1 hl1 → hx_S T_tb [(10, 90), (10, 92), (113, 0), (114, 0)] L h hL1 hl1 → hl1.2.1 x 90 = n0 → hl1.2.1 qwd = wd0 → hl1.2.1 qhm = ia16_qhm → lv_has ls 6 [(5, .int iv48_5), (4, .int iv48_4), (3, .int iv16_3), (2, .int iv9_2), (1, .int x_1), (0, .ref x)] → W p l e ({ frames := 2, cells := 0, slots := 0, locals := 49 }) s m ([.ref x] : List Value).toArray below meth c H locs 0 0 (MQ below (va_Qi (fun (r : Int32) (u : List Nat × hx_h) => (∃ (ln1 : Int32) (wm1 : Int32) (wd1 : Nat → Int32), u.2.2.1 x 90 = ln1 ∧ u.2.2.1 x 92 = wm1 ∧ u.2.2.1 qwd = wd1 ∧ (ln1.toInt = 0 ∧ wm1.toInt = n0.toInt ∧ hx_WA (hx_fr lf agf dxf dyf n0.toInt) n0.toInt lf wd1 r.toInt)) ∧ hx_T T_tb u.1 u.2 ∧ hx_S T_tb [(10, 90), (10, 92), (113, 0), (114, 0)] L h u.1 u.2) (hx_E T_tb (P_ty dA) (dC, dI) vwCl (hx_A L sz)) (hx_A L sz)) ([.ref x] : List Value).toArray s 0 0 (hx_A L sz)) (F0 m 48 ls []) := by
                  intro n48
                  induction n48 with
                  | zero => intro iv48_4 iv48_5 H locs hL1 hl1 bliv48_4 buiv48_4 bliv48_5 buiv48_5 vi48_0 vi48_1 ls hn48; exfalso; omega
                  | succ n48 ih48 =>
                    intro iv48_4 iv48_5 H locs hL1 hl1 bliv48_4 buiv48_4 bliv48_5 buiv48_5 vi48_0 vi48_1 ls hn48 hW hT hM f_x_90 af_qwd nia16_qhm hl
                    refine lv_iload hx hb dX10_walk_48 (lv_at hl 0 rfl) ?_
                    refine lv_aload_n hx hb dX10_walk_50 rfl (lv_at hl 5 rfl) ?_
                    refine hk_geti hx hb hts hC_10 hown hW (gx.S hM) tt_10 90 ?o215 rfl kw_1233 ⟨rfl, rfl, rfl⟩ f_x_90 dX10_walk_51 ?_
                    case o215 => decide
                    refine hb_icmp_ge (zx := iv48_5.toInt) (zy := n0.toInt) (tgt := 105) hx hb rfl rfl dX10_walk_54 ?o216 (fun c_55 => ?_) (fun c_55 => ?_)
                    case o216 => decide
                    · skip
                      have hkn : iv48_5.toInt = n0.toInt := ?o217
                      case o217 => omega
                      have hbst : (iv9_2.toInt = 0 ∧ 0 ≤ iv48_4.toInt ∧ iv48_4.toInt ≤ 198 ∧ iv48_4.toInt = (hx_fr lf agf dxf dyf n0.toInt) iv16_3.toInt n0.toInt) ∨ (iv9_2.toInt ≠ 0 ∧ iv9_2.toInt < 2 ^ n0.toInt.toNat ∧ hx_best (hx_fr lf agf dxf dyf n0.toInt) ia16_qhm iv9_2.toInt iv16_3.toInt n0.toInt iv48_4.toInt) := vi48_0.elim (fun q => Or.inl q) (fun q => Or.inr ⟨q.1, ?o218, by have w := q.2; rw [hkn] at w; exact w⟩)
                      case o218 => omega
                      refine lv_aload_n hx hb dX10_walk_105 rfl (lv_at hl 5 rfl) ?_
                      refine hk_getr hx hb hts hC_10 hown hW (gx.S hM) tt_10 94 ?o219 rfl kw_1237 ⟨rfl, rfl, rfl⟩ ((hM.o gx trivial rfl).2.trans f_x_94) dX10_walk_106 ?_
                      case o219 => decide
                      refine lv_bipush (v := 9) hx hb dX10_walk_109 ?o220 ?_
                      case o220 => decide
                      refine lv_iload_n hx hb dX10_walk_111 rfl (lv_at hl 3 rfl) ?_
                      refine lv_imul hx hb dX10_walk_112 ?_
                      refine lv_topi (fun x_56 ex_56 => ?_)
                      have zx_56 : x_56.toInt = 9 * iv9_2.toInt := ?o221
                      case o221 =>
                        rw [ex_56]
                        refine i32_mul ?o222 rfl rfl ?o223 ?o224
                        case o222 => decide
                        case o223 => omega
                        case o224 => omega
                      refine lv_iload_n hx hb dX10_walk_113 rfl (lv_at hl 2 rfl) ?_
                      refine lv_iadd hx hb dX10_walk_114 ?_
                      have rg_57 := i32_r x_56
                      have rg_58 := i32_r iv16_3
                      refine lv_topi (fun x_59 ex_59 => ?_)
                      have zx_59 : x_59.toInt = x_56.toInt + iv16_3.toInt := ?o225
                      case o225 =>
                        rw [ex_59]
                        refine i32_add rfl rfl ?o226 ?o227
                        case o226 => omega
                        case o227 => omega
                      refine lv_iload hx hb dX10_walk_115 (lv_at hl 1 rfl) ?_
                      have nia16_qhmO := nia16_qhm
                      refine hx_iast hx hb hW hT (hx_S.rf (M := [(114, 0)])) (gqhm.S hM) tt_114 rfl ⟨?o228, ?o229⟩ rfl (i32_r _) (List.mem_singleton.mpr rfl) dX10_walk_117 (fun H locs h_60 eh_60 hW hT hs => ?_)
                      case o228 => omega
                      case o229 => omega
                      replace f_x_90 := (hs.o (gx.S hM) trivial rfl).1.trans f_x_90
                      replace af_qwd : h_60.2.1 qwd = wd0 := (funext fun j => (hs.a (gqwd.S hM) rfl j).1).trans af_qwd
                      replace hM := hM.tr (hs.mono ?o230)
                      case o230 => decide
                      obtain ⟨fa_61, dfa_61⟩ : ∃ g : Nat → Int32, g = hx_up ia16_qhm x_59.toNatClampNeg iv48_4 := ⟨_, rfl⟩
                      have nfa_61 : h_60.2.1 qhm = fa_61 := ?o231
                      case o231 =>
                        rw [eh_60, dfa_61, ← nia16_qhmO]
                        exact hx_pi_fun _ _ _ _
                      obtain ⟨x_62, ex_62⟩ : ∃ y : Int32, y = iv16_3 + Int32.ofInt 1 := ⟨_, rfl⟩
                      have zx_62 : x_62.toInt = iv16_3.toInt + (1) := ?o232
                      case o232 =>
                        rw [ex_62]
                        refine i32_add rfl ?o233 ?o234 ?o235
                        case o233 => decide
                        case o234 => omega
                        case o235 => omega
                      refine lv_iinc (v := x_62) (lv' := [(3, .int x_62), (5, .int iv48_5), (4, .int iv48_4), (2, .int iv9_2), (1, .int x_1), (0, .ref x)]) hx hb dX10_walk_118 hl (k := 2) rfl ex_62.symm ?o236 rfl (fun ls hl => ?_)
                      case o236 => decide
                      refine lv_goto (tgt := 16) hx hb dX10_walk_121 ?o237 ?_
                      case o237 => decide
                      refine ih16 x_62 fa_61 _ _ hL1 h_60 ?o238 ?o239 (hx_D_put vi16_0 ?o240 ?o241 ?o242 ?o243 ?o244 ?o245 rfl dfa_61 zx_62 hbst) ls ?o246 hW hT hM f_x_90 nfa_61 af_qwd (lv_sub hl [0, 3, 4, 5] rfl)
                      case o238 => omega
                      case o239 => omega
                      case o240 => omega
                      case o241 => omega
                      case o242 => omega
                      case o243 => omega
                      case o244 => omega
                      case o245 => omega
                      case o246 => omega
                    · skip
                      have hbits := hx_bits (L := iv9_2) (K := iv48_5) ?o247 ?o248 ?o249 ?o250
                      case o247 => omega
                      case o248 => omega
                      case o249 => omega
                      case o250 => omega
                      refine lv_iload_n hx hb dX10_walk_57 rfl (lv_at hl 3 rfl) ?_
                      refine lv_iload hx hb dX10_walk_58 (lv_at hl 0 rfl) ?_
                      refine lv_ishr hx hb dX10_walk_60 ?_
                      refine lv_topi (fun x_63 ex_63 => ?_)
                      refine lv_iconst (v := 1) hx hb dX10_walk_61 ?o251 ?_
                      case o251 => decide
                      refine lv_iand hx hb dX10_walk_62 ?_
                      refine lv_topi (fun x_64 ex_64 => ?_)
                      have zx_64 : 0 ≤ x_64.toInt ∧ x_64.toInt ≤ 1 := ?o252
                      case o252 =>
                        rw [ex_64]
                        refine hx_andR ?o253 ?o254
                        case o253 => decide
                        case o254 => decide
                      refine lv_iconst (v := 1) hx hb dX10_walk_63 ?o255 ?_
                      case o255 => decide
                      refine hb_icmp_ne (zx := x_64.toInt) (zy := 1) (tgt := 99) hx hb rfl ?o256 dX10_walk_64 ?o257 (fun c_65 => ?_) (fun c_65 => ?_)
                      case o256 => decide
                      case o257 => decide
                      · skip
                        have hbf := hx_bit_no hbits.1 ex_63 ex_64 ?o258
                        case o258 => omega
                        obtain ⟨x_66, ex_66⟩ : ∃ y : Int32, y = iv48_5 + Int32.ofInt 1 := ⟨_, rfl⟩
                        have rg_67 := i32_r iv48_5
                        have zx_66 : x_66.toInt = iv48_5.toInt + (1) := ?o259
                        case o259 =>
                          rw [ex_66]
                          refine i32_add rfl ?o260 ?o261 ?o262
                          case o260 => decide
                          case o261 => omega
                          case o262 => omega
                        refine lv_iinc (v := x_66) (lv' := [(5, .int x_66), (4, .int iv48_4), (3, .int iv16_3), (2, .int iv9_2), (1, .int x_1), (0, .ref x)]) hx hb dX10_walk_99 hl (k := 0) rfl ex_66.symm ?o263 rfl (fun ls hl => ?_)
                        case o263 => decide
                        refine lv_goto (tgt := 48) hx hb dX10_walk_102 ?o264 ?_
                        case o264 => decide
                        refine ih48 iv48_4 x_66 _ _ hL1 hl1 (i32_r _).1 (i32_r _).2 ?o265 ?o266 (vi48_0.elim (fun q => Or.inl q) (fun q => Or.inr ⟨q.1, hx_best_no q.2 hbf zx_66⟩)) ?o267 ls ?o268 hW hT hM f_x_90 af_qwd nia16_qhm (lv_sub hl [0, 1, 2, 3, 4, 5] rfl)
                        case o265 => omega
                        case o266 => omega
                        case o267 => omega
                        case o268 => omega
                      · skip
                        have hbt := hx_bit_yes hbits.1 ex_63 ex_64 ?o269
                        case o269 => omega
                        refine lv_iload hx hb dX10_walk_67 (lv_at hl 1 rfl) ?_
                        refine lv_aload_n hx hb dX10_walk_69 rfl (lv_at hl 5 rfl) ?_
                        refine lv_iload_n hx hb dX10_walk_70 rfl (lv_at hl 2 rfl) ?_
                        refine lv_iload hx hb dX10_walk_71 (lv_at hl 0 rfl) ?_
                        refine hx_goi (hx_runV (As := [.int iv16_3, .int iv48_5]) (rest := [.int iv48_4]) ⟨hx, hb, hml, hown, hts⟩ hW (gx.S hM) tt_10 (T := TX10) (N := 98) rfl (t_X10_far_2 l dC dI dA hL1 hl1 H.size x iv16_3 iv48_5 hT (gx.S hM) qls (gqls.S hM) ((hM.o gx trivial rfl).2.trans f_x_91) qag (gqag.S hM) ((hM.o gx trivial rfl).2.trans f_x_38) qdx (gqdx.S hM) ((hM.o gx trivial rfl).2.trans f_x_24) qdy (gqdy.S hM) ((hM.o gx trivial rfl).2.trans f_x_25) lf (hx_afS hM gqls rfl af_qls) agf (hx_afS hM gqag rfl af_qag) dxf (hx_afS hM gqdx rfl af_qdx) dyf (hx_afS hM gqdy rfl af_qdy) n0 f_x_90 ⟨?o270, ?o271⟩ ⟨?o272, ?o273⟩) (cwV 2 hts (hx_gV kw_1725 kw_1722 kw_1724 kw_90 kw_103) rfl rfl rfl (by decide +kernel) ⟨Nat.le_of_ble_eq_true rfl, Nat.le_of_ble_eq_true rfl⟩) rfl hl.1 rfl (Nat.le_of_ble_eq_true rfl) dX10_walk_73 ⟨Nat.le_of_ble_eq_true rfl, Nat.le_of_ble_eq_true rfl⟩) hW (fun r_70 L_68 h_69 H locs p_71 hW => ?_)
                        case o270 => omega
                        case o271 => omega
                        case o272 => omega
                        case o273 => omega
                        obtain ⟨hr_72, hT, hs⟩ := p_71
                        replace hT : hx_T T_tb L_68 h_69 := hT
                        replace hs : hx_S T_tb [] hL1 hl1 L_68 h_69 := hs
                        replace f_x_90 := (hs.o (gx.S hM) trivial rfl).1.trans f_x_90
                        replace af_qwd : h_69.2.1 qwd = wd0 := (funext fun j => (hs.a (gqwd.S hM) rfl j).1).trans af_qwd
                        replace nia16_qhm : h_69.2.1 qhm = ia16_qhm := (funext fun j => (hs.a (gqhm.S hM) rfl j).1).trans nia16_qhm
                        replace hM := hM.tr (hs.mono ?o274)
                        case o274 => decide
                        refine lv_aload_n hx hb dX10_walk_76 rfl (lv_at hl 5 rfl) ?_
                        refine hk_getr hx hb hts hC_10 hown hW (gx.S hM) tt_10 94 ?o275 rfl kw_1237 ⟨rfl, rfl, rfl⟩ ((hM.o gx trivial rfl).2.trans f_x_94) dX10_walk_77 ?_
                        case o275 => decide
                        refine lv_bipush (v := 9) hx hb dX10_walk_80 ?o276 ?_
                        case o276 => decide
                        refine lv_iload_n hx hb dX10_walk_82 rfl (lv_at hl 3 rfl) ?_
                        refine lv_iconst (v := 1) hx hb dX10_walk_83 ?o277 ?_
                        case o277 => decide
                        refine lv_iload hx hb dX10_walk_84 (lv_at hl 0 rfl) ?_
                        refine lv_ishl hx hb dX10_walk_86 ?_
                        refine lv_topi (fun x_73 ex_73 => ?_)
                        have zx_73 : 1 ≤ x_73.toInt ∧ x_73.toInt ≤ 128 := ?o278
                        case o278 =>
                          rw [ex_73]
                          refine hx_shl7 ?o279 ?o280
                          case o279 => omega
                          case o280 => omega
                        refine lv_ixor hx hb dX10_walk_87 ?_
                        refine lv_topi (fun x_74 ex_74 => ?_)
                        have hX := hbits.2.2.2 hbt
                        rw [← ex_73, ← ex_74] at hX
                        have hX1 := hX.1; have hX2 := hX.2.1; have hX3 := hX.2.2.1
                        refine lv_imul hx hb dX10_walk_88 ?_
                        refine lv_topi (fun x_75 ex_75 => ?_)
                        have zx_75 : x_75.toInt = 9 * x_74.toInt := ?o281
                        case o281 =>
                          rw [ex_75]
                          refine i32_mul ?o282 rfl rfl ?o283 ?o284
                          case o282 => decide
                          case o283 => omega
                          case o284 => omega
                        refine lv_iload hx hb dX10_walk_89 (lv_at hl 0 rfl) ?_
                        refine lv_iadd hx hb dX10_walk_91 ?_
                        have rg_76 := i32_r x_75
                        have rg_77 := i32_r iv48_5
                        refine lv_topi (fun x_78 ex_78 => ?_)
                        have zx_78 : x_78.toInt = x_75.toInt + iv48_5.toInt := ?o285
                        case o285 =>
                          rw [ex_78]
                          refine i32_add rfl rfl ?o286 ?o287
                          case o286 => omega
                          case o287 => omega
                        refine hx_iald hx hb hW hT (gqhm.S hM) tt_114 rfl ⟨?o288, ?o289⟩ dX10_walk_92 (fun x_79 ex_79 lx_79 ux_79 => ?_)
                        case o288 => omega
                        case o289 => omega
                        have ax_79 : x_79 = ia16_qhm x_78.toNatClampNeg := ex_79.trans (congrFun nia16_qhm _)
                        have hh : x_79.toInt = (ia16_qhm (9 * (iv9_2.toInt - hx_p2 iv48_5.toInt) + iv48_5.toInt).toNat).toInt := (congrArg Int32.toInt ax_79).trans (congrArg (fun z => (ia16_qhm z).toInt) (by unfold Int32.toNatClampNeg; omega))
                        have hdd := vi16_0.1 (iv9_2.toInt - hx_p2 iv48_5.toInt) iv48_5.toInt ?o290 ?o291 ?o292 ?o293
                        case o290 => omega
                        case o291 => omega
                        case o292 => omega
                        case o293 => omega
                        have hdd1 := hdd.1; have hdd2 := hdd.2.1
                        refine lv_iadd hx hb dX10_walk_93 ?_
                        have rg_80 := i32_r r_70
                        have rg_81 := i32_r x_79
                        refine lv_topi (fun x_82 ex_82 => ?_)
                        have zx_82 : x_82.toInt = r_70.toInt + x_79.toInt := ?o294
                        case o294 =>
                          rw [ex_82]
                          refine i32_add rfl rfl ?o295 ?o296
                          case o295 => omega
                          case o296 => omega
                        refine hx_goi (hx_runS (As := [.int iv48_4, .int x_82]) (rest := []) ⟨hx, hb, hml, hown, hts⟩ hW (t_X10_lesser_2 l dC dI dA L_68 h_69 H.size iv48_4 x_82 hT) (va_cwS 2 hts (hx_gS kw_1705 kw_1703 kw_1704 kw_103) rfl rfl rfl (by decide +kernel) ⟨Nat.le_of_ble_eq_true rfl, Nat.le_of_ble_eq_true rfl⟩) rfl hl.1 rfl (Nat.le_of_ble_eq_true rfl) dX10_walk_94 ⟨Nat.le_of_ble_eq_true rfl, Nat.le_of_ble_eq_true rfl⟩) hW (fun r_85 L_83 h_84 H locs p_86 hW => ?_)
                        obtain ⟨hr_87, hT, hs⟩ := p_86
                        replace hT : hx_T T_tb L_83 h_84 := hT
                        replace hs : hx_S T_tb [] L_68 h_69 L_83 h_84 := hs
                        replace f_x_90 := (hs.o (gx.S hM) trivial rfl).1.trans f_x_90
                        replace af_qwd : h_84.2.1 qwd = wd0 := (funext fun j => (hs.a (gqwd.S hM) rfl j).1).trans af_qwd
                        replace nia16_qhm : h_84.2.1 qhm = ia16_qhm := (funext fun j => (hs.a (gqhm.S hM) rfl j).1).trans nia16_qhm
                        replace ex_79 := ex_79.trans (hs.a (gqhm.S hM) rfl _).1.symm
                        replace hM := hM.tr (hs.mono ?o297)
                        case o297 => decide
                        refine lv_istore (lv' := [(4, .int r_85), (5, .int iv48_5), (3, .int iv16_3), (2, .int iv9_2), (1, .int x_1), (0, .ref x)]) hx hb dX10_walk_97 hl ?o298 rfl (fun ls hl => ?_)
                        case o298 => decide
                        have hcand : x_82.toInt = (hx_fr lf agf dxf dyf n0.toInt) iv16_3.toInt iv48_5.toInt + (ia16_qhm (9 * (iv9_2.toInt - hx_p2 iv48_5.toInt) + iv48_5.toInt).toNat).toInt := ?o299
                        case o299 => rw [zx_82, hr_72.1, hh]
                        have hF0 : 0 ≤ (hx_fr lf agf dxf dyf n0.toInt) iv16_3.toInt iv48_5.toInt := ?o300
                        case o300 =>
                          rw [← hr_72.1]
                          exact hr_72.2.1
                        have hF1 : (hx_fr lf agf dxf dyf n0.toInt) iv16_3.toInt iv48_5.toInt ≤ 198 := ?o301
                        case o301 =>
                          rw [← hr_72.1]
                          exact hr_72.2.2
                        obtain ⟨x_88, ex_88⟩ : ∃ y : Int32, y = iv48_5 + Int32.ofInt 1 := ⟨_, rfl⟩
                        have zx_88 : x_88.toInt = iv48_5.toInt + (1) := ?o302
                        case o302 =>
                          rw [ex_88]
                          refine i32_add rfl ?o303 ?o304 ?o305
                          case o303 => decide
                          case o304 => omega
                          case o305 => omega
                        refine lv_iinc (v := x_88) (lv' := [(5, .int x_88), (4, .int r_85), (3, .int iv16_3), (2, .int iv9_2), (1, .int x_1), (0, .ref x)]) hx hb dX10_walk_99 hl (k := 1) rfl ex_88.symm ?o306 rfl (fun ls hl => ?_)
                        case o306 => decide
                        refine lv_goto (tgt := 48) hx hb dX10_walk_102 ?o307 ?_
                        case o307 => decide
                        refine ih48 r_85 x_88 _ _ L_83 h_84 (i32_r _).1 (i32_r _).2 ?o308 ?o309 (vi48_0.elim (fun q => by exfalso; have hl0 : iv9_2.toInt = 0 := q.1; omega) (fun q => Or.inr ⟨q.1, hx_best_yes vi16_0 q.2 hbt hX2 hX3 ?o310 ?o311 ?o312 hF0 hF1 hcand (hr_87.elim (fun w => Or.inl ⟨congrArg Int32.toInt w.1, w.2⟩) (fun w => Or.inr ⟨congrArg Int32.toInt w.1, w.2⟩)) zx_88⟩)) ?o313 ls ?o314 hW hT hM f_x_90 af_qwd nia16_qhm (lv_sub hl [0, 1, 2, 3, 4, 5] rfl)
                        case o308 => omega
                        case o309 => omega
                        case o310 => omega
                        case o311 => omega
                        case o312 => omega
                        case o313 => omega
                        case o314 => omega
                have zk_1000000000 : (1000000000 : Int32).toInt = 1000000000 := ?o315
                case o315 => decide
                have zk_0 : (0 : Int32).toInt = 0 := ?o316
                case o316 => decide
                refine loop48 9 (1000000000 : Int32) (0 : Int32) _ _ hL1 hl1 ?o317 ?o318 ?o319 ?o320 (Or.inr ⟨?o321, hx_best0⟩) ?o322 ls ?o323 hW hT hM f_x_90 af_qwd nia16_qhm hl
                case o317 => decide
                case o318 => decide
                case o319 => decide
                case o320 => decide
                case o321 => omega
                case o322 => omega
                case o323 => omega
              · skip
                refine lv_aload_n hx hb dX10_walk_28 rfl (lv_at hl 3 rfl) ?_
                refine lv_iload_n hx hb dX10_walk_29 rfl (lv_at hl 0 rfl) ?_
                refine lv_aload_n hx hb dX10_walk_30 rfl (lv_at hl 3 rfl) ?_
                refine hk_geti hx hb hts hC_10 hown hW (gx.S hM) tt_10 90 ?o324 rfl kw_1233 ⟨rfl, rfl, rfl⟩ f_x_90 dX10_walk_31 ?_
                case o324 => decide
                refine hx_goi (hx_runV (As := [.int iv16_3, .int n0]) (rest := []) ⟨hx, hb, hml, hown, hts⟩ hW (gx.S hM) tt_10 (T := TX10) (N := 98) rfl (t_X10_far_2 l dC dI dA hL1 hl1 H.size x iv16_3 n0 hT (gx.S hM) qls (gqls.S hM) ((hM.o gx trivial rfl).2.trans f_x_91) qag (gqag.S hM) ((hM.o gx trivial rfl).2.trans f_x_38) qdx (gqdx.S hM) ((hM.o gx trivial rfl).2.trans f_x_24) qdy (gqdy.S hM) ((hM.o gx trivial rfl).2.trans f_x_25) lf (hx_afS hM gqls rfl af_qls) agf (hx_afS hM gqag rfl af_qag) dxf (hx_afS hM gqdx rfl af_qdx) dyf (hx_afS hM gqdy rfl af_qdy) n0 f_x_90 ⟨?o325, ?o326⟩ ⟨?o327, ?o328⟩) (cwV 2 hts (hx_gV kw_1725 kw_1722 kw_1724 kw_90 kw_103) rfl rfl rfl (by decide +kernel) ⟨Nat.le_of_ble_eq_true rfl, Nat.le_of_ble_eq_true rfl⟩) rfl hl.1 rfl (Nat.le_of_ble_eq_true rfl) dX10_walk_34 ⟨Nat.le_of_ble_eq_true rfl, Nat.le_of_ble_eq_true rfl⟩) hW (fun r_91 L_89 h_90 H locs p_92 hW => ?_)
                case o325 => omega
                case o326 => omega
                case o327 => omega
                case o328 => omega
                obtain ⟨hr_93, hT, hs⟩ := p_92
                replace hT : hx_T T_tb L_89 h_90 := hT
                replace hs : hx_S T_tb [] hL1 hl1 L_89 h_90 := hs
                replace f_x_90 := (hs.o (gx.S hM) trivial rfl).1.trans f_x_90
                replace af_qwd : h_90.2.1 qwd = wd0 := (funext fun j => (hs.a (gqwd.S hM) rfl j).1).trans af_qwd
                replace nia16_qhm : h_90.2.1 qhm = ia16_qhm := (funext fun j => (hs.a (gqhm.S hM) rfl j).1).trans nia16_qhm
                replace hM := hM.tr (hs.mono ?o329)
                case o329 => decide
                refine lv_goto (tgt := 43) hx hb dX10_walk_37 ?o330 ?_
                case o330 => decide
                refine lv_istore (lv' := [(4, .int r_91), (3, .int iv16_3), (2, .int iv9_2), (1, .int x_1), (0, .ref x)]) hx hb dX10_walk_43 hl ?o331 rfl (fun ls hl => ?_)
                case o331 => decide
                refine lv_iconst (v := 0) hx hb dX10_walk_45 ?o332 ?_
                case o332 => decide
                refine lv_istore (lv' := [(5, .int (0 : Int32)), (4, .int r_91), (3, .int iv16_3), (2, .int iv9_2), (1, .int x_1), (0, .ref x)]) hx hb dX10_walk_46 hl ?o333 rfl (fun ls hl => ?_)
                case o333 => decide
                have loop48 : ∀ (n48 : Nat) (iv48_4 iv48_5 : Int32) (H : Heap) (locs : List Loc) (hL1 : List Nat) (hl1 : hx_h), -2147483648 ≤ iv48_4.toInt → iv48_4.toInt ≤ 2147483647 → 0 ≤ iv48_5.toInt → iv48_5.toInt ≤ 8 → ((iv9_2.toInt = 0 ∧ 0 ≤ iv48_4.toInt ∧ iv48_4.toInt ≤ 198 ∧ iv48_4.toInt = (hx_fr lf agf dxf dyf n0.toInt) iv16_3.toInt n0.toInt) ∨ (iv9_2.toInt ≠ 0 ∧ hx_best (hx_fr lf agf dxf dyf n0.toInt) ia16_qhm iv9_2.toInt iv16_3.toInt iv48_5.toInt iv48_4.toInt)) → (iv48_5.toInt ≤ n0.toInt) → ∀ (ls : Array Slot), 8 - iv48_5.toInt < (n48 : Int) → hx_W T_tb (P_ty dA) (dC, dI) vwCl (hx_A L sz) s.heap hL1 hl1 s H locs → hx_T T_tb hL1 hl1 → hx_S T_tb [(10, 90), (10, 92), (113, 0), (114, 0)] L h hL1 hl1 → hl1.2.1 x 90 = n0 → hl1.2.1 qwd = wd0 → hl1.2.1 qhm = ia16_qhm → lv_has ls 6 [(5, .int iv48_5), (4, .int iv48_4), (3, .int iv16_3), (2, .int iv9_2), (1, .int x_1), (0, .ref x)] → W p l e ({ frames := 2, cells := 0, slots := 0, locals := 49 }) s m ([.ref x] : List Value).toArray below meth c H locs 0 0 (MQ below (va_Qi (fun (r : Int32) (u : List Nat × hx_h) => (∃ (ln1 : Int32) (wm1 : Int32) (wd1 : Nat → Int32), u.2.2.1 x 90 = ln1 ∧ u.2.2.1 x 92 = wm1 ∧ u.2.2.1 qwd = wd1 ∧ (ln1.toInt = 0 ∧ wm1.toInt = n0.toInt ∧ hx_WA (hx_fr lf agf dxf dyf n0.toInt) n0.toInt lf wd1 r.toInt)) ∧ hx_T T_tb u.1 u.2 ∧ hx_S T_tb [(10, 90), (10, 92), (113, 0), (114, 0)] L h u.1 u.2) (hx_E T_tb (P_ty dA) (dC, dI) vwCl (hx_A L sz)) (hx_A L sz)) ([.ref x] : List Value).toArray s 0 0 (hx_A L sz)) (F0 m 48 ls []) := by
                  intro n48
                  induction n48 with
                  | zero => intro iv48_4 iv48_5 H locs hL1 hl1 bliv48_4 buiv48_4 bliv48_5 buiv48_5 vi48_0 vi48_1 ls hn48; exfalso; omega
                  | succ n48 ih48 =>
                    intro iv48_4 iv48_5 H locs hL1 hl1 bliv48_4 buiv48_4 bliv48_5 buiv48_5 vi48_0 vi48_1 ls hn48 hW hT hM f_x_90 af_qwd nia16_qhm hl
                    refine lv_iload hx hb dX10_walk_48 (lv_at hl 0 rfl) ?_
                    refine lv_aload_n hx hb dX10_walk_50 rfl (lv_at hl 5 rfl) ?_
                    refine hk_geti hx hb hts hC_10 hown hW (gx.S hM) tt_10 90 ?o334 rfl kw_1233 ⟨rfl, rfl, rfl⟩ f_x_90 dX10_walk_51 ?_
                    case o334 => decide
                    refine hb_icmp_ge (zx := iv48_5.toInt) (zy := n0.toInt) (tgt := 105) hx hb rfl rfl dX10_walk_54 ?o335 (fun c_94 => ?_) (fun c_94 => ?_)
                    case o335 => decide
                    · skip
                      have hkn : iv48_5.toInt = n0.toInt := ?o336
                      case o336 => omega
                      have hbst : (iv9_2.toInt = 0 ∧ 0 ≤ iv48_4.toInt ∧ iv48_4.toInt ≤ 198 ∧ iv48_4.toInt = (hx_fr lf agf dxf dyf n0.toInt) iv16_3.toInt n0.toInt) ∨ (iv9_2.toInt ≠ 0 ∧ iv9_2.toInt < 2 ^ n0.toInt.toNat ∧ hx_best (hx_fr lf agf dxf dyf n0.toInt) ia16_qhm iv9_2.toInt iv16_3.toInt n0.toInt iv48_4.toInt) := vi48_0.elim (fun q => Or.inl q) (fun q => Or.inr ⟨q.1, ?o337, by have w := q.2; rw [hkn] at w; exact w⟩)
                      case o337 => omega
                      refine lv_aload_n hx hb dX10_walk_105 rfl (lv_at hl 5 rfl) ?_
                      refine hk_getr hx hb hts hC_10 hown hW (gx.S hM) tt_10 94 ?o338 rfl kw_1237 ⟨rfl, rfl, rfl⟩ ((hM.o gx trivial rfl).2.trans f_x_94) dX10_walk_106 ?_
                      case o338 => decide
                      refine lv_bipush (v := 9) hx hb dX10_walk_109 ?o339 ?_
                      case o339 => decide
                      refine lv_iload_n hx hb dX10_walk_111 rfl (lv_at hl 3 rfl) ?_
                      refine lv_imul hx hb dX10_walk_112 ?_
                      refine lv_topi (fun x_95 ex_95 => ?_)
                      have zx_95 : x_95.toInt = 9 * iv9_2.toInt := ?o340
                      case o340 =>
                        rw [ex_95]
                        refine i32_mul ?o341 rfl rfl ?o342 ?o343
                        case o341 => decide
                        case o342 => omega
                        case o343 => omega
                      refine lv_iload_n hx hb dX10_walk_113 rfl (lv_at hl 2 rfl) ?_
                      refine lv_iadd hx hb dX10_walk_114 ?_
                      have rg_96 := i32_r x_95
                      have rg_97 := i32_r iv16_3
                      refine lv_topi (fun x_98 ex_98 => ?_)
                      have zx_98 : x_98.toInt = x_95.toInt + iv16_3.toInt := ?o344
                      case o344 =>
                        rw [ex_98]
                        refine i32_add rfl rfl ?o345 ?o346
                        case o345 => omega
                        case o346 => omega
                      refine lv_iload hx hb dX10_walk_115 (lv_at hl 1 rfl) ?_
                      have nia16_qhmO := nia16_qhm
                      refine hx_iast hx hb hW hT (hx_S.rf (M := [(114, 0)])) (gqhm.S hM) tt_114 rfl ⟨?o347, ?o348⟩ rfl (i32_r _) (List.mem_singleton.mpr rfl) dX10_walk_117 (fun H locs h_99 eh_99 hW hT hs => ?_)
                      case o347 => omega
                      case o348 => omega
                      replace f_x_90 := (hs.o (gx.S hM) trivial rfl).1.trans f_x_90
                      replace af_qwd : h_99.2.1 qwd = wd0 := (funext fun j => (hs.a (gqwd.S hM) rfl j).1).trans af_qwd
                      replace hM := hM.tr (hs.mono ?o349)
                      case o349 => decide
                      obtain ⟨fa_100, dfa_100⟩ : ∃ g : Nat → Int32, g = hx_up ia16_qhm x_98.toNatClampNeg iv48_4 := ⟨_, rfl⟩
                      have nfa_100 : h_99.2.1 qhm = fa_100 := ?o350
                      case o350 =>
                        rw [eh_99, dfa_100, ← nia16_qhmO]
                        exact hx_pi_fun _ _ _ _
                      obtain ⟨x_101, ex_101⟩ : ∃ y : Int32, y = iv16_3 + Int32.ofInt 1 := ⟨_, rfl⟩
                      have zx_101 : x_101.toInt = iv16_3.toInt + (1) := ?o351
                      case o351 =>
                        rw [ex_101]
                        refine i32_add rfl ?o352 ?o353 ?o354
                        case o352 => decide
                        case o353 => omega
                        case o354 => omega
                      refine lv_iinc (v := x_101) (lv' := [(3, .int x_101), (5, .int iv48_5), (4, .int iv48_4), (2, .int iv9_2), (1, .int x_1), (0, .ref x)]) hx hb dX10_walk_118 hl (k := 2) rfl ex_101.symm ?o355 rfl (fun ls hl => ?_)
                      case o355 => decide
                      refine lv_goto (tgt := 16) hx hb dX10_walk_121 ?o356 ?_
                      case o356 => decide
                      refine ih16 x_101 fa_100 _ _ hL1 h_99 ?o357 ?o358 (hx_D_put vi16_0 ?o359 ?o360 ?o361 ?o362 ?o363 ?o364 rfl dfa_100 zx_101 hbst) ls ?o365 hW hT hM f_x_90 nfa_100 af_qwd (lv_sub hl [0, 3, 4, 5] rfl)
                      case o357 => omega
                      case o358 => omega
                      case o359 => omega
                      case o360 => omega
                      case o361 => omega
                      case o362 => omega
                      case o363 => omega
                      case o364 => omega
                      case o365 => omega
                    · skip
                      have hbits := hx_bits (L := iv9_2) (K := iv48_5) ?o366 ?o367 ?o368 ?o369
                      case o366 => omega
                      case o367 => omega
                      case o368 => omega
                      case o369 => omega
                      refine lv_iload_n hx hb dX10_walk_57 rfl (lv_at hl 3 rfl) ?_
                      refine lv_iload hx hb dX10_walk_58 (lv_at hl 0 rfl) ?_
                      refine lv_ishr hx hb dX10_walk_60 ?_
                      refine lv_topi (fun x_102 ex_102 => ?_)
                      refine lv_iconst (v := 1) hx hb dX10_walk_61 ?o370 ?_
                      case o370 => decide
                      refine lv_iand hx hb dX10_walk_62 ?_
                      refine lv_topi (fun x_103 ex_103 => ?_)
                      have zx_103 : 0 ≤ x_103.toInt ∧ x_103.toInt ≤ 1 := ?o371
                      case o371 =>
                        rw [ex_103]
                        refine hx_andR ?o372 ?o373
                        case o372 => decide
                        case o373 => decide
                      refine lv_iconst (v := 1) hx hb dX10_walk_63 ?o374 ?_
                      case o374 => decide
                      refine hb_icmp_ne (zx := x_103.toInt) (zy := 1) (tgt := 99) hx hb rfl ?o375 dX10_walk_64 ?o376 (fun c_104 => ?_) (fun c_104 => ?_)
                      case o375 => decide
                      case o376 => decide
                      · skip
                        have hbf := hx_bit_no hbits.1 ex_102 ex_103 ?o377
                        case o377 => omega
                        obtain ⟨x_105, ex_105⟩ : ∃ y : Int32, y = iv48_5 + Int32.ofInt 1 := ⟨_, rfl⟩
                        have rg_106 := i32_r iv48_5
                        have zx_105 : x_105.toInt = iv48_5.toInt + (1) := ?o378
                        case o378 =>
                          rw [ex_105]
                          refine i32_add rfl ?o379 ?o380 ?o381
                          case o379 => decide
                          case o380 => omega
                          case o381 => omega
                        refine lv_iinc (v := x_105) (lv' := [(5, .int x_105), (4, .int iv48_4), (3, .int iv16_3), (2, .int iv9_2), (1, .int x_1), (0, .ref x)]) hx hb dX10_walk_99 hl (k := 0) rfl ex_105.symm ?o382 rfl (fun ls hl => ?_)
                        case o382 => decide
                        refine lv_goto (tgt := 48) hx hb dX10_walk_102 ?o383 ?_
                        case o383 => decide
                        refine ih48 iv48_4 x_105 _ _ hL1 hl1 (i32_r _).1 (i32_r _).2 ?o384 ?o385 (vi48_0.elim (fun q => Or.inl q) (fun q => Or.inr ⟨q.1, hx_best_no q.2 hbf zx_105⟩)) ?o386 ls ?o387 hW hT hM f_x_90 af_qwd nia16_qhm (lv_sub hl [0, 1, 2, 3, 4, 5] rfl)
                        case o384 => omega
                        case o385 => omega
                        case o386 => omega
                        case o387 => omega
                      · skip
                        have hbt := hx_bit_yes hbits.1 ex_102 ex_103 ?o388
                        case o388 => omega
                        refine lv_iload hx hb dX10_walk_67 (lv_at hl 1 rfl) ?_
                        refine lv_aload_n hx hb dX10_walk_69 rfl (lv_at hl 5 rfl) ?_
                        refine lv_iload_n hx hb dX10_walk_70 rfl (lv_at hl 2 rfl) ?_
                        refine lv_iload hx hb dX10_walk_71 (lv_at hl 0 rfl) ?_
                        refine hx_goi (hx_runV (As := [.int iv16_3, .int iv48_5]) (rest := [.int iv48_4]) ⟨hx, hb, hml, hown, hts⟩ hW (gx.S hM) tt_10 (T := TX10) (N := 98) rfl (t_X10_far_2 l dC dI dA hL1 hl1 H.size x iv16_3 iv48_5 hT (gx.S hM) qls (gqls.S hM) ((hM.o gx trivial rfl).2.trans f_x_91) qag (gqag.S hM) ((hM.o gx trivial rfl).2.trans f_x_38) qdx (gqdx.S hM) ((hM.o gx trivial rfl).2.trans f_x_24) qdy (gqdy.S hM) ((hM.o gx trivial rfl).2.trans f_x_25) lf (hx_afS hM gqls rfl af_qls) agf (hx_afS hM gqag rfl af_qag) dxf (hx_afS hM gqdx rfl af_qdx) dyf (hx_afS hM gqdy rfl af_qdy) n0 f_x_90 ⟨?o389, ?o390⟩ ⟨?o391, ?o392⟩) (cwV 2 hts (hx_gV kw_1725 kw_1722 kw_1724 kw_90 kw_103) rfl rfl rfl (by decide +kernel) ⟨Nat.le_of_ble_eq_true rfl, Nat.le_of_ble_eq_true rfl⟩) rfl hl.1 rfl (Nat.le_of_ble_eq_true rfl) dX10_walk_73 ⟨Nat.le_of_ble_eq_true rfl, Nat.le_of_ble_eq_true rfl⟩) hW (fun r_109 L_107 h_108 H locs p_110 hW => ?_)
                        case o389 => omega
                        case o390 => omega
                        case o391 => omega
                        case o392 => omega
                        obtain ⟨hr_111, hT, hs⟩ := p_110
                        replace hT : hx_T T_tb L_107 h_108 := hT
                        replace hs : hx_S T_tb [] hL1 hl1 L_107 h_108 := hs
                        replace f_x_90 := (hs.o (gx.S hM) trivial rfl).1.trans f_x_90
                        replace af_qwd : h_108.2.1 qwd = wd0 := (funext fun j => (hs.a (gqwd.S hM) rfl j).1).trans af_qwd
                        replace nia16_qhm : h_108.2.1 qhm = ia16_qhm := (funext fun j => (hs.a (gqhm.S hM) rfl j).1).trans nia16_qhm
                        replace hM := hM.tr (hs.mono ?o393)
                        case o393 => decide
                        refine lv_aload_n hx hb dX10_walk_76 rfl (lv_at hl 5 rfl) ?_
                        refine hk_getr hx hb hts hC_10 hown hW (gx.S hM) tt_10 94 ?o394 rfl kw_1237 ⟨rfl, rfl, rfl⟩ ((hM.o gx trivial rfl).2.trans f_x_94) dX10_walk_77 ?_
                        case o394 => decide
                        refine lv_bipush (v := 9) hx hb dX10_walk_80 ?o395 ?_
                        case o395 => decide
                        refine lv_iload_n hx hb dX10_walk_82 rfl (lv_at hl 3 rfl) ?_
                        refine lv_iconst (v := 1) hx hb dX10_walk_83 ?o396 ?_
                        case o396 => decide
                        refine lv_iload hx hb dX10_walk_84 (lv_at hl 0 rfl) ?_
                        refine lv_ishl hx hb dX10_walk_86 ?_
                        refine lv_topi (fun x_112 ex_112 => ?_)
                        have zx_112 : 1 ≤ x_112.toInt ∧ x_112.toInt ≤ 128 := ?o397
                        case o397 =>
                          rw [ex_112]
                          refine hx_shl7 ?o398 ?o399
                          case o398 => omega
                          case o399 => omega
                        refine lv_ixor hx hb dX10_walk_87 ?_
                        refine lv_topi (fun x_113 ex_113 => ?_)
                        have hX := hbits.2.2.2 hbt
                        rw [← ex_112, ← ex_113] at hX
                        have hX1 := hX.1; have hX2 := hX.2.1; have hX3 := hX.2.2.1
                        refine lv_imul hx hb dX10_walk_88 ?_
                        refine lv_topi (fun x_114 ex_114 => ?_)
                        have zx_114 : x_114.toInt = 9 * x_113.toInt := ?o400
                        case o400 =>
                          rw [ex_114]
                          refine i32_mul ?o401 rfl rfl ?o402 ?o403
                          case o401 => decide
                          case o402 => omega
                          case o403 => omega
                        refine lv_iload hx hb dX10_walk_89 (lv_at hl 0 rfl) ?_
                        refine lv_iadd hx hb dX10_walk_91 ?_
                        have rg_115 := i32_r x_114
                        have rg_116 := i32_r iv48_5
                        refine lv_topi (fun x_117 ex_117 => ?_)
                        have zx_117 : x_117.toInt = x_114.toInt + iv48_5.toInt := ?o404
                        case o404 =>
                          rw [ex_117]
                          refine i32_add rfl rfl ?o405 ?o406
                          case o405 => omega
                          case o406 => omega
                        refine hx_iald hx hb hW hT (gqhm.S hM) tt_114 rfl ⟨?o407, ?o408⟩ dX10_walk_92 (fun x_118 ex_118 lx_118 ux_118 => ?_)
                        case o407 => omega
                        case o408 => omega
                        have ax_118 : x_118 = ia16_qhm x_117.toNatClampNeg := ex_118.trans (congrFun nia16_qhm _)
                        have hh : x_118.toInt = (ia16_qhm (9 * (iv9_2.toInt - hx_p2 iv48_5.toInt) + iv48_5.toInt).toNat).toInt := (congrArg Int32.toInt ax_118).trans (congrArg (fun z => (ia16_qhm z).toInt) (by unfold Int32.toNatClampNeg; omega))
                        have hdd := vi16_0.1 (iv9_2.toInt - hx_p2 iv48_5.toInt) iv48_5.toInt ?o409 ?o410 ?o411 ?o412
                        case o409 => omega
                        case o410 => omega
                        case o411 => omega
                        case o412 => omega
                        have hdd1 := hdd.1; have hdd2 := hdd.2.1
                        refine lv_iadd hx hb dX10_walk_93 ?_
                        have rg_119 := i32_r r_109
                        have rg_120 := i32_r x_118
                        refine lv_topi (fun x_121 ex_121 => ?_)
                        have zx_121 : x_121.toInt = r_109.toInt + x_118.toInt := ?o413
                        case o413 =>
                          rw [ex_121]
                          refine i32_add rfl rfl ?o414 ?o415
                          case o414 => omega
                          case o415 => omega
                        refine hx_goi (hx_runS (As := [.int iv48_4, .int x_121]) (rest := []) ⟨hx, hb, hml, hown, hts⟩ hW (t_X10_lesser_2 l dC dI dA L_107 h_108 H.size iv48_4 x_121 hT) (va_cwS 2 hts (hx_gS kw_1705 kw_1703 kw_1704 kw_103) rfl rfl rfl (by decide +kernel) ⟨Nat.le_of_ble_eq_true rfl, Nat.le_of_ble_eq_true rfl⟩) rfl hl.1 rfl (Nat.le_of_ble_eq_true rfl) dX10_walk_94 ⟨Nat.le_of_ble_eq_true rfl, Nat.le_of_ble_eq_true rfl⟩) hW (fun r_124 L_122 h_123 H locs p_125 hW => ?_)
                        obtain ⟨hr_126, hT, hs⟩ := p_125
                        replace hT : hx_T T_tb L_122 h_123 := hT
                        replace hs : hx_S T_tb [] L_107 h_108 L_122 h_123 := hs
                        replace f_x_90 := (hs.o (gx.S hM) trivial rfl).1.trans f_x_90
                        replace af_qwd : h_123.2.1 qwd = wd0 := (funext fun j => (hs.a (gqwd.S hM) rfl j).1).trans af_qwd
                        replace nia16_qhm : h_123.2.1 qhm = ia16_qhm := (funext fun j => (hs.a (gqhm.S hM) rfl j).1).trans nia16_qhm
                        replace ex_118 := ex_118.trans (hs.a (gqhm.S hM) rfl _).1.symm
                        replace hM := hM.tr (hs.mono ?o416)
                        case o416 => decide
                        refine lv_istore (lv' := [(4, .int r_124), (5, .int iv48_5), (3, .int iv16_3), (2, .int iv9_2), (1, .int x_1), (0, .ref x)]) hx hb dX10_walk_97 hl ?o417 rfl (fun ls hl => ?_)
                        case o417 => decide
                        have hcand : x_121.toInt = (hx_fr lf agf dxf dyf n0.toInt) iv16_3.toInt iv48_5.toInt + (ia16_qhm (9 * (iv9_2.toInt - hx_p2 iv48_5.toInt) + iv48_5.toInt).toNat).toInt := ?o418
                        case o418 => rw [zx_121, hr_111.1, hh]
                        have hF0 : 0 ≤ (hx_fr lf agf dxf dyf n0.toInt) iv16_3.toInt iv48_5.toInt := ?o419
                        case o419 =>
                          rw [← hr_111.1]
                          exact hr_111.2.1
                        have hF1 : (hx_fr lf agf dxf dyf n0.toInt) iv16_3.toInt iv48_5.toInt ≤ 198 := ?o420
                        case o420 =>
                          rw [← hr_111.1]
                          exact hr_111.2.2
                        obtain ⟨x_127, ex_127⟩ : ∃ y : Int32, y = iv48_5 + Int32.ofInt 1 := ⟨_, rfl⟩
                        have zx_127 : x_127.toInt = iv48_5.toInt + (1) := ?o421
                        case o421 =>
                          rw [ex_127]
                          refine i32_add rfl ?o422 ?o423 ?o424
                          case o422 => decide
                          case o423 => omega
                          case o424 => omega
                        refine lv_iinc (v := x_127) (lv' := [(5, .int x_127), (4, .int r_124), (3, .int iv16_3), (2, .int iv9_2), (1, .int x_1), (0, .ref x)]) hx hb dX10_walk_99 hl (k := 1) rfl ex_127.symm ?o425 rfl (fun ls hl => ?_)
                        case o425 => decide
                        refine lv_goto (tgt := 48) hx hb dX10_walk_102 ?o426 ?_
                        case o426 => decide
                        refine ih48 r_124 x_127 _ _ L_122 h_123 (i32_r _).1 (i32_r _).2 ?o427 ?o428 (vi48_0.elim (fun q => by exfalso; have hl0 : iv9_2.toInt = 0 := q.1; omega) (fun q => Or.inr ⟨q.1, hx_best_yes vi16_0 q.2 hbt hX2 hX3 ?o429 ?o430 ?o431 hF0 hF1 hcand (hr_126.elim (fun w => Or.inl ⟨congrArg Int32.toInt w.1, w.2⟩) (fun w => Or.inr ⟨congrArg Int32.toInt w.1, w.2⟩)) zx_127⟩)) ?o432 ls ?o433 hW hT hM f_x_90 af_qwd nia16_qhm (lv_sub hl [0, 1, 2, 3, 4, 5] rfl)
                        case o427 => omega
                        case o428 => omega
                        case o429 => omega
                        case o430 => omega
                        case o431 => omega
                        case o432 => omega
                        case o433 => omega
                have zk_0 : (0 : Int32).toInt = 0 := ?o434
                case o434 => decide
                refine loop48 9 r_91 (0 : Int32) _ _ L_89 h_90 (i32_r _).1 (i32_r _).2 ?o435 ?o436 (Or.inl ⟨?o437, ?o438, ?o439, by rw [hr_93.1]⟩) ?o440 ls ?o441 hW hT hM f_x_90 af_qwd nia16_qhm hl
                case o435 => decide
                case o436 => decide
                case o437 => omega
                case o438 => omega
                case o439 => omega
                case o440 => omega
                case o441 => omega
        have zk_0 : (0 : Int32).toInt = 0 := ?o442
        case o442 => decide
        refine loop16 10 (0 : Int32) ia9_qhm _ _ hL1 hl1 ?o443 ?o444 vi9_0 ls ?o445 hW hT hM f_x_90 nia9_qhm af_qwd hl
        case o443 => decide
        case o444 => decide
        case o445 => omega
  have zk_0 : (0 : Int32).toInt = 0 := ?o446
  case o446 => decide
  refine loop9 257 (0 : Int32) hm0 _ _ L h ?o447 ?o448 hx_D0 ls ?o449 hW hT hM f_x_90 af_qhm af_qwd hl
  case o447 => decide
  case o448 => decide
  case o449 => omega
end
section
/-! PURE FACTS for the reference's net: what is left of a claim, what a ring takes -/
def hx_ps (pof pdf psm pkf pst : Nat → Int32) (day known c : Int) : Nat → Int
  | 0 => 0
  | n + 1 => hx_ps pof pdf psm pkf pst day known c n + (if (pof n).toInt = c ∧ (pdf n).toInt ≤ day ∧ (pkf n).toInt ≤ known ∧ ((pst n).toInt = -1 ∨ known < (pst n).toInt) then (psm n).toInt else 0)
theorem hx_ps_s {pof pdf psm pkf pst : Nat → Int32} {day known c k k1 : Int} (h0 : 0 ≤ k) (e1 : k1 = k + 1) : hx_ps pof pdf psm pkf pst day known c k1.toNat = hx_ps pof pdf psm pkf pst day known c k.toNat + (if (pof k.toNat).toInt = c ∧ (pdf k.toNat).toInt ≤ day ∧ (pkf k.toNat).toInt ≤ known ∧ ((pst k.toNat).toInt = -1 ∨ known < (pst k.toNat).toInt) then (psm k.toNat).toInt else 0) := by
  subst e1
  have e : (k + 1).toNat = k.toNat + 1 := by omega
  rw [e]; rfl
theorem hx_ps_no1 {pof pdf psm pkf pst : Nat → Int32} {day known c k k1 v : Int} {x i : Int32} (h : v = hx_ps pof pdf psm pkf pst day known c k.toNat) (h0 : 0 ≤ k) (e1 : k1 = k + 1) (a : x = pof i.toNatClampNeg) (hi : i.toInt = k) (hx : x.toInt ≠ c) : v = hx_ps pof pdf psm pkf pst day known c k1.toNat := by
  have ei : i.toNatClampNeg = k.toNat := by unfold Int32.toNatClampNeg; omega
  rw [ei] at a
  rw [hx_ps_s h0 e1, if_neg (fun q => hx (by rw [a]; exact q.1)), h]; omega
theorem hx_ps_no2 {pof pdf psm pkf pst : Nat → Int32} {day known c k k1 v : Int} {x i : Int32} (h : v = hx_ps pof pdf psm pkf pst day known c k.toNat) (h0 : 0 ≤ k) (e1 : k1 = k + 1) (a : x = pdf i.toNatClampNeg) (hi : i.toInt = k) (hx : day < x.toInt) : v = hx_ps pof pdf psm pkf pst day known c k1.toNat := by
  have ei : i.toNatClampNeg = k.toNat := by unfold Int32.toNatClampNeg; omega
  rw [ei] at a
  rw [hx_ps_s h0 e1, if_neg (fun q => by have := q.2.1; rw [← a] at this; omega), h]; omega
theorem hx_ps_no3 {pof pdf psm pkf pst : Nat → Int32} {day known c k k1 v : Int} {x i : Int32} (h : v = hx_ps pof pdf psm pkf pst day known c k.toNat) (h0 : 0 ≤ k) (e1 : k1 = k + 1) (a : x = pkf i.toNatClampNeg) (hi : i.toInt = k) (hx : known < x.toInt) : v = hx_ps pof pdf psm pkf pst day known c k1.toNat := by
  have ei : i.toNatClampNeg = k.toNat := by unfold Int32.toNatClampNeg; omega
  rw [ei] at a
  rw [hx_ps_s h0 e1, if_neg (fun q => by have := q.2.2.1; rw [← a] at this; omega), h]; omega
theorem hx_ps_no4 {pof pdf psm pkf pst : Nat → Int32} {day known c k k1 v : Int} {x i : Int32} (h : v = hx_ps pof pdf psm pkf pst day known c k.toNat) (h0 : 0 ≤ k) (e1 : k1 = k + 1) (a : x = pst i.toNatClampNeg) (hi : i.toInt = k) (hx : x.toInt ≠ -1) (hx2 : x.toInt ≤ known) : v = hx_ps pof pdf psm pkf pst day known c k1.toNat := by
  have ei : i.toNatClampNeg = k.toNat := by unfold Int32.toNatClampNeg; omega
  rw [ei] at a
  rw [hx_ps_s h0 e1, if_neg (fun q => by have := q.2.2.2; rw [← a] at this; omega), h]; omega
theorem hx_ps_yes {pof pdf psm pkf pst : Nat → Int32} {day known c k k1 v v1 : Int} {x1 x2 x3 x4 x5 i : Int32} (h : v = hx_ps pof pdf psm pkf pst day known c k.toNat) (h0 : 0 ≤ k) (e1 : k1 = k + 1) (hi : i.toInt = k) (a1 : x1 = pof i.toNatClampNeg) (a2 : x2 = pdf i.toNatClampNeg) (a3 : x3 = pkf i.toNatClampNeg) (a4 : x4 = pst i.toNatClampNeg) (a5 : x5 = psm i.toNatClampNeg) (h1 : x1.toInt = c) (h2 : x2.toInt ≤ day) (h3 : x3.toInt ≤ known) (h4 : x4.toInt = -1 ∨ known < x4.toInt) (hv : v1 = v + x5.toInt) : v1 = hx_ps pof pdf psm pkf pst day known c k1.toNat := by
  have ei : i.toNatClampNeg = k.toNat := by unfold Int32.toNatClampNeg; omega
  rw [ei] at a1 a2 a3 a4 a5
  rw [hx_ps_s h0 e1, if_pos ⟨by rw [← a1]; exact h1, by rw [← a2]; exact h2, by rw [← a3]; exact h3, by rw [← a4]; exact h4⟩, hv, h, a5]
theorem hx_ps_congr {pof pdf psm pkf pst pof1 pdf1 psm1 pkf1 pst1 : Nat → Int32} {day known c : Int} : ∀ n, (∀ j, j < n → pof j = pof1 j ∧ pdf j = pdf1 j ∧ psm j = psm1 j ∧ pkf j = pkf1 j ∧ pst j = pst1 j) → hx_ps pof pdf psm pkf pst day known c n = hx_ps pof1 pdf1 psm1 pkf1 pst1 day known c n := by
  intro n
  induction n with
  | zero => intro _; rfl
  | succ n ih =>
    intro h
    obtain ⟨a, b, c1, d, e⟩ := h n (by omega)
    simp only [hx_ps, ih (fun j hj => h j (by omega)), a, b, c1, d, e]
/-- a payment of another claim changes nothing -/
theorem hx_ps_pay {pof pdf psm pkf pst pof1 pdf1 psm1 pkf1 pst1 : Nat → Int32} {day known c : Int} {k : Nat} {v1 v2 v3 v4 v5 : Int32} (e1 : pof1 = hx_up pof k v1) (e2 : pdf1 = hx_up pdf k v2) (e3 : psm1 = hx_up psm k v3) (e4 : pkf1 = hx_up pkf k v4) (e5 : pst1 = hx_up pst k v5) (hc : v1.toInt ≠ c) : hx_ps pof1 pdf1 psm1 pkf1 pst1 day known c (k + 1) = hx_ps pof pdf psm pkf pst day known c k := by
  subst e1; subst e2; subst e3; subst e4; subst e5
  simp only [hx_ps, hx_up_at]
  rw [if_neg (fun q => hc q.1), Int.add_zero]
  exact hx_ps_congr k (fun j hj => by rw [hx_up_ne (by omega), hx_up_ne (by omega), hx_up_ne (by omega), hx_up_ne (by omega), hx_up_ne (by omega)]; exact ⟨rfl, rfl, rfl, rfl, rfl⟩)
end
section
/-! WHAT IS LEFT OF A CLAIM, as one function -/
/-! PURE FACTS: debts, rings, what is needed -/
/-- a place of a ring is filled -/
theorem hx_up_c {f g : Nat → Int32} {i x : Int32} {k : Nat} (d : g = hx_up f i.toNatClampNeg x) (hi : i.toNatClampNeg = k) : (g k).toInt = x.toInt := by
  subst d; subst hi; rw [hx_up_at]
theorem hx_up_o {f g : Nat → Int32} {i x : Int32} {k : Nat} {v : Int} (d : g = hx_up f i.toNatClampNeg x) (hi : i.toNatClampNeg ≠ k) (h : (f k).toInt = v) : (g k).toInt = v := by
  subst d; rw [hx_up_ne (Ne.symm hi)]; exact h
theorem hx_cp_s {f g r : Nat → Int32} {i x : Int32} {n n1 : Int} (h : ∀ k : Nat, (k : Int) < n → f k = r k) (d : g = hx_up f i.toNatClampNeg x) (a : x = r i.toNatClampNeg) (hi : i.toInt = n) (h0 : 0 ≤ n) (e : n1 = n + 1) : ∀ k : Nat, (k : Int) < n1 → g k = r k := by
  intro k hk
  subst d
  by_cases z : k = i.toNatClampNeg
  · subst z; rw [hx_up_at]; exact a
  · rw [hx_up_ne z]
    refine h k ?_
    have : i.toNatClampNeg = n.toNat := by unfold Int32.toNatClampNeg; omega
    omega
end
section
set_option maxHeartbeats 4000000 in
set_option maxRecDepth 100000 in
theorem t_X10_lesser_3 (l : Launch) (dC : Nat → ClassId) (dI : Nat → Nat → Nat) (dA : Nat → ClassId) (L : List Nat) (h : hx_h) (sz : Nat) (i1 : Int32) (i2 : Int32) (hT : hx_T T_tb L h)   : Met l yX10_lesser (Cond.code yX10_lesser cX10_lesser 2 (some .int) :: hx_all) ({ frames := 0, cells := 0, slots := 0, locals := 0 }) (va_Pc [.int i1, .int i2] (hx_B T_tb (P_ty dA) (dC, dI) vwCl L h sz)) (va_Qi (fun (r : Int32) (u : List Nat × hx_h) => ((r = i1 ∧ i1.toInt < i2.toInt) ∨ (r = i2 ∧ i2.toInt ≤ i1.toInt)) ∧ hx_T T_tb u.1 u.2 ∧ hx_S T_tb [] L h u.1 u.2) (hx_E T_tb (P_ty dA) (dC, dI) vwCl (hx_A L sz)) (hx_A L sz)) 0 0 (hx_A L sz) := by
  refine hx_met (lv := [(0, .int i1), (1, .int i2)]) (by decide +kernel) rfl (Nat.le_of_ble_eq_true rfl) rfl ?_
  intro p e s m below meth c hx hb hml hr hlk hts0 hown hin hsz hW ls hl
  have hts : ∀ w ∈ hx_all, w.before _ s = true := fun w hw => hts0 w (List.mem_cons_of_mem _ hw)
  have hown : s.vm.findClass "SmallCourtModel" = some m.cls := hown
  have hM : hx_S T_tb [] L h L h := hx_S.rf
  refine lv_iload_n hx hb dX10_lesser_0 rfl (lv_at hl 0 rfl) ?_
  refine lv_iload_n hx hb dX10_lesser_1 rfl (lv_at hl 1 rfl) ?_
  refine hb_icmp_ge (zx := i1.toInt) (zy := i2.toInt) (tgt := 9) hx hb rfl rfl dX10_lesser_2 ?o0 (fun c_1 => ?_) (fun c_1 => ?_)
  case o0 => decide
  · skip
    refine lv_iload_n hx hb dX10_lesser_9 rfl (lv_at hl 1 rfl) ?_
    exact hx_reti hx hb hr hlk hW ⟨(by first | exact Or.inl ⟨rfl, by omega⟩ | exact Or.inr ⟨rfl, by omega⟩), hT, hM⟩ dX10_lesser_10
  · skip
    refine lv_iload_n hx hb dX10_lesser_5 rfl (lv_at hl 0 rfl) ?_
    refine lv_goto (tgt := 10) hx hb dX10_lesser_6 ?o1 ?_
    case o1 => decide
    exact hx_reti hx hb hr hlk hW ⟨(by first | exact Or.inl ⟨rfl, by omega⟩ | exact Or.inr ⟨rfl, by omega⟩), hT, hM⟩ dX10_lesser_10
end
section
def wNX10_takes : Nat := 4926572160251788883879708993989080200042036548587031971230210402484063971780674096727683001374510916644859986631553332244496883979903217732763417159562613384552056214710990604578277672759109532196078249578893161158597362873802847047104395817139636090397
theorem wX10_takes_c : hz_cd cX10_takes wNX10_takes 105 := ⟨by decide +kernel, by decide +kernel⟩
theorem dX10_takes_0 : decode cX10_takes 0 = .ok (.iload_n 3, 1) := dw_29 wX10_takes_c rfl
theorem dX10_takes_1 : decode cX10_takes 1 = .ok (.istore 5, 2) := dw_54 wX10_takes_c 5 rfl
theorem dX10_takes_3 : decode cX10_takes 3 = .ok (.iconst 0, 1) := dw_3 wX10_takes_c rfl
theorem dX10_takes_4 : decode cX10_takes 4 = .ok (.istore 6, 2) := dw_54 wX10_takes_c 6 rfl
theorem dX10_takes_6 : decode cX10_takes 6 = .ok (.iconst 0, 1) := dw_3 wX10_takes_c rfl
theorem dX10_takes_7 : decode cX10_takes 7 = .ok (.istore 7, 2) := dw_54 wX10_takes_c 7 rfl
theorem dX10_takes_9 : decode cX10_takes 9 = .ok (.iload 7, 2) := dw_21 wX10_takes_c 7 rfl
theorem dX10_takes_11 : decode cX10_takes 11 = .ok (.aload_n 0, 1) := dw_42 wX10_takes_c rfl
theorem dX10_takes_12 : decode cX10_takes 12 = .ok (.getfield 367, 3) := dw_180 wX10_takes_c 1 111 rfl rfl
theorem dX10_takes_15 : decode cX10_takes 15 = .ok (.if_icmp .ge 87, 3) := dw_162 wX10_takes_c 0 87 rfl rfl rfl
theorem dX10_takes_18 : decode cX10_takes 18 = .ok (.iload 5, 2) := dw_21 wX10_takes_c 5 rfl
theorem dX10_takes_20 : decode cX10_takes 20 = .ok (.ifCond .le 82, 3) := dw_158 wX10_takes_c 0 82 rfl rfl rfl
theorem dX10_takes_23 : decode cX10_takes 23 = .ok (.aload_n 0, 1) := dw_42 wX10_takes_c rfl
theorem dX10_takes_24 : decode cX10_takes 24 = .ok (.getfield 84, 3) := dw_180 wX10_takes_c 0 84 rfl rfl
theorem dX10_takes_27 : decode cX10_takes 27 = .ok (.iload 7, 2) := dw_21 wX10_takes_c 7 rfl
theorem dX10_takes_29 : decode cX10_takes 29 = .ok (.iaload, 1) := dw_46 wX10_takes_c rfl
theorem dX10_takes_30 : decode cX10_takes 30 = .ok (.iload_n 1, 1) := dw_27 wX10_takes_c rfl
theorem dX10_takes_31 : decode cX10_takes 31 = .ok (.if_icmp .ne 65, 3) := dw_160 wX10_takes_c 0 65 rfl rfl rfl
theorem dX10_takes_34 : decode cX10_takes 34 = .ok (.aload_n 0, 1) := dw_42 wX10_takes_c rfl
theorem dX10_takes_35 : decode cX10_takes 35 = .ok (.getfield 81, 3) := dw_180 wX10_takes_c 0 81 rfl rfl
theorem dX10_takes_38 : decode cX10_takes 38 = .ok (.iload 7, 2) := dw_21 wX10_takes_c 7 rfl
theorem dX10_takes_40 : decode cX10_takes 40 = .ok (.iaload, 1) := dw_46 wX10_takes_c rfl
theorem dX10_takes_41 : decode cX10_takes 41 = .ok (.iload_n 2, 1) := dw_28 wX10_takes_c rfl
theorem dX10_takes_42 : decode cX10_takes 42 = .ok (.if_icmp .ne 54, 3) := dw_160 wX10_takes_c 0 54 rfl rfl rfl
theorem dX10_takes_45 : decode cX10_takes 45 = .ok (.aload_n 0, 1) := dw_42 wX10_takes_c rfl
theorem dX10_takes_46 : decode cX10_takes 46 = .ok (.iload 7, 2) := dw_21 wX10_takes_c 7 rfl
theorem dX10_takes_48 : decode cX10_takes 48 = .ok (.invokevirtual 419, 3) := dw_182 wX10_takes_c 1 163 rfl rfl
theorem dX10_takes_51 : decode cX10_takes 51 = .ok (.ifCond .ne 6, 3) := dw_154 wX10_takes_c 0 6 rfl rfl rfl
theorem dX10_takes_54 : decode cX10_takes 54 = .ok (.goto 42, 3) := dw_167 wX10_takes_c 0 42 rfl rfl rfl
theorem dX10_takes_57 : decode cX10_takes 57 = .ok (.iload 5, 2) := dw_21 wX10_takes_c 5 rfl
theorem dX10_takes_59 : decode cX10_takes 59 = .ok (.aload_n 0, 1) := dw_42 wX10_takes_c rfl
theorem dX10_takes_60 : decode cX10_takes 60 = .ok (.getfield 401, 3) := dw_180 wX10_takes_c 1 145 rfl rfl
theorem dX10_takes_63 : decode cX10_takes 63 = .ok (.invokestatic 448, 3) := dw_184 wX10_takes_c 1 192 rfl rfl
theorem dX10_takes_66 : decode cX10_takes 66 = .ok (.istore 8, 2) := dw_54 wX10_takes_c 8 rfl
theorem dX10_takes_68 : decode cX10_takes 68 = .ok (.iload 4, 2) := dw_21 wX10_takes_c 4 rfl
theorem dX10_takes_70 : decode cX10_takes 70 = .ok (.ifCond .eq 16, 3) := dw_153 wX10_takes_c 0 16 rfl rfl rfl
theorem dX10_takes_86 : decode cX10_takes 86 = .ok (.iload 5, 2) := dw_21 wX10_takes_c 5 rfl
theorem dX10_takes_88 : decode cX10_takes 88 = .ok (.iload 8, 2) := dw_21 wX10_takes_c 8 rfl
theorem dX10_takes_90 : decode cX10_takes 90 = .ok (.isub, 1) := dw_100 wX10_takes_c rfl
theorem dX10_takes_91 : decode cX10_takes 91 = .ok (.istore 5, 2) := dw_54 wX10_takes_c 5 rfl
theorem dX10_takes_93 : decode cX10_takes 93 = .ok (.iinc 6 1, 3) := dw_132 wX10_takes_c 6 1 rfl rfl rfl
theorem dX10_takes_96 : decode cX10_takes 96 = .ok (.iinc 7 1, 3) := dw_132 wX10_takes_c 7 1 rfl rfl rfl
theorem dX10_takes_99 : decode cX10_takes 99 = .ok (.goto (-90), 3) := dn_167 wX10_takes_c 255 166 rfl (by decide)
theorem dX10_takes_102 : decode cX10_takes 102 = .ok (.iload 6, 2) := dw_21 wX10_takes_c 6 rfl
theorem dX10_takes_104 : decode cX10_takes 104 = .ok (.ireturn, 1) := dw_172 wX10_takes_c rfl
theorem dX10_takes_73 : decode cX10_takes 73 = .ok (.aload_n 0, 1) := dw_42 wX10_takes_c rfl
theorem dX10_takes_74 : decode cX10_takes 74 = .ok (.iload 7, 2) := dw_21 wX10_takes_c 7 rfl
theorem dX10_takes_76 : decode cX10_takes 76 = .ok (.aload_n 0, 1) := dw_42 wX10_takes_c rfl
theorem dX10_takes_77 : decode cX10_takes 77 = .ok (.getfield 232, 3) := dw_180 wX10_takes_c 0 232 rfl rfl
theorem dX10_takes_80 : decode cX10_takes 80 = .ok (.iload 8, 2) := dw_21 wX10_takes_c 8 rfl
theorem dX10_takes_82 : decode cX10_takes 82 = .ok (.invokevirtual 425, 3) := dw_182 wX10_takes_c 1 169 rfl rfl
theorem dX10_takes_85 : decode cX10_takes 85 = .ok (.pop, 1) := dw_87 wX10_takes_c rfl
end
section
/-- a fact that omega is not to see -/
def hq_P (p : Prop) : Prop := p
theorem hq_i {p : Prop} (h : p) : hq_P p := h
theorem hq_o {p : Prop} (h : hq_P p) : p := h
end
section
def wNX10_net : Nat := 29891705430739415871508449371046276516746933493572174920102819127144356720512031768996815193941284283118309968712621053793678665535158132915269397437783923093060183275351898417802194549840895990897777907942833816217501855593726438671292652192330446871709703297813096473115735611888516486093650034607306843398526477430234735067040186144031213459508570042610923203332943152171947785869432833989254434142349350070333565610503438147866724475642096912471808283553679985071122241270645802
theorem wX10_net_c : hz_cd cX10_net wNX10_net 200 := ⟨by decide +kernel, by decide +kernel⟩
theorem dX10_net_0 : decode cX10_net 0 = .ok (.aload_n 0, 1) := dw_42 wX10_net_c rfl
theorem dX10_net_1 : decode cX10_net 1 = .ok (.iconst 1, 1) := dw_4 wX10_net_c rfl
theorem dX10_net_2 : decode cX10_net 2 = .ok (.putfield 451, 3) := dw_181 wX10_net_c 1 195 rfl rfl
theorem dX10_net_5 : decode cX10_net 5 = .ok (.aload_n 0, 1) := dw_42 wX10_net_c rfl
theorem dX10_net_6 : decode cX10_net 6 = .ok (.iconst 0, 1) := dw_3 wX10_net_c rfl
theorem dX10_net_7 : decode cX10_net 7 = .ok (.putfield 455, 3) := dw_181 wX10_net_c 1 199 rfl rfl
theorem dX10_net_10 : decode cX10_net 10 = .ok (.iconst 0, 1) := dw_3 wX10_net_c rfl
theorem dX10_net_11 : decode cX10_net 11 = .ok (.istore_n 1, 1) := dw_60 wX10_net_c rfl
theorem dX10_net_12 : decode cX10_net 12 = .ok (.iconst 1, 1) := dw_4 wX10_net_c rfl
theorem dX10_net_13 : decode cX10_net 13 = .ok (.istore_n 2, 1) := dw_61 wX10_net_c rfl
theorem dX10_net_14 : decode cX10_net 14 = .ok (.iload_n 2, 1) := dw_28 wX10_net_c rfl
theorem dX10_net_15 : decode cX10_net 15 = .ok (.ifCond .eq 183, 3) := dw_153 wX10_net_c 0 183 rfl rfl rfl
theorem dX10_net_18 : decode cX10_net 18 = .ok (.aload_n 0, 1) := dw_42 wX10_net_c rfl
theorem dX10_net_19 : decode cX10_net 19 = .ok (.invokevirtual 458, 3) := dw_182 wX10_net_c 1 202 rfl rfl
theorem dX10_net_22 : decode cX10_net 22 = .ok (.aload_n 0, 1) := dw_42 wX10_net_c rfl
theorem dX10_net_23 : decode cX10_net 23 = .ok (.invokevirtual 461, 3) := dw_182 wX10_net_c 1 205 rfl rfl
theorem dX10_net_26 : decode cX10_net 26 = .ok (.iconst 0, 1) := dw_3 wX10_net_c rfl
theorem dX10_net_27 : decode cX10_net 27 = .ok (.istore_n 3, 1) := dw_62 wX10_net_c rfl
theorem dX10_net_28 : decode cX10_net 28 = .ok (.iconst 0, 1) := dw_3 wX10_net_c rfl
theorem dX10_net_29 : decode cX10_net 29 = .ok (.istore 4, 2) := dw_54 wX10_net_c 4 rfl
theorem dX10_net_31 : decode cX10_net 31 = .ok (.iload 4, 2) := dw_21 wX10_net_c 4 rfl
theorem dX10_net_33 : decode cX10_net 33 = .ok (.aload_n 0, 1) := dw_42 wX10_net_c rfl
theorem dX10_net_34 : decode cX10_net 34 = .ok (.getfield 441, 3) := dw_180 wX10_net_c 1 185 rfl rfl
theorem dX10_net_37 : decode cX10_net 37 = .ok (.if_icmp .ge 42, 3) := dw_162 wX10_net_c 0 42 rfl rfl rfl
theorem dX10_net_40 : decode cX10_net 40 = .ok (.iload_n 3, 1) := dw_29 wX10_net_c rfl
theorem dX10_net_41 : decode cX10_net 41 = .ok (.aload_n 0, 1) := dw_42 wX10_net_c rfl
theorem dX10_net_42 : decode cX10_net 42 = .ok (.aload_n 0, 1) := dw_42 wX10_net_c rfl
theorem dX10_net_43 : decode cX10_net 43 = .ok (.getfield 195, 3) := dw_180 wX10_net_c 0 195 rfl rfl
theorem dX10_net_46 : decode cX10_net 46 = .ok (.iload 4, 2) := dw_21 wX10_net_c 4 rfl
theorem dX10_net_48 : decode cX10_net 48 = .ok (.iaload, 1) := dw_46 wX10_net_c rfl
theorem dX10_net_49 : decode cX10_net 49 = .ok (.aload_n 0, 1) := dw_42 wX10_net_c rfl
theorem dX10_net_50 : decode cX10_net 50 = .ok (.getfield 195, 3) := dw_180 wX10_net_c 0 195 rfl rfl
theorem dX10_net_53 : decode cX10_net 53 = .ok (.iload 4, 2) := dw_21 wX10_net_c 4 rfl
theorem dX10_net_55 : decode cX10_net 55 = .ok (.iconst 1, 1) := dw_4 wX10_net_c rfl
theorem dX10_net_56 : decode cX10_net 56 = .ok (.iadd, 1) := dw_96 wX10_net_c rfl
theorem dX10_net_57 : decode cX10_net 57 = .ok (.aload_n 0, 1) := dw_42 wX10_net_c rfl
theorem dX10_net_58 : decode cX10_net 58 = .ok (.getfield 441, 3) := dw_180 wX10_net_c 1 185 rfl rfl
theorem dX10_net_61 : decode cX10_net 61 = .ok (.irem, 1) := dw_112 wX10_net_c rfl
theorem dX10_net_62 : decode cX10_net 62 = .ok (.iaload, 1) := dw_46 wX10_net_c rfl
theorem dX10_net_63 : decode cX10_net 63 = .ok (.aload_n 0, 1) := dw_42 wX10_net_c rfl
theorem dX10_net_64 : decode cX10_net 64 = .ok (.getfield 438, 3) := dw_180 wX10_net_c 1 182 rfl rfl
theorem dX10_net_67 : decode cX10_net 67 = .ok (.iconst 0, 1) := dw_3 wX10_net_c rfl
theorem dX10_net_68 : decode cX10_net 68 = .ok (.invokevirtual 464, 3) := dw_182 wX10_net_c 1 208 rfl rfl
theorem dX10_net_71 : decode cX10_net 71 = .ok (.iadd, 1) := dw_96 wX10_net_c rfl
theorem dX10_net_72 : decode cX10_net 72 = .ok (.istore_n 3, 1) := dw_62 wX10_net_c rfl
theorem dX10_net_73 : decode cX10_net 73 = .ok (.iinc 4 1, 3) := dw_132 wX10_net_c 4 1 rfl rfl rfl
theorem dX10_net_76 : decode cX10_net 76 = .ok (.goto (-45), 3) := dn_167 wX10_net_c 255 211 rfl (by decide)
theorem dX10_net_79 : decode cX10_net 79 = .ok (.aload_n 0, 1) := dw_42 wX10_net_c rfl
theorem dX10_net_80 : decode cX10_net 80 = .ok (.getfield 441, 3) := dw_180 wX10_net_c 1 185 rfl rfl
theorem dX10_net_83 : decode cX10_net 83 = .ok (.ifCond .le 19, 3) := dw_158 wX10_net_c 0 19 rfl rfl rfl
theorem dX10_net_86 : decode cX10_net 86 = .ok (.aload_n 0, 1) := dw_42 wX10_net_c rfl
theorem dX10_net_87 : decode cX10_net 87 = .ok (.getfield 413, 3) := dw_180 wX10_net_c 1 157 rfl rfl
theorem dX10_net_90 : decode cX10_net 90 = .ok (.iload_n 3, 1) := dw_29 wX10_net_c rfl
theorem dX10_net_91 : decode cX10_net 91 = .ok (.iadd, 1) := dw_96 wX10_net_c rfl
theorem dX10_net_92 : decode cX10_net 92 = .ok (.sipush 600, 3) := dw_17 wX10_net_c 2 88 rfl rfl rfl
theorem dX10_net_95 : decode cX10_net 95 = .ok (.if_icmp .gt 7, 3) := dw_163 wX10_net_c 0 7 rfl rfl rfl
theorem dX10_net_98 : decode cX10_net 98 = .ok (.iconst 1, 1) := dw_4 wX10_net_c rfl
theorem dX10_net_99 : decode cX10_net 99 = .ok (.goto 4, 3) := dw_167 wX10_net_c 0 4 rfl rfl rfl
theorem dX10_net_102 : decode cX10_net 102 = .ok (.iconst 0, 1) := dw_3 wX10_net_c rfl
theorem dX10_net_103 : decode cX10_net 103 = .ok (.istore_n 2, 1) := dw_61 wX10_net_c rfl
theorem dX10_net_104 : decode cX10_net 104 = .ok (.iload_n 2, 1) := dw_28 wX10_net_c rfl
theorem dX10_net_105 : decode cX10_net 105 = .ok (.ifCond .ne 6, 3) := dw_154 wX10_net_c 0 6 rfl rfl rfl
theorem dX10_net_108 : decode cX10_net 108 = .ok (.goto 90, 3) := dw_167 wX10_net_c 0 90 rfl rfl rfl
theorem dX10_net_111 : decode cX10_net 111 = .ok (.iconst 0, 1) := dw_3 wX10_net_c rfl
theorem dX10_net_112 : decode cX10_net 112 = .ok (.istore 4, 2) := dw_54 wX10_net_c 4 rfl
theorem dX10_net_114 : decode cX10_net 114 = .ok (.iload 4, 2) := dw_21 wX10_net_c 4 rfl
theorem dX10_net_116 : decode cX10_net 116 = .ok (.aload_n 0, 1) := dw_42 wX10_net_c rfl
theorem dX10_net_117 : decode cX10_net 117 = .ok (.getfield 441, 3) := dw_180 wX10_net_c 1 185 rfl rfl
theorem dX10_net_120 : decode cX10_net 120 = .ok (.if_icmp .ge 40, 3) := dw_162 wX10_net_c 0 40 rfl rfl rfl
theorem dX10_net_123 : decode cX10_net 123 = .ok (.aload_n 0, 1) := dw_42 wX10_net_c rfl
theorem dX10_net_124 : decode cX10_net 124 = .ok (.aload_n 0, 1) := dw_42 wX10_net_c rfl
theorem dX10_net_125 : decode cX10_net 125 = .ok (.getfield 195, 3) := dw_180 wX10_net_c 0 195 rfl rfl
theorem dX10_net_128 : decode cX10_net 128 = .ok (.iload 4, 2) := dw_21 wX10_net_c 4 rfl
theorem dX10_net_130 : decode cX10_net 130 = .ok (.iaload, 1) := dw_46 wX10_net_c rfl
theorem dX10_net_131 : decode cX10_net 131 = .ok (.aload_n 0, 1) := dw_42 wX10_net_c rfl
theorem dX10_net_132 : decode cX10_net 132 = .ok (.getfield 195, 3) := dw_180 wX10_net_c 0 195 rfl rfl
theorem dX10_net_135 : decode cX10_net 135 = .ok (.iload 4, 2) := dw_21 wX10_net_c 4 rfl
theorem dX10_net_137 : decode cX10_net 137 = .ok (.iconst 1, 1) := dw_4 wX10_net_c rfl
theorem dX10_net_138 : decode cX10_net 138 = .ok (.iadd, 1) := dw_96 wX10_net_c rfl
theorem dX10_net_139 : decode cX10_net 139 = .ok (.aload_n 0, 1) := dw_42 wX10_net_c rfl
theorem dX10_net_140 : decode cX10_net 140 = .ok (.getfield 441, 3) := dw_180 wX10_net_c 1 185 rfl rfl
theorem dX10_net_143 : decode cX10_net 143 = .ok (.irem, 1) := dw_112 wX10_net_c rfl
theorem dX10_net_144 : decode cX10_net 144 = .ok (.iaload, 1) := dw_46 wX10_net_c rfl
theorem dX10_net_145 : decode cX10_net 145 = .ok (.aload_n 0, 1) := dw_42 wX10_net_c rfl
theorem dX10_net_146 : decode cX10_net 146 = .ok (.getfield 438, 3) := dw_180 wX10_net_c 1 182 rfl rfl
theorem dX10_net_149 : decode cX10_net 149 = .ok (.iconst 1, 1) := dw_4 wX10_net_c rfl
theorem dX10_net_150 : decode cX10_net 150 = .ok (.invokevirtual 464, 3) := dw_182 wX10_net_c 1 208 rfl rfl
theorem dX10_net_153 : decode cX10_net 153 = .ok (.pop, 1) := dw_87 wX10_net_c rfl
theorem dX10_net_154 : decode cX10_net 154 = .ok (.iinc 4 1, 3) := dw_132 wX10_net_c 4 1 rfl rfl rfl
theorem dX10_net_157 : decode cX10_net 157 = .ok (.goto (-43), 3) := dn_167 wX10_net_c 255 213 rfl (by decide)
theorem dX10_net_160 : decode cX10_net 160 = .ok (.aload_n 0, 1) := dw_42 wX10_net_c rfl
theorem dX10_net_161 : decode cX10_net 161 = .ok (.getfield 192, 3) := dw_180 wX10_net_c 0 192 rfl rfl
theorem dX10_net_164 : decode cX10_net 164 = .ok (.aload_n 0, 1) := dw_42 wX10_net_c rfl
theorem dX10_net_165 : decode cX10_net 165 = .ok (.getfield 455, 3) := dw_180 wX10_net_c 1 199 rfl rfl
theorem dX10_net_168 : decode cX10_net 168 = .ok (.aload_n 0, 1) := dw_42 wX10_net_c rfl
theorem dX10_net_169 : decode cX10_net 169 = .ok (.getfield 438, 3) := dw_180 wX10_net_c 1 182 rfl rfl
theorem dX10_net_172 : decode cX10_net 172 = .ok (.iastore, 1) := dw_79 wX10_net_c rfl
theorem dX10_net_173 : decode cX10_net 173 = .ok (.aload_n 0, 1) := dw_42 wX10_net_c rfl
theorem dX10_net_174 : decode cX10_net 174 = .ok (.dup, 1) := dw_89 wX10_net_c rfl
theorem dX10_net_175 : decode cX10_net 175 = .ok (.getfield 455, 3) := dw_180 wX10_net_c 1 199 rfl rfl
theorem dX10_net_178 : decode cX10_net 178 = .ok (.iconst 1, 1) := dw_4 wX10_net_c rfl
theorem dX10_net_179 : decode cX10_net 179 = .ok (.iadd, 1) := dw_96 wX10_net_c rfl
theorem dX10_net_180 : decode cX10_net 180 = .ok (.putfield 455, 3) := dw_181 wX10_net_c 1 199 rfl rfl
theorem dX10_net_183 : decode cX10_net 183 = .ok (.iload_n 1, 1) := dw_27 wX10_net_c rfl
theorem dX10_net_184 : decode cX10_net 184 = .ok (.aload_n 0, 1) := dw_42 wX10_net_c rfl
theorem dX10_net_185 : decode cX10_net 185 = .ok (.getfield 438, 3) := dw_180 wX10_net_c 1 182 rfl rfl
theorem dX10_net_188 : decode cX10_net 188 = .ok (.aload_n 0, 1) := dw_42 wX10_net_c rfl
theorem dX10_net_189 : decode cX10_net 189 = .ok (.getfield 441, 3) := dw_180 wX10_net_c 1 185 rfl rfl
theorem dX10_net_192 : decode cX10_net 192 = .ok (.imul, 1) := dw_104 wX10_net_c rfl
theorem dX10_net_193 : decode cX10_net 193 = .ok (.iadd, 1) := dw_96 wX10_net_c rfl
theorem dX10_net_194 : decode cX10_net 194 = .ok (.istore_n 1, 1) := dw_60 wX10_net_c rfl
theorem dX10_net_195 : decode cX10_net 195 = .ok (.goto (-181), 3) := dn_167 wX10_net_c 255 75 rfl (by decide)
theorem dX10_net_198 : decode cX10_net 198 = .ok (.iload_n 1, 1) := dw_27 wX10_net_c rfl
theorem dX10_net_199 : decode cX10_net 199 = .ok (.ireturn, 1) := dw_172 wX10_net_c rfl
end
section
/-! COLUMNS: a field of all objects that an array holds, as a function of their places -/
def hx_col (N : Nat) (h : hx_h) (q k : Nat) : Nat → Int32 := fun j => if j < N then (match h.2.2 q j with | some p => h.2.1 p k | none => 0) else 0
/-- the array holds n objects, each with its place as its number, and none behind them -/
def hx_num (N : Nat) (h : hx_h) (q k : Nat) (n : Int) : Prop := ∀ j : Nat, j < N → ((j : Int) < n → ∃ p, h.2.2 q j = some p ∧ (h.2.1 p k).toInt = j) ∧ (n ≤ (j : Int) → h.2.2 q j = none)
def hx_eqN (N : Nat) (f g : Nat → Int32) : Prop := ∀ j, j < N → f j = g j
theorem hx_col_at {N : Nat} {h : hx_h} {q k j p : Nat} (f : h.2.2 q j = some p) (hj : j < N) : hx_col N h q k j = h.2.1 p k := by
  unfold hx_col
  rw [if_pos hj, f]
theorem hx_num_c {N : Nat} {h : hx_h} {q k : Nat} {n m : Int} (hn : hx_num N h q k n) (e : n = m) : hx_num N h q k m := e ▸ hn
section HXC
variable {tb : List hx_d} {M : hx_m} {L L1 : List Nat} {h h1 : hx_h} {q k t t0 N u ci x t9 : Nat} {nn : Bool} {fs : List hx_f}
theorem hx_col_S (hs : hx_S tb M L h L1 h1) (hT : hx_T tb L h) (g : hx_g L h q t) (hd : tb[t]? = some (.inr (t0, N, .inr (nn, [u])))) (hdu : tb[u]? = some (.inl (ci, fs))) (m1 : M.any (fun q => q.1 == t) = false) (m2 : M.contains (u, k) = false) : hx_col N h1 q k = hx_col N h q k := by
  funext j
  unfold hx_col
  by_cases hj : j < N
  · rw [if_pos hj, if_pos hj, (hs.a g m1 j).2]
    cases hr : h.2.2 q j with
    | none => rfl
    | some p =>
      obtain ⟨p1, p2⟩ := (hT.er g hd (k := j) hj).2 p hr
      exact (hs.o (k := k) ⟨p1, by simpa using p2⟩ (by rw [hdu]; trivial) m2).1
  · rw [if_neg hj, if_neg hj]
theorem hx_num_S {n : Int} (hs : hx_S tb M L h L1 h1) (hT : hx_T tb L h) (g : hx_g L h q t) (hd : tb[t]? = some (.inr (t0, N, .inr (nn, [u])))) (hdu : tb[u]? = some (.inl (ci, fs))) (m1 : M.any (fun q => q.1 == t) = false) (m2 : M.contains (u, k) = false) (hn : hx_num N h q k n) : hx_num N h1 q k n := by
  intro j hj
  rw [(hs.a g m1 j).2]
  refine ⟨fun hjn => ?_, (hn j hj).2⟩
  obtain ⟨p, f, e⟩ := (hn j hj).1 hjn
  obtain ⟨p1, p2⟩ := (hT.er g hd (k := j) hj).2 p f
  exact ⟨p, f, by rw [(hs.o (k := k) ⟨p1, by simpa using p2⟩ (by rw [hdu]; trivial) m2).1]; exact e⟩
theorem hx_col_X (hs : hx_S tb M (hx_X L x) h L1 h1) (hT : hx_T tb L h) (g : hx_g (hx_X L x) h q t) (gx : hx_g L h x t9) (hd : tb[t]? = some (.inr (t0, N, .inr (nn, [u])))) (hdu : tb[u]? = some (.inl (ci, fs))) (m1 : M.any (fun q => q.1 == t) = false) (m2 : M.contains (u, k) = false) (ne : u ≠ t9) : hx_col N h1 q k = hx_col N h q k := by
  funext j
  unfold hx_col
  by_cases hj : j < N
  · rw [if_pos hj, if_pos hj, (hs.a g m1 j).2]
    cases hr : h.2.2 q j with
    | none => rfl
    | some p =>
      obtain ⟨p1, p2⟩ := (hT.er ⟨(hx_X_m.mp g.1).1, g.2⟩ hd (k := j) hj).2 p hr
      have p2 : h.1 p = u := by simpa using p2
      exact (hs.o (k := k) ⟨hx_X_m.mpr ⟨p1, fun z => ne (by rw [← p2, z, gx.2])⟩, p2⟩ (by rw [hdu]; trivial) m2).1
  · rw [if_neg hj, if_neg hj]
theorem hx_num_X {n : Int} (hs : hx_S tb M (hx_X L x) h L1 h1) (hT : hx_T tb L h) (g : hx_g (hx_X L x) h q t) (gx : hx_g L h x t9) (hd : tb[t]? = some (.inr (t0, N, .inr (nn, [u])))) (hdu : tb[u]? = some (.inl (ci, fs))) (m1 : M.any (fun q => q.1 == t) = false) (m2 : M.contains (u, k) = false) (ne : u ≠ t9) (hn : hx_num N h q k n) : hx_num N h1 q k n := by
  intro j hj
  rw [(hs.a g m1 j).2]
  refine ⟨fun hjn => ?_, (hn j hj).2⟩
  obtain ⟨p, f, e⟩ := (hn j hj).1 hjn
  obtain ⟨p1, p2⟩ := (hT.er ⟨(hx_X_m.mp g.1).1, g.2⟩ hd (k := j) hj).2 p f
  have p2 : h.1 p = u := by simpa using p2
  exact ⟨p, f, by rw [(hs.o (k := k) ⟨hx_X_m.mpr ⟨p1, fun z => ne (by rw [← p2, z, gx.2])⟩, p2⟩ (by rw [hdu]; trivial) m2).1]; exact e⟩
end HXC
theorem hx_num_eq {N : Nat} {h : hx_h} {q k i j p : Nat} {n : Int} (hn : hx_num N h q k n) (hi : i < N) (hj : j < N) (fi : h.2.2 q i = some p) (fj : h.2.2 q j = some p) : i = j := by
  have ki : (i : Int) < n := by
    rcases (show (i : Int) < n ∨ n ≤ (i : Int) by omega) with z | z
    · exact z
    · rw [(hn i hi).2 z] at fi; cases fi
  have kj : (j : Int) < n := by
    rcases (show (j : Int) < n ∨ n ≤ (j : Int) by omega) with z | z
    · exact z
    · rw [(hn j hj).2 z] at fj; cases fj
  obtain ⟨a, fa, ea⟩ := (hn i hi).1 ki
  obtain ⟨b, fb, eb⟩ := (hn j hj).1 kj
  have e1 : a = p := Option.some.inj (fa.symm.trans fi)
  have e2 : b = p := Option.some.inj (fb.symm.trans fj)
  subst e1; subst e2
  omega
theorem hx_col_pi {N : Nat} {h h1 : hx_h} {q k k0 i p : Nat} {n : Int} {v : Int32} (hn : hx_num N h q k0 n) (f : h.2.2 q i = some p) (hi : i < N) (eh : h1 = hx_pi h p k v) : hx_col N h1 q k = hx_up (hx_col N h q k) i v := by
  subst eh
  funext j
  by_cases hji : j = i
  · subst hji
    rw [hx_up_at, hx_col_at (h := hx_pi h p k v) (p := p) f hi, hx_pi_at]
  · rw [hx_up_ne hji]
    unfold hx_col
    by_cases hj : j < N
    · rw [if_pos hj, if_pos hj]
      show (match h.2.2 q j with | some p1 => (hx_pi h p k v).2.1 p1 k | none => 0) = _
      cases hr : h.2.2 q j with
      | none => rfl
      | some p1 =>
        refine hx_pi_ne h v (fun z => hji ?_)
        rw [z.1] at hr
        exact hx_num_eq hn hj hi hr f
    · rw [if_neg hj, if_neg hj]
theorem hx_col_pr {N : Nat} {h h1 : hx_h} {q k i p : Nat} (eh : h1 = hx_pr h q i (some p)) (hi : i < N) : hx_col N h1 q k = hx_up (hx_col N h q k) i (h.2.1 p k) := by
  subst eh
  funext j
  by_cases hji : j = i
  · subst hji
    rw [hx_up_at, hx_col_at (h := hx_pr h q j (some p)) (p := p) (hx_pr_at _ _ _ _) hi]
    rfl
  · rw [hx_up_ne hji]
    unfold hx_col
    by_cases hj : j < N
    · rw [if_pos hj, if_pos hj, hx_pr_ne h (some p) (fun z => hji z.2)]
      rfl
    · rw [if_neg hj, if_neg hj]
theorem hx_num_pr {N : Nat} {h h1 : hx_h} {q k p : Nat} {i : Int32} {n : Int} (hn : hx_num N h q k n) (eh : h1 = hx_pr h q i.toNatClampNeg (some p)) (h0 : 0 ≤ i.toInt) (hi : i.toInt = n) (hp : (h.2.1 p k).toInt = i.toInt) : hx_num N h1 q k (n + 1) := by
  subst eh
  have hc : ((i.toNatClampNeg : Nat) : Int) = i.toInt := by unfold Int32.toNatClampNeg; omega
  intro j hj
  by_cases hji : j = i.toNatClampNeg
  · subst hji
    refine ⟨fun _ => ⟨p, hx_pr_at _ _ _ _, ?_⟩, fun z => by exfalso; omega⟩
    show (h.2.1 p k).toInt = _
    omega
  · rw [hx_pr_ne h (some p) (fun z => hji z.2)]
    refine ⟨fun z => ?_, fun z => (hn j hj).2 (by omega)⟩
    obtain ⟨a, fa, ea⟩ := (hn j hj).1 (by omega)
    exact ⟨a, fa, ea⟩
theorem hx_num_z {N : Nat} {h : hx_h} {q k k1 j : Nat} {n : Int} {f : Nat → Int32} (hn : hx_num N h q k n) (hc : hx_col N h q k1 = f) (hj : j < N) (hz : n ≤ (j : Int)) : f j = 0 := by
  rw [← hc]
  unfold hx_col
  rw [if_pos hj, (hn j hj).2 hz]
theorem hx_num_0 {N : Nat} {h : hx_h} {q k : Nat} (z : ∀ j, h.2.1 q j = 0 ∧ h.2.2 q j = none) : hx_num N h q k 0 := fun j _ => ⟨fun hj => by exfalso; omega, fun _ => (z j).2⟩
theorem hx_col_0 {N : Nat} {h : hx_h} {q k r : Nat} (z : ∀ j, h.2.1 q j = 0 ∧ h.2.2 q j = none) (z2 : ∀ j, h.2.1 r j = 0) : hx_eqN N (hx_col N h q k) (h.2.1 r) := fun j hj => by
  unfold hx_col
  rw [if_pos hj, (z j).2, z2 j]
theorem hx_eqN_up {N : Nat} {f g : Nat → Int32} {i : Nat} {v : Int32} (h : hx_eqN N f g) : hx_eqN N (hx_up f i v) (hx_up g i v) := fun j hj => by
  by_cases e : j = i
  · subst e; rw [hx_up_at, hx_up_at]
  · rw [hx_up_ne e, hx_up_ne e]; exact h j hj
theorem hx_eqN_upl {N : Nat} {f g : Nat → Int32} {i : Nat} {v : Int32} (h : hx_eqN N f g) (e : i < N → g i = v) : hx_eqN N (hx_up f i v) g := fun j hj => by
  by_cases e1 : j = i
  · subst e1; rw [hx_up_at]; exact (e hj).symm
  · rw [hx_up_ne e1]; exact h j hj
/-! WHAT BOTH SIDES ANSWER ALIKE -/
def hx_hh (b c d e : Int) : Prop := (0 ≤ b ∧ b ≤ 9999) ∧ (1 ≤ c ∧ c ≤ 20) ∧ (0 ≤ d ∧ d ≤ 99) ∧ (0 ≤ e ∧ e ≤ 99)
def hx_pcn (n a b c d e f : Int) : Prop := n < 40 ∧ (-30000 ≤ a ∧ a ≤ 7999) ∧ (0 ≤ b ∧ b ≤ 9999) ∧ (1 ≤ c ∧ c ≤ 20) ∧ (0 ≤ d ∧ d ≤ 99) ∧ (0 ≤ e ∧ e ≤ 99) ∧ (-1 ≤ f ∧ f ≤ 19)
def hx_PS (n a b c d e f r n1 : Int) : Prop := (r = -1 ∧ n1 = n ∧ ¬ hx_pcn n a b c d e f) ∨ (r = n ∧ n1 = n + 1 ∧ hx_pcn n a b c d e f)
theorem hx_pk {n a b c d e f : Int} {r1 r2 n1 n2 : Int32} (p : hx_PS n a b c d e f r1.toInt n1.toInt) (q : hx_PS n a b c d e f r2.toInt n2.toInt) : r1.toInt = r2.toInt ∧ n1 = n2 := by
  rcases p with ⟨a1, a2, a3⟩ | ⟨a1, a2, a3⟩ <;> rcases q with ⟨b1, b2, b3⟩ | ⟨b1, b2, b3⟩
  · exact ⟨by omega, Int32.toInt_inj.mp (by omega)⟩
  · exact absurd b3 a3
  · exact absurd a3 b3
  · exact ⟨by omega, Int32.toInt_inj.mp (by omega)⟩
/-- of a PERSON's new columns: as before, or one more 0 -/
def hx_PD (n r : Int) (d d1 : Nat → Int32) : Prop := (r = -1 ∧ d1 = d) ∨ (r = n ∧ 0 ≤ n ∧ d1 = hx_up d n.toNat 0)
theorem hx_pdk {n r : Int} {N : Nat} {d d1 g : Nat → Int32} (p : hx_PD n r d d1) (e : hx_eqN N d g) (z : n.toNat < N → d n.toNat = 0) : hx_eqN N d1 g := by
  rcases p with ⟨_, a⟩ | ⟨_, _, a⟩
  · rw [a]; exact e
  · rw [a]; exact hx_eqN_upl e (fun hn => by rw [← e _ hn]; exact z hn)
def hx_JC (n i : Int) (v : Int32) (d : Nat → Int32) : Prop := 0 ≤ i ∧ i < n ∧ (d i.toNat).toInt ≠ v.toInt
def hx_JS (n i : Int) (v : Int32) (d : Nat → Int32) (r : Int) (d1 : Nat → Int32) : Prop := (r = 0 ∧ d1 = d ∧ ¬ hx_JC n i v d) ∨ (r = 1 ∧ d1 = hx_up d i.toNat v ∧ hx_JC n i v d)
theorem hx_JC_c {n i : Int} {N : Nat} {v : Int32} {d g : Nat → Int32} (hn : n ≤ N) (e : hx_eqN N d g) (c : hx_JC n i v d) : hx_JC n i v g := ⟨c.1, c.2.1, by rw [← e i.toNat (by have := c.1; have := c.2.1; omega)]; exact c.2.2⟩
theorem hx_eqN_s {N : Nat} {f g : Nat → Int32} (e : hx_eqN N f g) : hx_eqN N g f := fun j hj => (e j hj).symm
theorem hx_jk {n i : Int} {N : Nat} {v r1 r2 : Int32} {d d1 g g1 : Nat → Int32} (hn : n ≤ N) (e : hx_eqN N d g) (p : hx_JS n i v d r1.toInt d1) (q : hx_JS n i v g r2.toInt g1) : r1.toInt = r2.toInt ∧ hx_eqN N d1 g1 := by
  rcases p with ⟨a1, a2, a3⟩ | ⟨a1, a2, a3⟩ <;> rcases q with ⟨b1, b2, b3⟩ | ⟨b1, b2, b3⟩
  · exact ⟨by omega, by rw [a2, b2]; exact e⟩
  · exact absurd (hx_JC_c hn (hx_eqN_s e) b3) a3
  · exact absurd (hx_JC_c hn e a3) b3
  · exact ⟨by omega, by rw [a2, b2]; exact hx_eqN_up e⟩
def hx_AC (n i b c d e : Int) (f : Nat → Int32) : Prop := (0 ≤ i ∧ i < n) ∧ (f i.toNat).toInt = 0 ∧ hx_hh b c d e
def hx_AS (n i b c d e : Int) (f : Nat → Int32) (r : Int) : Prop := (r = 0 ∧ ¬ hx_AC n i b c d e f) ∨ (r = 1 ∧ hx_AC n i b c d e f)
theorem hx_ak {n i b c d e : Int} {N : Nat} {f g : Nat → Int32} {r1 r2 : Int32} (hn : n ≤ N) (q : hx_eqN N f g) (u : hx_AS n i b c d e f r1.toInt) (v : hx_AS n i b c d e g r2.toInt) : r1.toInt = r2.toInt := by
  have key : hx_AC n i b c d e f ↔ hx_AC n i b c d e g := by
    constructor
    · exact fun c => ⟨c.1, by rw [← q i.toNat (by have := c.1; omega)]; exact c.2.1, c.2.2⟩
    · exact fun c => ⟨c.1, by rw [q i.toNat (by have := c.1; omega)]; exact c.2.1, c.2.2⟩
  rcases u with ⟨a1, a2⟩ | ⟨a1, a2⟩ <;> rcases v with ⟨b1, b2⟩ | ⟨b1, b2⟩
  · omega
  · exact absurd (key.mpr b2) a2
  · exact absurd (key.mp a2) b2
  · omega
def hx_LC (l n now a b d k s : Int) : Prop := l < 400 ∧ (0 ≤ a ∧ a < n) ∧ (0 ≤ b ∧ b < n) ∧ a ≠ b ∧ (0 ≤ d ∧ d ≤ now) ∧ (0 ≤ k ∧ k ≤ 3) ∧ (1 ≤ s ∧ s ≤ 9999)
def hx_LS (l n now a b d k s r l1 : Int) : Prop := (r = -1 ∧ l1 = l ∧ ¬ hx_LC l n now a b d k s) ∨ (r = l + 1 ∧ l1 = l + 1 ∧ hx_LC l n now a b d k s)
theorem hx_lk {l n now a b d k s : Int} {r1 r2 n1 n2 : Int32} (p : hx_LS l n now a b d k s r1.toInt n1.toInt) (q : hx_LS l n now a b d k s r2.toInt n2.toInt) : r1.toInt = r2.toInt ∧ n1 = n2 := by
  rcases p with ⟨a1, a2, a3⟩ | ⟨a1, a2, a3⟩ <;> rcases q with ⟨b1, b2, b3⟩ | ⟨b1, b2, b3⟩
  · exact ⟨by omega, Int32.toInt_inj.mp (by omega)⟩
  · exact absurd b3 a3
  · exact absurd a3 b3
  · exact ⟨by omega, Int32.toInt_inj.mp (by omega)⟩
/-- a CLAIM is filed -/
def hx_FC (c n now a b s fr w : Int) (d : Nat → Int32) : Prop := c < 100 ∧ (0 ≤ a ∧ a < n) ∧ (0 ≤ b ∧ b < n) ∧ a ≠ b ∧ (d b.toNat).toInt = 0 ∧ (1 ≤ s ∧ s ≤ 9999) ∧ (0 ≤ fr ∧ fr ≤ now) ∧ (0 ≤ w ∧ w ≤ 9)
def hx_FS (c n now a b s fr w : Int) (d : Nat → Int32) (r c1 : Int) : Prop := (r = -1 ∧ c1 = c ∧ ¬ hx_FC c n now a b s fr w d) ∨ (r = c ∧ c1 = c + 1 ∧ hx_FC c n now a b s fr w d)
theorem hx_fk {c n now a b s fr w : Int} {N : Nat} {d g : Nat → Int32} {r1 r2 n1 n2 : Int32} (hn : n ≤ N) (e : hx_eqN N d g) (p : hx_FS c n now a b s fr w d r1.toInt n1.toInt) (q : hx_FS c n now a b s fr w g r2.toInt n2.toInt) : r1.toInt = r2.toInt ∧ n1 = n2 := by
  have key : hx_FC c n now a b s fr w d ↔ hx_FC c n now a b s fr w g := by
    constructor
    · exact fun z => ⟨z.1, z.2.1, z.2.2.1, z.2.2.2.1, by rw [← e b.toNat (by have := z.2.2.1; omega)]; exact z.2.2.2.2.1, z.2.2.2.2.2⟩
    · exact fun z => ⟨z.1, z.2.1, z.2.2.1, z.2.2.2.1, by rw [e b.toNat (by have := z.2.2.1; omega)]; exact z.2.2.2.2.1, z.2.2.2.2.2⟩
  rcases p with ⟨a1, a2, a3⟩ | ⟨a1, a2, a3⟩ <;> rcases q with ⟨b1, b2, b3⟩ | ⟨b1, b2, b3⟩
  · exact ⟨by omega, Int32.toInt_inj.mp (by omega)⟩
  · exact absurd (key.mpr b3) a3
  · exact absurd (key.mp a3) b3
  · exact ⟨by omega, Int32.toInt_inj.mp (by omega)⟩
theorem hx_nz01 {v : Int32} (h : v.toInt = 0 ∨ v.toInt = 1) : vp_nar .boolean v = v := by
  rcases h with h | h
  · have : v = 0 := Int32.toInt_inj.mp (h.trans (by decide))
    subst this; rfl
  · have : v = 1 := Int32.toInt_inj.mp (h.trans (by decide))
    subst this; rfl
/-- a CLAIM is summoned -/
def hx_SC (n i : Int) (ff : Nat → Int32) : Prop := 0 ≤ i ∧ i < n ∧ (ff i.toNat).toInt = -1
def hx_SS (n i : Int) (b nw r : Int32) (ff ff1 tf tf1 : Nat → Int32) : Prop := (r = -1 ∧ ff1 = ff ∧ tf1 = tf ∧ ¬ hx_SC n i ff) ∨ (hx_SC n i ff ∧ r = tf i.toNat + 1 ∧ tf1 = hx_up tf i.toNat (tf i.toNat + 1) ∧ ((b.toInt = 0 ∧ ff1 = ff) ∨ (b.toInt ≠ 0 ∧ ff1 = hx_up ff i.toNat nw)))
theorem hx_SC_c {n i : Int} {N : Nat} {d g : Nat → Int32} (hn : n ≤ N) (e : hx_eqN N d g) (c : hx_SC n i d) : hx_SC n i g := ⟨c.1, c.2.1, by rw [← e i.toNat (by have := c.1; have := c.2.1; omega)]; exact c.2.2⟩
theorem hx_sk {n i : Int} {N : Nat} {b nw r1 r2 : Int32} {ff ff1 tf tf1 gf gf1 ug ug1 : Nat → Int32} (hn : n ≤ N) (e : hx_eqN N ff gf) (e2 : hx_eqN N tf ug) (p : hx_SS n i b nw r1 ff ff1 tf tf1) (q : hx_SS n i b nw r2 gf gf1 ug ug1) : r1.toInt = r2.toInt ∧ hx_eqN N ff1 gf1 ∧ hx_eqN N tf1 ug1 := by
  rcases p with ⟨a1, a2, a3, a4⟩ | ⟨a1, a2, a3, a4⟩ <;> rcases q with ⟨b1, b2, b3, b4⟩ | ⟨b1, b2, b3, b4⟩
  · exact ⟨by rw [a1, b1], by rw [a2, b2]; exact e, by rw [a3, b3]; exact e2⟩
  · exact absurd (hx_SC_c hn (hx_eqN_s e) b1) a4
  · exact absurd (hx_SC_c hn e a1) b4
  · have hi : i.toNat < N := by have := a1.1; have := a1.2.1; omega
    have h2 : tf i.toNat = ug i.toNat := e2 _ hi
    refine ⟨by rw [a2, b2, h2], ?_, by rw [a3, b3, h2]; exact hx_eqN_up e2⟩
    rcases a4 with ⟨u1, u2⟩ | ⟨u1, u2⟩ <;> rcases b4 with ⟨v1, v2⟩ | ⟨v1, v2⟩
    · rw [u2, v2]; exact e
    · exact absurd u1 v1
    · exact absurd v1 u1
    · rw [u2, v2]; exact hx_eqN_up e
/-- who was heard was found -/
def hx_HF (n : Int) (hf ff : Nat → Int32) : Prop := ∀ c : Nat, (c : Int) < n → (hf c).toInt ≠ -1 → (ff c).toInt ≠ -1
theorem hx_HF_s {n i : Int} {b nw r : Int32} {ff ff1 tf tf1 hf : Nat → Int32} (h : hx_HF n hf ff) (hn : 0 ≤ nw.toInt) (p : hx_SS n i b nw r ff ff1 tf tf1) : hx_HF n hf ff1 := by
  intro c hc hh
  have h0 := h c hc hh
  rcases p with ⟨_, e, _⟩ | ⟨_, _, _, ⟨_, e⟩ | ⟨_, e⟩⟩
  · rw [e]; exact h0
  · rw [e]; exact h0
  · rw [e]
    by_cases z : c = i.toNat
    · rw [z, hx_up_at]; omega
    · rw [hx_up_ne z]; exact h0
theorem hx_HF_f {n n1 : Int} {hf hf1 ff ff1 : Nat → Int32} (h : hx_HF n hf ff) (n0 : 0 ≤ n) (p : (n1 = n ∧ hf1 = hf ∧ ff1 = ff) ∨ (n1 = n + 1 ∧ hf1 = hx_up hf n.toNat (-1) ∧ ff1 = hx_up ff n.toNat (-1))) : hx_HF n1 hf1 ff1 := by
  rcases p with ⟨a, b, c⟩ | ⟨a, b, c⟩
  · rw [a, b, c]; exact h
  · rw [a, b, c]
    intro k hk hh
    by_cases z : k = n.toNat
    · rw [z, hx_up_at] at hh; exact absurd (by decide) hh
    · rw [hx_up_ne z] at hh ⊢; exact h k (by omega) hh
theorem hx_HF_h {n : Int} {hf hf1 ff : Nat → Int32} (h : hx_HF n hf ff) (p : hf1 = hf ∨ ∃ (j : Nat) (v : Int32), hf1 = hx_up hf j v ∧ (ff j).toInt ≠ -1) : hx_HF n hf1 ff := by
  rcases p with e | ⟨j, v, e, hj⟩
  · rw [e]; exact h
  · rw [e]
    intro c hc hh
    by_cases z : c = j
    · rw [z]; exact hj
    · rw [hx_up_ne z] at hh; exact h c hc hh
/-- of a new CLAIM's columns: as before, or one more at the end -/
def hx_CD (n r : Int) (v : Int32) (d d1 : Nat → Int32) : Prop := (r = -1 ∧ d1 = d) ∨ (r = n ∧ 0 ≤ n ∧ d1 = hx_up d n.toNat v)
theorem hx_cdk {n r r2 : Int} {N : Nat} {v : Int32} {d d1 g g1 : Nat → Int32} (hr : r = r2) (p : hx_CD n r v d d1) (q : hx_CD n r2 v g g1) (e : hx_eqN N d g) : hx_eqN N d1 g1 := by
  rcases p with ⟨a1, a2⟩ | ⟨a1, a2, a3⟩ <;> rcases q with ⟨b1, b2⟩ | ⟨b1, b2, b3⟩
  · rw [a2, b2]; exact e
  · exfalso; omega
  · exfalso; omega
  · rw [a3, b3]; exact hx_eqN_up e
theorem hx_cdz {n r : Int} {N : Nat} {d d1 g : Nat → Int32} (p : hx_CD n r 0 d d1) (e : hx_eqN N d g) (z : n.toNat < N → d n.toNat = 0) : hx_eqN N d1 g := by
  rcases p with ⟨_, a⟩ | ⟨_, _, a⟩
  · rw [a]; exact e
  · rw [a]; exact hx_eqN_upl e (fun hn => by rw [← e _ hn]; exact z hn)
/-! THE LIST OF THE WALK -/
theorem hx_num_at {N : Nat} {h : hx_h} {q k p : Nat} {i : Int32} {n : Int} (hn : hx_num N h q k n) (f : h.2.2 q i.toNatClampNeg = some p) (h0 : 0 ≤ i.toInt) (h1 : i.toInt < N) : h.2.1 p k = i := by
  have hc : ((i.toNatClampNeg : Nat) : Int) = i.toInt := by unfold Int32.toNatClampNeg; omega
  have hj : i.toNatClampNeg < N := by omega
  rcases (show i.toInt < n ∨ n ≤ i.toInt by omega) with z | z
  · obtain ⟨p', f', e⟩ := (hn _ hj).1 (by omega)
    rw [f] at f'
    cases f'
    exact Int32.toInt_inj.mp (by omega)
  · rw [(hn _ hj).2 (by omega)] at f
    cases f
/-- what the one array holds, the other holds too -/
def hx_LQ (N Nc : Nat) (h : hx_h) (a b : Nat) : Prop := ∀ k, k < N → ∀ p, h.2.2 a k = some p → ∃ c, c < Nc ∧ h.2.2 b c = some p
theorem hx_LQ_S {tb : List hx_d} {M : hx_m} {L L1 : List Nat} {h h1 : hx_h} {a b t u N Nc : Nat} (hs : hx_S tb M L h L1 h1) (ga : hx_g L h a t) (gb : hx_g L h b u) (m1 : M.any (fun q => q.1 == t) = false) (m2 : M.any (fun q => q.1 == u) = false) (q : hx_LQ N Nc h a b) : hx_LQ N Nc h1 a b := fun k hk p f => by
  rw [(hs.a ga m1 k).2] at f
  obtain ⟨c, hc, e⟩ := q k hk p f
  exact ⟨c, hc, by rw [(hs.a gb m2 c).2]; exact e⟩
theorem hx_LQ_pr2 {N Nc : Nat} {h h1 : hx_h} {a b k p : Nat} {i : Int32} {n : Int} (q : hx_LQ N Nc h a b) (hn : hx_num Nc h b k n) (eh : h1 = hx_pr h b i.toNatClampNeg (some p)) (h0 : 0 ≤ i.toInt) (hi : i.toInt = n) (ne : b ≠ a) : hx_LQ N Nc h1 a b := by
  subst eh
  have hc : ((i.toNatClampNeg : Nat) : Int) = i.toInt := by unfold Int32.toNatClampNeg; omega
  intro j hj p1 f
  rw [hx_pr_ne h (some p) (fun z => ne z.1.symm)] at f
  obtain ⟨c, hcN, e⟩ := q j hj p1 f
  refine ⟨c, hcN, ?_⟩
  rw [hx_pr_ne h (some p) (fun z => ?_)]
  · exact e
  · rw [(hn c hcN).2 (by omega)] at e
    cases e
theorem hx_LQ_0 {N Nc : Nat} {h : hx_h} {a b : Nat} (z : ∀ j, h.2.1 a j = 0 ∧ h.2.2 a j = none) : hx_LQ N Nc h a b := fun k _ p f => by
  rw [(z k).2] at f; cases f
/-- behind it the array holds nothing that it did not hold, but v -/
def hx_EL (h h1 : hx_h) (a v : Nat) : Prop := ∀ k, k < 8 → ∀ p, h1.2.2 a k = some p → p = v ∨ ∃ j, j < 8 ∧ h.2.2 a j = some p
theorem hx_EL_rf {h : hx_h} {a v : Nat} : hx_EL h h a v := fun k hk p f => Or.inr ⟨k, hk, f⟩
theorem hx_EL_s {h h0 h1 : hx_h} {a v i x j : Nat} (q : hx_EL h h0 a v) (eh : h1 = hx_pr h0 a i (some x)) (fo : h0.2.2 a j = some x) (hj : j < 8) : hx_EL h h1 a v := fun k hk p f => by
  subst eh
  by_cases z : k = i
  · subst z; rw [hx_pr_at] at f; cases f; exact q j hj _ fo
  · rw [hx_pr_ne h0 (some x) (fun w => z w.2)] at f; exact q k hk p f
theorem hx_EL_v {h h0 h1 : hx_h} {a v i : Nat} (q : hx_EL h h0 a v) (eh : h1 = hx_pr h0 a i (some v)) : hx_EL h h1 a v := fun k hk p f => by
  subst eh
  by_cases z : k = i
  · subst z; rw [hx_pr_at] at f; cases f; exact Or.inl rfl
  · rw [hx_pr_ne h0 (some v) (fun w => z w.2)] at f; exact q k hk p f
theorem hx_EL_pi {h h0 h1 : hx_h} {a v b k0 : Nat} {x : Int32} (q : hx_EL h h0 a v) (eh : h1 = hx_pi h0 b k0 x) : hx_EL h h1 a v := fun k hk p f => by
  subst eh
  exact q k hk p f
theorem hx_LQ_EL {Nc : Nat} {h h1 : hx_h} {a b v i : Nat} (q : hx_LQ 8 Nc h a b) (el : hx_EL h h1 a v) (fo : h.2.2 b i = some v) (hi : i < Nc) (hb : ∀ c, h1.2.2 b c = h.2.2 b c) : hx_LQ 8 Nc h1 a b := fun k hk p f => by
  rcases el k hk p f with z | ⟨j, hj, z⟩
  · exact ⟨i, hi, by rw [hb, z]; exact fo⟩
  · obtain ⟨c, hc, e⟩ := q j hj p z
    exact ⟨c, hc, by rw [hb]; exact e⟩
/-- the one with that number is that one -/
theorem hx_LQ_u {h : hx_h} {a b k p v : Nat} {i : Int32} {n : Int} {lf : Nat → Int32} {j : Nat} (q : hx_LQ 8 100 h a b) (hn : hx_num 100 h b k n) (hc : hx_col 8 h a k = lf) (fo : h.2.2 b i.toNatClampNeg = some v) (h0 : 0 ≤ i.toInt) (h1 : i.toInt < 100) (hj : j < 8) (f : h.2.2 a j = some p) (e : lf j = i) : p = v := by
  obtain ⟨c, hcN, fc⟩ := q j hj p f
  rw [← hc, hx_col_at f hj] at e
  rcases (show (c : Int) < n ∨ n ≤ (c : Int) by omega) with z | z
  · obtain ⟨p', f', e'⟩ := (hn c hcN).1 z
    rw [fc] at f'
    cases f'
    rw [e] at e'
    have : c = i.toNatClampNeg := by unfold Int32.toNatClampNeg; omega
    rw [this, fo] at fc
    cases fc
    rfl
  · rw [(hn c hcN).2 z] at fc
    cases fc
def hx_isin (f : Nat → Int32) (n : Int) (v : Int32) : Prop := ∃ k : Nat, (k : Int) < n ∧ f k = v
theorem hx_nin_s {f : Nat → Int32} {i j : Int} {v : Int32} (h : ∀ k : Nat, (k : Int) < i → f k ≠ v) (h0 : 0 ≤ i) (hne : f i.toNat ≠ v) (e : j = i + 1) : ∀ k : Nat, (k : Int) < j → f k ≠ v := fun k hk => by
  rcases (show (k : Int) < i ∨ k = i.toNat by omega) with z | z
  · exact h k z
  · rw [z]; exact hne
theorem hx_isin_c {N : Nat} {f g : Nat → Int32} {n : Int} {v : Int32} (hn : n ≤ N) (e : hx_eqN N f g) (h : hx_isin f n v) : hx_isin g n v := by
  obtain ⟨k, hk, q⟩ := h
  exact ⟨k, hk, by rw [← e k (by omega)]; exact q⟩
/-- put into its place among the first n, as far as it has come: the place i -/
def hx_is (f g : Nat → Int32) (n i : Int) (v : Int32) : Prop := (∀ k : Nat, (k : Int) < i → g k = f k) ∧ (∀ k : Nat, i < (k : Int) → (k : Int) ≤ n → g k = f (k - 1)) ∧ (∀ k : Nat, n < (k : Int) → g k = f k) ∧ (∀ k : Nat, i ≤ (k : Int) → (k : Int) < n → v.toInt < (f k).toInt)
theorem hx_is_0 {f : Nat → Int32} {n : Int} {v : Int32} : hx_is f f n n v := ⟨fun _ _ => rfl, fun k h1 h2 => by exfalso; omega, fun _ _ => rfl, fun k h1 h2 => by exfalso; omega⟩
theorem hx_is_s {f g g1 : Nat → Int32} {n i : Int} {v y j : Int32} (h : hx_is f g n i v) (hi : 0 < i) (hn : i ≤ n) (hy : y.toInt = i - 1) (hv : v.toInt < (g y.toNatClampNeg).toInt) (hj : j.toInt = i) (e : g1 = hx_up g j.toNatClampNeg (g y.toNatClampNeg)) : hx_is f g1 n y.toInt v := by
  obtain ⟨a, b, c, d⟩ := h
  have cj : ((j.toNatClampNeg : Nat) : Int) = i := by unfold Int32.toNatClampNeg; omega
  have cy : ((y.toNatClampNeg : Nat) : Int) = i - 1 := by unfold Int32.toNatClampNeg; omega
  have gy : g y.toNatClampNeg = f y.toNatClampNeg := a _ (by omega)
  subst e
  refine ⟨fun k hk => ?_, fun k h1 h2 => ?_, fun k hk => ?_, fun k h1 h2 => ?_⟩
  · rw [hx_up_ne (by omega)]; exact a k (by omega)
  · by_cases z : k = j.toNatClampNeg
    · rw [z, hx_up_at, gy]; congr 1; omega
    · rw [hx_up_ne z]; exact b k (by omega) h2
  · rw [hx_up_ne (by omega)]; exact c k hk
  · by_cases z : k = y.toNatClampNeg
    · rw [z, ← gy]; exact hv
    · exact d k (by omega) h2
def hx_ins (f g : Nat → Int32) (n : Int) (v : Int32) : Prop := ∃ (i : Int) (g0 : Nat → Int32), 0 ≤ i ∧ i ≤ n ∧ hx_is f g0 n i v ∧ g = hx_up g0 i.toNat v ∧ (i = 0 ∨ (f (i - 1).toNat).toInt ≤ v.toInt)
theorem hx_ins_k {f1 f2 g1 g2 : Nat → Int32} {n : Int} {v : Int32} (hn : n < 8) (e : hx_eqN 8 f1 f2) (p : hx_ins f1 g1 n v) (q : hx_ins f2 g2 n v) : hx_eqN 8 g1 g2 := by
  obtain ⟨i, a, i0, i1, ⟨a1, a2, a3, a4⟩, ea, oa⟩ := p
  obtain ⟨j, b, j0, j1, ⟨b1, b2, b3, b4⟩, eb, ob⟩ := q
  have hij : i = j := by
    rcases (show i < j ∨ i = j ∨ j < i by omega) with z | z | z
    · exfalso
      rcases ob with w | w
      · omega
      · have h1 := a4 (j - 1).toNat (by omega) (by omega)
        rw [e _ (by omega)] at h1
        omega
    · exact z
    · exfalso
      rcases oa with w | w
      · omega
      · have h1 := b4 (i - 1).toNat (by omega) (by omega)
        rw [← e _ (by omega)] at h1
        omega
  subst hij
  intro k hk
  rw [ea, eb]
  by_cases z : k = i.toNat
  · rw [z, hx_up_at, hx_up_at]
  · rw [hx_up_ne z, hx_up_ne z]
    rcases (show (k : Int) < i ∨ (i < (k : Int) ∧ (k : Int) ≤ n) ∨ n < (k : Int) by omega) with w | w | w
    · rw [a1 k w, b1 k w]; exact e k hk
    · rw [a2 k w.1 w.2, b2 k w.1 w.2]; exact e (k - 1) (by omega)
    · rw [a3 k w, b3 k w]; exact e k hk
def hx_WC (c i n : Int) (v : Int32) (ff lf : Nat → Int32) : Prop := 0 ≤ i ∧ i < c ∧ (ff i.toNat).toInt = -1 ∧ ¬ hx_isin lf n v ∧ n < 8
def hx_WL (c i n : Int) (v : Int32) (ff lf lf1 : Nat → Int32) (r n1 : Int) : Prop := (r = -1 ∧ lf1 = lf ∧ n1 = n ∧ ¬ hx_WC c i n v ff lf) ∨ (r = n + 1 ∧ n1 = n + 1 ∧ hx_ins lf lf1 n v ∧ hx_WC c i n v ff lf)
theorem hx_wk {c i n : Int} {v r1 r2 n1 n2 : Int32} {ff gf lf lf1 mf mf1 : Nat → Int32} (hc : c ≤ 100) (hn : n ≤ 8) (e : hx_eqN 100 ff gf) (e2 : hx_eqN 8 lf mf) (p : hx_WL c i n v ff lf lf1 r1.toInt n1.toInt) (q : hx_WL c i n v gf mf mf1 r2.toInt n2.toInt) : r1.toInt = r2.toInt ∧ n1 = n2 ∧ hx_eqN 8 lf1 mf1 := by
  have key : hx_WC c i n v ff lf ↔ hx_WC c i n v gf mf := by
    constructor
    · rintro ⟨a, b, d, f, g⟩
      exact ⟨a, b, by rw [← e _ (by omega)]; exact d, fun z => f (hx_isin_c (N := 8) hn (hx_eqN_s e2) z), g⟩
    · rintro ⟨a, b, d, f, g⟩
      exact ⟨a, b, by rw [e _ (by omega)]; exact d, fun z => f (hx_isin_c (N := 8) hn e2 z), g⟩
  rcases p with ⟨a1, a2, a3, a4⟩ | ⟨a1, a2, a3, a4⟩ <;> rcases q with ⟨b1, b2, b3, b4⟩ | ⟨b1, b2, b3, b4⟩
  · exact ⟨by omega, Int32.toInt_inj.mp (by omega), by rw [a2, b2]; exact e2⟩
  · exact absurd (key.mpr b4) a4
  · exact absurd (key.mp a4) b4
  · exact ⟨by omega, Int32.toInt_inj.mp (by omega), hx_ins_k a4.2.2.2.2 e2 a3 b3⟩
end
section
/-! BOOKS: sums, order by days, twins -/
def hy_ln (o w d : Nat → Int32) (p q u : Int32) (x : Nat) : Bool := decide (o x = p) && (decide (w x = q) && decide ((d x).toInt ≤ u.toInt))
theorem hy_ln_t {o w d : Nat → Int32} {p q u : Int32} {x : Nat} : hy_ln o w d p q u x = true ↔ o x = p ∧ w x = q ∧ (d x).toInt ≤ u.toInt := by
  simp [hy_ln]
theorem hy_ln_f {o w d : Nat → Int32} {p q u : Int32} {x : Nat} (h : ¬ (o x = p ∧ w x = q ∧ (d x).toInt ≤ u.toInt)) : hy_ln o w d p q u x = false := by
  cases e : hy_ln o w d p q u x with
  | false => rfl
  | true => exact absurd (hy_ln_t.mp e) h
def hy_bt (k s : Nat → Int32) (i : Nat) : Int32 := if (k i).toInt = 0 ∨ (k i).toInt = 3 then s i else - s i
def hy_bs (o w d k s : Nat → Int32) (p q u : Int32) : Nat → Int32
  | 0 => 0
  | i + 1 => if hy_ln o w d p q u i then hy_bs o w d k s p q u i + hy_bt k s i else hy_bs o w d k s p q u i
theorem hy_bs_n {o w d k s : Nat → Int32} {p q u v i j : Int32} (h : v.toInt = (hy_bs o w d k s p q u i.toInt.toNat).toInt) (h0 : 0 ≤ i.toInt) (hl : hy_ln o w d p q u i.toNatClampNeg = false) (e : j.toInt = i.toInt + 1) : v.toInt = (hy_bs o w d k s p q u j.toInt.toNat).toInt := by
  have : j.toInt.toNat = i.toInt.toNat + 1 := by omega
  rw [this, h]
  show _ = (if hy_ln o w d p q u i.toNatClampNeg then _ else _ : Int32).toInt
  rw [hl]
  rfl
theorem hy_bs_y {o w d k s : Nat → Int32} {p q u v y t i j : Int32} (h : v.toInt = (hy_bs o w d k s p q u i.toInt.toNat).toInt) (h0 : 0 ≤ i.toInt) (hl : hy_ln o w d p q u i.toNatClampNeg = true) (hy : y = v + t) (ht : t = hy_bt k s i.toNatClampNeg) (e : j.toInt = i.toInt + 1) : y.toInt = (hy_bs o w d k s p q u j.toInt.toNat).toInt := by
  have e1 : j.toInt.toNat = i.toInt.toNat + 1 := by omega
  have e2 : v = hy_bs o w d k s p q u i.toInt.toNat := Int32.toInt_inj.mp h
  rw [e1, hy, ht, e2]
  show _ = (if hy_ln o w d p q u i.toNatClampNeg then _ else _ : Int32).toInt
  rw [hl]
  rfl
theorem hy_ln_c {n : Nat} {o w d o2 w2 d2 : Nat → Int32} {p q u : Int32} {x : Nat} (h : x < n) (eo : hx_eqN n o o2) (ew : hx_eqN n w w2) (ed : hx_eqN n d d2) : hy_ln o w d p q u x = hy_ln o2 w2 d2 p q u x := by
  unfold hy_ln
  rw [eo x h, ew x h, ed x h]
theorem hy_bs_c {n : Nat} {o w d k s o2 w2 d2 k2 s2 : Nat → Int32} {p q u : Int32} (eo : hx_eqN n o o2) (ew : hx_eqN n w w2) (ed : hx_eqN n d d2) (ek : hx_eqN n k k2) (es : hx_eqN n s s2) : ∀ i, i ≤ n → hy_bs o w d k s p q u i = hy_bs o2 w2 d2 k2 s2 p q u i
  | 0, _ => rfl
  | i + 1, h => by
    have ih := hy_bs_c (p := p) (q := q) (u := u) eo ew ed ek es i (by omega)
    show (if hy_ln o w d p q u i then hy_bs o w d k s p q u i + hy_bt k s i else hy_bs o w d k s p q u i) = (if hy_ln o2 w2 d2 p q u i then hy_bs o2 w2 d2 k2 s2 p q u i + hy_bt k2 s2 i else hy_bs o2 w2 d2 k2 s2 p q u i)
    unfold hy_bt
    rw [hy_ln_c (by omega) eo ew ed, ih, ek i (by omega), es i (by omega)]
/-- DISORDER: how many, and the DAY ahead -/
def hy_dr (o d : Nat → Int32) (p : Int32) (a : Int) : Nat → Int × Int
  | 0 => (0, a)
  | i + 1 => if o i = p then ((hy_dr o d p a i).1 + (if (d i).toInt < (hy_dr o d p a i).2 then 1 else 0), (d i).toInt) else hy_dr o d p a i
theorem hy_dr_n {o d : Nat → Int32} {p i j : Int32} {a m v : Int} (h : (m, v) = hy_dr o d p a i.toInt.toNat) (h0 : 0 ≤ i.toInt) (hl : ¬ o i.toNatClampNeg = p) (e : j.toInt = i.toInt + 1) : (m, v) = hy_dr o d p a j.toInt.toNat := by
  have e1 : j.toInt.toNat = i.toInt.toNat + 1 := by omega
  rw [e1, h]
  show _ = (if o i.toNatClampNeg = p then _ else _)
  rw [if_neg hl]
theorem hy_dr_y {o d : Nat → Int32} {p i j x : Int32} {a m v m1 : Int} (h : (m, v) = hy_dr o d p a i.toInt.toNat) (h0 : 0 ≤ i.toInt) (hl : o i.toNatClampNeg = p) (hx : x = d i.toNatClampNeg) (hm : m1 = m + (if x.toInt < v then 1 else 0)) (e : j.toInt = i.toInt + 1) : (m1, x.toInt) = hy_dr o d p a j.toInt.toNat := by
  have e1 : j.toInt.toNat = i.toInt.toNat + 1 := by omega
  have e2 : i.toInt.toNat = i.toNatClampNeg := rfl
  rw [e1]
  show _ = (if o i.toInt.toNat = p then _ else _)
  rw [e2, if_pos hl, ← e2, ← h, hm, hx]
  rfl
theorem hy_dr_c {n : Nat} {o d o2 d2 : Nat → Int32} {p : Int32} (eo : hx_eqN n o o2) (ed : hx_eqN n d d2) (hd : ∀ x, x < n → 0 ≤ (d x).toInt) : ∀ i, i ≤ n → (hy_dr o d p 0 i).1 = (hy_dr o2 d2 p (-1) i).1 ∧ ((hy_dr o d p 0 i).2 = (hy_dr o2 d2 p (-1) i).2 ∨ ((hy_dr o d p 0 i).2 = 0 ∧ (hy_dr o2 d2 p (-1) i).2 = -1))
  | 0, _ => ⟨rfl, Or.inr ⟨rfl, rfl⟩⟩
  | i + 1, h => by
    have ih := hy_dr_c (p := p) eo ed hd i (by omega)
    have h1 := hd i (by omega)
    simp only [hy_dr]
    rw [← eo i (by omega), ← ed i (by omega)]
    by_cases z : o i = p
    · rw [if_pos z, if_pos z]
      refine ⟨?_, Or.inl rfl⟩
      show _ + _ = _ + _
      rw [ih.1]
      rcases ih.2 with w | ⟨w1, w2⟩
      · rw [w]
      · rw [w1, w2, if_neg (by omega), if_neg (by omega)]
    · rw [if_neg z, if_neg z]
      exact ih
/-- how many below n -/
def hy_cnt (p : Nat → Bool) : Nat → Nat
  | 0 => 0
  | n + 1 => hy_cnt p n + (if p n then 1 else 0)
theorem hy_cnt_le {p q : Nat → Bool} : ∀ n, (∀ y, y < n → p y = true → q y = true) → hy_cnt p n ≤ hy_cnt q n
  | 0, _ => Nat.le_refl _
  | n + 1, h => by
    have ih := hy_cnt_le n (fun y hy => h y (by omega))
    have h1 := h n (by omega)
    simp only [hy_cnt]
    cases hp : p n
    · simp; omega
    · rw [h1 hp]; simp; omega
theorem hy_cnt_lt {p q : Nat → Bool} : ∀ n, (∀ y, y < n → p y = true → q y = true) → (∃ x, x < n ∧ q x = true ∧ p x = false) → hy_cnt p n < hy_cnt q n
  | 0, _, ⟨x, hx, _⟩ => by omega
  | n + 1, h, ⟨x, hx, h1, h2⟩ => by
    simp only [hy_cnt]
    by_cases e : x = n
    · subst e
      have := hy_cnt_le (p := p) (q := q) x (fun y hy => h y (by omega))
      rw [h1, h2]; simp; omega
    · have ih := hy_cnt_lt n (fun y hy => h y (by omega)) ⟨x, by omega, h1, h2⟩
      have h3 := h n (by omega)
      cases hp : p n
      · simp; omega
      · rw [h3 hp]; simp; omega
theorem hy_cnt_c {p q : Nat → Bool} : ∀ n, (∀ y, y < n → p y = q y) → hy_cnt p n = hy_cnt q n
  | 0, _ => rfl
  | n + 1, h => by simp only [hy_cnt]; rw [hy_cnt_c n (fun y hy => h y (by omega)), h n (by omega)]
theorem hy_cnt_n {p : Nat → Bool} : ∀ n, hy_cnt p n ≤ n
  | 0 => Nat.le_refl _
  | n + 1 => by have := hy_cnt_n (p := p) n; simp only [hy_cnt]; split <;> omega
/-- an earlier DAY, or the same and told earlier -/
def hy_kl (d : Nat → Int32) (x y : Nat) : Bool := decide ((d x).toInt < (d y).toInt ∨ ((d x).toInt = (d y).toInt ∧ x < y))
theorem hy_kl_t {d : Nat → Int32} {x y : Nat} : hy_kl d x y = true ↔ ((d x).toInt < (d y).toInt ∨ ((d x).toInt = (d y).toInt ∧ x < y)) := by simp [hy_kl]
def hy_rk (d : Nat → Int32) (n x : Nat) : Nat := hy_cnt (fun y => hy_kl d y x) n
def hy_pl (d : Nat → Int32) (n : Nat) (D : Int) : Nat := hy_cnt (fun y => decide ((d y).toInt ≤ D)) n
theorem hy_rk_lt {d : Nat → Int32} {n x : Nat} {D : Int} (hx : x < n) (h : (d x).toInt ≤ D) : hy_rk d n x < hy_pl d n D := by
  refine hy_cnt_lt n (fun y hy hk => ?_) ⟨x, hx, by simpa using h, ?_⟩
  · have := hy_kl_t.mp hk; simp; omega
  · cases e : hy_kl d x x
    · rfl
    · have := hy_kl_t.mp e; omega
theorem hy_rk_ge {d : Nat → Int32} {n x : Nat} {D : Int} (h : D < (d x).toInt) : hy_pl d n D ≤ hy_rk d n x := by
  refine hy_cnt_le n (fun y hy hk => hy_kl_t.mpr ?_)
  have : (d y).toInt ≤ D := by simpa using hk
  omega
theorem hy_rk_k {d : Nat → Int32} {n x y : Nat} (hx : x < n) (hk : hy_kl d x y = true) : hy_rk d n x < hy_rk d n y := by
  refine hy_cnt_lt n (fun z hz h => ?_) ⟨x, hx, hk, ?_⟩
  · have a := hy_kl_t.mp h; have b := hy_kl_t.mp hk; exact hy_kl_t.mpr (by omega)
  · cases e : hy_kl d x x
    · rfl
    · have := hy_kl_t.mp e; omega
/-- the order by DAYS -/
def hy_BD (d b : Nat → Int32) (n : Nat) : Prop := (∀ x, x < n → (b (hy_rk d n x)).toInt = x) ∧ ∀ j, j < n → ∃ x : Nat, x < n ∧ (b j).toInt = x ∧ hy_rk d n x = j
theorem hy_BD_0 {d b : Nat → Int32} : hy_BD d b 0 := ⟨fun x h => by omega, fun x h => by omega⟩
theorem hy_rk_c {d d2 : Nat → Int32} {n x : Nat} (hx : x < n) (e : hx_eqN n d d2) : hy_rk d n x = hy_rk d2 n x := hy_cnt_c n (fun y hy => by unfold hy_kl; rw [e y hy, e x hx])
theorem hy_BD_c {d d2 b : Nat → Int32} {n : Nat} (e : hx_eqN n d d2) (h : hy_BD d b n) : hy_BD d2 b n := by
  refine ⟨fun x hx => by rw [← hy_rk_c hx e]; exact h.1 x hx, fun j hj => ?_⟩
  obtain ⟨x, hx, e1, e2⟩ := h.2 j hj
  exact ⟨x, hx, e1, by rw [← hy_rk_c hx e]; exact e2⟩
/-- a LINE put in: so far as the place i -/
def hy_bi (d b b1 : Nat → Int32) (n : Nat) (i : Int) (D : Int) : Prop := (∀ k : Nat, (k : Int) < i → b1 k = b k) ∧ (∀ k : Nat, i < (k : Int) → k ≤ n → b1 k = b (k - 1)) ∧ (∀ k : Nat, i ≤ (k : Int) → k < n → D < (d (b k).toInt.toNat).toInt)
theorem hy_bi_0 {d b : Nat → Int32} {n : Nat} {i D : Int} (h : i = n) : hy_bi d b b n i D := ⟨fun _ _ => rfl, fun k h1 h2 => by exfalso; omega, fun k h1 h2 => by exfalso; omega⟩
theorem hy_bi_s {d b b1 b2 : Nat → Int32} {n : Nat} {i D : Int} {y j z x : Int32} (h : hy_bi d b b1 n i D) (hi : 0 < i) (hn : i ≤ n) (hy : y.toInt = i - 1) (hz : z = b1 y.toNatClampNeg) (hx : x = d z.toNatClampNeg) (hv : D < x.toInt) (hj : j.toInt = i) (e : b2 = hx_up b1 j.toNatClampNeg z) : hy_bi d b b2 n y.toInt D := by
  obtain ⟨a, c, f⟩ := h
  have cj : ((j.toNatClampNeg : Nat) : Int) = i := by unfold Int32.toNatClampNeg; omega
  have cy : ((y.toNatClampNeg : Nat) : Int) = i - 1 := by unfold Int32.toNatClampNeg; omega
  have gy : b1 y.toNatClampNeg = b y.toNatClampNeg := a _ (by omega)
  subst e
  refine ⟨fun k hk => ?_, fun k h1 h2 => ?_, fun k h1 h2 => ?_⟩
  · rw [hx_up_ne (by omega)]; exact a k (by omega)
  · by_cases w : k = j.toNatClampNeg
    · rw [w, hx_up_at, hz, gy]; congr 1; omega
    · rw [hx_up_ne w]; exact c k (by omega) h2
  · by_cases w : k = y.toNatClampNeg
    · rw [w, ← gy, ← hz]
      have : d z.toInt.toNat = x := hx.symm
      rw [this]; exact hv
    · exact f k (by omega) h2
theorem hy_BD_in {d b b1 b2 d1 : Nat → Int32} {n : Nat} {i D : Int} {j v nn : Int32} (hB : hy_BD d b n) (hd : ∀ x, x < n → d1 x = d x) (hv : (d1 n).toInt = D) (h : hy_bi d b b1 n i D) (h0 : 0 ≤ i) (hn : i ≤ n) (ho : i = 0 ∨ (d (b (i - 1).toNat).toInt.toNat).toInt ≤ D) (hj : j.toInt = i) (hnn : nn.toInt = n) (e : b2 = hx_up b1 j.toNatClampNeg nn) : hy_BD d1 b2 (n + 1) := by
  obtain ⟨a, c, f⟩ := h
  have cj : ((j.toNatClampNeg : Nat) : Int) = i := by unfold Int32.toNatClampNeg; omega
  have hP : i = hy_pl d n D := by
    have hPn : hy_pl d n D ≤ n := hy_cnt_n n
    rcases (show i < hy_pl d n D ∨ i = hy_pl d n D ∨ (hy_pl d n D : Int) < i by omega) with z | z | z
    · exfalso
      obtain ⟨x, hx, e1, e2⟩ := hB.2 i.toNat (by omega)
      have h1 := f i.toNat (by omega) (by omega)
      rw [e1] at h1
      have := hy_rk_ge (n := n) (x := x) (D := D) (by simpa using h1)
      omega
    · exact z
    · exfalso
      rcases ho with w | w
      · omega
      · obtain ⟨x, hx, e1, e2⟩ := hB.2 (i - 1).toNat (by omega)
        rw [e1] at w
        have := hy_rk_lt (n := n) hx (show (d x).toInt ≤ D by simpa using w)
        omega
  have kx : ∀ x, x < n → hy_rk d1 (n + 1) x = hy_rk d n x + (if D < (d x).toInt then 1 else 0) := by
    intro x hx
    show hy_cnt (fun y => hy_kl d1 y x) n + (if hy_kl d1 n x then 1 else 0) = _
    have e1 : hy_cnt (fun y => hy_kl d1 y x) n = hy_rk d n x := hy_cnt_c n (fun y hy => by unfold hy_kl; rw [hd y hy, hd x hx])
    rw [e1]
    congr 1
    by_cases z : D < (d x).toInt
    · rw [if_pos z, if_pos (hy_kl_t.mpr (by rw [hv, hd x hx]; omega))]
    · rw [if_neg z, if_neg (fun w => by have := hy_kl_t.mp w; rw [hv, hd x hx] at this; omega)]
  have kn : hy_rk d1 (n + 1) n = hy_pl d n D := by
    show hy_cnt (fun y => hy_kl d1 y n) n + (if hy_kl d1 n n then 1 else 0) = _
    have e0 : ¬ hy_kl d1 n n = true := fun w => by have := hy_kl_t.mp w; omega
    rw [if_neg e0]
    refine hy_cnt_c n (fun y hy => ?_)
    unfold hy_kl
    rw [hd y hy, hv]
    by_cases z : (d y).toInt ≤ D
    · rw [decide_eq_true z, decide_eq_true (by omega)]
    · rw [decide_eq_false z, decide_eq_false (by omega)]
  subst e
  refine ⟨fun x hx => ?_, fun k hk => ?_⟩
  · by_cases z : x = n
    · subst z
      rw [kn, show hy_pl d x D = j.toNatClampNeg by omega, hx_up_at, hnn]
    · have hxn : x < n := by omega
      rw [kx x hxn]
      by_cases w : D < (d x).toInt
      · have := hy_rk_ge (n := n) w
        have hr : hy_rk d n x < n := by
          have := hy_cnt_lt (p := fun y => hy_kl d y x) (q := fun _ => true) n (fun _ _ _ => rfl) ⟨x, hxn, rfl, by
            cases e9 : hy_kl d x x
            · rfl
            · have := hy_kl_t.mp e9; omega⟩
          exact Nat.lt_of_lt_of_le this (hy_cnt_n n)
        rw [if_pos w, hx_up_ne (by omega), c _ (by omega) (by omega)]
        exact hB.1 x hxn
      · have := hy_rk_lt hxn (show (d x).toInt ≤ D by omega)
        rw [if_neg w, Nat.add_zero, hx_up_ne (by omega), a _ (by omega)]
        exact hB.1 x hxn
  · rcases (show (k : Int) < i ∨ (k : Int) = i ∨ i < (k : Int) by omega) with z | z | z
    · obtain ⟨x, hx, e1, e2⟩ := hB.2 k (by omega)
      refine ⟨x, by omega, by rw [hx_up_ne (by omega), a k z]; exact e1, ?_⟩
      rw [kx x hx, if_neg (fun w => by have := hy_rk_ge (n := n) w; omega)]
      omega
    · exact ⟨n, by omega, by rw [show k = j.toNatClampNeg by omega, hx_up_at, hnn], by rw [kn]; omega⟩
    · obtain ⟨x, hx, e1, e2⟩ := hB.2 (k - 1) (by omega)
      refine ⟨x, by omega, by rw [hx_up_ne (by omega), c k z (by omega)]; exact e1, ?_⟩
      rw [kx x hx, if_pos (Int.not_le.mp (fun w => by have := hy_rk_lt hx w; omega))]
      omega
/-! twins -/
def hy_tw (d k s : Nat → Int32) (x y : Nat) : Bool := decide (k x ^^^ 1 = k y) && (decide (s x = s y) && decide (-3 ≤ (d x).toInt - (d y).toInt ∧ (d x).toInt - (d y).toInt ≤ 3))
theorem hy_tw_t {d k s : Nat → Int32} {x y : Nat} : hy_tw d k s x y = true ↔ k x ^^^ 1 = k y ∧ s x = s y ∧ -3 ≤ (d x).toInt - (d y).toInt ∧ (d x).toInt - (d y).toInt ≤ 3 := by simp [hy_tw]
def hy_tp (o w d k s T : Nat → Int32) (p q u : Int32) (x y : Nat) : Bool := decide ((T y).toInt = 0) && (hy_ln o w d q p u y && hy_tw d k s x y)
/-- the earliest of those -/
def hy_am (pr : Nat → Bool) (d : Nat → Int32) : Nat → Int
  | 0 => -1
  | b + 1 => if pr b then (if hy_am pr d b < 0 ∨ (d b).toInt < (d (hy_am pr d b).toNat).toInt then (b : Int) else hy_am pr d b) else hy_am pr d b
theorem hy_am_p {pr : Nat → Bool} {d : Nat → Int32} : ∀ n, (hy_am pr d n = -1 ∧ ∀ y, y < n → pr y = false) ∨ ∃ x : Nat, x < n ∧ hy_am pr d n = x ∧ pr x = true ∧ ∀ y, y < n → pr y = true → x = y ∨ hy_kl d x y = true
  | 0 => Or.inl ⟨rfl, fun y h => by omega⟩
  | n + 1 => by
    simp only [hy_am]
    cases hp : pr n
    · rw [if_neg (by simp)]
      rcases hy_am_p (pr := pr) (d := d) n with ⟨a, b⟩ | ⟨x, hx, a, b, c⟩
      · refine Or.inl ⟨a, fun y hy => ?_⟩
        by_cases z : y = n
        · rw [z]; exact hp
        · exact b y (by omega)
      · refine Or.inr ⟨x, by omega, a, b, fun y hy hpy => ?_⟩
        by_cases z : y = n
        · rw [z, hp] at hpy; cases hpy
        · exact c y (by omega) hpy
    · rw [if_pos rfl]
      rcases hy_am_p (pr := pr) (d := d) n with ⟨a, b⟩ | ⟨x, hx, a, b, c⟩
      · rw [if_pos (Or.inl (by omega))]
        refine Or.inr ⟨n, by omega, rfl, hp, fun y hy hpy => ?_⟩
        by_cases z : y = n
        · exact Or.inl z.symm
        · rw [b y (by omega)] at hpy; cases hpy
      · rw [a]
        by_cases z : (d n).toInt < (d x).toInt
        · rw [if_pos (Or.inr (by simpa using z))]
          refine Or.inr ⟨n, by omega, rfl, hp, fun y hy hpy => ?_⟩
          by_cases w : y = n
          · exact Or.inl w.symm
          · refine Or.inr (hy_kl_t.mpr ?_)
            rcases c y (by omega) hpy with e | e
            · subst e; omega
            · have := hy_kl_t.mp e; omega
        · rw [if_neg (by simp; omega)]
          refine Or.inr ⟨x, by omega, rfl, b, fun y hy hpy => ?_⟩
          by_cases w : y = n
          · subst w; exact Or.inr (hy_kl_t.mpr (by omega))
          · exact c y (by omega) hpy
/-- the first along the order by DAYS is the earliest -/
theorem hy_am_no {pr : Nat → Bool} {d b : Nat → Int32} {n : Nat} (hB : hy_BD d b n) (h : ∀ j, j < n → pr (b j).toInt.toNat = false) : hy_am pr d n = -1 := by
  rcases hy_am_p (pr := pr) (d := d) n with ⟨a, _⟩ | ⟨x, hx, a, e, c⟩
  · exact a
  · exfalso
    have hr : hy_rk d n x < n := by
      have := hy_cnt_lt (p := fun y => hy_kl d y x) (q := fun _ => true) n (fun _ _ _ => rfl) ⟨x, hx, rfl, by
        cases e9 : hy_kl d x x
        · rfl
        · have := hy_kl_t.mp e9; omega⟩
      exact Nat.lt_of_lt_of_le this (hy_cnt_n n)
    have h1 := h _ hr
    rw [hB.1 x hx] at h1
    simp only [Int.toNat_natCast] at h1
    rw [h1] at e; cases e
theorem hy_am_yes {pr : Nat → Bool} {d b : Nat → Int32} {n i : Nat} (hB : hy_BD d b n) (hi : i < n) (h : ∀ j, j < i → pr (b j).toInt.toNat = false) (hp : pr (b i).toInt.toNat = true) : hy_am pr d n = (b i).toInt := by
  obtain ⟨m, hm, em, rm⟩ := hB.2 i hi
  rw [em] at hp
  simp only [Int.toNat_natCast] at hp
  rcases hy_am_p (pr := pr) (d := d) n with ⟨a, c⟩ | ⟨x, hx, a, e, c⟩
  · rw [c m hm] at hp; cases hp
  · rw [a, em]
    rcases c m hm hp with z | z
    · rw [z]
    · exfalso
      have hk := hy_rk_k hx z
      rw [rm] at hk
      have h1 := h _ hk
      rw [hB.1 x hx] at h1
      simp only [Int.toNat_natCast] at h1
      rw [h1] at e; cases e
/-- what is taken, and how many, behind so many of the order -/
def hy_G (o w d k s b : Nat → Int32) (p q u : Int32) (n : Nat) : Nat → (Nat → Int32) × Int
  | 0 => (fun _ => 0, 0)
  | i + 1 => if hy_ln o w d p q u (b i).toInt.toNat then
      (if hy_am (hy_tp o w d k s (hy_G o w d k s b p q u n i).1 p q u (b i).toInt.toNat) d n < 0 then hy_G o w d k s b p q u n i
       else (hx_up (hy_G o w d k s b p q u n i).1 (hy_am (hy_tp o w d k s (hy_G o w d k s b p q u n i).1 p q u (b i).toInt.toNat) d n).toNat 1, (hy_G o w d k s b p q u n i).2 + 1))
      else hy_G o w d k s b p q u n i
theorem hy_am_c {pr pr2 : Nat → Bool} {d d2 : Nat → Int32} {N : Nat} (ed : hx_eqN N d d2) : ∀ n, n ≤ N → (∀ y, y < n → pr y = pr2 y) → hy_am pr d n = hy_am pr2 d2 n
  | 0, _, _ => rfl
  | n + 1, hn, h => by
    have ih := hy_am_c (pr := pr) (pr2 := pr2) ed n (by omega) (fun y hy => h y (by omega))
    simp only [hy_am]
    rw [h n (by omega), ih, ed n (by omega)]
    rcases hy_am_p (pr := pr2) (d := d2) n with ⟨a, _⟩ | ⟨x, hx, a, _⟩
    · rw [a]; simp
    · rw [a]; simp only [Int.toNat_natCast, ed x (by omega)]
theorem hy_tp_c {n : Nat} {o w d k s T T2 : Nat → Int32} {p q u : Int32} {x y : Nat} (h : y < n) (e : hx_eqN n T T2) : hy_tp o w d k s T p q u x y = hy_tp o w d k s T2 p q u x y := by
  unfold hy_tp
  rw [e y h]
theorem hy_tw_c {n : Nat} {d k s d2 k2 s2 : Nat → Int32} {x y : Nat} (hx : x < n) (hy : y < n) (ed : hx_eqN n d d2) (ek : hx_eqN n k k2) (es : hx_eqN n s s2) : hy_tw d k s x y = hy_tw d2 k2 s2 x y := by
  unfold hy_tw
  rw [ek x hx, ek y hy, es x hx, es y hy, ed x hx, ed y hy]
theorem hy_tp_c2 {n : Nat} {o w d k s o2 w2 d2 k2 s2 T : Nat → Int32} {p q u : Int32} {x y : Nat} (hx : x < n) (hy : y < n) (eo : hx_eqN n o o2) (ew : hx_eqN n w w2) (ed : hx_eqN n d d2) (ek : hx_eqN n k k2) (es : hx_eqN n s s2) : hy_tp o w d k s T p q u x y = hy_tp o2 w2 d2 k2 s2 T p q u x y := by
  unfold hy_tp
  rw [hy_ln_c hy eo ew ed, hy_tw_c hx hy ed ek es]
theorem hy_G_y {o w d k s b : Nat → Int32} {p q u : Int32} {n i : Nat} (hl : hy_ln o w d p q u (b i).toInt.toNat = true) : hy_G o w d k s b p q u n (i + 1) = (if hy_am (hy_tp o w d k s (hy_G o w d k s b p q u n i).1 p q u (b i).toInt.toNat) d n < 0 then hy_G o w d k s b p q u n i else (hx_up (hy_G o w d k s b p q u n i).1 (hy_am (hy_tp o w d k s (hy_G o w d k s b p q u n i).1 p q u (b i).toInt.toNat) d n).toNat 1, (hy_G o w d k s b p q u n i).2 + 1)) := by
  show (if hy_ln o w d p q u (b i).toInt.toNat then _ else _) = _
  rw [hl]
  rfl
theorem hy_G_n {o w d k s b : Nat → Int32} {p q u : Int32} {n i : Nat} (hl : hy_ln o w d p q u (b i).toInt.toNat = false) : hy_G o w d k s b p q u n (i + 1) = hy_G o w d k s b p q u n i := by
  show (if hy_ln o w d p q u (b i).toInt.toNat then _ else _) = _
  rw [hl]
  rfl
theorem hy_G_b {o w d k s b : Nat → Int32} {p q u : Int32} {n : Nat} : ∀ i, 0 ≤ (hy_G o w d k s b p q u n i).2 ∧ (hy_G o w d k s b p q u n i).2 ≤ i
  | 0 => ⟨Int.le_refl _, Int.le_refl _⟩
  | i + 1 => by
    have ih := hy_G_b (o := o) (w := w) (d := d) (k := k) (s := s) (b := b) (p := p) (q := q) (u := u) (n := n) i
    cases hl : hy_ln o w d p q u (b i).toInt.toNat
    · rw [hy_G_n hl]; omega
    · rw [hy_G_y hl]; split
      · omega
      · show 0 ≤ _ + 1 ∧ _ + 1 ≤ _; omega
/-- one step: what stands of the taken ones and of the count -/
theorem hy_st_y {o w d k s b T T1 : Nat → Int32} {p q u : Int32} {n i : Nat} {c c1 A : Int} (hB : hy_BD d b n) (hi : i < n) (e : hx_eqN n T (hy_G o w d k s b p q u n i).1) (hc : c = (hy_G o w d k s b p q u n i).2) (hl : hy_ln o w d p q u (b i).toInt.toNat = true) (hA : A = hy_am (hy_tp o w d k s T p q u (b i).toInt.toNat) d n) (h : (A < 0 ∧ T1 = T ∧ c1 = c) ∨ (0 ≤ A ∧ T1 = hx_up T A.toNat 1 ∧ c1 = c + 1)) : hx_eqN n T1 (hy_G o w d k s b p q u n (i + 1)).1 ∧ c1 = (hy_G o w d k s b p q u n (i + 1)).2 := by
  have hA2 : A = hy_am (hy_tp o w d k s (hy_G o w d k s b p q u n i).1 p q u (b i).toInt.toNat) d n := hA.trans (hy_am_c (N := n) (fun _ _ => rfl) n (Nat.le_refl _) (fun y hy => hy_tp_c hy e))
  rw [hy_G_y hl, ← hA2]
  rcases h with ⟨a1, a2, a3⟩ | ⟨a1, a2, a3⟩
  · rw [if_pos a1, a2, a3]; exact ⟨e, hc⟩
  · rw [if_neg (by omega), a2, a3, hc]; exact ⟨hx_eqN_up e, rfl⟩
theorem hy_G_c {o w d k s o2 w2 d2 k2 s2 b : Nat → Int32} {p q u : Int32} {n : Nat} (hB : hy_BD d b n) (eo : hx_eqN n o o2) (ew : hx_eqN n w w2) (ed : hx_eqN n d d2) (ek : hx_eqN n k k2) (es : hx_eqN n s s2) : ∀ i, i ≤ n → hy_G o w d k s b p q u n i = hy_G o2 w2 d2 k2 s2 b p q u n i
  | 0, _ => rfl
  | i + 1, h => by
    have ih := hy_G_c (p := p) (q := q) (u := u) hB eo ew ed ek es i (by omega)
    obtain ⟨x, hx, e1, _⟩ := hB.2 i (by omega)
    have hb : (b i).toInt.toNat < n := by omega
    have hl := hy_ln_c (p := p) (q := q) (u := u) hb eo ew ed
    cases z : hy_ln o w d p q u (b i).toInt.toNat
    · rw [hy_G_n z, hy_G_n (by rw [← hl]; exact z), ih]
    · rw [hy_G_y z, hy_G_y (by rw [← hl]; exact z), ih]
      have : hy_am (hy_tp o w d k s (hy_G o2 w2 d2 k2 s2 b p q u n i).1 p q u (b i).toInt.toNat) d n = hy_am (hy_tp o2 w2 d2 k2 s2 (hy_G o2 w2 d2 k2 s2 b p q u n i).1 p q u (b i).toInt.toNat) d2 n := hy_am_c ed n (Nat.le_refl _) (fun y hy => hy_tp_c2 hb hy eo ew ed ek es)
      rw [this]
/-- how many stand ahead of the place a of the DAY D -/
def hy_rd (d : Nat → Int32) (n : Nat) (D : Int) (a : Nat) : Nat := hy_cnt (fun y => decide ((d y).toInt < D ∨ ((d y).toInt = D ∧ y < a))) n
theorem hy_rd_n {d : Nat → Int32} {n a : Nat} {D : Int} (h : (d a).toInt ≠ D) : hy_rd d n D (a + 1) = hy_rd d n D a := by
  refine hy_cnt_c n (fun y hy => ?_)
  by_cases z : (d y).toInt < D ∨ ((d y).toInt = D ∧ y < a)
  · rw [decide_eq_true z, decide_eq_true (by omega)]
  · rw [decide_eq_false z, decide_eq_false]
    intro w
    rcases w with w | ⟨w1, w2⟩
    · exact z (Or.inl w)
    · by_cases e : y = a
      · rw [e] at w1; exact h w1
      · exact z (Or.inr ⟨w1, by omega⟩)
theorem hy_rd_k {d : Nat → Int32} {n a : Nat} {D : Int} (h : (d a).toInt = D) : hy_rd d n D a = hy_rk d n a := by
  refine hy_cnt_c n (fun y hy => ?_)
  unfold hy_kl
  by_cases z : (d y).toInt < D ∨ ((d y).toInt = D ∧ y < a)
  · rw [decide_eq_true z, decide_eq_true (by omega)]
  · rw [decide_eq_false z, decide_eq_false (by omega)]
theorem hy_cnt_1 {p q : Nat → Bool} {x : Nat} : ∀ n, x < n → p x = false → q x = true → (∀ y, y ≠ x → p y = q y) → hy_cnt q n = hy_cnt p n + 1
  | 0, h, _, _, _ => by omega
  | n + 1, h, h1, h2, h3 => by
    simp only [hy_cnt]
    by_cases e : x = n
    · subst e
      rw [hy_cnt_c (p := q) (q := p) x (fun y hy => (h3 y (by omega)).symm), h1, h2]; simp
    · rw [hy_cnt_1 n (by omega) h1 h2 h3, h3 n (Ne.symm e)]; omega
theorem hy_rd_y {d : Nat → Int32} {n a : Nat} {D : Int} (ha : a < n) (h : (d a).toInt = D) : hy_rd d n D (a + 1) = hy_rd d n D a + 1 := by
  refine hy_cnt_1 n ha (decide_eq_false (by omega)) (decide_eq_true (by omega)) (fun y hy => ?_)
  by_cases z : (d y).toInt < D ∨ ((d y).toInt = D ∧ y < a)
  · rw [decide_eq_true z, decide_eq_true (by omega)]
  · rw [decide_eq_false z, decide_eq_false (by omega)]
theorem hy_rd_e {d : Nat → Int32} {n : Nat} {D D1 : Int} (e : D1 = D + 1) : hy_rd d n D n = hy_rd d n D1 0 := by
  refine hy_cnt_c n (fun y hy => ?_)
  by_cases z : (d y).toInt < D ∨ ((d y).toInt = D ∧ y < n)
  · rw [decide_eq_true z, decide_eq_true (by omega)]
  · rw [decide_eq_false z, decide_eq_false (by omega)]
theorem hy_rd_0 {d : Nat → Int32} {n : Nat} (h : ∀ x, x < n → 0 ≤ (d x).toInt) : hy_rd d n 0 0 = 0 := by
  have : hy_rd d n 0 0 = hy_cnt (fun _ => false) n := hy_cnt_c n (fun y hy => by have := h y hy; rw [decide_eq_false (by omega)])
  rw [this]
  clear this h
  induction n with
  | zero => rfl
  | succ n ih => simp only [hy_cnt]; rw [ih]; simp
theorem hy_rd_l {d : Nat → Int32} {n : Nat} {D : Int} {a : Nat} : hy_rd d n D a ≤ n := hy_cnt_n n
theorem hy_rd_x {d b : Nat → Int32} {n a : Nat} {D : Int} (hB : hy_BD d b n) (ha : a < n) (h : (d a).toInt = D) : (b (hy_rd d n D a)).toInt = a ∧ hy_rd d n D a < n := by
  rw [hy_rd_k h]
  refine ⟨hB.1 a ha, ?_⟩
  have := hy_cnt_lt (p := fun y => hy_kl d y a) (q := fun _ => true) n (fun _ _ _ => rfl) ⟨a, ha, rfl, by
    cases e9 : hy_kl d a a
    · rfl
    · have := hy_kl_t.mp e9; omega⟩
  exact Nat.lt_of_lt_of_le this (hy_cnt_n n)
/-- behind the DAY u nothing comes -/
theorem hy_G_end {o w d k s b : Nat → Int32} {p q u : Int32} {n : Nat} {D : Int} (hB : hy_BD d b n) (e : D = u.toInt + 1) : ∀ m, hy_rd d n D 0 + m ≤ n → hy_G o w d k s b p q u n (hy_rd d n D 0 + m) = hy_G o w d k s b p q u n (hy_rd d n D 0)
  | 0, _ => rfl
  | m + 1, h => by
    have ih := hy_G_end (o := o) (w := w) (k := k) (s := s) (p := p) (q := q) (u := u) hB e m (by omega)
    obtain ⟨x, hx, e1, e2⟩ := hB.2 (hy_rd d n D 0 + m) (by omega)
    rw [← Nat.add_assoc, hy_G_n, ih]
    rw [e1]
    refine hy_ln_f (fun z => ?_)
    have z3 : (d x).toInt ≤ u.toInt := by simpa using z.2.2
    have h1 := hy_rk_lt (n := n) hx z3
    have h2 : hy_pl d n u.toInt = hy_rd d n D 0 := hy_cnt_c n (fun y hy => by
      by_cases w : (d y).toInt ≤ u.toInt
      · rw [decide_eq_true w, decide_eq_true (by omega)]
      · rw [decide_eq_false w, decide_eq_false (by omega)])
    omega
theorem hy_G_all {o w d k s b : Nat → Int32} {p q u : Int32} {n : Nat} {D : Int} (hB : hy_BD d b n) (e : D = u.toInt + 1) : hy_G o w d k s b p q u n n = hy_G o w d k s b p q u n (hy_rd d n D 0) := by
  have h := hy_G_end (o := o) (w := w) (k := k) (s := s) (p := p) (q := q) (u := u) hB e (n - hy_rd d n D 0) (by have := hy_rd_l (d := d) (n := n) (D := D) (a := 0); omega)
  have h2 : hy_rd d n D 0 + (n - hy_rd d n D 0) = n := by have := hy_rd_l (d := d) (n := n) (D := D) (a := 0); omega
  rw [h2] at h
  exact h
theorem hy_abs {x v : Int32} (e : x = if 0 ≤ v then v else 0 - v) (h0 : -100000 ≤ v.toInt) (h1 : v.toInt ≤ 100000) : (0 ≤ v.toInt ∧ x.toInt = v.toInt) ∨ (v.toInt < 0 ∧ x.toInt = - v.toInt) := by
  have z0 : (0 : Int32).toInt = 0 := by decide
  by_cases z : 0 ≤ v
  · rw [if_pos z] at e
    rw [Int32.le_iff_toInt_le] at z
    exact Or.inl ⟨by omega, by rw [e]⟩
  · rw [if_neg z] at e
    rw [Int32.le_iff_toInt_le] at z
    refine Or.inr ⟨by omega, ?_⟩
    rw [e, i32_sub rfl rfl (by omega) (by omega)]
    omega
def hy_DY (d : Nat → Int32) (n : Nat) : Prop := ∀ x, x < n → 0 ≤ (d x).toInt ∧ (d x).toInt ≤ 7999
def hy_TK (A r : Int) (T T1 : Nat → Int32) : Prop := (r = 0 ∧ A < 0 ∧ T1 = T) ∨ (r = 1 ∧ 0 ≤ A ∧ T1 = hx_up T A.toNat 1)
theorem hy_tp_f {o w d k s T : Nat → Int32} {p q u : Int32} {x y : Nat} (h : (T y).toInt ≠ 0 ∨ hy_ln o w d q p u y = false ∨ hy_tw d k s x y = false) : hy_tp o w d k s T p q u x y = false := by
  unfold hy_tp
  rcases h with h | h | h
  · rw [decide_eq_false h]; rfl
  · rw [h]; simp
  · rw [h]; simp
theorem hy_tp_t {o w d k s T : Nat → Int32} {p q u : Int32} {x y : Nat} (h1 : (T y).toInt = 0) (h2 : hy_ln o w d q p u y = true) (h3 : hy_tw d k s x y = true) : hy_tp o w d k s T p q u x y = true := by
  unfold hy_tp
  rw [decide_eq_true h1, h2, h3]; rfl
theorem hy_all_s {b : Nat → Int32} {pr : Nat → Bool} {i j : Int32} (h : ∀ m : Nat, (m : Int) < i.toInt → pr (b m).toInt.toNat = false) (h0 : 0 ≤ i.toInt) (hn : pr (b i.toNatClampNeg).toInt.toNat = false) (e : j.toInt = i.toInt + 1) : ∀ m : Nat, (m : Int) < j.toInt → pr (b m).toInt.toNat = false := fun m hm => by
  rcases (show (m : Int) < i.toInt ∨ m = i.toNatClampNeg by unfold Int32.toNatClampNeg; omega) with z | z
  · exact h m z
  · rw [z]; exact hn
theorem hy_cl_s {T T1 : Nat → Int32} {i j : Int32} (h : ∀ m : Nat, (m : Int) < i.toInt → T m = 0) (h0 : 0 ≤ i.toInt) (e1 : T1 = hx_up T i.toNatClampNeg 0) (e : j.toInt = i.toInt + 1) : ∀ m : Nat, (m : Int) < j.toInt → T1 m = 0 := fun m hm => by
  subst e1
  rcases (show (m : Int) < i.toInt ∨ m = i.toNatClampNeg by unfold Int32.toNatClampNeg; omega) with z | z
  · rw [hx_up_ne (by unfold Int32.toNatClampNeg; omega)]; exact h m z
  · rw [z, hx_up_at]
theorem hy_BD_b {d b : Nat → Int32} {n : Nat} {i x : Int32} (hB : hy_BD d b n) (h0 : 0 ≤ i.toInt) (h1 : i.toInt < n) (hx : x = b i.toNatClampNeg) : 0 ≤ x.toInt ∧ x.toInt < n := by
  obtain ⟨y, hy, e, _⟩ := hB.2 i.toNatClampNeg (by unfold Int32.toNatClampNeg; omega)
  rw [hx, e]; omega
theorem hy_bi_d {d d1 b b1 : Nat → Int32} {n : Nat} {i D : Int} (hB : hy_BD d b n) (hd : ∀ x, x < n → d1 x = d x) (h0 : 0 ≤ i) (h : hy_bi d1 b b1 n i D) : hy_bi d b b1 n i D := by
  refine ⟨h.1, h.2.1, fun k h1 h2 => ?_⟩
  have h3 := h.2.2 k h1 h2
  obtain ⟨x, hx, e, _⟩ := hB.2 k h2
  rw [e] at h3 ⊢
  rw [hd _ (by omega)] at h3
  exact h3
theorem hy_BD_in2 {d b b1 b2 d1 : Nat → Int32} {n : Nat} {j k0 D k1 : Int32} (hn0 : k0.toInt = n) (hk1 : k1.toInt = n + 1) (hB : hy_BD d b n) (hd1 : d1 = hx_up d k0.toNatClampNeg D) (h : hy_bi d1 b b1 n j.toInt D.toInt) (h0 : 0 ≤ j.toInt) (hn : j.toInt ≤ n) (ho : j.toInt = 0 ∨ ∃ x z y : Int32, y.toInt = j.toInt - 1 ∧ z = b1 y.toNatClampNeg ∧ x = d1 z.toNatClampNeg ∧ x.toInt ≤ D.toInt) (e : b2 = hx_up b1 j.toNatClampNeg k0) : hy_BD d1 b2 k1.toInt.toNat := by
  have ck : ((k0.toNatClampNeg : Nat) : Int) = k0.toInt := by unfold Int32.toNatClampNeg; omega
  have hd : ∀ x, x < n → d1 x = d x := fun x hx => by rw [hd1, hx_up_ne (by omega)]
  have hb := hy_bi_d hB hd h0 h
  rw [show k1.toInt.toNat = n + 1 by omega]
  refine hy_BD_in (D := D.toInt) (i := j.toInt) (v := D) hB hd (by rw [hd1, show n = k0.toNatClampNeg by omega, hx_up_at]) hb h0 hn ?_ rfl hn0 e
  rcases ho with z | ⟨x, z, y, hy, hz, hx, hv⟩
  · exact Or.inl z
  · rcases (show j.toInt = 0 ∨ 0 < j.toInt by omega) with w | w
    · exact Or.inl w
    · right
      have ey : y.toNatClampNeg = (j.toInt - 1).toNat := by unfold Int32.toNatClampNeg; omega
      rw [ey, hb.1 _ (by omega)] at hz
      obtain ⟨m, hm, em, _⟩ := hB.2 (j.toInt - 1).toNat (by omega)
      have ez : z.toNatClampNeg = m := by rw [hz]; unfold Int32.toNatClampNeg; omega
      rw [ez, hd m hm] at hx
      rw [em]
      simp only [Int.toNat_natCast]
      rw [← hx]; exact hv
theorem hy_am_sn {pr : Nat → Bool} {d : Nat → Int32} {v i j : Int32} (h : v.toInt = hy_am pr d i.toInt.toNat) (h0 : 0 ≤ i.toInt) (hp : pr i.toNatClampNeg = false) (e : j.toInt = i.toInt + 1) : v.toInt = hy_am pr d j.toInt.toNat := by
  rw [show j.toInt.toNat = i.toInt.toNat + 1 by omega, h]
  show _ = (if pr i.toNatClampNeg then _ else _)
  rw [hp]
  rfl
theorem hy_am_sy {pr : Nat → Bool} {d : Nat → Int32} {v v1 x y i j : Int32} (h : v.toInt = hy_am pr d i.toInt.toNat) (h0 : 0 ≤ i.toInt) (hp : pr i.toNatClampNeg = true) (hc : (v.toInt < 0 ∧ v1 = i) ∨ (0 ≤ v.toInt ∧ x = d i.toNatClampNeg ∧ y = d v.toNatClampNeg ∧ ((x.toInt < y.toInt ∧ v1 = i) ∨ (y.toInt ≤ x.toInt ∧ v1 = v)))) (e : j.toInt = i.toInt + 1) : v1.toInt = hy_am pr d j.toInt.toNat := by
  have e1 : hy_am pr d j.toInt.toNat = (if pr i.toNatClampNeg then (if hy_am pr d i.toInt.toNat < 0 ∨ (d i.toNatClampNeg).toInt < (d (hy_am pr d i.toInt.toNat).toNat).toInt then ((i.toNatClampNeg : Nat) : Int) else hy_am pr d i.toInt.toNat) else hy_am pr d i.toInt.toNat) := by
    rw [show j.toInt.toNat = i.toInt.toNat + 1 by omega]; rfl
  have ci : ((i.toNatClampNeg : Nat) : Int) = i.toInt := by unfold Int32.toNatClampNeg; omega
  rw [e1, if_pos hp, ← h]
  have ev : v.toInt.toNat = v.toNatClampNeg := rfl
  rw [ev]
  rcases hc with ⟨a, b⟩ | ⟨a, hx, hy, ⟨b, c⟩ | ⟨b, c⟩⟩
  · rw [if_pos (Or.inl a), b, ci]
  · rw [if_pos (Or.inr (by rw [← hx, ← hy]; exact b)), c, ci]
  · rw [if_neg (by rw [← hx, ← hy]; omega), c]
def hx_LA (n r : Int) (v : Int32) (f f1 : Nat → Int32) : Prop := (r = -1 ∧ f1 = f) ∨ (0 ≤ n ∧ r = n + 1 ∧ f1 = hx_up f n.toNat v)
theorem hx_lak {n r r2 n1 : Int} {v : Int32} {f f1 g g1 : Nat → Int32} (hr : r = r2) (h1 : (r = -1 ∧ n1 = n) ∨ (r = n + 1 ∧ n1 = n + 1)) (p : hx_LA n r v f f1) (q : hx_LA n r2 v g g1) (e : hx_eqN n.toNat f g) : hx_eqN n1.toNat f1 g1 := by
  rcases p with ⟨a, b⟩ | ⟨a0, a, b⟩ <;> rcases q with ⟨c, d⟩ | ⟨c0, c, d⟩
  · rw [b, d]
    rcases h1 with ⟨z, w⟩ | ⟨z, w⟩
    · rw [w]; exact e
    · have : n < 0 := by omega
      intro j hj; omega
  · exfalso; omega
  · exfalso; omega
  · rw [b, d]
    intro j hj
    by_cases z : j = n.toNat
    · rw [z, hx_up_at, hx_up_at]
    · rw [hx_up_ne z, hx_up_ne z]
      refine e j ?_
      rcases h1 with ⟨w1, w2⟩ | ⟨w1, w2⟩ <;> omega
theorem hy_DY_s {n r n1 : Int} {v : Int32} {f f1 : Nat → Int32} (h : hy_DY f n.toNat) (hn : (r = -1 ∧ n1 = n) ∨ (r = n + 1 ∧ n1 = n + 1 ∧ 0 ≤ v.toInt ∧ v.toInt ≤ 7999)) (h0 : 0 ≤ n) (p : hx_LA n r v f f1) : hy_DY f1 n1.toNat := by
  rcases p with ⟨a, b⟩ | ⟨a0, a, b⟩
  · rw [b]
    rcases hn with ⟨z, w⟩ | ⟨z, w, _⟩
    · rw [w]; exact h
    · exfalso; omega
  · rw [b]
    rcases hn with ⟨z, w⟩ | ⟨z, w, v0, v1⟩
    · exfalso; omega
    · intro j hj
      by_cases y : j = n.toNat
      · rw [y, hx_up_at]; exact ⟨v0, v1⟩
      · rw [hx_up_ne y]; exact h j (by omega)
def hy_BC (n a b d : Int) : Prop := (0 ≤ a ∧ a < n) ∧ (0 ≤ b ∧ b < n) ∧ a ≠ b ∧ (0 ≤ d ∧ d ≤ 7999)
/-- what book() answers -/
def hy_BK (n a b d w r x y z : Int) : Prop := (hy_BC n a b d ∧ w = 0 ∧ r = x) ∨ (hy_BC n a b d ∧ w = 1 ∧ r = y) ∨ (hy_BC n a b d ∧ w = 2 ∧ r = z) ∨ (¬ (hy_BC n a b d ∧ 0 ≤ w ∧ w ≤ 2) ∧ r = -1000000)
theorem hy_BK_0 {n a b d w r x y z : Int} (c : hy_BC n a b d) (hw : w = 0) (h : r = x) : hy_BK n a b d w r x y z := Or.inl ⟨c, hw, h⟩
theorem hy_BK_1 {n a b d w r x y z : Int} (c : hy_BC n a b d) (hw : w = 1) (h : r = y) : hy_BK n a b d w r x y z := Or.inr (Or.inl ⟨c, hw, h⟩)
theorem hy_BK_2 {n a b d w r x y z : Int} (c : hy_BC n a b d) (hw : w = 2) (h : r = z) : hy_BK n a b d w r x y z := Or.inr (Or.inr (Or.inl ⟨c, hw, h⟩))
theorem hy_BK_n {n a b d w r x y z : Int} (c : ¬ (hy_BC n a b d ∧ 0 ≤ w ∧ w ≤ 2)) (h : r = -1000000) : hy_BK n a b d w r x y z := Or.inr (Or.inr (Or.inr ⟨c, h⟩))
theorem hy_bk {n a b d w r r2 x y z x2 y2 z2 : Int} (e1 : x = x2) (e2 : y = y2) (e3 : z = z2) (p : hy_BK n a b d w r x y z) (q : hy_BK n a b d w r2 x2 y2 z2) : r = r2 := by
  subst e1; subst e2; subst e3
  rcases p with ⟨a1, a2, a3⟩ | ⟨a1, a2, a3⟩ | ⟨a1, a2, a3⟩ | ⟨a1, a2⟩ <;> rcases q with ⟨b1, b2, b3⟩ | ⟨b1, b2, b3⟩ | ⟨b1, b2, b3⟩ | ⟨b1, b2⟩ <;> first
    | omega
    | exact absurd ⟨a1, by omega, by omega⟩ b1
    | exact absurd ⟨b1, by omega, by omega⟩ a1
theorem hx_eqN_z {c : Int32} {f g : Nat → Int32} (h : c = 0) : hx_eqN c.toInt.toNat f g := fun j hj => by
  rw [h] at hj
  have : (0 : Int32).toInt.toNat = 0 := by decide
  omega
theorem hy_BD_z {c : Int32} {d b : Nat → Int32} (h : c = 0) : hy_BD d b c.toInt.toNat ∧ hy_DY d c.toInt.toNat := by
  have : c.toInt.toNat = 0 := by rw [h]; decide
  rw [this]
  exact ⟨hy_BD_0, fun x hx => by omega⟩
end
