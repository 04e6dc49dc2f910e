section
set_option maxHeartbeats 4000000 in
set_option maxRecDepth 100000 in
theorem t_X10_compareOf_v (l : Launch) (dC : Nat → ClassId) (dI : Nat → Nat → Nat) (dA : Nat → ClassId) (L : List Nat) (h : hx_h) (sz : Nat) (i1 : Int32) (i2 : Int32) (i3 : Int32) (hT : hx_T T_tb L h)  (hi1 : 0 ≤ i1.toInt ∧ i1.toInt ≤ 7) (hi2 : 0 ≤ i2.toInt ∧ i2.toInt ≤ 4) (hi3 : 0 ≤ i3.toInt ∧ i3.toInt ≤ 10007) : Met l yX10_compareOf (Cond.code yX10_compareOf cX10_compareOf 3 (some .int) :: hx_all) ({ frames := 0, cells := 0, slots := 0, locals := 0 }) (va_Pc [.int i1, .int i2, .int i3] (hx_B T_tb (P_ty dA) (dC, dI) vwCl L h sz)) (va_Qi (fun (r : Int32) (u : List Nat × hx_h) => (hx_okc r.toInt = true ∧ r.toInt = 1000000 * (1 + i1.toInt) + 100000 * i2.toInt + i3.toInt) ∧ hx_T T_tb u.1 u.2 ∧ hx_S T_tb [] L h u.1 u.2) (hx_E T_tb (P_ty dA) (dC, dI) vwCl (hx_A L sz)) (hx_A L sz)) 0 0 (hx_A L sz) := by
  refine hx_met (lv := [(0, .int i1), (1, .int i2), (2, .int i3)]) (by decide +kernel) rfl (Nat.le_of_ble_eq_true rfl) rfl ?_
  intro p e s m below meth c hx hb hml hr hlk hts0 hown hin hsz hW ls hl
  have hts : ∀ w ∈ hx_all, w.before _ s = true := fun w hw => hts0 w (List.mem_cons_of_mem _ hw)
  have hown : s.vm.findClass "SmallCourtModel" = some m.cls := hown
  have hM : hx_S T_tb [] L h L h := hx_S.rf
  refine lv_ldcw (v := 1000000) hx hb hown (hts _ kw_1133) dX10_compareOf_0 ?_
  refine lv_iconst (v := 1) hx hb dX10_compareOf_3 ?o0 ?_
  case o0 => decide
  refine lv_iload_n hx hb dX10_compareOf_4 rfl (lv_at hl 0 rfl) ?_
  refine lv_iadd hx hb dX10_compareOf_5 ?_
  have rg_1 := i32_r i1
  refine lv_topi (fun x_2 ex_2 => ?_)
  have zx_2 : x_2.toInt = 1 + i1.toInt := ?o1
  case o1 =>
    rw [ex_2]
    refine i32_add ?o2 rfl ?o3 ?o4
    case o2 => decide
    case o3 => omega
    case o4 => omega
  refine lv_imul hx hb dX10_compareOf_6 ?_
  refine lv_topi (fun x_3 ex_3 => ?_)
  have zx_3 : x_3.toInt = 1000000 * x_2.toInt := ?o5
  case o5 =>
    rw [ex_3]
    refine i32_mul ?o6 rfl rfl ?o7 ?o8
    case o6 => decide
    case o7 => omega
    case o8 => omega
  refine lv_ldcw (v := 100000) hx hb hown (hts _ kw_1134) dX10_compareOf_7 ?_
  refine lv_iload_n hx hb dX10_compareOf_10 rfl (lv_at hl 1 rfl) ?_
  refine lv_imul hx hb dX10_compareOf_11 ?_
  refine lv_topi (fun x_4 ex_4 => ?_)
  have zx_4 : x_4.toInt = 100000 * i2.toInt := ?o9
  case o9 =>
    rw [ex_4]
    refine i32_mul ?o10 rfl rfl ?o11 ?o12
    case o10 => decide
    case o11 => omega
    case o12 => omega
  refine lv_iadd hx hb dX10_compareOf_12 ?_
  have rg_5 := i32_r x_3
  have rg_6 := i32_r x_4
  refine lv_topi (fun x_7 ex_7 => ?_)
  have zx_7 : x_7.toInt = x_3.toInt + x_4.toInt := ?o13
  case o13 =>
    rw [ex_7]
    refine i32_add rfl rfl ?o14 ?o15
    case o14 => omega
    case o15 => omega
  refine lv_iload_n hx hb dX10_compareOf_13 rfl (lv_at hl 2 rfl) ?_
  refine lv_iadd hx hb dX10_compareOf_14 ?_
  have rg_8 := i32_r x_7
  have rg_9 := i32_r i3
  refine lv_topi (fun x_10 ex_10 => ?_)
  have zx_10 : x_10.toInt = x_7.toInt + i3.toInt := ?o16
  case o16 =>
    rw [ex_10]
    refine i32_add rfl rfl ?o17 ?o18
    case o17 => omega
    case o18 => omega
  refine hx_reti hx hb hr hlk hW ⟨⟨(hx_okc_i ?o19 ?o20 ?o21), ?o22⟩, hT, hM⟩ dX10_compareOf_15
  case o19 => omega
  case o20 => omega
  case o21 => omega
  case o22 => omega


set_option maxHeartbeats 4000000 in
set_option maxRecDepth 100000 in
theorem t_X10_compare_v (l : Launch) (dC : Nat → ClassId) (dI : Nat → Nat → Nat) (dA : Nat → ClassId) (L : List Nat) (h : hx_h) (sz : Nat) (x : Nat) (i1 : Int32) (hT : hx_T T_tb L h) (gx : hx_g L h x 10) (qs : Nat) (gqs : hx_g L h qs 55) (f_x_15 : h.2.2 x 15 = some qs) (qo : Nat) (gqo : hx_g L h qo 56) (f_x_17 : h.2.2 x 17 = some qo) (qt : Nat) (gqt : hx_g L h qt 53) (f_x_6 : h.2.2 x 6 = some qt) (qw : Nat) (gqw : hx_g L h qw 57) (f_x_19 : h.2.2 x 19 = some qw) (sf : Nat → Int32) (af_qs : h.2.1 qs = sf) (of : Nat → Int32) (af_qo : h.2.1 qo = of) (tf : Nat → Int32) (af_qt : h.2.1 qt = tf) (wf : Nat → Int32) (af_qw : h.2.1 qw = wf) (cp0 : Int32) (f_x_16 : h.2.1 x 16 = cp0) (nx0 : Int32) (f_x_8 : h.2.1 x 8 = nx0) (st0 : Int32) (f_x_14 : h.2.1 x 14 = st0) (op0 : Int32) (f_x_18 : h.2.1 x 18 = op0) (tp0 : Int32) (f_x_7 : h.2.1 x 7 = tp0) (ws0 : Int32) (f_x_11 : h.2.1 x 11 = ws0) (ft0 : Int32) (f_x_9 : h.2.1 x 9 = ft0) (hQ : hx_QQ 0 cp0.toInt nx0.toInt st0.toInt op0.toInt sf of) (hwd : hx_wd wf) (o : List hv_tok) (hO : hv_ls sf st0.toInt.toNat = o.map hv_rc) (hF : ft0.toInt = 0) (hA : nx0.toInt ≤ tp0.toInt) (hW0 : i1.toInt = hv_wd tf tp0.toInt.toNat nx0.toInt.toNat) (hWE : ((hv_we tf tp0.toInt.toNat nx0.toInt.toNat : Nat) : Int) = nx0.toInt + ws0.toInt) : Met l yX10_compare (Cond.code yX10_compare cX10_compare 6 (some .boolean) :: hx_all) ({ frames := 2, cells := 0, slots := 0, locals := 48 }) (va_Pc [.ref x, .int i1] (hx_B T_tb (P_ty dA) (dC, dI) vwCl L h sz)) (va_Qi (fun (r : Int32) (u : List Nat × hx_h) => (∃ (cp1 : Int32) (nx1 : Int32) (st1 : Int32) (ft1 : Int32) (sf1 : Nat → Int32), u.2.2.1 x 16 = cp1 ∧ u.2.2.1 x 8 = nx1 ∧ u.2.2.1 x 14 = st1 ∧ u.2.2.1 x 9 = ft1 ∧ u.2.2.1 qs = sf1 ∧ ((r.toInt = 0 ∨ r.toInt = 1) ∧ nx0.toInt ≤ nx1.toInt ∧ (r.toInt = 1 → hx_QQ 1 cp1.toInt nx1.toInt st1.toInt op0.toInt sf1 of) ∧ hv_K hv_rc (hv_term tf tp0.toInt.toNat nx0.toInt.toNat cp0.toInt.toNat o) r.toInt ft1.toInt nx1.toInt cp1.toInt (hv_ls sf1 st1.toInt.toNat) ∧ (r.toInt = 1 → nx0.toInt < nx1.toInt ∧ nx1.toInt ≤ tp0.toInt))) ∧ hx_T T_tb u.1 u.2 ∧ hx_S T_tb [(10, 8), (10, 9), (10, 10), (10, 11), (10, 14), (10, 16), (55, 0)] L h u.1 u.2) (hx_E T_tb (P_ty dA) (dC, dI) vwCl (hx_A L sz)) (hx_A L sz)) 0 0 (hx_A L sz) := by
  refine hx_met (lv := [(0, .ref x), (1, .int i1)]) (by decide +kernel) rfl (Nat.le_of_ble_eq_true rfl) rfl ?_
  intro p e s m below meth c hx hb hml hr hlk hts0 hown hin hsz hW ls hl
  have hts : ∀ w ∈ hx_all, w.before _ s = true := fun w hw => hts0 w (List.mem_cons_of_mem _ hw)
  have hown : s.vm.findClass "SmallCourtModel" = some m.cls := hown
  have hM : hx_S T_tb [(10, 8), (10, 9), (10, 10), (10, 11), (10, 14), (10, 16), (55, 0)] L h L h := hx_S.rf
  have b_cp0 := hT.gi gx tt_10 (k := 16) rfl
  rw [f_x_16] at b_cp0
  have b_cp0 : 0 ≤ cp0.toInt ∧ cp0.toInt ≤ 20 := b_cp0
  have b_nx0 := hT.gi gx tt_10 (k := 8) rfl
  rw [f_x_8] at b_nx0
  have b_nx0 : 0 ≤ nx0.toInt ∧ nx0.toInt ≤ 402 := b_nx0
  have b_st0 := hT.gi gx tt_10 (k := 14) rfl
  rw [f_x_14] at b_st0
  have b_st0 : 0 ≤ st0.toInt ∧ st0.toInt ≤ 128 := b_st0
  have b_op0 := hT.gi gx tt_10 (k := 18) rfl
  rw [f_x_18] at b_op0
  have b_op0 : 0 ≤ op0.toInt ∧ op0.toInt ≤ 128 := b_op0
  have b_tp0 := hT.gi gx tt_10 (k := 7) rfl
  rw [f_x_7] at b_tp0
  have b_tp0 : 0 ≤ tp0.toInt ∧ tp0.toInt ≤ 400 := b_tp0
  have b_ws0 := hT.gi gx tt_10 (k := 11) rfl
  rw [f_x_11] at b_ws0
  have b_ws0 : 0 ≤ ws0.toInt ∧ ws0.toInt ≤ 400 := b_ws0
  have b_ft0 := hT.gi gx tt_10 (k := 9) rfl
  rw [f_x_9] at b_ft0
  have b_ft0 : -2147483648 ≤ ft0.toInt ∧ ft0.toInt ≤ 2147483647 := b_ft0
  refine lv_iload_n hx hb dX10_compare_0 rfl (lv_at hl 1 rfl) ?_
  refine hx_goi (hx_runS (As := [.int i1]) (rest := []) ⟨hx, hb, hml, hown, hts⟩ hW (t_X10_isFact l dC dI dA L h s.heap.size i1 hT) (va_cwS 1 hts (hx_gS kw_1499 kw_1497 kw_1498 kw_103) rfl rfl rfl (by decide +kernel) ⟨Nat.le_of_ble_eq_true rfl, Nat.le_of_ble_eq_true rfl⟩) rfl hl.1 rfl (Nat.le_of_ble_eq_true rfl) dX10_compare_1 ⟨Nat.le_of_ble_eq_true rfl, Nat.le_of_ble_eq_true rfl⟩) hW (fun r_3 L_1 h_2 H locs p_4 hW => ?_)
  obtain ⟨hr_5, hT, hs⟩ := p_4
  replace hT : hx_T T_tb L_1 h_2 := hT
  replace hs : hx_S T_tb [] L h L_1 h_2 := hs
  replace f_x_16 := (hs.o (gx.S hM) trivial rfl).1.trans f_x_16
  replace f_x_8 := (hs.o (gx.S hM) trivial rfl).1.trans f_x_8
  replace f_x_14 := (hs.o (gx.S hM) trivial rfl).1.trans f_x_14
  replace f_x_11 := (hs.o (gx.S hM) trivial rfl).1.trans f_x_11
  replace f_x_9 := (hs.o (gx.S hM) trivial rfl).1.trans f_x_9
  replace af_qs : h_2.2.1 qs = sf := (funext fun j => (hs.a (gqs.S hM) rfl j).1).trans af_qs
  replace hM := hM.tr (hs.mono ?o0)
  case o0 => decide
  refine hb_if_ne (zx := r_3.toInt) (tgt := 17) hx hb rfl dX10_compare_4 ?o1 (fun c_6 => ?_) (fun c_6 => ?_)
  case o1 => decide
  · skip
    replace hr_5 := hr_5.resolve_left (fun z9 => c_6 z9.1)
    replace c_6 := hr_5.1
    replace hr_5 := hr_5.2
    refine lv_aload_n hx hb dX10_compare_17 rfl (lv_at hl 0 rfl) ?_
    refine hk_geti hx hb hts hC_10 hown hW (gx.S hM) tt_10 16 ?o2 rfl kw_1159 ⟨rfl, rfl, rfl⟩ f_x_16 dX10_compare_18 ?_
    case o2 => decide
    refine lv_bipush (v := 20) hx hb dX10_compare_21 ?o3 ?_
    case o3 => decide
    refine hb_icmp_ne (zx := cp0.toInt) (zy := 20) (tgt := 36) hx hb rfl ?o4 dX10_compare_23 ?o5 (fun c_7 => ?_) (fun c_7 => ?_)
    case o4 => decide
    case o5 => decide
    · skip
      have hw3 := hv_wd_3 (T := tf) (n := tp0.toInt.toNat) (p := nx0.toInt.toNat) ?o6
      case o6 => omega
      refine lv_aload_n hx hb dX10_compare_36 rfl (lv_at hl 0 rfl) ?_
      refine lv_dup hx hb dX10_compare_37 rfl ?_
      refine hk_geti hx hb hts hC_10 hown hW (gx.S hM) tt_10 16 ?o7 rfl kw_1159 ⟨rfl, rfl, rfl⟩ f_x_16 dX10_compare_38 ?_
      case o7 => decide
      refine lv_iconst (v := 1) hx hb dX10_compare_41 ?o8 ?_
      case o8 => decide
      refine lv_iadd hx hb dX10_compare_42 ?_
      have rg_8 := i32_r cp0
      refine lv_topi (fun x_9 ex_9 => ?_)
      have zx_9 : x_9.toInt = cp0.toInt + 1 := ?o9
      case o9 =>
        rw [ex_9]
        refine i32_add rfl ?o10 ?o11 ?o12
        case o10 => decide
        case o11 => omega
        case o12 => omega
      refine hx_puti hx hb hts hC_10 hown hW hT (hx_S.rf (M := [(10, 16)])) (gx.S hM) tt_10 16 ?o13 rfl kw_1159 ⟨rfl, rfl, rfl⟩ rfl (x := x_9) ⟨?o14, ?o15⟩ rfl rfl rfl (List.mem_singleton.mpr rfl) dX10_compare_43 (fun H locs h_10 eh_10 hW hT hs => ?_)
      case o13 => decide
      case o14 => omega
      case o15 => omega
      replace f_x_8 := (hs.o (gx.S hM) trivial rfl).1.trans f_x_8
      replace f_x_14 := (hs.o (gx.S hM) trivial rfl).1.trans f_x_14
      replace f_x_11 := (hs.o (gx.S hM) trivial rfl).1.trans f_x_11
      replace f_x_9 := (hs.o (gx.S hM) trivial rfl).1.trans f_x_9
      replace af_qs : h_10.2.1 qs = sf := (funext fun j => (hs.a (gqs.S hM) rfl j).1).trans af_qs
      replace hM := hM.tr (hs.mono ?o16)
      case o16 => decide
      have f_11 : h_10.2.1 x 16 = x_9 := ?o17
      case o17 =>
        rw [eh_10]
        exact hx_pi_at _ _ _ _
      refine lv_aload_n hx hb dX10_compare_46 rfl (lv_at hl 0 rfl) ?_
      refine lv_dup hx hb dX10_compare_47 rfl ?_
      refine hk_geti hx hb hts hC_10 hown hW (gx.S hM) tt_10 8 ?o18 rfl kw_1151 ⟨rfl, rfl, rfl⟩ f_x_8 dX10_compare_48 ?_
      case o18 => decide
      refine lv_aload_n hx hb dX10_compare_51 rfl (lv_at hl 0 rfl) ?_
      refine hk_geti hx hb hts hC_10 hown hW (gx.S hM) tt_10 11 ?o19 rfl kw_1154 ⟨rfl, rfl, rfl⟩ f_x_11 dX10_compare_52 ?_
      case o19 => decide
      refine lv_iadd hx hb dX10_compare_55 ?_
      have rg_12 := i32_r nx0
      have rg_13 := i32_r ws0
      refine lv_topi (fun x_14 ex_14 => ?_)
      have zx_14 : x_14.toInt = nx0.toInt + ws0.toInt := ?o20
      case o20 =>
        rw [ex_14]
        refine i32_add rfl rfl ?o21 ?o22
        case o21 => omega
        case o22 => omega
      refine hx_puti hx hb hts hC_10 hown hW hT (hx_S.rf (M := [(10, 8)])) (gx.S hM) tt_10 8 ?o23 rfl kw_1151 ⟨rfl, rfl, rfl⟩ rfl (x := x_14) ⟨?o24, ?o25⟩ rfl rfl rfl (List.mem_singleton.mpr rfl) dX10_compare_56 (fun H locs h_15 eh_15 hW hT hs => ?_)
      case o23 => decide
      case o24 => omega
      case o25 => omega
      replace f_x_14 := (hs.o (gx.S hM) trivial rfl).1.trans f_x_14
      replace f_x_11 := (hs.o (gx.S hM) trivial rfl).1.trans f_x_11
      replace f_x_9 := (hs.o (gx.S hM) trivial rfl).1.trans f_x_9
      replace f_11 := (hs.o (gx.S hM) trivial rfl).1.trans f_11
      replace af_qs : h_15.2.1 qs = sf := (funext fun j => (hs.a (gqs.S hM) rfl j).1).trans af_qs
      replace hM := hM.tr (hs.mono ?o26)
      case o26 => decide
      have f_16 : h_15.2.1 x 8 = x_14 := ?o27
      case o27 =>
        rw [eh_15]
        exact hx_pi_at _ _ _ _
      have ha1 : x_14.toInt.toNat = hv_we tf tp0.toInt.toNat nx0.toInt.toNat := ?o28
      case o28 => omega
      refine lv_aload_n hx hb dX10_compare_59 rfl (lv_at hl 0 rfl) ?_
      refine hx_goi (hx_runV (As := []) (rest := []) ⟨hx, hb, hml, hown, hts⟩ hW (gx.S hM) tt_10 (T := TX10) (N := 98) rfl (t_X10_see_v l dC dI dA L_1 h_15 H.size x hT (gx.S hM) qt (gqt.S hM) ((hM.o gx trivial rfl).2.trans f_x_6) tf (hx_afS hM gqt rfl af_qt) x_14 f_16 tp0 ((hM.o gx trivial rfl).1.trans f_x_7) ?o29) (cwV 0 hts (hx_gV kw_1468 kw_1465 kw_1467 kw_53 kw_103) rfl rfl rfl (by decide +kernel) ⟨Nat.le_of_ble_eq_true rfl, Nat.le_of_ble_eq_true rfl⟩) rfl hl.1 rfl (Nat.le_of_ble_eq_true rfl) dX10_compare_60 ⟨Nat.le_of_ble_eq_true rfl, Nat.le_of_ble_eq_true rfl⟩) hW (fun r_19 L_17 h_18 H locs p_20 hW => ?_)
      case o29 => omega
      obtain ⟨⟨w_22, fw_22, hr_21⟩, hT, hs⟩ := p_20
      replace hT : hx_T T_tb L_17 h_18 := hT
      replace hs : hx_S T_tb [(10, 8)] L_1 h_15 L_17 h_18 := hs
      replace f_x_14 := (hs.o (gx.S hM) trivial rfl).1.trans f_x_14
      replace f_x_11 := (hs.o (gx.S hM) trivial rfl).1.trans f_x_11
      replace f_x_9 := (hs.o (gx.S hM) trivial rfl).1.trans f_x_9
      replace f_11 := (hs.o (gx.S hM) trivial rfl).1.trans f_11
      replace af_qs : h_18.2.1 qs = sf := (funext fun j => (hs.a (gqs.S hM) rfl j).1).trans af_qs
      replace hM := hM.tr (hs.mono ?o30)
      case o30 => decide
      have fw_22 : h_18.2.1 x 8 = w_22 := fw_22
      have bw_22 := hT.gi (gx.S hM) tt_10 (k := 8) rfl
      rw [fw_22] at bw_22
      have bw_22 : 0 ≤ w_22.toInt ∧ w_22.toInt ≤ 402 := bw_22
      have ek_23 : w_22.toInt.toNat = hv_sk tf tp0.toInt.toNat x_14.toInt.toNat := ?o31
      case o31 => omega
      have hr_21S := hr_21.2.2.2.1
      refine lv_istore_n (lv' := [(2, .int r_19), (0, .ref x), (1, .int i1)]) hx hb dX10_compare_63 rfl hl ?o32 rfl (fun ls hl => ?_)
      case o32 => decide
      have join192 : ∀ (jv192_4 jw192_x_8 : Int32) (H : Heap) (locs : List Loc) (hL1 : List Nat) (hl1 : hx_h), 0 ≤ jv192_4.toInt → jv192_4.toInt ≤ 4 → 0 ≤ jw192_x_8.toInt → jw192_x_8.toInt ≤ 402 → ((hv_sg tf tp0.toInt.toNat (hv_sk tf tp0.toInt.toNat (hv_we tf tp0.toInt.toNat nx0.toInt.toNat))).1 = (jv192_4.toInt).toNat ∧ (hv_sg tf tp0.toInt.toNat (hv_sk tf tp0.toInt.toNat (hv_we tf tp0.toInt.toNat nx0.toInt.toNat))).2 ≠ 0 ∧ (jw192_x_8.toInt).toNat = hv_sk tf tp0.toInt.toNat (hv_we tf tp0.toInt.toNat nx0.toInt.toNat) + (hv_sg tf tp0.toInt.toNat (hv_sk tf tp0.toInt.toNat (hv_we tf tp0.toInt.toNat nx0.toInt.toNat))).2) → (jw192_x_8.toInt ≤ tp0.toInt) → (nx0.toInt + 3 < jw192_x_8.toInt) → ∀ (ls : Array Slot), hx_W T_tb (P_ty dA) (dC, dI) vwCl (hx_A L sz) s.heap hL1 hl1 s H locs → hx_T T_tb hL1 hl1 → hx_S T_tb [(10, 8), (10, 9), (10, 10), (10, 11), (10, 14), (10, 16), (55, 0)] L h hL1 hl1 → hl1.2.1 x 8 = jw192_x_8 → hl1.2.1 x 14 = st0 → hl1.2.1 x 11 = ws0 → hl1.2.1 x 9 = ft0 → hl1.2.1 x 16 = x_9 → hl1.2.1 qs = sf → lv_has ls 6 [(4, .int jv192_4), (2, .int r_19), (0, .ref x), (1, .int i1)] → W p l e ({ frames := 2, cells := 0, slots := 0, locals := 48 }) s m ([.ref x, .int i1] : List Value).toArray below meth c H locs 0 0 (MQ below (va_Qi (fun (r : Int32) (u : List Nat × hx_h) => (∃ (cp1 : Int32) (nx1 : Int32) (st1 : Int32) (ft1 : Int32) (sf1 : Nat → Int32), u.2.2.1 x 16 = cp1 ∧ u.2.2.1 x 8 = nx1 ∧ u.2.2.1 x 14 = st1 ∧ u.2.2.1 x 9 = ft1 ∧ u.2.2.1 qs = sf1 ∧ ((r.toInt = 0 ∨ r.toInt = 1) ∧ nx0.toInt ≤ nx1.toInt ∧ (r.toInt = 1 → hx_QQ 1 cp1.toInt nx1.toInt st1.toInt op0.toInt sf1 of) ∧ hv_K hv_rc (hv_term tf tp0.toInt.toNat nx0.toInt.toNat cp0.toInt.toNat o) r.toInt ft1.toInt nx1.toInt cp1.toInt (hv_ls sf1 st1.toInt.toNat) ∧ (r.toInt = 1 → nx0.toInt < nx1.toInt ∧ nx1.toInt ≤ tp0.toInt))) ∧ hx_T T_tb u.1 u.2 ∧ hx_S T_tb [(10, 8), (10, 9), (10, 10), (10, 11), (10, 14), (10, 16), (55, 0)] L h u.1 u.2) (hx_E T_tb (P_ty dA) (dC, dI) vwCl (hx_A L sz)) (hx_A L sz)) ([.ref x, .int i1] : List Value).toArray s 0 0 (hx_A L sz)) (F0 m 192 ls []) := by
        intro jv192_4 jw192_x_8 H locs hL1 hl1 bljv192_4 bujv192_4 bljw192_x_8 bujw192_x_8 vj192_0 vj192_1 vj192_2 ls hW hT hM fjw192_x_8 f_x_14 f_x_11 f_x_9 f_11 af_qs hl
        have hsgj := vj192_0
        refine lv_aload_n hx hb dX10_compare_192 rfl (lv_at hl 2 rfl) ?_
        refine hx_goi (hx_runV (As := []) (rest := []) ⟨hx, hb, hml, hown, hts⟩ hW (gx.S hM) tt_10 (T := TX10) (N := 98) rfl (t_X10_wordHere_v l dC dI dA hL1 hl1 H.size x hT (gx.S hM) qt (gqt.S hM) ((hM.o gx trivial rfl).2.trans f_x_6) qw (gqw.S hM) ((hM.o gx trivial rfl).2.trans f_x_19) tf (hx_afS hM gqt rfl af_qt) wf (hx_afS hM gqw rfl af_qw) jw192_x_8 fjw192_x_8 tp0 ((hM.o gx trivial rfl).1.trans f_x_7) hwd ?o33) (cwV 0 hts (hx_gV kw_1476 kw_1473 kw_1475 kw_55 kw_103) rfl rfl rfl (by decide +kernel) ⟨Nat.le_of_ble_eq_true rfl, Nat.le_of_ble_eq_true rfl⟩) rfl hl.1 rfl (Nat.le_of_ble_eq_true rfl) dX10_compare_193 ⟨Nat.le_of_ble_eq_true rfl, Nat.le_of_ble_eq_true rfl⟩) hW (fun r_26 L_24 h_25 H locs p_27 hW => ?_)
        case o33 => omega
        obtain ⟨⟨w_29, w_30, fw_29, fw_30, hr_28⟩, hT, hs⟩ := p_27
        replace hT : hx_T T_tb L_24 h_25 := hT
        replace hs : hx_S T_tb [(10, 8), (10, 11)] hL1 hl1 L_24 h_25 := hs
        replace f_x_14 := (hs.o (gx.S hM) trivial rfl).1.trans f_x_14
        replace f_x_9 := (hs.o (gx.S hM) trivial rfl).1.trans f_x_9
        replace f_11 := (hs.o (gx.S hM) trivial rfl).1.trans f_11
        replace af_qs : h_25.2.1 qs = sf := (funext fun j => (hs.a (gqs.S hM) rfl j).1).trans af_qs
        replace hM := hM.tr (hs.mono ?o34)
        case o34 => decide
        have fw_29 : h_25.2.1 x 8 = w_29 := fw_29
        have bw_29 := hT.gi (gx.S hM) tt_10 (k := 8) rfl
        rw [fw_29] at bw_29
        have bw_29 : 0 ≤ w_29.toInt ∧ w_29.toInt ≤ 402 := bw_29
        have fw_30 : h_25.2.1 x 11 = w_30 := fw_30
        have bw_30 := hT.gi (gx.S hM) tt_10 (k := 11) rfl
        rw [fw_30] at bw_30
        have bw_30 : 0 ≤ w_30.toInt ∧ w_30.toInt ≤ 400 := bw_30
        have ek_31 : w_29.toInt.toNat = hv_sk tf tp0.toInt.toNat jw192_x_8.toInt.toNat := ?o35
        case o35 => omega
        have hr_28W : r_26.toInt = hv_wd tf tp0.toInt.toNat w_29.toInt.toNat := ?o36
        case o36 =>
          rw [ek_31]
          exact hr_28.2.2.2.2.1
        have hr_28E : ((hv_we tf tp0.toInt.toNat w_29.toInt.toNat : Nat) : Int) = w_29.toInt + w_30.toInt := ?o37
        case o37 =>
          rw [ek_31]
          exact hr_28.2.2.2.1.symm
        refine lv_istore (lv' := [(5, .int r_26), (4, .int jv192_4), (2, .int r_19), (0, .ref x), (1, .int i1)]) hx hb dX10_compare_196 hl ?o38 rfl (fun ls hl => ?_)
        case o38 => decide
        have ht9 := hv_term_o (T := tf) (n := tp0.toInt.toNat) (p := nx0.toInt.toNat) (t := cp0.toInt.toNat) (o := o) (u := w_29.toInt.toNat) ?o39 ?o40 hsgj.2.1 (by rw [ek_31, hsgj.2.2])
        case o39 => omega
        case o40 => omega
        have uid : hv_sk tf tp0.toInt.toNat w_29.toInt.toNat = w_29.toInt.toNat := ?o41
        case o41 =>
          rw [ek_31]
          exact hv_sk_id
        refine lv_iload hx hb dX10_compare_198 (lv_at hl 0 rfl) ?_
        refine hx_goi (hx_runS (As := [.int r_26]) (rest := []) ⟨hx, hb, hml, hown, hts⟩ hW (t_X10_isFact l dC dI dA L_24 h_25 H.size r_26 hT) (va_cwS 1 hts (hx_gS kw_1499 kw_1497 kw_1498 kw_103) rfl rfl rfl (by decide +kernel) ⟨Nat.le_of_ble_eq_true rfl, Nat.le_of_ble_eq_true rfl⟩) rfl hl.1 rfl (Nat.le_of_ble_eq_true rfl) dX10_compare_200 ⟨Nat.le_of_ble_eq_true rfl, Nat.le_of_ble_eq_true rfl⟩) hW (fun r_34 L_32 h_33 H locs p_35 hW => ?_)
        obtain ⟨hr_36, hT, hs⟩ := p_35
        replace hT : hx_T T_tb L_32 h_33 := hT
        replace hs : hx_S T_tb [] L_24 h_25 L_32 h_33 := hs
        replace f_x_14 := (hs.o (gx.S hM) trivial rfl).1.trans f_x_14
        replace f_x_9 := (hs.o (gx.S hM) trivial rfl).1.trans f_x_9
        replace f_11 := (hs.o (gx.S hM) trivial rfl).1.trans f_11
        replace fw_29 := (hs.o (gx.S hM) trivial rfl).1.trans fw_29
        replace fw_30 := (hs.o (gx.S hM) trivial rfl).1.trans fw_30
        replace af_qs : h_33.2.1 qs = sf := (funext fun j => (hs.a (gqs.S hM) rfl j).1).trans af_qs
        replace hM := hM.tr (hs.mono ?o42)
        case o42 => decide
        refine hb_if_eq (zx := r_34.toInt) (tgt := 241) hx hb rfl dX10_compare_203 ?o43 (fun c_37 => ?_) (fun c_37 => ?_)
        case o43 => decide
        · skip
          replace hr_36 := hr_36.resolve_right (fun z9 => absurd (c_37.symm.trans z9.1) ?o44)
          case o44 => decide
          replace hr_36 := hr_36.2
          refine lv_aload_n hx hb dX10_compare_241 rfl (lv_at hl 3 rfl) ?_
          refine lv_iconst (v := 0) hx hb dX10_compare_242 ?o45 ?_
          case o45 => decide
          refine lv_sipush (v := 9999) hx hb dX10_compare_243 ?o46 ?_
          case o46 => decide
          have zc_9999 : (9999 : Int32).toInt = 9999 := ?o47
          case o47 => decide
          have zc_0 : (0 : Int32).toInt = 0 := ?o48
          case o48 => decide
          refine hx_goi (hx_runV (As := [.int (0 : Int32), .int (9999 : Int32)]) (rest := []) ⟨hx, hb, hml, hown, hts⟩ hW (gx.S hM) tt_10 (T := TX10) (N := 98) rfl (t_X10_number_v l dC dI dA L_32 h_33 H.size x (0 : Int32) (9999 : Int32) hT (gx.S hM) qt (gqt.S hM) ((hM.o gx trivial rfl).2.trans f_x_6) tf (hx_afS hM gqt rfl af_qt) w_29 fw_29 tp0 ((hM.o gx trivial rfl).1.trans f_x_7) ft0 f_x_9 ?o49 ?o50 ?o51) (cwV 2 hts (hx_gV kw_1503 kw_1500 kw_1502 kw_61 kw_103) rfl rfl rfl (by decide +kernel) ⟨Nat.le_of_ble_eq_true rfl, Nat.le_of_ble_eq_true rfl⟩) rfl hl.1 rfl (Nat.le_of_ble_eq_true rfl) dX10_compare_246 ⟨Nat.le_of_ble_eq_true rfl, Nat.le_of_ble_eq_true rfl⟩) hW (fun r_40 L_38 h_39 H locs p_41 hW => ?_)
          case o49 => omega
          case o50 => omega
          case o51 => decide
          obtain ⟨⟨w_43, w_44, w_45, fw_43, fw_44, fw_45, hr_42⟩, hT, hs⟩ := p_41
          replace hT : hx_T T_tb L_38 h_39 := hT
          replace hs : hx_S T_tb [(10, 8), (10, 9), (10, 10)] L_32 h_33 L_38 h_39 := hs
          replace f_x_14 := (hs.o (gx.S hM) trivial rfl).1.trans f_x_14
          replace f_11 := (hs.o (gx.S hM) trivial rfl).1.trans f_11
          replace fw_30 := (hs.o (gx.S hM) trivial rfl).1.trans fw_30
          replace af_qs : h_39.2.1 qs = sf := (funext fun j => (hs.a (gqs.S hM) rfl j).1).trans af_qs
          replace hM := hM.tr (hs.mono ?o52)
          case o52 => decide
          have fw_43 : h_39.2.1 x 8 = w_43 := fw_43
          have bw_43 := hT.gi (gx.S hM) tt_10 (k := 8) rfl
          rw [fw_43] at bw_43
          have bw_43 : 0 ≤ w_43.toInt ∧ w_43.toInt ≤ 402 := bw_43
          have fw_44 : h_39.2.1 x 10 = w_44 := fw_44
          have bw_44 := hT.gi (gx.S hM) tt_10 (k := 10) rfl
          rw [fw_44] at bw_44
          have bw_44 : 0 ≤ w_44.toInt ∧ w_44.toInt ≤ 9999 := bw_44
          have fw_45 : h_39.2.1 x 9 = w_45 := fw_45
          have bw_45 := hT.gi (gx.S hM) tt_10 (k := 9) rfl
          rw [fw_45] at bw_45
          have bw_45 : -2147483648 ≤ w_45.toInt ∧ w_45.toInt ≤ 2147483647 := bw_45
          have hr_42b := hv_M_b hr_42.1
          refine hb_if_ne (zx := r_40.toInt) (tgt := 254) hx hb rfl dX10_compare_249 ?o53 (fun c_46 => ?_) (fun c_46 => ?_)
          case o53 => decide
          · skip
            have hnm := hv_M_1 hr_42.1 ?o54
            case o54 => omega
            rw [show (0 : Int32).toInt = 0 from by decide, show (9999 : Int32).toInt = 9999 from by decide] at hnm
            have hnb := hr_42.2.1 ?o55
            case o55 => omega
            have hroom := hx_QQ_room hQ (n1 := w_43.toInt) ?o56 ?o57
            case o56 => omega
            case o57 => omega
            refine lv_aload_n hx hb dX10_compare_254 rfl (lv_at hl 3 rfl) ?_
            refine lv_iload_n hx hb dX10_compare_255 rfl (lv_at hl 4 rfl) ?_
            refine lv_iconst (v := 3) hx hb dX10_compare_256 ?o58 ?_
            case o58 => decide
            refine lv_isub hx hb dX10_compare_257 ?_
            have rg_47 := i32_r i1
            refine lv_topi (fun x_48 ex_48 => ?_)
            have zx_48 : x_48.toInt = i1.toInt - 3 := ?o59
            case o59 =>
              rw [ex_48]
              refine i32_sub rfl ?o60 ?o61 ?o62
              case o60 => decide
              case o61 => omega
              case o62 => omega
            refine lv_iload hx hb dX10_compare_258 (lv_at hl 1 rfl) ?_
            refine lv_aload_n hx hb dX10_compare_260 rfl (lv_at hl 3 rfl) ?_
            refine hk_geti hx hb hts hC_10 hown hW (gx.S hM) tt_10 10 ?o63 rfl kw_1153 ⟨rfl, rfl, rfl⟩ fw_44 dX10_compare_261 ?_
            case o63 => decide
            refine hx_goi (hx_runS (As := [.int x_48, .int jv192_4, .int w_44]) (rest := [.ref x]) ⟨hx, hb, hml, hown, hts⟩ hW (t_X10_compareOf_v l dC dI dA L_38 h_39 H.size x_48 jv192_4 w_44 hT ⟨?o64, ?o65⟩ ⟨?o66, ?o67⟩ ⟨?o68, ?o69⟩) (va_cwS 3 hts (hx_gS kw_1132 kw_1130 kw_1131 kw_103) rfl rfl rfl (by decide +kernel) ⟨Nat.le_of_ble_eq_true rfl, Nat.le_of_ble_eq_true rfl⟩) rfl hl.1 rfl (Nat.le_of_ble_eq_true rfl) dX10_compare_264 ⟨Nat.le_of_ble_eq_true rfl, Nat.le_of_ble_eq_true rfl⟩) hW (fun r_51 L_49 h_50 H locs p_52 hW => ?_)
            case o64 => omega
            case o65 => omega
            case o66 => omega
            case o67 => omega
            case o68 => omega
            case o69 => omega
            obtain ⟨hr_53, hT, hs⟩ := p_52
            replace hT : hx_T T_tb L_49 h_50 := hT
            replace hs : hx_S T_tb [] L_38 h_39 L_49 h_50 := hs
            replace f_x_14 := (hs.o (gx.S hM) trivial rfl).1.trans f_x_14
            replace f_11 := (hs.o (gx.S hM) trivial rfl).1.trans f_11
            replace fw_30 := (hs.o (gx.S hM) trivial rfl).1.trans fw_30
            replace fw_43 := (hs.o (gx.S hM) trivial rfl).1.trans fw_43
            replace fw_44 := (hs.o (gx.S hM) trivial rfl).1.trans fw_44
            replace fw_45 := (hs.o (gx.S hM) trivial rfl).1.trans fw_45
            replace af_qs : h_50.2.1 qs = sf := (funext fun j => (hs.a (gqs.S hM) rfl j).1).trans af_qs
            replace hM := hM.tr (hs.mono ?o70)
            case o70 => decide
            refine hx_gov (hx_runV (As := [.int r_51]) (rest := []) ⟨hx, hb, hml, hown, hts⟩ hW (gx.S hM) tt_10 (T := TX10) (N := 98) rfl (t_X10_writes l dC dI dA L_49 h_50 H.size x r_51 hT (gx.S hM) qs (gqs.S hM) ((hM.o gx trivial rfl).2.trans f_x_15) sf af_qs st0 f_x_14 ?o71) (cwV 1 hts (hx_gV kw_1138 kw_1135 kw_1137 kw_50 kw_103) rfl rfl rfl (by decide +kernel) ⟨Nat.le_of_ble_eq_true rfl, Nat.le_of_ble_eq_true rfl⟩) rfl hl.1 rfl (Nat.le_of_ble_eq_true rfl) dX10_compare_267 ⟨Nat.le_of_ble_eq_true rfl, Nat.le_of_ble_eq_true rfl⟩) hW (fun L_54 h_55 H locs p_57 hW => ?_)
            case o71 => omega
            obtain ⟨⟨w_59, w_60, fw_59, fw_60, hr_58⟩, hT, hs⟩ := p_57
            replace hT : hx_T T_tb L_54 h_55 := hT
            replace hs : hx_S T_tb [(10, 14), (55, 0)] L_49 h_50 L_54 h_55 := hs
            replace f_11 := (hs.o (gx.S hM) trivial rfl).1.trans f_11
            replace fw_30 := (hs.o (gx.S hM) trivial rfl).1.trans fw_30
            replace fw_43 := (hs.o (gx.S hM) trivial rfl).1.trans fw_43
            replace fw_44 := (hs.o (gx.S hM) trivial rfl).1.trans fw_44
            replace fw_45 := (hs.o (gx.S hM) trivial rfl).1.trans fw_45
            replace hM := hM.tr (hs.mono ?o72)
            case o72 => decide
            have fw_59 : h_55.2.1 x 14 = w_59 := fw_59
            have bw_59 := hT.gi (gx.S hM) tt_10 (k := 14) rfl
            rw [fw_59] at bw_59
            have bw_59 : 0 ≤ w_59.toInt ∧ w_59.toInt ≤ 128 := bw_59
            have fw_60 : h_55.2.1 qs = w_60 := fw_60
            refine lv_iconst (v := 1) hx hb dX10_compare_270 ?o73 ?_
            case o73 => decide
            refine hx_retz hx hb hr rfl hlk hW ⟨⟨x_9, w_43, w_59, w_45, w_60, f_11, fw_43, fw_59, fw_45, fw_60, ⟨?o74, ?o75, (fun _ => hx_QQ_cmp hQ ?o76 ?o77 ?o78 hr_53.1 (hx_cl ?o79) ?o80 hr_58.1 hr_58.2), (hv_K_t (x := w_43.toInt.toNat) (y := cp0.toInt.toNat + 1) (o := (hv_wd tf tp0.toInt.toNat nx0.toInt.toNat - 2, (hv_sg tf tp0.toInt.toNat (hv_sk tf tp0.toInt.toNat (hv_we tf tp0.toInt.toNat nx0.toInt.toNat))).1, w_44.toInt) :: o) ?o81 ?o82 ?o83 ?o84 (hv_ls_u hO (by unfold hv_rc; dsimp only; rw [if_neg (by omega)]; omega) ?o85 hr_58.2) (ht9.trans (((hv_rt_n ?o86 uid).trans (by rw [hnm.2.2]; rfl)).trans rfl))), (fun _ => ⟨?o87, ?o88⟩)⟩⟩, hT, hM⟩ dX10_compare_271
            case o74 => decide
            case o75 => omega
            case o76 => omega
            case o77 => omega
            case o78 => omega
            case o79 => omega
            case o80 => omega
            case o81 => decide
            case o82 => omega
            case o83 => omega
            case o84 => omega
            case o85 => omega
            case o86 => omega
            case o87 => omega
            case o88 => omega
          · skip
            refine lv_iconst (v := 0) hx hb dX10_compare_252 ?o89 ?_
            case o89 => decide
            refine hx_retz hx hb hr rfl hlk hW ⟨⟨x_9, w_43, st0, w_45, sf, f_11, fw_43, f_x_14, fw_45, af_qs, ⟨?o90, ?o91, (fun z9 => absurd z9 ?o92), (hv_K_f (x := w_45.toInt.toNat) ?o93 (by have h8 := (hv_M_0 hr_42.1 (by omega)).1; omega) (by have h8 := (hv_M_0 hr_42.1 (by omega)).1; omega) (ht9.trans ((hv_rt_n ?o94 uid).trans (by have h8 := (hv_M_0 hr_42.1 (by omega)).2; rw [show (0 : Int32).toInt = 0 from by decide, show (9999 : Int32).toInt = 9999 from by decide] at h8; rw [h8]; rfl)))), (fun z9 => absurd z9 ?o95)⟩⟩, hT, hM⟩ dX10_compare_253
            case o90 => decide
            case o91 => omega
            case o92 => decide
            case o93 => decide
            case o94 => omega
            case o95 => decide
        · skip
          replace hr_36 := hr_36.resolve_left (fun z9 => c_37 z9.1)
          replace c_37 := hr_36.1
          replace hr_36 := hr_36.2
          have hu3 := hv_wd_3 (T := tf) (n := tp0.toInt.toNat) (p := w_29.toInt.toNat) ?o96
          case o96 => omega
          refine lv_aload_n hx hb dX10_compare_206 rfl (lv_at hl 3 rfl) ?_
          refine lv_dup hx hb dX10_compare_207 rfl ?_
          refine hk_geti hx hb hts hC_10 hown hW (gx.S hM) tt_10 8 ?o97 rfl kw_1151 ⟨rfl, rfl, rfl⟩ fw_29 dX10_compare_208 ?_
          case o97 => decide
          refine lv_aload_n hx hb dX10_compare_211 rfl (lv_at hl 3 rfl) ?_
          refine hk_geti hx hb hts hC_10 hown hW (gx.S hM) tt_10 11 ?o98 rfl kw_1154 ⟨rfl, rfl, rfl⟩ fw_30 dX10_compare_212 ?_
          case o98 => decide
          refine lv_iadd hx hb dX10_compare_215 ?_
          have rg_61 := i32_r w_29
          have rg_62 := i32_r w_30
          refine lv_topi (fun x_63 ex_63 => ?_)
          have zx_63 : x_63.toInt = w_29.toInt + w_30.toInt := ?o99
          case o99 =>
            rw [ex_63]
            refine i32_add rfl rfl ?o100 ?o101
            case o100 => omega
            case o101 => omega
          refine hx_puti hx hb hts hC_10 hown hW hT (hx_S.rf (M := [(10, 8)])) (gx.S hM) tt_10 8 ?o102 rfl kw_1151 ⟨rfl, rfl, rfl⟩ rfl (x := x_63) ⟨?o103, ?o104⟩ rfl rfl rfl (List.mem_singleton.mpr rfl) dX10_compare_216 (fun H locs h_64 eh_64 hW hT hs => ?_)
          case o102 => decide
          case o103 => omega
          case o104 => omega
          replace f_x_14 := (hs.o (gx.S hM) trivial rfl).1.trans f_x_14
          replace f_x_9 := (hs.o (gx.S hM) trivial rfl).1.trans f_x_9
          replace f_11 := (hs.o (gx.S hM) trivial rfl).1.trans f_11
          replace fw_30 := (hs.o (gx.S hM) trivial rfl).1.trans fw_30
          replace af_qs : h_64.2.1 qs = sf := (funext fun j => (hs.a (gqs.S hM) rfl j).1).trans af_qs
          replace hM := hM.tr (hs.mono ?o105)
          case o105 => decide
          have f_65 : h_64.2.1 x 8 = x_63 := ?o106
          case o106 =>
            rw [eh_64]
            exact hx_pi_at _ _ _ _
          have hroom := hx_QQ_room hQ (n1 := x_63.toInt) ?o107 ?o108
          case o107 => omega
          case o108 => omega
          refine lv_aload_n hx hb dX10_compare_219 rfl (lv_at hl 3 rfl) ?_
          refine lv_iload_n hx hb dX10_compare_220 rfl (lv_at hl 4 rfl) ?_
          refine lv_iconst (v := 3) hx hb dX10_compare_221 ?o109 ?_
          case o109 => decide
          refine lv_isub hx hb dX10_compare_222 ?_
          have rg_66 := i32_r i1
          refine lv_topi (fun x_67 ex_67 => ?_)
          have zx_67 : x_67.toInt = i1.toInt - 3 := ?o110
          case o110 =>
            rw [ex_67]
            refine i32_sub rfl ?o111 ?o112 ?o113
            case o111 => decide
            case o112 => omega
            case o113 => omega
          refine lv_iload hx hb dX10_compare_223 (lv_at hl 1 rfl) ?_
          refine lv_sipush (v := 10000) hx hb dX10_compare_225 ?o114 ?_
          case o114 => decide
          refine lv_iload hx hb dX10_compare_228 (lv_at hl 0 rfl) ?_
          refine lv_iadd hx hb dX10_compare_230 ?_
          have rg_68 := i32_r r_26
          refine lv_topi (fun x_69 ex_69 => ?_)
          have zx_69 : x_69.toInt = 10000 + r_26.toInt := ?o115
          case o115 =>
            rw [ex_69]
            refine i32_add ?o116 rfl ?o117 ?o118
            case o116 => decide
            case o117 => omega
            case o118 => omega
          refine lv_iconst (v := 3) hx hb dX10_compare_231 ?o119 ?_
          case o119 => decide
          refine lv_isub hx hb dX10_compare_232 ?_
          have rg_70 := i32_r x_69
          refine lv_topi (fun x_71 ex_71 => ?_)
          have zx_71 : x_71.toInt = x_69.toInt - 3 := ?o120
          case o120 =>
            rw [ex_71]
            refine i32_sub rfl ?o121 ?o122 ?o123
            case o121 => decide
            case o122 => omega
            case o123 => omega
          refine hx_goi (hx_runS (As := [.int x_67, .int jv192_4, .int x_71]) (rest := [.ref x]) ⟨hx, hb, hml, hown, hts⟩ hW (t_X10_compareOf_v l dC dI dA L_32 h_64 H.size x_67 jv192_4 x_71 hT ⟨?o124, ?o125⟩ ⟨?o126, ?o127⟩ ⟨?o128, ?o129⟩) (va_cwS 3 hts (hx_gS kw_1132 kw_1130 kw_1131 kw_103) rfl rfl rfl (by decide +kernel) ⟨Nat.le_of_ble_eq_true rfl, Nat.le_of_ble_eq_true rfl⟩) rfl hl.1 rfl (Nat.le_of_ble_eq_true rfl) dX10_compare_233 ⟨Nat.le_of_ble_eq_true rfl, Nat.le_of_ble_eq_true rfl⟩) hW (fun r_74 L_72 h_73 H locs p_75 hW => ?_)
          case o124 => omega
          case o125 => omega
          case o126 => omega
          case o127 => omega
          case o128 => omega
          case o129 => omega
          obtain ⟨hr_76, hT, hs⟩ := p_75
          replace hT : hx_T T_tb L_72 h_73 := hT
          replace hs : hx_S T_tb [] L_32 h_64 L_72 h_73 := hs
          replace f_x_14 := (hs.o (gx.S hM) trivial rfl).1.trans f_x_14
          replace f_x_9 := (hs.o (gx.S hM) trivial rfl).1.trans f_x_9
          replace f_11 := (hs.o (gx.S hM) trivial rfl).1.trans f_11
          replace fw_30 := (hs.o (gx.S hM) trivial rfl).1.trans fw_30
          replace f_65 := (hs.o (gx.S hM) trivial rfl).1.trans f_65
          replace af_qs : h_73.2.1 qs = sf := (funext fun j => (hs.a (gqs.S hM) rfl j).1).trans af_qs
          replace hM := hM.tr (hs.mono ?o130)
          case o130 => decide
          refine hx_gov (hx_runV (As := [.int r_74]) (rest := []) ⟨hx, hb, hml, hown, hts⟩ hW (gx.S hM) tt_10 (T := TX10) (N := 98) rfl (t_X10_writes l dC dI dA L_72 h_73 H.size x r_74 hT (gx.S hM) qs (gqs.S hM) ((hM.o gx trivial rfl).2.trans f_x_15) sf af_qs st0 f_x_14 ?o131) (cwV 1 hts (hx_gV kw_1138 kw_1135 kw_1137 kw_50 kw_103) rfl rfl rfl (by decide +kernel) ⟨Nat.le_of_ble_eq_true rfl, Nat.le_of_ble_eq_true rfl⟩) rfl hl.1 rfl (Nat.le_of_ble_eq_true rfl) dX10_compare_236 ⟨Nat.le_of_ble_eq_true rfl, Nat.le_of_ble_eq_true rfl⟩) hW (fun L_77 h_78 H locs p_80 hW => ?_)
          case o131 => omega
          obtain ⟨⟨w_82, w_83, fw_82, fw_83, hr_81⟩, hT, hs⟩ := p_80
          replace hT : hx_T T_tb L_77 h_78 := hT
          replace hs : hx_S T_tb [(10, 14), (55, 0)] L_72 h_73 L_77 h_78 := hs
          replace f_x_9 := (hs.o (gx.S hM) trivial rfl).1.trans f_x_9
          replace f_11 := (hs.o (gx.S hM) trivial rfl).1.trans f_11
          replace fw_30 := (hs.o (gx.S hM) trivial rfl).1.trans fw_30
          replace f_65 := (hs.o (gx.S hM) trivial rfl).1.trans f_65
          replace hM := hM.tr (hs.mono ?o132)
          case o132 => decide
          have fw_82 : h_78.2.1 x 14 = w_82 := fw_82
          have bw_82 := hT.gi (gx.S hM) tt_10 (k := 14) rfl
          rw [fw_82] at bw_82
          have bw_82 : 0 ≤ w_82.toInt ∧ w_82.toInt ≤ 128 := bw_82
          have fw_83 : h_78.2.1 qs = w_83 := fw_83
          refine lv_iconst (v := 1) hx hb dX10_compare_239 ?o133 ?_
          case o133 => decide
          refine hx_retz hx hb hr rfl hlk hW ⟨⟨x_9, x_63, w_82, ft0, w_83, f_11, f_65, fw_82, f_x_9, fw_83, ⟨?o134, ?o135, (fun _ => hx_QQ_cmp hQ ?o136 ?o137 ?o138 hr_76.1 (hx_cl ?o139) ?o140 hr_81.1 hr_81.2), (hv_K_t (x := x_63.toInt.toNat) (y := cp0.toInt.toNat + 1) (o := (hv_wd tf tp0.toInt.toNat nx0.toInt.toNat - 2, (hv_sg tf tp0.toInt.toNat (hv_sk tf tp0.toInt.toNat (hv_we tf tp0.toInt.toNat nx0.toInt.toNat))).1, 10000 + (hv_wd tf tp0.toInt.toNat w_29.toInt.toNat - 3)) :: o) ?o141 ?o142 ?o143 ?o144 (hv_ls_u hO (by unfold hv_rc; dsimp only; rw [if_neg (by omega)]; omega) ?o145 hr_81.2) (ht9.trans ((hv_rt_2 ?o146).trans (by rw [show hv_we tf tp0.toInt.toNat w_29.toInt.toNat = x_63.toInt.toNat by omega])))), (fun _ => ⟨?o147, ?o148⟩)⟩⟩, hT, hM⟩ dX10_compare_240
          case o134 => decide
          case o135 => omega
          case o136 => omega
          case o137 => omega
          case o138 => omega
          case o139 => omega
          case o140 => omega
          case o141 => decide
          case o142 => omega
          case o143 => omega
          case o144 => omega
          case o145 => omega
          case o146 => omega
          case o147 => omega
          case o148 => omega
      refine lv_iload_n hx hb dX10_compare_64 rfl (lv_at hl 0 rfl) ?_
      refine lv_bipush (v := 60) hx hb dX10_compare_65 ?o149 ?_
      case o149 => decide
      refine hb_icmp_eq (zx := r_19.toInt) (zy := 60) (tgt := 92) hx hb rfl ?o150 dX10_compare_67 ?o151 (fun c_84 => ?_) (fun c_84 => ?_)
      case o150 => decide
      case o151 => decide
      · skip
        refine lv_aload_n hx hb dX10_compare_92 rfl (lv_at hl 1 rfl) ?_
        refine lv_dup hx hb dX10_compare_93 rfl ?_
        refine hk_geti hx hb hts hC_10 hown hW (gx.S hM) tt_10 8 ?o152 rfl kw_1151 ⟨rfl, rfl, rfl⟩ fw_22 dX10_compare_94 ?_
        case o152 => decide
        refine lv_iconst (v := 1) hx hb dX10_compare_97 ?o153 ?_
        case o153 => decide
        refine lv_iadd hx hb dX10_compare_98 ?_
        have rg_85 := i32_r w_22
        refine lv_topi (fun x_86 ex_86 => ?_)
        have zx_86 : x_86.toInt = w_22.toInt + 1 := ?o154
        case o154 =>
          rw [ex_86]
          refine i32_add rfl ?o155 ?o156 ?o157
          case o155 => decide
          case o156 => omega
          case o157 => omega
        refine hx_puti hx hb hts hC_10 hown hW hT (hx_S.rf (M := [(10, 8)])) (gx.S hM) tt_10 8 ?o158 rfl kw_1151 ⟨rfl, rfl, rfl⟩ rfl (x := x_86) ⟨?o159, ?o160⟩ rfl rfl rfl (List.mem_singleton.mpr rfl) dX10_compare_99 (fun H locs h_87 eh_87 hW hT hs => ?_)
        case o158 => decide
        case o159 => omega
        case o160 => omega
        replace f_x_14 := (hs.o (gx.S hM) trivial rfl).1.trans f_x_14
        replace f_x_11 := (hs.o (gx.S hM) trivial rfl).1.trans f_x_11
        replace f_x_9 := (hs.o (gx.S hM) trivial rfl).1.trans f_x_9
        replace f_11 := (hs.o (gx.S hM) trivial rfl).1.trans f_11
        replace af_qs : h_87.2.1 qs = sf := (funext fun j => (hs.a (gqs.S hM) rfl j).1).trans af_qs
        replace hM := hM.tr (hs.mono ?o161)
        case o161 => decide
        have f_88 : h_87.2.1 x 8 = x_86 := ?o162
        case o162 =>
          rw [eh_87]
          exact hx_pi_at _ _ _ _
        have hse9 := hv_SE_s hr_21S ?o163
        case o163 => omega
        refine lv_iload_n hx hb dX10_compare_102 rfl (lv_at hl 0 rfl) ?_
        refine lv_bipush (v := 61) hx hb dX10_compare_103 ?o164 ?_
        case o164 => decide
        refine hb_icmp_eq (zx := r_19.toInt) (zy := 61) (tgt := 137) hx hb rfl ?o165 dX10_compare_105 ?o166 (fun c_89 => ?o167) (fun c_89 => ?_)
        case o165 => decide
        case o166 => decide
        case o167 =>
          exfalso
          omega
        refine lv_aload_n hx hb dX10_compare_108 rfl (lv_at hl 1 rfl) ?_
        refine hk_geti hx hb hts hC_10 hown hW (gx.S hM) tt_10 8 ?o168 rfl kw_1151 ⟨rfl, rfl, rfl⟩ f_88 dX10_compare_109 ?_
        case o168 => decide
        refine lv_aload_n hx hb dX10_compare_112 rfl (lv_at hl 1 rfl) ?_
        refine hk_geti hx hb hts hC_10 hown hW (gx.S hM) tt_10 7 ?o169 rfl kw_1150 ⟨rfl, rfl, rfl⟩ ((hM.o gx trivial rfl).1.trans f_x_7) dX10_compare_113 ?_
        case o169 => decide
        refine hb_icmp_ge (zx := x_86.toInt) (zy := tp0.toInt) (tgt := 137) hx hb rfl rfl dX10_compare_116 ?o170 (fun c_90 => ?_) (fun c_90 => ?_)
        case o170 => decide
        · skip
          refine lv_iconst (v := 0) hx hb dX10_compare_137 ?o171 ?_
          case o171 => decide
          refine lv_istore_n (lv' := [(3, .int (0 : Int32)), (2, .int r_19), (0, .ref x), (1, .int i1)]) hx hb dX10_compare_138 rfl hl ?o172 rfl (fun ls hl => ?_)
          case o172 => decide
          refine lv_iload_n hx hb dX10_compare_139 rfl (lv_at hl 0 rfl) ?_
          refine hb_if_eq (zx := 0) (tgt := 153) hx hb ?o173 dX10_compare_140 ?o174 (fun c_91 => ?_) (fun c_91 => absurd c_91 ?o175)
          case o173 => decide
          case o174 => decide
          case o175 => decide
          refine lv_iload_n hx hb dX10_compare_153 rfl (lv_at hl 1 rfl) ?_
          refine lv_bipush (v := 60) hx hb dX10_compare_154 ?o176 ?_
          case o176 => decide
          refine hb_icmp_ne (zx := r_19.toInt) (zy := 60) (tgt := 171) hx hb rfl ?o177 dX10_compare_156 ?o178 (fun c_92 => ?o179) (fun c_92 => ?_)
          case o177 => decide
          case o178 => decide
          case o179 =>
            exfalso
            omega
          refine lv_iload_n hx hb dX10_compare_159 rfl (lv_at hl 0 rfl) ?_
          refine hb_if_eq (zx := 0) (tgt := 167) hx hb ?o180 dX10_compare_160 ?o181 (fun c_93 => ?_) (fun c_93 => absurd c_93 ?o182)
          case o180 => decide
          case o181 => decide
          case o182 => decide
          refine lv_iconst (v := 0) hx hb dX10_compare_167 ?o183 ?_
          case o183 => decide
          refine lv_goto (tgt := 190) hx hb dX10_compare_168 ?o184 ?_
          case o184 => decide
          refine lv_istore (lv' := [(4, .int (0 : Int32)), (3, .int (0 : Int32)), (2, .int r_19), (0, .ref x), (1, .int i1)]) hx hb dX10_compare_190 hl ?o185 rfl (fun ls hl => ?_)
          case o185 => decide
          have zk_0 : (0 : Int32).toInt = 0 := ?o186
          case o186 => decide
          refine join192 (0 : Int32) x_86 _ _ L_17 h_87 ?o187 ?o188 ?o189 ?o190 (by have hsq : hv_sk tf tp0.toInt.toNat (hv_we tf tp0.toInt.toNat nx0.toInt.toNat) = w_22.toInt.toNat := (by rw [← ha1]; exact ek_23.symm); rw [hsq, show hv_sg tf tp0.toInt.toNat w_22.toInt.toNat = (0, 1) from hv_sg_1 (by have h8 := hv_SE_y (k := 60) hr_21S (by decide) (by decide) (by omega); exact h8) (fun z9 => by have h8 : (tf x_86.toNatClampNeg).toInt = 61 := z9.2; omega) (by omega) (by omega)]; refine ⟨by decide, by decide, ?_⟩; show _ = w_22.toInt.toNat + 1; omega) ?o191 ?o192 ls hW hT hM f_88 f_x_14 f_x_11 f_x_9 f_11 af_qs (lv_sub hl [0, 2, 3, 4] rfl)
          case o187 => decide
          case o188 => decide
          case o189 => omega
          case o190 => omega
          case o191 => omega
          case o192 => omega
        · skip
          refine lv_aload_n hx hb dX10_compare_119 rfl (lv_at hl 1 rfl) ?_
          refine hk_getr hx hb hts hC_10 hown hW (gx.S hM) tt_10 6 ?o193 rfl kw_1149 ⟨rfl, rfl, rfl⟩ ((hM.o gx trivial rfl).2.trans f_x_6) dX10_compare_120 ?_
          case o193 => decide
          refine lv_aload_n hx hb dX10_compare_123 rfl (lv_at hl 1 rfl) ?_
          refine hk_geti hx hb hts hC_10 hown hW (gx.S hM) tt_10 8 ?o194 rfl kw_1151 ⟨rfl, rfl, rfl⟩ f_88 dX10_compare_124 ?_
          case o194 => decide
          refine hx_bald hx hb hW hT (gqt.S hM) tt_53 rfl ⟨?o195, ?o196⟩ dX10_compare_127 (fun x_94 ex_94 lx_94 ux_94 => ?_)
          case o195 => omega
          case o196 => omega
          have ax_94 : x_94 = tf x_86.toNatClampNeg := ex_94.trans (congrFun (hx_afS hM gqt rfl af_qt) _)
          refine lv_bipush (v := 61) hx hb dX10_compare_128 ?o197 ?_
          case o197 => decide
          refine hb_icmp_ne (zx := x_94.toInt) (zy := 61) (tgt := 137) hx hb rfl ?o198 dX10_compare_130 ?o199 (fun c_95 => ?_) (fun c_95 => ?_)
          case o198 => decide
          case o199 => decide
          · skip
            refine lv_iconst (v := 0) hx hb dX10_compare_137 ?o200 ?_
            case o200 => decide
            refine lv_istore_n (lv' := [(3, .int (0 : Int32)), (2, .int r_19), (0, .ref x), (1, .int i1)]) hx hb dX10_compare_138 rfl hl ?o201 rfl (fun ls hl => ?_)
            case o201 => decide
            refine lv_iload_n hx hb dX10_compare_139 rfl (lv_at hl 0 rfl) ?_
            refine hb_if_eq (zx := 0) (tgt := 153) hx hb ?o202 dX10_compare_140 ?o203 (fun c_96 => ?_) (fun c_96 => absurd c_96 ?o204)
            case o202 => decide
            case o203 => decide
            case o204 => decide
            refine lv_iload_n hx hb dX10_compare_153 rfl (lv_at hl 1 rfl) ?_
            refine lv_bipush (v := 60) hx hb dX10_compare_154 ?o205 ?_
            case o205 => decide
            refine hb_icmp_ne (zx := r_19.toInt) (zy := 60) (tgt := 171) hx hb rfl ?o206 dX10_compare_156 ?o207 (fun c_97 => ?o208) (fun c_97 => ?_)
            case o206 => decide
            case o207 => decide
            case o208 =>
              exfalso
              omega
            refine lv_iload_n hx hb dX10_compare_159 rfl (lv_at hl 0 rfl) ?_
            refine hb_if_eq (zx := 0) (tgt := 167) hx hb ?o209 dX10_compare_160 ?o210 (fun c_98 => ?_) (fun c_98 => absurd c_98 ?o211)
            case o209 => decide
            case o210 => decide
            case o211 => decide
            refine lv_iconst (v := 0) hx hb dX10_compare_167 ?o212 ?_
            case o212 => decide
            refine lv_goto (tgt := 190) hx hb dX10_compare_168 ?o213 ?_
            case o213 => decide
            refine lv_istore (lv' := [(4, .int (0 : Int32)), (3, .int (0 : Int32)), (2, .int r_19), (0, .ref x), (1, .int i1)]) hx hb dX10_compare_190 hl ?o214 rfl (fun ls hl => ?_)
            case o214 => decide
            have zk_0 : (0 : Int32).toInt = 0 := ?o215
            case o215 => decide
            refine join192 (0 : Int32) x_86 _ _ L_17 h_87 ?o216 ?o217 ?o218 ?o219 (by have hsq : hv_sk tf tp0.toInt.toNat (hv_we tf tp0.toInt.toNat nx0.toInt.toNat) = w_22.toInt.toNat := (by rw [← ha1]; exact ek_23.symm); rw [hsq, show hv_sg tf tp0.toInt.toNat w_22.toInt.toNat = (0, 1) from hv_sg_1 (by have h8 := hv_SE_y (k := 60) hr_21S (by decide) (by decide) (by omega); exact h8) (fun z9 => by have h8 : (tf x_86.toNatClampNeg).toInt = 61 := z9.2; rw [← ax_94] at h8; omega) (by omega) (by omega)]; refine ⟨by decide, by decide, ?_⟩; show _ = w_22.toInt.toNat + 1; omega) ?o220 ?o221 ls hW hT hM f_88 f_x_14 f_x_11 f_x_9 f_11 af_qs (lv_sub hl [0, 2, 3, 4] rfl)
            case o216 => decide
            case o217 => decide
            case o218 => omega
            case o219 => omega
            case o220 => omega
            case o221 => omega
          · skip
            refine lv_iconst (v := 1) hx hb dX10_compare_133 ?o222 ?_
            case o222 => decide
            refine lv_goto (tgt := 138) hx hb dX10_compare_134 ?o223 ?_
            case o223 => decide
            refine lv_istore_n (lv' := [(3, .int (1 : Int32)), (2, .int r_19), (0, .ref x), (1, .int i1)]) hx hb dX10_compare_138 rfl hl ?o224 rfl (fun ls hl => ?_)
            case o224 => decide
            refine lv_iload_n hx hb dX10_compare_139 rfl (lv_at hl 0 rfl) ?_
            refine hb_if_eq (zx := 1) (tgt := 153) hx hb ?o225 dX10_compare_140 ?o226 (fun c_99 => absurd c_99 ?o227) (fun c_99 => ?_)
            case o225 => decide
            case o226 => decide
            case o227 => decide
            refine lv_aload_n hx hb dX10_compare_143 rfl (lv_at hl 2 rfl) ?_
            refine lv_dup hx hb dX10_compare_144 rfl ?_
            refine hk_geti hx hb hts hC_10 hown hW (gx.S hM) tt_10 8 ?o228 rfl kw_1151 ⟨rfl, rfl, rfl⟩ f_88 dX10_compare_145 ?_
            case o228 => decide
            refine lv_iconst (v := 1) hx hb dX10_compare_148 ?o229 ?_
            case o229 => decide
            refine lv_iadd hx hb dX10_compare_149 ?_
            have rg_100 := i32_r x_86
            refine lv_topi (fun x_101 ex_101 => ?_)
            have zx_101 : x_101.toInt = x_86.toInt + 1 := ?o230
            case o230 =>
              rw [ex_101]
              refine i32_add rfl ?o231 ?o232 ?o233
              case o231 => decide
              case o232 => omega
              case o233 => omega
            refine hx_puti hx hb hts hC_10 hown hW hT (hx_S.rf (M := [(10, 8)])) (gx.S hM) tt_10 8 ?o234 rfl kw_1151 ⟨rfl, rfl, rfl⟩ rfl (x := x_101) ⟨?o235, ?o236⟩ rfl rfl rfl (List.mem_singleton.mpr rfl) dX10_compare_150 (fun H locs h_102 eh_102 hW hT hs => ?_)
            case o234 => decide
            case o235 => omega
            case o236 => omega
            replace f_x_14 := (hs.o (gx.S hM) trivial rfl).1.trans f_x_14
            replace f_x_11 := (hs.o (gx.S hM) trivial rfl).1.trans f_x_11
            replace f_x_9 := (hs.o (gx.S hM) trivial rfl).1.trans f_x_9
            replace f_11 := (hs.o (gx.S hM) trivial rfl).1.trans f_11
            replace af_qs : h_102.2.1 qs = sf := (funext fun j => (hs.a (gqs.S hM) rfl j).1).trans af_qs
            replace ex_94 := ex_94.trans (hs.a (gqt.S hM) rfl _).1.symm
            replace hM := hM.tr (hs.mono ?o237)
            case o237 => decide
            have f_103 : h_102.2.1 x 8 = x_101 := ?o238
            case o238 =>
              rw [eh_102]
              exact hx_pi_at _ _ _ _
            refine lv_iload_n hx hb dX10_compare_153 rfl (lv_at hl 1 rfl) ?_
            refine lv_bipush (v := 60) hx hb dX10_compare_154 ?o239 ?_
            case o239 => decide
            refine hb_icmp_ne (zx := r_19.toInt) (zy := 60) (tgt := 171) hx hb rfl ?o240 dX10_compare_156 ?o241 (fun c_104 => ?o242) (fun c_104 => ?_)
            case o240 => decide
            case o241 => decide
            case o242 =>
              exfalso
              omega
            refine lv_iload_n hx hb dX10_compare_159 rfl (lv_at hl 0 rfl) ?_
            refine hb_if_eq (zx := 1) (tgt := 167) hx hb ?o243 dX10_compare_160 ?o244 (fun c_105 => absurd c_105 ?o245) (fun c_105 => ?_)
            case o243 => decide
            case o244 => decide
            case o245 => decide
            refine lv_iconst (v := 1) hx hb dX10_compare_163 ?o246 ?_
            case o246 => decide
            refine lv_goto (tgt := 190) hx hb dX10_compare_164 ?o247 ?_
            case o247 => decide
            refine lv_istore (lv' := [(4, .int (1 : Int32)), (3, .int (1 : Int32)), (2, .int r_19), (0, .ref x), (1, .int i1)]) hx hb dX10_compare_190 hl ?o248 rfl (fun ls hl => ?_)
            case o248 => decide
            have zk_1 : (1 : Int32).toInt = 1 := ?o249
            case o249 => decide
            refine join192 (1 : Int32) x_101 _ _ L_17 h_102 ?o250 ?o251 ?o252 ?o253 (by have hsq : hv_sk tf tp0.toInt.toNat (hv_we tf tp0.toInt.toNat nx0.toInt.toNat) = w_22.toInt.toNat := (by rw [← ha1]; exact ek_23.symm); rw [hsq, show hv_sg tf tp0.toInt.toNat w_22.toInt.toNat = (1, 2) from hv_sg_3 (by have h8 := hv_SE_y (k := 60) hr_21S (by decide) (by decide) (by omega); exact h8) ⟨by omega, (by show (tf x_86.toNatClampNeg).toInt = 61; rw [← ax_94]; omega)⟩ (by omega) (by omega)]; refine ⟨by decide, by decide, ?_⟩; show _ = w_22.toInt.toNat + 2; omega) ?o254 ?o255 ls hW hT hM f_103 f_x_14 f_x_11 f_x_9 f_11 af_qs (lv_sub hl [0, 2, 3, 4] rfl)
            case o250 => decide
            case o251 => decide
            case o252 => omega
            case o253 => omega
            case o254 => omega
            case o255 => omega
      · skip
        refine lv_iload_n hx hb dX10_compare_70 rfl (lv_at hl 0 rfl) ?_
        refine lv_bipush (v := 61) hx hb dX10_compare_71 ?o256 ?_
        case o256 => decide
        refine hb_icmp_eq (zx := r_19.toInt) (zy := 61) (tgt := 92) hx hb rfl ?o257 dX10_compare_73 ?o258 (fun c_106 => ?_) (fun c_106 => ?_)
        case o257 => decide
        case o258 => decide
        · skip
          refine lv_aload_n hx hb dX10_compare_92 rfl (lv_at hl 1 rfl) ?_
          refine lv_dup hx hb dX10_compare_93 rfl ?_
          refine hk_geti hx hb hts hC_10 hown hW (gx.S hM) tt_10 8 ?o259 rfl kw_1151 ⟨rfl, rfl, rfl⟩ fw_22 dX10_compare_94 ?_
          case o259 => decide
          refine lv_iconst (v := 1) hx hb dX10_compare_97 ?o260 ?_
          case o260 => decide
          refine lv_iadd hx hb dX10_compare_98 ?_
          have rg_107 := i32_r w_22
          refine lv_topi (fun x_108 ex_108 => ?_)
          have zx_108 : x_108.toInt = w_22.toInt + 1 := ?o261
          case o261 =>
            rw [ex_108]
            refine i32_add rfl ?o262 ?o263 ?o264
            case o262 => decide
            case o263 => omega
            case o264 => omega
          refine hx_puti hx hb hts hC_10 hown hW hT (hx_S.rf (M := [(10, 8)])) (gx.S hM) tt_10 8 ?o265 rfl kw_1151 ⟨rfl, rfl, rfl⟩ rfl (x := x_108) ⟨?o266, ?o267⟩ rfl rfl rfl (List.mem_singleton.mpr rfl) dX10_compare_99 (fun H locs h_109 eh_109 hW hT hs => ?_)
          case o265 => decide
          case o266 => omega
          case o267 => omega
          replace f_x_14 := (hs.o (gx.S hM) trivial rfl).1.trans f_x_14
          replace f_x_11 := (hs.o (gx.S hM) trivial rfl).1.trans f_x_11
          replace f_x_9 := (hs.o (gx.S hM) trivial rfl).1.trans f_x_9
          replace f_11 := (hs.o (gx.S hM) trivial rfl).1.trans f_11
          replace af_qs : h_109.2.1 qs = sf := (funext fun j => (hs.a (gqs.S hM) rfl j).1).trans af_qs
          replace hM := hM.tr (hs.mono ?o268)
          case o268 => decide
          have f_110 : h_109.2.1 x 8 = x_108 := ?o269
          case o269 =>
            rw [eh_109]
            exact hx_pi_at _ _ _ _
          have hse9 := hv_SE_s hr_21S ?o270
          case o270 => omega
          refine lv_iload_n hx hb dX10_compare_102 rfl (lv_at hl 0 rfl) ?_
          refine lv_bipush (v := 61) hx hb dX10_compare_103 ?o271 ?_
          case o271 => decide
          refine hb_icmp_eq (zx := r_19.toInt) (zy := 61) (tgt := 137) hx hb rfl ?o272 dX10_compare_105 ?o273 (fun c_111 => ?_) (fun c_111 => ?o274)
          case o272 => decide
          case o273 => decide
          case o274 =>
            exfalso
            omega
          refine lv_iconst (v := 0) hx hb dX10_compare_137 ?o275 ?_
          case o275 => decide
          refine lv_istore_n (lv' := [(3, .int (0 : Int32)), (2, .int r_19), (0, .ref x), (1, .int i1)]) hx hb dX10_compare_138 rfl hl ?o276 rfl (fun ls hl => ?_)
          case o276 => decide
          refine lv_iload_n hx hb dX10_compare_139 rfl (lv_at hl 0 rfl) ?_
          refine hb_if_eq (zx := 0) (tgt := 153) hx hb ?o277 dX10_compare_140 ?o278 (fun c_112 => ?_) (fun c_112 => absurd c_112 ?o279)
          case o277 => decide
          case o278 => decide
          case o279 => decide
          refine lv_iload_n hx hb dX10_compare_153 rfl (lv_at hl 1 rfl) ?_
          refine lv_bipush (v := 60) hx hb dX10_compare_154 ?o280 ?_
          case o280 => decide
          refine hb_icmp_ne (zx := r_19.toInt) (zy := 60) (tgt := 171) hx hb rfl ?o281 dX10_compare_156 ?o282 (fun c_113 => ?_) (fun c_113 => ?o283)
          case o281 => decide
          case o282 => decide
          case o283 =>
            exfalso
            omega
          refine lv_iload_n hx hb dX10_compare_171 rfl (lv_at hl 1 rfl) ?_
          refine lv_bipush (v := 61) hx hb dX10_compare_172 ?o284 ?_
          case o284 => decide
          refine hb_icmp_ne (zx := r_19.toInt) (zy := 61) (tgt := 181) hx hb rfl ?o285 dX10_compare_174 ?o286 (fun c_114 => ?o287) (fun c_114 => ?_)
          case o285 => decide
          case o286 => decide
          case o287 =>
            exfalso
            omega
          refine lv_iconst (v := 2) hx hb dX10_compare_177 ?o288 ?_
          case o288 => decide
          refine lv_goto (tgt := 190) hx hb dX10_compare_178 ?o289 ?_
          case o289 => decide
          refine lv_istore (lv' := [(4, .int (2 : Int32)), (3, .int (0 : Int32)), (2, .int r_19), (0, .ref x), (1, .int i1)]) hx hb dX10_compare_190 hl ?o290 rfl (fun ls hl => ?_)
          case o290 => decide
          have zk_2 : (2 : Int32).toInt = 2 := ?o291
          case o291 => decide
          refine join192 (2 : Int32) x_108 _ _ L_17 h_109 ?o292 ?o293 ?o294 ?o295 (by have hsq : hv_sk tf tp0.toInt.toNat (hv_we tf tp0.toInt.toNat nx0.toInt.toNat) = w_22.toInt.toNat := (by rw [← ha1]; exact ek_23.symm); rw [hsq, show hv_sg tf tp0.toInt.toNat w_22.toInt.toNat = (2, 1) from hv_sg_2 (by have h8 := hv_SE_y (k := 61) hr_21S (by decide) (by decide) (by omega); exact h8) (by omega)]; refine ⟨by decide, by decide, ?_⟩; show _ = w_22.toInt.toNat + 1; omega) ?o296 ?o297 ls hW hT hM f_110 f_x_14 f_x_11 f_x_9 f_11 af_qs (lv_sub hl [0, 2, 3, 4] rfl)
          case o292 => decide
          case o293 => decide
          case o294 => omega
          case o295 => omega
          case o296 => omega
          case o297 => omega
        · skip
          refine lv_iload_n hx hb dX10_compare_76 rfl (lv_at hl 0 rfl) ?_
          refine lv_bipush (v := 62) hx hb dX10_compare_77 ?o298 ?_
          case o298 => decide
          refine hb_icmp_eq (zx := r_19.toInt) (zy := 62) (tgt := 92) hx hb rfl ?o299 dX10_compare_79 ?o300 (fun c_115 => ?_) (fun c_115 => ?_)
          case o299 => decide
          case o300 => decide
          · skip
            refine lv_aload_n hx hb dX10_compare_92 rfl (lv_at hl 1 rfl) ?_
            refine lv_dup hx hb dX10_compare_93 rfl ?_
            refine hk_geti hx hb hts hC_10 hown hW (gx.S hM) tt_10 8 ?o301 rfl kw_1151 ⟨rfl, rfl, rfl⟩ fw_22 dX10_compare_94 ?_
            case o301 => decide
            refine lv_iconst (v := 1) hx hb dX10_compare_97 ?o302 ?_
            case o302 => decide
            refine lv_iadd hx hb dX10_compare_98 ?_
            have rg_116 := i32_r w_22
            refine lv_topi (fun x_117 ex_117 => ?_)
            have zx_117 : x_117.toInt = w_22.toInt + 1 := ?o303
            case o303 =>
              rw [ex_117]
              refine i32_add rfl ?o304 ?o305 ?o306
              case o304 => decide
              case o305 => omega
              case o306 => omega
            refine hx_puti hx hb hts hC_10 hown hW hT (hx_S.rf (M := [(10, 8)])) (gx.S hM) tt_10 8 ?o307 rfl kw_1151 ⟨rfl, rfl, rfl⟩ rfl (x := x_117) ⟨?o308, ?o309⟩ rfl rfl rfl (List.mem_singleton.mpr rfl) dX10_compare_99 (fun H locs h_118 eh_118 hW hT hs => ?_)
            case o307 => decide
            case o308 => omega
            case o309 => omega
            replace f_x_14 := (hs.o (gx.S hM) trivial rfl).1.trans f_x_14
            replace f_x_11 := (hs.o (gx.S hM) trivial rfl).1.trans f_x_11
            replace f_x_9 := (hs.o (gx.S hM) trivial rfl).1.trans f_x_9
            replace f_11 := (hs.o (gx.S hM) trivial rfl).1.trans f_11
            replace af_qs : h_118.2.1 qs = sf := (funext fun j => (hs.a (gqs.S hM) rfl j).1).trans af_qs
            replace hM := hM.tr (hs.mono ?o310)
            case o310 => decide
            have f_119 : h_118.2.1 x 8 = x_117 := ?o311
            case o311 =>
              rw [eh_118]
              exact hx_pi_at _ _ _ _
            have hse9 := hv_SE_s hr_21S ?o312
            case o312 => omega
            refine lv_iload_n hx hb dX10_compare_102 rfl (lv_at hl 0 rfl) ?_
            refine lv_bipush (v := 61) hx hb dX10_compare_103 ?o313 ?_
            case o313 => decide
            refine hb_icmp_eq (zx := r_19.toInt) (zy := 61) (tgt := 137) hx hb rfl ?o314 dX10_compare_105 ?o315 (fun c_120 => ?o316) (fun c_120 => ?_)
            case o314 => decide
            case o315 => decide
            case o316 =>
              exfalso
              omega
            refine lv_aload_n hx hb dX10_compare_108 rfl (lv_at hl 1 rfl) ?_
            refine hk_geti hx hb hts hC_10 hown hW (gx.S hM) tt_10 8 ?o317 rfl kw_1151 ⟨rfl, rfl, rfl⟩ f_119 dX10_compare_109 ?_
            case o317 => decide
            refine lv_aload_n hx hb dX10_compare_112 rfl (lv_at hl 1 rfl) ?_
            refine hk_geti hx hb hts hC_10 hown hW (gx.S hM) tt_10 7 ?o318 rfl kw_1150 ⟨rfl, rfl, rfl⟩ ((hM.o gx trivial rfl).1.trans f_x_7) dX10_compare_113 ?_
            case o318 => decide
            refine hb_icmp_ge (zx := x_117.toInt) (zy := tp0.toInt) (tgt := 137) hx hb rfl rfl dX10_compare_116 ?o319 (fun c_121 => ?_) (fun c_121 => ?_)
            case o319 => decide
            · skip
              refine lv_iconst (v := 0) hx hb dX10_compare_137 ?o320 ?_
              case o320 => decide
              refine lv_istore_n (lv' := [(3, .int (0 : Int32)), (2, .int r_19), (0, .ref x), (1, .int i1)]) hx hb dX10_compare_138 rfl hl ?o321 rfl (fun ls hl => ?_)
              case o321 => decide
              refine lv_iload_n hx hb dX10_compare_139 rfl (lv_at hl 0 rfl) ?_
              refine hb_if_eq (zx := 0) (tgt := 153) hx hb ?o322 dX10_compare_140 ?o323 (fun c_122 => ?_) (fun c_122 => absurd c_122 ?o324)
              case o322 => decide
              case o323 => decide
              case o324 => decide
              refine lv_iload_n hx hb dX10_compare_153 rfl (lv_at hl 1 rfl) ?_
              refine lv_bipush (v := 60) hx hb dX10_compare_154 ?o325 ?_
              case o325 => decide
              refine hb_icmp_ne (zx := r_19.toInt) (zy := 60) (tgt := 171) hx hb rfl ?o326 dX10_compare_156 ?o327 (fun c_123 => ?_) (fun c_123 => ?o328)
              case o326 => decide
              case o327 => decide
              case o328 =>
                exfalso
                omega
              refine lv_iload_n hx hb dX10_compare_171 rfl (lv_at hl 1 rfl) ?_
              refine lv_bipush (v := 61) hx hb dX10_compare_172 ?o329 ?_
              case o329 => decide
              refine hb_icmp_ne (zx := r_19.toInt) (zy := 61) (tgt := 181) hx hb rfl ?o330 dX10_compare_174 ?o331 (fun c_124 => ?_) (fun c_124 => ?o332)
              case o330 => decide
              case o331 => decide
              case o332 =>
                exfalso
                omega
              refine lv_iload_n hx hb dX10_compare_181 rfl (lv_at hl 0 rfl) ?_
              refine hb_if_eq (zx := 0) (tgt := 189) hx hb ?o333 dX10_compare_182 ?o334 (fun c_125 => ?_) (fun c_125 => absurd c_125 ?o335)
              case o333 => decide
              case o334 => decide
              case o335 => decide
              refine lv_iconst (v := 4) hx hb dX10_compare_189 ?o336 ?_
              case o336 => decide
              refine lv_istore (lv' := [(4, .int (4 : Int32)), (3, .int (0 : Int32)), (2, .int r_19), (0, .ref x), (1, .int i1)]) hx hb dX10_compare_190 hl ?o337 rfl (fun ls hl => ?_)
              case o337 => decide
              have zk_4 : (4 : Int32).toInt = 4 := ?o338
              case o338 => decide
              refine join192 (4 : Int32) x_117 _ _ L_17 h_118 ?o339 ?o340 ?o341 ?o342 (by have hsq : hv_sk tf tp0.toInt.toNat (hv_we tf tp0.toInt.toNat nx0.toInt.toNat) = w_22.toInt.toNat := (by rw [← ha1]; exact ek_23.symm); rw [hsq, show hv_sg tf tp0.toInt.toNat w_22.toInt.toNat = (4, 1) from hv_sg_4 (by have h8 := hv_SE_y (k := 62) hr_21S (by decide) (by decide) (by omega); exact h8) (fun z9 => by have h8 : (tf x_117.toNatClampNeg).toInt = 61 := z9.2; omega) (by omega) (by omega)]; refine ⟨by decide, by decide, ?_⟩; show _ = w_22.toInt.toNat + 1; omega) ?o343 ?o344 ls hW hT hM f_119 f_x_14 f_x_11 f_x_9 f_11 af_qs (lv_sub hl [0, 2, 3, 4] rfl)
              case o339 => decide
              case o340 => decide
              case o341 => omega
              case o342 => omega
              case o343 => omega
              case o344 => omega
            · skip
              refine lv_aload_n hx hb dX10_compare_119 rfl (lv_at hl 1 rfl) ?_
              refine hk_getr hx hb hts hC_10 hown hW (gx.S hM) tt_10 6 ?o345 rfl kw_1149 ⟨rfl, rfl, rfl⟩ ((hM.o gx trivial rfl).2.trans f_x_6) dX10_compare_120 ?_
              case o345 => decide
              refine lv_aload_n hx hb dX10_compare_123 rfl (lv_at hl 1 rfl) ?_
              refine hk_geti hx hb hts hC_10 hown hW (gx.S hM) tt_10 8 ?o346 rfl kw_1151 ⟨rfl, rfl, rfl⟩ f_119 dX10_compare_124 ?_
              case o346 => decide
              refine hx_bald hx hb hW hT (gqt.S hM) tt_53 rfl ⟨?o347, ?o348⟩ dX10_compare_127 (fun x_126 ex_126 lx_126 ux_126 => ?_)
              case o347 => omega
              case o348 => omega
              have ax_126 : x_126 = tf x_117.toNatClampNeg := ex_126.trans (congrFun (hx_afS hM gqt rfl af_qt) _)
              refine lv_bipush (v := 61) hx hb dX10_compare_128 ?o349 ?_
              case o349 => decide
              refine hb_icmp_ne (zx := x_126.toInt) (zy := 61) (tgt := 137) hx hb rfl ?o350 dX10_compare_130 ?o351 (fun c_127 => ?_) (fun c_127 => ?_)
              case o350 => decide
              case o351 => decide
              · skip
                refine lv_iconst (v := 0) hx hb dX10_compare_137 ?o352 ?_
                case o352 => decide
                refine lv_istore_n (lv' := [(3, .int (0 : Int32)), (2, .int r_19), (0, .ref x), (1, .int i1)]) hx hb dX10_compare_138 rfl hl ?o353 rfl (fun ls hl => ?_)
                case o353 => decide
                refine lv_iload_n hx hb dX10_compare_139 rfl (lv_at hl 0 rfl) ?_
                refine hb_if_eq (zx := 0) (tgt := 153) hx hb ?o354 dX10_compare_140 ?o355 (fun c_128 => ?_) (fun c_128 => absurd c_128 ?o356)
                case o354 => decide
                case o355 => decide
                case o356 => decide
                refine lv_iload_n hx hb dX10_compare_153 rfl (lv_at hl 1 rfl) ?_
                refine lv_bipush (v := 60) hx hb dX10_compare_154 ?o357 ?_
                case o357 => decide
                refine hb_icmp_ne (zx := r_19.toInt) (zy := 60) (tgt := 171) hx hb rfl ?o358 dX10_compare_156 ?o359 (fun c_129 => ?_) (fun c_129 => ?o360)
                case o358 => decide
                case o359 => decide
                case o360 =>
                  exfalso
                  omega
                refine lv_iload_n hx hb dX10_compare_171 rfl (lv_at hl 1 rfl) ?_
                refine lv_bipush (v := 61) hx hb dX10_compare_172 ?o361 ?_
                case o361 => decide
                refine hb_icmp_ne (zx := r_19.toInt) (zy := 61) (tgt := 181) hx hb rfl ?o362 dX10_compare_174 ?o363 (fun c_130 => ?_) (fun c_130 => ?o364)
                case o362 => decide
                case o363 => decide
                case o364 =>
                  exfalso
                  omega
                refine lv_iload_n hx hb dX10_compare_181 rfl (lv_at hl 0 rfl) ?_
                refine hb_if_eq (zx := 0) (tgt := 189) hx hb ?o365 dX10_compare_182 ?o366 (fun c_131 => ?_) (fun c_131 => absurd c_131 ?o367)
                case o365 => decide
                case o366 => decide
                case o367 => decide
                refine lv_iconst (v := 4) hx hb dX10_compare_189 ?o368 ?_
                case o368 => decide
                refine lv_istore (lv' := [(4, .int (4 : Int32)), (3, .int (0 : Int32)), (2, .int r_19), (0, .ref x), (1, .int i1)]) hx hb dX10_compare_190 hl ?o369 rfl (fun ls hl => ?_)
                case o369 => decide
                have zk_4 : (4 : Int32).toInt = 4 := ?o370
                case o370 => decide
                refine join192 (4 : Int32) x_117 _ _ L_17 h_118 ?o371 ?o372 ?o373 ?o374 (by have hsq : hv_sk tf tp0.toInt.toNat (hv_we tf tp0.toInt.toNat nx0.toInt.toNat) = w_22.toInt.toNat := (by rw [← ha1]; exact ek_23.symm); rw [hsq, show hv_sg tf tp0.toInt.toNat w_22.toInt.toNat = (4, 1) from hv_sg_4 (by have h8 := hv_SE_y (k := 62) hr_21S (by decide) (by decide) (by omega); exact h8) (fun z9 => by have h8 : (tf x_117.toNatClampNeg).toInt = 61 := z9.2; rw [← ax_126] at h8; omega) (by omega) (by omega)]; refine ⟨by decide, by decide, ?_⟩; show _ = w_22.toInt.toNat + 1; omega) ?o375 ?o376 ls hW hT hM f_119 f_x_14 f_x_11 f_x_9 f_11 af_qs (lv_sub hl [0, 2, 3, 4] rfl)
                case o371 => decide
                case o372 => decide
                case o373 => omega
                case o374 => omega
                case o375 => omega
                case o376 => omega
              · skip
                refine lv_iconst (v := 1) hx hb dX10_compare_133 ?o377 ?_
                case o377 => decide
                refine lv_goto (tgt := 138) hx hb dX10_compare_134 ?o378 ?_
                case o378 => decide
                refine lv_istore_n (lv' := [(3, .int (1 : Int32)), (2, .int r_19), (0, .ref x), (1, .int i1)]) hx hb dX10_compare_138 rfl hl ?o379 rfl (fun ls hl => ?_)
                case o379 => decide
                refine lv_iload_n hx hb dX10_compare_139 rfl (lv_at hl 0 rfl) ?_
                refine hb_if_eq (zx := 1) (tgt := 153) hx hb ?o380 dX10_compare_140 ?o381 (fun c_132 => absurd c_132 ?o382) (fun c_132 => ?_)
                case o380 => decide
                case o381 => decide
                case o382 => decide
                refine lv_aload_n hx hb dX10_compare_143 rfl (lv_at hl 2 rfl) ?_
                refine lv_dup hx hb dX10_compare_144 rfl ?_
                refine hk_geti hx hb hts hC_10 hown hW (gx.S hM) tt_10 8 ?o383 rfl kw_1151 ⟨rfl, rfl, rfl⟩ f_119 dX10_compare_145 ?_
                case o383 => decide
                refine lv_iconst (v := 1) hx hb dX10_compare_148 ?o384 ?_
                case o384 => decide
                refine lv_iadd hx hb dX10_compare_149 ?_
                have rg_133 := i32_r x_117
                refine lv_topi (fun x_134 ex_134 => ?_)
                have zx_134 : x_134.toInt = x_117.toInt + 1 := ?o385
                case o385 =>
                  rw [ex_134]
                  refine i32_add rfl ?o386 ?o387 ?o388
                  case o386 => decide
                  case o387 => omega
                  case o388 => omega
                refine hx_puti hx hb hts hC_10 hown hW hT (hx_S.rf (M := [(10, 8)])) (gx.S hM) tt_10 8 ?o389 rfl kw_1151 ⟨rfl, rfl, rfl⟩ rfl (x := x_134) ⟨?o390, ?o391⟩ rfl rfl rfl (List.mem_singleton.mpr rfl) dX10_compare_150 (fun H locs h_135 eh_135 hW hT hs => ?_)
                case o389 => decide
                case o390 => omega
                case o391 => omega
                replace f_x_14 := (hs.o (gx.S hM) trivial rfl).1.trans f_x_14
                replace f_x_11 := (hs.o (gx.S hM) trivial rfl).1.trans f_x_11
                replace f_x_9 := (hs.o (gx.S hM) trivial rfl).1.trans f_x_9
                replace f_11 := (hs.o (gx.S hM) trivial rfl).1.trans f_11
                replace af_qs : h_135.2.1 qs = sf := (funext fun j => (hs.a (gqs.S hM) rfl j).1).trans af_qs
                replace ex_126 := ex_126.trans (hs.a (gqt.S hM) rfl _).1.symm
                replace hM := hM.tr (hs.mono ?o392)
                case o392 => decide
                have f_136 : h_135.2.1 x 8 = x_134 := ?o393
                case o393 =>
                  rw [eh_135]
                  exact hx_pi_at _ _ _ _
                refine lv_iload_n hx hb dX10_compare_153 rfl (lv_at hl 1 rfl) ?_
                refine lv_bipush (v := 60) hx hb dX10_compare_154 ?o394 ?_
                case o394 => decide
                refine hb_icmp_ne (zx := r_19.toInt) (zy := 60) (tgt := 171) hx hb rfl ?o395 dX10_compare_156 ?o396 (fun c_137 => ?_) (fun c_137 => ?o397)
                case o395 => decide
                case o396 => decide
                case o397 =>
                  exfalso
                  omega
                refine lv_iload_n hx hb dX10_compare_171 rfl (lv_at hl 1 rfl) ?_
                refine lv_bipush (v := 61) hx hb dX10_compare_172 ?o398 ?_
                case o398 => decide
                refine hb_icmp_ne (zx := r_19.toInt) (zy := 61) (tgt := 181) hx hb rfl ?o399 dX10_compare_174 ?o400 (fun c_138 => ?_) (fun c_138 => ?o401)
                case o399 => decide
                case o400 => decide
                case o401 =>
                  exfalso
                  omega
                refine lv_iload_n hx hb dX10_compare_181 rfl (lv_at hl 0 rfl) ?_
                refine hb_if_eq (zx := 1) (tgt := 189) hx hb ?o402 dX10_compare_182 ?o403 (fun c_139 => absurd c_139 ?o404) (fun c_139 => ?_)
                case o402 => decide
                case o403 => decide
                case o404 => decide
                refine lv_iconst (v := 3) hx hb dX10_compare_185 ?o405 ?_
                case o405 => decide
                refine lv_goto (tgt := 190) hx hb dX10_compare_186 ?o406 ?_
                case o406 => decide
                refine lv_istore (lv' := [(4, .int (3 : Int32)), (3, .int (1 : Int32)), (2, .int r_19), (0, .ref x), (1, .int i1)]) hx hb dX10_compare_190 hl ?o407 rfl (fun ls hl => ?_)
                case o407 => decide
                have zk_3 : (3 : Int32).toInt = 3 := ?o408
                case o408 => decide
                refine join192 (3 : Int32) x_134 _ _ L_17 h_135 ?o409 ?o410 ?o411 ?o412 (by have hsq : hv_sk tf tp0.toInt.toNat (hv_we tf tp0.toInt.toNat nx0.toInt.toNat) = w_22.toInt.toNat := (by rw [← ha1]; exact ek_23.symm); rw [hsq, show hv_sg tf tp0.toInt.toNat w_22.toInt.toNat = (3, 2) from hv_sg_6 (by have h8 := hv_SE_y (k := 62) hr_21S (by decide) (by decide) (by omega); exact h8) ⟨by omega, (by show (tf x_117.toNatClampNeg).toInt = 61; rw [← ax_126]; omega)⟩ (by omega) (by omega)]; refine ⟨by decide, by decide, ?_⟩; show _ = w_22.toInt.toNat + 2; omega) ?o413 ?o414 ls hW hT hM f_136 f_x_14 f_x_11 f_x_9 f_11 af_qs (lv_sub hl [0, 2, 3, 4] rfl)
                case o409 => decide
                case o410 => decide
                case o411 => omega
                case o412 => omega
                case o413 => omega
                case o414 => omega
          · skip
            refine lv_aload_n hx hb dX10_compare_82 rfl (lv_at hl 1 rfl) ?_
            refine lv_iconst (v := 0) hx hb dX10_compare_83 ?o415 ?_
            case o415 => decide
            refine lv_aload_n hx hb dX10_compare_84 rfl (lv_at hl 1 rfl) ?_
            refine hk_geti hx hb hts hC_10 hown hW (gx.S hM) tt_10 8 ?o416 rfl kw_1151 ⟨rfl, rfl, rfl⟩ fw_22 dX10_compare_85 ?_
            case o416 => decide
            have zc_0 : (0 : Int32).toInt = 0 := ?o417
            case o417 => decide
            refine hx_goi (hx_runV (As := [.int (0 : Int32), .int w_22]) (rest := []) ⟨hx, hb, hml, hown, hts⟩ hW (gx.S hM) tt_10 (T := TX10) (N := 98) rfl (t_X10_fails_v l dC dI dA L_17 h_18 H.size x (0 : Int32) w_22 hT (gx.S hM) ft0 f_x_9 ?o418 ?o419 ⟨?o420, ?o421⟩) (cwV 2 hts (hx_gV kw_1480 kw_1477 kw_1479 kw_56 kw_103) rfl rfl rfl (by decide +kernel) ⟨Nat.le_of_ble_eq_true rfl, Nat.le_of_ble_eq_true rfl⟩) rfl hl.1 rfl (Nat.le_of_ble_eq_true rfl) dX10_compare_88 ⟨Nat.le_of_ble_eq_true rfl, Nat.le_of_ble_eq_true rfl⟩) hW (fun r_142 L_140 h_141 H locs p_143 hW => ?_)
            case o418 => omega
            case o419 => decide
            case o420 => omega
            case o421 => omega
            obtain ⟨⟨w_145, fw_145, hr_144⟩, hT, hs⟩ := p_143
            replace hT : hx_T T_tb L_140 h_141 := hT
            replace hs : hx_S T_tb [(10, 9)] L_17 h_18 L_140 h_141 := hs
            replace f_x_14 := (hs.o (gx.S hM) trivial rfl).1.trans f_x_14
            replace f_x_11 := (hs.o (gx.S hM) trivial rfl).1.trans f_x_11
            replace f_11 := (hs.o (gx.S hM) trivial rfl).1.trans f_11
            replace fw_22 := (hs.o (gx.S hM) trivial rfl).1.trans fw_22
            replace af_qs : h_141.2.1 qs = sf := (funext fun j => (hs.a (gqs.S hM) rfl j).1).trans af_qs
            replace hM := hM.tr (hs.mono ?o422)
            case o422 => decide
            have fw_145 : h_141.2.1 x 9 = w_145 := fw_145
            have bw_145 := hT.gi (gx.S hM) tt_10 (k := 9) rfl
            rw [fw_145] at bw_145
            have bw_145 : -2147483648 ≤ w_145.toInt ∧ w_145.toInt ≤ 2147483647 := bw_145
            refine hx_retz hx hb hr (hx_nar01 ?o423) hlk hW ⟨⟨x_9, w_22, st0, w_145, sf, f_11, fw_22, f_x_14, fw_145, af_qs, ⟨?o424, ?o425, (fun z9 => ?o426), (hv_K_f (x := 1 + 8 * w_22.toInt.toNat) ?o427 ?o428 ?o429 (((hv_term_3 ?o430 ?o431 (by rw [← ha1, ← ek_23, hv_sg_0 (fun z9 => hv_SE_n (k := 60) hr_21S (by omega) ⟨z9.1, z9.2, by decide⟩) (fun z9 => hv_SE_n (k := 62) hr_21S (by omega) ⟨z9.1, z9.2, by decide⟩) (fun z9 => hv_SE_n (k := 61) hr_21S (by omega) ⟨z9.1, z9.2, by decide⟩) (by omega)])).trans (by rw [← ha1, ← ek_23])))), (fun z9 => ?o432)⟩⟩, hT, hM⟩ dX10_compare_91
            case o423 => omega
            case o424 => omega
            case o425 => omega
            case o426 =>
              exfalso
              omega
            case o427 => omega
            case o428 => omega
            case o429 => omega
            case o430 => omega
            case o431 => omega
            case o432 =>
              exfalso
              omega
    · skip
      refine lv_aload_n hx hb dX10_compare_26 rfl (lv_at hl 0 rfl) ?_
      refine lv_iconst (v := 4) hx hb dX10_compare_27 ?o433 ?_
      case o433 => decide
      refine lv_aload_n hx hb dX10_compare_28 rfl (lv_at hl 0 rfl) ?_
      refine hk_geti hx hb hts hC_10 hown hW (gx.S hM) tt_10 8 ?o434 rfl kw_1151 ⟨rfl, rfl, rfl⟩ f_x_8 dX10_compare_29 ?_
      case o434 => decide
      have zc_4 : (4 : Int32).toInt = 4 := ?o435
      case o435 => decide
      refine hx_goi (hx_runV (As := [.int (4 : Int32), .int nx0]) (rest := []) ⟨hx, hb, hml, hown, hts⟩ hW (gx.S hM) tt_10 (T := TX10) (N := 98) rfl (t_X10_fails_v l dC dI dA L_1 h_2 H.size x (4 : Int32) nx0 hT (gx.S hM) ft0 f_x_9 ?o436 ?o437 ⟨?o438, ?o439⟩) (cwV 2 hts (hx_gV kw_1480 kw_1477 kw_1479 kw_56 kw_103) rfl rfl rfl (by decide +kernel) ⟨Nat.le_of_ble_eq_true rfl, Nat.le_of_ble_eq_true rfl⟩) rfl hl.1 rfl (Nat.le_of_ble_eq_true rfl) dX10_compare_32 ⟨Nat.le_of_ble_eq_true rfl, Nat.le_of_ble_eq_true rfl⟩) hW (fun r_148 L_146 h_147 H locs p_149 hW => ?_)
      case o436 => omega
      case o437 => decide
      case o438 => omega
      case o439 => omega
      obtain ⟨⟨w_151, fw_151, hr_150⟩, hT, hs⟩ := p_149
      replace hT : hx_T T_tb L_146 h_147 := hT
      replace hs : hx_S T_tb [(10, 9)] L_1 h_2 L_146 h_147 := hs
      replace f_x_16 := (hs.o (gx.S hM) trivial rfl).1.trans f_x_16
      replace f_x_8 := (hs.o (gx.S hM) trivial rfl).1.trans f_x_8
      replace f_x_14 := (hs.o (gx.S hM) trivial rfl).1.trans f_x_14
      replace f_x_11 := (hs.o (gx.S hM) trivial rfl).1.trans f_x_11
      replace af_qs : h_147.2.1 qs = sf := (funext fun j => (hs.a (gqs.S hM) rfl j).1).trans af_qs
      replace hM := hM.tr (hs.mono ?o440)
      case o440 => decide
      have fw_151 : h_147.2.1 x 9 = w_151 := fw_151
      have bw_151 := hT.gi (gx.S hM) tt_10 (k := 9) rfl
      rw [fw_151] at bw_151
      have bw_151 : -2147483648 ≤ w_151.toInt ∧ w_151.toInt ≤ 2147483647 := bw_151
      refine hx_retz hx hb hr (hx_nar01 ?o441) hlk hW ⟨⟨cp0, nx0, st0, w_151, sf, f_x_16, f_x_8, f_x_14, fw_151, af_qs, ⟨?o442, ?o443, (fun z9 => ?o444), (hv_K_f (x := 5 + 8 * nx0.toInt.toNat) ?o445 ?o446 ?o447 (hv_term_2 ?o448 ?o449)), (fun z9 => ?o450)⟩⟩, hT, hM⟩ dX10_compare_35
      case o441 => omega
      case o442 => omega
      case o443 => omega
      case o444 =>
        exfalso
        omega
      case o445 => omega
      case o446 => omega
      case o447 => omega
      case o448 => omega
      case o449 => omega
      case o450 =>
        exfalso
        omega
  · skip
    replace hr_5 := hr_5.resolve_right (fun z9 => absurd (c_6.symm.trans z9.1) ?o451)
    case o451 => decide
    replace hr_5 := hr_5.2
    refine lv_aload_n hx hb dX10_compare_7 rfl (lv_at hl 0 rfl) ?_
    refine lv_iconst (v := 0) hx hb dX10_compare_8 ?o452 ?_
    case o452 => decide
    refine lv_aload_n hx hb dX10_compare_9 rfl (lv_at hl 0 rfl) ?_
    refine hk_geti hx hb hts hC_10 hown hW (gx.S hM) tt_10 8 ?o453 rfl kw_1151 ⟨rfl, rfl, rfl⟩ f_x_8 dX10_compare_10 ?_
    case o453 => decide
    have zc_0 : (0 : Int32).toInt = 0 := ?o454
    case o454 => decide
    refine hx_goi (hx_runV (As := [.int (0 : Int32), .int nx0]) (rest := []) ⟨hx, hb, hml, hown, hts⟩ hW (gx.S hM) tt_10 (T := TX10) (N := 98) rfl (t_X10_fails_v l dC dI dA L_1 h_2 H.size x (0 : Int32) nx0 hT (gx.S hM) ft0 f_x_9 ?o455 ?o456 ⟨?o457, ?o458⟩) (cwV 2 hts (hx_gV kw_1480 kw_1477 kw_1479 kw_56 kw_103) rfl rfl rfl (by decide +kernel) ⟨Nat.le_of_ble_eq_true rfl, Nat.le_of_ble_eq_true rfl⟩) rfl hl.1 rfl (Nat.le_of_ble_eq_true rfl) dX10_compare_13 ⟨Nat.le_of_ble_eq_true rfl, Nat.le_of_ble_eq_true rfl⟩) hW (fun r_154 L_152 h_153 H locs p_155 hW => ?_)
    case o455 => omega
    case o456 => decide
    case o457 => omega
    case o458 => omega
    obtain ⟨⟨w_157, fw_157, hr_156⟩, hT, hs⟩ := p_155
    replace hT : hx_T T_tb L_152 h_153 := hT
    replace hs : hx_S T_tb [(10, 9)] L_1 h_2 L_152 h_153 := hs
    replace f_x_16 := (hs.o (gx.S hM) trivial rfl).1.trans f_x_16
    replace f_x_8 := (hs.o (gx.S hM) trivial rfl).1.trans f_x_8
    replace f_x_14 := (hs.o (gx.S hM) trivial rfl).1.trans f_x_14
    replace f_x_11 := (hs.o (gx.S hM) trivial rfl).1.trans f_x_11
    replace af_qs : h_153.2.1 qs = sf := (funext fun j => (hs.a (gqs.S hM) rfl j).1).trans af_qs
    replace hM := hM.tr (hs.mono ?o459)
    case o459 => decide
    have fw_157 : h_153.2.1 x 9 = w_157 := fw_157
    have bw_157 := hT.gi (gx.S hM) tt_10 (k := 9) rfl
    rw [fw_157] at bw_157
    have bw_157 : -2147483648 ≤ w_157.toInt ∧ w_157.toInt ≤ 2147483647 := bw_157
    refine hx_retz hx hb hr (hx_nar01 ?o460) hlk hW ⟨⟨cp0, nx0, st0, w_157, sf, f_x_16, f_x_8, f_x_14, fw_157, af_qs, ⟨?o461, ?o462, (fun z9 => ?o463), (hv_K_f (x := 1 + 8 * nx0.toInt.toNat) ?o464 ?o465 ?o466 (hv_term_1 ?o467)), (fun z9 => ?o468)⟩⟩, hT, hM⟩ dX10_compare_16
    case o460 => omega
    case o461 => omega
    case o462 => omega
    case o463 =>
      exfalso
      omega
    case o464 => omega
    case o465 => omega
    case o466 => omega
    case o467 => omega
    case o468 =>
      exfalso
      omega


set_option maxHeartbeats 4000000 in
set_option maxRecDepth 100000 in
theorem t_X10_begins_v (l : Launch) (dC : Nat → ClassId) (dI : Nat → Nat → Nat) (dA : Nat → ClassId) (L : List Nat) (h : hx_h) (sz : Nat) (x : Nat) (hT : hx_T T_tb L h) (gx : hx_g L h x 10) (qs : Nat) (gqs : hx_g L h qs 55) (f_x_15 : h.2.2 x 15 = some qs) (qo : Nat) (gqo : hx_g L h qo 56) (f_x_17 : h.2.2 x 17 = some qo) (qt : Nat) (gqt : hx_g L h qt 53) (f_x_6 : h.2.2 x 6 = some qt) (qw : Nat) (gqw : hx_g L h qw 57) (f_x_19 : h.2.2 x 19 = some qw) (sf : Nat → Int32) (af_qs : h.2.1 qs = sf) (of : Nat → Int32) (af_qo : h.2.1 qo = of) (tf : Nat → Int32) (af_qt : h.2.1 qt = tf) (wf : Nat → Int32) (af_qw : h.2.1 qw = wf) (cp0 : Int32) (f_x_16 : h.2.1 x 16 = cp0) (nx0 : Int32) (f_x_8 : h.2.1 x 8 = nx0) (st0 : Int32) (f_x_14 : h.2.1 x 14 = st0) (op0 : Int32) (f_x_18 : h.2.1 x 18 = op0) (tp0 : Int32) (f_x_7 : h.2.1 x 7 = tp0) (ft0 : Int32) (f_x_9 : h.2.1 x 9 = ft0) (hQ : hx_QQ 0 cp0.toInt nx0.toInt st0.toInt op0.toInt sf of) (hwd : hx_wd wf) (o : List hv_tok) (hO : hv_ls sf st0.toInt.toNat = o.map hv_rc) (hF : ft0.toInt = 0) (hA : nx0.toInt ≤ tp0.toInt) : Met l yX10_begins (Cond.code yX10_begins cX10_begins 3 (some .boolean) :: hx_all) ({ frames := 3, cells := 0, slots := 0, locals := 73 }) (va_Pc [.ref x] (hx_B T_tb (P_ty dA) (dC, dI) vwCl L h sz)) (va_Qi (fun (r : Int32) (u : List Nat × hx_h) => (∃ (cp1 : Int32) (nx1 : Int32) (st1 : Int32) (op1 : Int32) (ft1 : Int32) (sf1 : Nat → Int32) (of1 : Nat → Int32), u.2.2.1 x 16 = cp1 ∧ u.2.2.1 x 8 = nx1 ∧ u.2.2.1 x 14 = st1 ∧ u.2.2.1 x 18 = op1 ∧ u.2.2.1 x 9 = ft1 ∧ u.2.2.1 qs = sf1 ∧ u.2.2.1 qo = of1 ∧ ((r.toInt = 0 ∨ r.toInt = 1) ∧ nx0.toInt ≤ nx1.toInt ∧ (r.toInt = 1 → hx_QQ 1 cp1.toInt nx1.toInt st1.toInt op1.toInt sf1 of1) ∧ hv_BG (hv_RN tf tp0.toInt.toNat true nx0.toInt.toNat cp0.toInt.toNat o (hv_ls of op0.toInt.toNat)) tf tp0.toInt.toNat r.toInt ft1.toInt nx1.toInt cp1.toInt (hv_ls sf1 st1.toInt.toNat) (hv_ls of1 op1.toInt.toNat) ∧ (r.toInt = 1 → nx0.toInt < nx1.toInt ∧ nx1.toInt ≤ tp0.toInt))) ∧ hx_T T_tb u.1 u.2 ∧ hx_S T_tb [(10, 8), (10, 9), (10, 10), (10, 11), (10, 14), (10, 16), (10, 18), (55, 0), (56, 0)] L h u.1 u.2) (hx_E T_tb (P_ty dA) (dC, dI) vwCl (hx_A L sz)) (hx_A L sz)) 0 0 (hx_A L sz) := by
  refine hx_met (lv := [(0, .ref x)]) (by decide +kernel) rfl (Nat.le_of_ble_eq_true rfl) rfl ?_
  intro p e s m below meth c hx hb hml hr hlk hts0 hown hin hsz hW ls hl
  have hts : ∀ w ∈ hx_all, w.before _ s = true := fun w hw => hts0 w (List.mem_cons_of_mem _ hw)
  have hown : s.vm.findClass "SmallCourtModel" = some m.cls := hown
  have hM : hx_S T_tb [(10, 8), (10, 9), (10, 10), (10, 11), (10, 14), (10, 16), (10, 18), (55, 0), (56, 0)] L h L h := hx_S.rf
  have b_cp0 := hT.gi gx tt_10 (k := 16) rfl
  rw [f_x_16] at b_cp0
  have b_cp0 : 0 ≤ cp0.toInt ∧ cp0.toInt ≤ 20 := b_cp0
  have b_nx0 := hT.gi gx tt_10 (k := 8) rfl
  rw [f_x_8] at b_nx0
  have b_nx0 : 0 ≤ nx0.toInt ∧ nx0.toInt ≤ 402 := b_nx0
  have b_st0 := hT.gi gx tt_10 (k := 14) rfl
  rw [f_x_14] at b_st0
  have b_st0 : 0 ≤ st0.toInt ∧ st0.toInt ≤ 128 := b_st0
  have b_op0 := hT.gi gx tt_10 (k := 18) rfl
  rw [f_x_18] at b_op0
  have b_op0 : 0 ≤ op0.toInt ∧ op0.toInt ≤ 128 := b_op0
  have b_tp0 := hT.gi gx tt_10 (k := 7) rfl
  rw [f_x_7] at b_tp0
  have b_tp0 : 0 ≤ tp0.toInt ∧ tp0.toInt ≤ 400 := b_tp0
  have b_ft0 := hT.gi gx tt_10 (k := 9) rfl
  rw [f_x_9] at b_ft0
  have b_ft0 : -2147483648 ≤ ft0.toInt ∧ ft0.toInt ≤ 2147483647 := b_ft0
  have loop0 : ∀ (n0 : Nat) (fw0_x_18 fw0_x_8 : Int32) (ia0_qo : Nat → Int32) (H : Heap) (locs : List Loc) (hL1 : List Nat) (hl1 : hx_h), 0 ≤ fw0_x_18.toInt → fw0_x_18.toInt ≤ 128 → 0 ≤ fw0_x_8.toInt → fw0_x_8.toInt ≤ 402 → (nx0.toInt ≤ fw0_x_8.toInt) → (hx_QQ 0 cp0.toInt fw0_x_8.toInt st0.toInt fw0_x_18.toInt sf ia0_qo) → (hv_RN tf tp0.toInt.toNat true nx0.toInt.toNat cp0.toInt.toNat o (hv_ls of op0.toInt.toNat) = hv_RN tf tp0.toInt.toNat true (fw0_x_8.toInt).toNat cp0.toInt.toNat o (hv_ls ia0_qo (fw0_x_18.toInt).toNat)) → (fw0_x_8.toInt ≤ tp0.toInt) → ∀ (ls : Array Slot), 402 - fw0_x_8.toInt < (n0 : Int) → hx_W T_tb (P_ty dA) (dC, dI) vwCl (hx_A L sz) s.heap hL1 hl1 s H locs → hx_T T_tb hL1 hl1 → hx_S T_tb [(10, 8), (10, 9), (10, 10), (10, 11), (10, 14), (10, 16), (10, 18), (55, 0), (56, 0)] L h hL1 hl1 → hl1.2.1 x 18 = fw0_x_18 → hl1.2.1 x 8 = fw0_x_8 → hl1.2.1 x 16 = cp0 → hl1.2.1 x 14 = st0 → hl1.2.1 x 9 = ft0 → hl1.2.1 qo = ia0_qo → hl1.2.1 qs = sf → lv_has ls 3 [(0, .ref x)] → W p l e ({ frames := 3, cells := 0, slots := 0, locals := 73 }) s m ([.ref x] : List Value).toArray below meth c H locs 0 0 (MQ below (va_Qi (fun (r : Int32) (u : List Nat × hx_h) => (∃ (cp1 : Int32) (nx1 : Int32) (st1 : Int32) (op1 : Int32) (ft1 : Int32) (sf1 : Nat → Int32) (of1 : Nat → Int32), u.2.2.1 x 16 = cp1 ∧ u.2.2.1 x 8 = nx1 ∧ u.2.2.1 x 14 = st1 ∧ u.2.2.1 x 18 = op1 ∧ u.2.2.1 x 9 = ft1 ∧ u.2.2.1 qs = sf1 ∧ u.2.2.1 qo = of1 ∧ ((r.toInt = 0 ∨ r.toInt = 1) ∧ nx0.toInt ≤ nx1.toInt ∧ (r.toInt = 1 → hx_QQ 1 cp1.toInt nx1.toInt st1.toInt op1.toInt sf1 of1) ∧ hv_BG (hv_RN tf tp0.toInt.toNat true nx0.toInt.toNat cp0.toInt.toNat o (hv_ls of op0.toInt.toNat)) tf tp0.toInt.toNat r.toInt ft1.toInt nx1.toInt cp1.toInt (hv_ls sf1 st1.toInt.toNat) (hv_ls of1 op1.toInt.toNat) ∧ (r.toInt = 1 → nx0.toInt < nx1.toInt ∧ nx1.toInt ≤ tp0.toInt))) ∧ hx_T T_tb u.1 u.2 ∧ hx_S T_tb [(10, 8), (10, 9), (10, 10), (10, 11), (10, 14), (10, 16), (10, 18), (55, 0), (56, 0)] L h u.1 u.2) (hx_E T_tb (P_ty dA) (dC, dI) vwCl (hx_A L sz)) (hx_A L sz)) ([.ref x] : List Value).toArray s 0 0 (hx_A L sz)) (F0 m 0 ls []) := by
    intro n0
    induction n0 with
    | zero => intro fw0_x_18 fw0_x_8 ia0_qo H locs hL1 hl1 blfw0_x_18 bufw0_x_18 blfw0_x_8 bufw0_x_8 vi0_0 vi0_1 vi0_2 vi0_3 ls hn0; exfalso; omega
    | succ n0 ih0 =>
      intro fw0_x_18 fw0_x_8 ia0_qo H locs hL1 hl1 blfw0_x_18 bufw0_x_18 blfw0_x_8 bufw0_x_8 vi0_0 vi0_1 vi0_2 vi0_3 ls hn0 hW hT hM ffw0_x_18 ffw0_x_8 f_x_16 f_x_14 f_x_9 nia0_qo af_qs hl
      have hqb := hx_QQ_b vi0_1
      refine lv_aload_n hx hb dX10_begins_0 rfl (lv_at hl 0 rfl) ?_
      refine hx_goi (hx_runV (As := []) (rest := []) ⟨hx, hb, hml, hown, hts⟩ hW (gx.S hM) tt_10 (T := TX10) (N := 98) rfl (t_X10_see_v l dC dI dA hL1 hl1 H.size x hT (gx.S hM) qt (gqt.S hM) ((hM.o gx trivial rfl).2.trans f_x_6) tf (hx_afS hM gqt rfl af_qt) fw0_x_8 ffw0_x_8 tp0 ((hM.o gx trivial rfl).1.trans f_x_7) ?o0) (cwV 0 hts (hx_gV kw_1468 kw_1465 kw_1467 kw_53 kw_103) rfl rfl rfl (by decide +kernel) ⟨Nat.le_of_ble_eq_true rfl, Nat.le_of_ble_eq_true rfl⟩) rfl hl.1 rfl (Nat.le_of_ble_eq_true rfl) dX10_begins_1 ⟨Nat.le_of_ble_eq_true rfl, Nat.le_of_ble_eq_true rfl⟩) hW (fun r_3 L_1 h_2 H locs p_4 hW => ?_)
      case o0 => omega
      obtain ⟨⟨w_6, fw_6, hr_5⟩, hT, hs⟩ := p_4
      replace hT : hx_T T_tb L_1 h_2 := hT
      replace hs : hx_S T_tb [(10, 8)] hL1 hl1 L_1 h_2 := hs
      replace f_x_16 := (hs.o (gx.S hM) trivial rfl).1.trans f_x_16
      replace f_x_14 := (hs.o (gx.S hM) trivial rfl).1.trans f_x_14
      replace f_x_9 := (hs.o (gx.S hM) trivial rfl).1.trans f_x_9
      replace ffw0_x_18 := (hs.o (gx.S hM) trivial rfl).1.trans ffw0_x_18
      replace af_qs : h_2.2.1 qs = sf := (funext fun j => (hs.a (gqs.S hM) rfl j).1).trans af_qs
      replace nia0_qo : h_2.2.1 qo = ia0_qo := (funext fun j => (hs.a (gqo.S hM) rfl j).1).trans nia0_qo
      replace hM := hM.tr (hs.mono ?o1)
      case o1 => decide
      have fw_6 : h_2.2.1 x 8 = w_6 := fw_6
      have bw_6 := hT.gi (gx.S hM) tt_10 (k := 8) rfl
      rw [fw_6] at bw_6
      have bw_6 : 0 ≤ w_6.toInt ∧ w_6.toInt ≤ 402 := bw_6
      have ek_7 : w_6.toInt.toNat = hv_sk tf tp0.toInt.toNat fw0_x_8.toInt.toNat := ?o2
      case o2 => omega
      have hr_5S := hr_5.2.2.2.1
      refine lv_istore_n (lv' := [(1, .int r_3), (0, .ref x)]) hx hb dX10_begins_4 rfl hl ?o3 rfl (fun ls hl => ?_)
      case o3 => decide
      refine lv_aload_n hx hb dX10_begins_5 rfl (lv_at hl 1 rfl) ?_
      refine hx_goi (hx_runV (As := []) (rest := []) ⟨hx, hb, hml, hown, hts⟩ hW (gx.S hM) tt_10 (T := TX10) (N := 98) rfl (t_X10_wordHere_v l dC dI dA L_1 h_2 H.size x hT (gx.S hM) qt (gqt.S hM) ((hM.o gx trivial rfl).2.trans f_x_6) qw (gqw.S hM) ((hM.o gx trivial rfl).2.trans f_x_19) tf (hx_afS hM gqt rfl af_qt) wf (hx_afS hM gqw rfl af_qw) w_6 fw_6 tp0 ((hM.o gx trivial rfl).1.trans f_x_7) hwd ?o4) (cwV 0 hts (hx_gV kw_1476 kw_1473 kw_1475 kw_55 kw_103) rfl rfl rfl (by decide +kernel) ⟨Nat.le_of_ble_eq_true rfl, Nat.le_of_ble_eq_true rfl⟩) rfl hl.1 rfl (Nat.le_of_ble_eq_true rfl) dX10_begins_6 ⟨Nat.le_of_ble_eq_true rfl, Nat.le_of_ble_eq_true rfl⟩) hW (fun r_10 L_8 h_9 H locs p_11 hW => ?_)
      case o4 => omega
      obtain ⟨⟨w_13, w_14, fw_13, fw_14, hr_12⟩, hT, hs⟩ := p_11
      replace hT : hx_T T_tb L_8 h_9 := hT
      replace hs : hx_S T_tb [(10, 8), (10, 11)] L_1 h_2 L_8 h_9 := hs
      replace f_x_16 := (hs.o (gx.S hM) trivial rfl).1.trans f_x_16
      replace f_x_14 := (hs.o (gx.S hM) trivial rfl).1.trans f_x_14
      replace f_x_9 := (hs.o (gx.S hM) trivial rfl).1.trans f_x_9
      replace ffw0_x_18 := (hs.o (gx.S hM) trivial rfl).1.trans ffw0_x_18
      replace af_qs : h_9.2.1 qs = sf := (funext fun j => (hs.a (gqs.S hM) rfl j).1).trans af_qs
      replace nia0_qo : h_9.2.1 qo = ia0_qo := (funext fun j => (hs.a (gqo.S hM) rfl j).1).trans nia0_qo
      replace hM := hM.tr (hs.mono ?o5)
      case o5 => decide
      have fw_13 : h_9.2.1 x 8 = w_13 := fw_13
      have bw_13 := hT.gi (gx.S hM) tt_10 (k := 8) rfl
      rw [fw_13] at bw_13
      have bw_13 : 0 ≤ w_13.toInt ∧ w_13.toInt ≤ 402 := bw_13
      have fw_14 : h_9.2.1 x 11 = w_14 := fw_14
      have bw_14 := hT.gi (gx.S hM) tt_10 (k := 11) rfl
      rw [fw_14] at bw_14
      have bw_14 : 0 ≤ w_14.toInt ∧ w_14.toInt ≤ 400 := bw_14
      have ek_15 : w_13.toInt.toNat = hv_sk tf tp0.toInt.toNat w_6.toInt.toNat := ?o6
      case o6 => omega
      have hr_12W : r_10.toInt = hv_wd tf tp0.toInt.toNat w_13.toInt.toNat := ?o7
      case o7 =>
        rw [ek_15]
        exact hr_12.2.2.2.2.1
      have hr_12E : ((hv_we tf tp0.toInt.toNat w_13.toInt.toNat : Nat) : Int) = w_13.toInt + w_14.toInt := ?o8
      case o8 =>
        rw [ek_15]
        exact hr_12.2.2.2.1.symm
      refine lv_istore_n (lv' := [(2, .int r_10), (1, .int r_3), (0, .ref x)]) hx hb dX10_begins_9 rfl hl ?o9 rfl (fun ls hl => ?_)
      case o9 => decide
      have e12 : w_13.toInt.toNat = w_6.toInt.toNat := ?o10
      case o10 =>
        rw [ek_15, ek_7]
        exact hv_sk_id
      have eks : w_13.toInt.toNat = hv_sk tf tp0.toInt.toNat fw0_x_8.toInt.toNat := ?o11
      case o11 => rw [e12, ek_7]
      refine lv_iload_n hx hb dX10_begins_10 rfl (lv_at hl 1 rfl) ?_
      refine lv_bipush (v := 40) hx hb dX10_begins_11 ?o12 ?_
      case o12 => decide
      refine hb_icmp_eq (zx := r_3.toInt) (zy := 40) (tgt := 27) hx hb rfl ?o13 dX10_begins_13 ?o14 (fun c_16 => ?_) (fun c_16 => ?_)
      case o13 => decide
      case o14 => decide
      · skip
        have h40 : w_13.toInt.toNat < tp0.toInt.toNat ∧ (tf w_13.toInt.toNat).toInt = 40 := ?o15
        case o15 =>
          rw [e12]
          have h8 := hv_SE_y (k := 40) hr_5S ?o16 ?o17 ?o18
          case o16 => decide
          case o17 => decide
          case o18 => omega
          refine ⟨?o19, h8.2⟩
          case o19 => omega
        have hn2 : hv_wd tf tp0.toInt.toNat w_13.toInt.toNat ≠ 2 := ?o20
        case o20 =>
          rw [hv_wd_40 h40.2]
          decide
        refine lv_aload_n hx hb dX10_begins_27 rfl (lv_at hl 2 rfl) ?_
        refine hx_goi (hx_runV (As := []) (rest := []) ⟨hx, hb, hml, hown, hts⟩ hW (gx.S hM) tt_10 (T := TX10) (N := 98) rfl (t_X10_deep_2 l dC dI dA L_8 h_9 H.size x hT (gx.S hM) qo (gqo.S hM) ((hM.o gx trivial rfl).2.trans f_x_17) ia0_qo nia0_qo fw0_x_18 ffw0_x_18) (cwV 0 hts (hx_gV kw_1507 kw_1504 kw_1506 kw_62 kw_103) rfl rfl rfl (by decide +kernel) ⟨Nat.le_of_ble_eq_true rfl, Nat.le_of_ble_eq_true rfl⟩) rfl hl.1 rfl (Nat.le_of_ble_eq_true rfl) dX10_begins_28 ⟨Nat.le_of_ble_eq_true rfl, Nat.le_of_ble_eq_true rfl⟩) hW (fun r_19 L_17 h_18 H locs p_20 hW => ?_)
        obtain ⟨hr_21, hT, hs⟩ := p_20
        replace hT : hx_T T_tb L_17 h_18 := hT
        replace hs : hx_S T_tb [] L_8 h_9 L_17 h_18 := hs
        replace f_x_16 := (hs.o (gx.S hM) trivial rfl).1.trans f_x_16
        replace f_x_14 := (hs.o (gx.S hM) trivial rfl).1.trans f_x_14
        replace f_x_9 := (hs.o (gx.S hM) trivial rfl).1.trans f_x_9
        replace ffw0_x_18 := (hs.o (gx.S hM) trivial rfl).1.trans ffw0_x_18
        replace fw_13 := (hs.o (gx.S hM) trivial rfl).1.trans fw_13
        replace fw_14 := (hs.o (gx.S hM) trivial rfl).1.trans fw_14
        replace af_qs : h_18.2.1 qs = sf := (funext fun j => (hs.a (gqs.S hM) rfl j).1).trans af_qs
        replace nia0_qo : h_18.2.1 qo = ia0_qo := (funext fun j => (hs.a (gqo.S hM) rfl j).1).trans nia0_qo
        replace hM := hM.tr (hs.mono ?o21)
        case o21 => decide
        refine lv_bipush (v := 8) hx hb dX10_begins_31 ?o22 ?_
        case o22 => decide
        refine hb_icmp_ne (zx := r_19.toInt) (zy := 8) (tgt := 46) hx hb rfl ?o23 dX10_begins_33 ?o24 (fun c_22 => ?_) (fun c_22 => ?_)
        case o23 => decide
        case o24 => decide
        · skip
          have hdp : hv_dp (hv_ls ia0_qo fw0_x_18.toInt.toNat) ≠ 8 := ?o25
          case o25 =>
            rw [hv_dp_ls]
            omega
          refine lv_aload_n hx hb dX10_begins_46 rfl (lv_at hl 2 rfl) ?_
          refine hk_getr hx hb hts hC_10 hown hW (gx.S hM) tt_10 17 ?o26 rfl kw_1160 ⟨rfl, rfl, rfl⟩ ((hM.o gx trivial rfl).2.trans f_x_17) dX10_begins_47 ?_
          case o26 => decide
          refine lv_aload_n hx hb dX10_begins_50 rfl (lv_at hl 2 rfl) ?_
          refine hk_geti hx hb hts hC_10 hown hW (gx.S hM) tt_10 18 ?o27 rfl kw_1161 ⟨rfl, rfl, rfl⟩ ffw0_x_18 dX10_begins_51 ?_
          case o27 => decide
          refine lv_iload_n hx hb dX10_begins_54 rfl (lv_at hl 1 rfl) ?_
          refine lv_bipush (v := 40) hx hb dX10_begins_55 ?o28 ?_
          case o28 => decide
          refine hb_icmp_ne (zx := r_3.toInt) (zy := 40) (tgt := 65) hx hb rfl ?o29 dX10_begins_57 ?o30 (fun c_23 => ?o31) (fun c_23 => ?_)
          case o29 => decide
          case o30 => decide
          case o31 =>
            exfalso
            omega
          refine lv_bipush (v := 100) hx hb dX10_begins_60 ?o32 ?_
          case o32 => decide
          refine lv_goto (tgt := 66) hx hb dX10_begins_62 ?o33 ?_
          case o33 => decide
          have nia0_qoO := nia0_qo
          refine hx_iast hx hb hW hT (hx_S.rf (M := [(56, 0)])) (gqo.S hM) tt_56 rfl ⟨?o34, ?o35⟩ rfl ?o36 (List.mem_singleton.mpr rfl) dX10_begins_66 (fun H locs h_24 eh_24 hW hT hs => ?_)
          case o34 => omega
          case o35 => omega
          case o36 => decide
          replace f_x_16 := (hs.o (gx.S hM) trivial rfl).1.trans f_x_16
          replace f_x_14 := (hs.o (gx.S hM) trivial rfl).1.trans f_x_14
          replace f_x_9 := (hs.o (gx.S hM) trivial rfl).1.trans f_x_9
          replace ffw0_x_18 := (hs.o (gx.S hM) trivial rfl).1.trans ffw0_x_18
          replace fw_13 := (hs.o (gx.S hM) trivial rfl).1.trans fw_13
          replace fw_14 := (hs.o (gx.S hM) trivial rfl).1.trans fw_14
          replace af_qs : h_24.2.1 qs = sf := (funext fun j => (hs.a (gqs.S hM) rfl j).1).trans af_qs
          replace hM := hM.tr (hs.mono ?o37)
          case o37 => decide
          obtain ⟨fa_25, dfa_25⟩ : ∃ g : Nat → Int32, g = hx_up ia0_qo fw0_x_18.toNatClampNeg (100 : Int32) := ⟨_, rfl⟩
          have nfa_25 : h_24.2.1 qo = fa_25 := ?o38
          case o38 =>
            rw [eh_24, dfa_25, ← nia0_qoO]
            exact hx_pi_fun _ _ _ _
          refine lv_aload_n hx hb dX10_begins_67 rfl (lv_at hl 2 rfl) ?_
          refine lv_dup hx hb dX10_begins_68 rfl ?_
          refine hk_geti hx hb hts hC_10 hown hW (gx.S hM) tt_10 18 ?o39 rfl kw_1161 ⟨rfl, rfl, rfl⟩ ffw0_x_18 dX10_begins_69 ?_
          case o39 => decide
          refine lv_iconst (v := 1) hx hb dX10_begins_72 ?o40 ?_
          case o40 => decide
          refine lv_iadd hx hb dX10_begins_73 ?_
          have rg_26 := i32_r fw0_x_18
          refine lv_topi (fun x_27 ex_27 => ?_)
          have zx_27 : x_27.toInt = fw0_x_18.toInt + 1 := ?o41
          case o41 =>
            rw [ex_27]
            refine i32_add rfl ?o42 ?o43 ?o44
            case o42 => decide
            case o43 => omega
            case o44 => omega
          refine hx_puti hx hb hts hC_10 hown hW hT (hx_S.rf (M := [(10, 18)])) (gx.S hM) tt_10 18 ?o45 rfl kw_1161 ⟨rfl, rfl, rfl⟩ rfl (x := x_27) ⟨?o46, ?o47⟩ rfl rfl rfl (List.mem_singleton.mpr rfl) dX10_begins_74 (fun H locs h_28 eh_28 hW hT hs => ?_)
          case o45 => decide
          case o46 => omega
          case o47 => omega
          replace f_x_16 := (hs.o (gx.S hM) trivial rfl).1.trans f_x_16
          replace f_x_14 := (hs.o (gx.S hM) trivial rfl).1.trans f_x_14
          replace f_x_9 := (hs.o (gx.S hM) trivial rfl).1.trans f_x_9
          replace fw_13 := (hs.o (gx.S hM) trivial rfl).1.trans fw_13
          replace fw_14 := (hs.o (gx.S hM) trivial rfl).1.trans fw_14
          replace af_qs : h_28.2.1 qs = sf := (funext fun j => (hs.a (gqs.S hM) rfl j).1).trans af_qs
          replace nfa_25 : h_28.2.1 qo = fa_25 := (funext fun j => (hs.a (gqo.S hM) rfl j).1).trans nfa_25
          replace hM := hM.tr (hs.mono ?o48)
          case o48 => decide
          have f_29 : h_28.2.1 x 18 = x_27 := ?o49
          case o49 =>
            rw [eh_28]
            exact hx_pi_at _ _ _ _
          refine lv_aload_n hx hb dX10_begins_77 rfl (lv_at hl 2 rfl) ?_
          refine lv_dup hx hb dX10_begins_78 rfl ?_
          refine hk_geti hx hb hts hC_10 hown hW (gx.S hM) tt_10 8 ?o50 rfl kw_1151 ⟨rfl, rfl, rfl⟩ fw_13 dX10_begins_79 ?_
          case o50 => decide
          refine lv_iload_n hx hb dX10_begins_82 rfl (lv_at hl 1 rfl) ?_
          refine lv_bipush (v := 40) hx hb dX10_begins_83 ?o51 ?_
          case o51 => decide
          refine hb_icmp_ne (zx := r_3.toInt) (zy := 40) (tgt := 92) hx hb rfl ?o52 dX10_begins_85 ?o53 (fun c_30 => ?o54) (fun c_30 => ?_)
          case o52 => decide
          case o53 => decide
          case o54 =>
            exfalso
            omega
          refine lv_iconst (v := 1) hx hb dX10_begins_88 ?o55 ?_
          case o55 => decide
          refine lv_goto (tgt := 93) hx hb dX10_begins_89 ?o56 ?_
          case o56 => decide
          refine lv_iadd hx hb dX10_begins_93 ?_
          have rg_31 := i32_r w_13
          refine lv_topi (fun x_32 ex_32 => ?_)
          have zx_32 : x_32.toInt = w_13.toInt + 1 := ?o57
          case o57 =>
            rw [ex_32]
            refine i32_add rfl ?o58 ?o59 ?o60
            case o58 => decide
            case o59 => omega
            case o60 => omega
          refine hx_puti hx hb hts hC_10 hown hW hT (hx_S.rf (M := [(10, 8)])) (gx.S hM) tt_10 8 ?o61 rfl kw_1151 ⟨rfl, rfl, rfl⟩ rfl (x := x_32) ⟨?o62, ?o63⟩ rfl rfl rfl (List.mem_singleton.mpr rfl) dX10_begins_94 (fun H locs h_33 eh_33 hW hT hs => ?_)
          case o61 => decide
          case o62 => omega
          case o63 => omega
          replace f_x_16 := (hs.o (gx.S hM) trivial rfl).1.trans f_x_16
          replace f_x_14 := (hs.o (gx.S hM) trivial rfl).1.trans f_x_14
          replace f_x_9 := (hs.o (gx.S hM) trivial rfl).1.trans f_x_9
          replace fw_14 := (hs.o (gx.S hM) trivial rfl).1.trans fw_14
          replace f_29 := (hs.o (gx.S hM) trivial rfl).1.trans f_29
          replace af_qs : h_33.2.1 qs = sf := (funext fun j => (hs.a (gqs.S hM) rfl j).1).trans af_qs
          replace nfa_25 : h_33.2.1 qo = fa_25 := (funext fun j => (hs.a (gqo.S hM) rfl j).1).trans nfa_25
          replace hM := hM.tr (hs.mono ?o64)
          case o64 => decide
          have f_34 : h_33.2.1 x 8 = x_32 := ?o65
          case o65 =>
            rw [eh_33]
            exact hx_pi_at _ _ _ _
          refine lv_goto (tgt := 0) hx hb dX10_begins_97 ?o66 ?_
          case o66 => decide
          exact ih0 x_27 x_32 fa_25 _ _ L_17 h_33 (by omega) (by omega) (by omega) (by omega) (by omega) (hx_QQ_open vi0_1 (by have q := hx_QQ_dp vi0_1; omega) (by have z1 : (100 : Int32).toInt = 100 := (by decide); have z2 : (2 : Int32).toInt = 2 := (by decide); omega) (hx_cl (by omega)) (by omega) dfa_25) (vi0_2.trans ((hv_RN_p (by rw [← eks]; exact hn2) (by rw [← eks]; exact h40) hdp).trans (by rw [← eks, show w_13.toInt.toNat + 1 = x_32.toInt.toNat by omega, hv_ls_p (n := fw0_x_18.toInt.toNat) (z := 100) rfl (by omega) (by first | decide | omega) dfa_25]))) (by omega) ls (by omega) hW hT hM f_29 f_34 f_x_16 f_x_14 f_x_9 nfa_25 af_qs (lv_sub hl [2] rfl)
        · skip
          refine lv_aload_n hx hb dX10_begins_36 rfl (lv_at hl 2 rfl) ?_
          refine lv_iconst (v := 3) hx hb dX10_begins_37 ?o67 ?_
          case o67 => decide
          refine lv_aload_n hx hb dX10_begins_38 rfl (lv_at hl 2 rfl) ?_
          refine hk_geti hx hb hts hC_10 hown hW (gx.S hM) tt_10 8 ?o68 rfl kw_1151 ⟨rfl, rfl, rfl⟩ fw_13 dX10_begins_39 ?_
          case o68 => decide
          have zc_3 : (3 : Int32).toInt = 3 := ?o69
          case o69 => decide
          refine hx_goi (hx_runV (As := [.int (3 : Int32), .int w_13]) (rest := []) ⟨hx, hb, hml, hown, hts⟩ hW (gx.S hM) tt_10 (T := TX10) (N := 98) rfl (t_X10_fails_v l dC dI dA L_17 h_18 H.size x (3 : Int32) w_13 hT (gx.S hM) ft0 f_x_9 ?o70 ?o71 ⟨?o72, ?o73⟩) (cwV 2 hts (hx_gV kw_1480 kw_1477 kw_1479 kw_56 kw_103) rfl rfl rfl (by decide +kernel) ⟨Nat.le_of_ble_eq_true rfl, Nat.le_of_ble_eq_true rfl⟩) rfl hl.1 rfl (Nat.le_of_ble_eq_true rfl) dX10_begins_42 ⟨Nat.le_of_ble_eq_true rfl, Nat.le_of_ble_eq_true rfl⟩) hW (fun r_37 L_35 h_36 H locs p_38 hW => ?_)
          case o70 => omega
          case o71 => decide
          case o72 => omega
          case o73 => omega
          obtain ⟨⟨w_40, fw_40, hr_39⟩, hT, hs⟩ := p_38
          replace hT : hx_T T_tb L_35 h_36 := hT
          replace hs : hx_S T_tb [(10, 9)] L_17 h_18 L_35 h_36 := hs
          replace f_x_16 := (hs.o (gx.S hM) trivial rfl).1.trans f_x_16
          replace f_x_14 := (hs.o (gx.S hM) trivial rfl).1.trans f_x_14
          replace ffw0_x_18 := (hs.o (gx.S hM) trivial rfl).1.trans ffw0_x_18
          replace fw_13 := (hs.o (gx.S hM) trivial rfl).1.trans fw_13
          replace fw_14 := (hs.o (gx.S hM) trivial rfl).1.trans fw_14
          replace af_qs : h_36.2.1 qs = sf := (funext fun j => (hs.a (gqs.S hM) rfl j).1).trans af_qs
          replace nia0_qo : h_36.2.1 qo = ia0_qo := (funext fun j => (hs.a (gqo.S hM) rfl j).1).trans nia0_qo
          replace hM := hM.tr (hs.mono ?o74)
          case o74 => decide
          have fw_40 : h_36.2.1 x 9 = w_40 := fw_40
          have bw_40 := hT.gi (gx.S hM) tt_10 (k := 9) rfl
          rw [fw_40] at bw_40
          have bw_40 : -2147483648 ≤ w_40.toInt ∧ w_40.toInt ≤ 2147483647 := bw_40
          refine hx_retz hx hb hr (hx_nar01 ?o75) hlk hW ⟨⟨cp0, w_13, st0, fw0_x_18, w_40, sf, ia0_qo, f_x_16, fw_13, f_x_14, ffw0_x_18, fw_40, af_qs, nia0_qo, ⟨?o76, ?o77, (fun z => ?o78), (hv_BG_f (x := 4 + 8 * w_13.toInt.toNat) ?o79 ?o80 ?o81 (vi0_2.trans ((hv_RN_d (Or.inr (by rw [← eks]; exact h40)) (by rw [hv_dp_ls]; omega)).trans (by rw [← eks])))), (fun z9 => ?o82)⟩⟩, hT, hM⟩ dX10_begins_45
          case o75 => omega
          case o76 => omega
          case o77 => omega
          case o78 =>
            exfalso
            omega
          case o79 => omega
          case o80 => omega
          case o81 => omega
          case o82 =>
            exfalso
            omega
      · skip
        refine lv_iload_n hx hb dX10_begins_16 rfl (lv_at hl 0 rfl) ?_
        refine lv_iconst (v := 2) hx hb dX10_begins_17 ?o83 ?_
        case o83 => decide
        refine hb_icmp_eq (zx := r_10.toInt) (zy := 2) (tgt := 27) hx hb rfl ?o84 dX10_begins_18 ?o85 (fun c_41 => ?_) (fun c_41 => ?_)
        case o84 => decide
        case o85 => decide
        · skip
          have hw2 : hv_wd tf tp0.toInt.toNat w_13.toInt.toNat = 2 := ?o86
          case o86 => omega
          have hl2 := hv_wd_2 hw2
          refine lv_aload_n hx hb dX10_begins_27 rfl (lv_at hl 2 rfl) ?_
          refine hx_goi (hx_runV (As := []) (rest := []) ⟨hx, hb, hml, hown, hts⟩ hW (gx.S hM) tt_10 (T := TX10) (N := 98) rfl (t_X10_deep_2 l dC dI dA L_8 h_9 H.size x hT (gx.S hM) qo (gqo.S hM) ((hM.o gx trivial rfl).2.trans f_x_17) ia0_qo nia0_qo fw0_x_18 ffw0_x_18) (cwV 0 hts (hx_gV kw_1507 kw_1504 kw_1506 kw_62 kw_103) rfl rfl rfl (by decide +kernel) ⟨Nat.le_of_ble_eq_true rfl, Nat.le_of_ble_eq_true rfl⟩) rfl hl.1 rfl (Nat.le_of_ble_eq_true rfl) dX10_begins_28 ⟨Nat.le_of_ble_eq_true rfl, Nat.le_of_ble_eq_true rfl⟩) hW (fun r_44 L_42 h_43 H locs p_45 hW => ?_)
          obtain ⟨hr_46, hT, hs⟩ := p_45
          replace hT : hx_T T_tb L_42 h_43 := hT
          replace hs : hx_S T_tb [] L_8 h_9 L_42 h_43 := hs
          replace f_x_16 := (hs.o (gx.S hM) trivial rfl).1.trans f_x_16
          replace f_x_14 := (hs.o (gx.S hM) trivial rfl).1.trans f_x_14
          replace f_x_9 := (hs.o (gx.S hM) trivial rfl).1.trans f_x_9
          replace ffw0_x_18 := (hs.o (gx.S hM) trivial rfl).1.trans ffw0_x_18
          replace fw_13 := (hs.o (gx.S hM) trivial rfl).1.trans fw_13
          replace fw_14 := (hs.o (gx.S hM) trivial rfl).1.trans fw_14
          replace af_qs : h_43.2.1 qs = sf := (funext fun j => (hs.a (gqs.S hM) rfl j).1).trans af_qs
          replace nia0_qo : h_43.2.1 qo = ia0_qo := (funext fun j => (hs.a (gqo.S hM) rfl j).1).trans nia0_qo
          replace hM := hM.tr (hs.mono ?o87)
          case o87 => decide
          refine lv_bipush (v := 8) hx hb dX10_begins_31 ?o88 ?_
          case o88 => decide
          refine hb_icmp_ne (zx := r_44.toInt) (zy := 8) (tgt := 46) hx hb rfl ?o89 dX10_begins_33 ?o90 (fun c_47 => ?_) (fun c_47 => ?_)
          case o89 => decide
          case o90 => decide
          · skip
            have hdp : hv_dp (hv_ls ia0_qo fw0_x_18.toInt.toNat) ≠ 8 := ?o91
            case o91 =>
              rw [hv_dp_ls]
              omega
            refine lv_aload_n hx hb dX10_begins_46 rfl (lv_at hl 2 rfl) ?_
            refine hk_getr hx hb hts hC_10 hown hW (gx.S hM) tt_10 17 ?o92 rfl kw_1160 ⟨rfl, rfl, rfl⟩ ((hM.o gx trivial rfl).2.trans f_x_17) dX10_begins_47 ?_
            case o92 => decide
            refine lv_aload_n hx hb dX10_begins_50 rfl (lv_at hl 2 rfl) ?_
            refine hk_geti hx hb hts hC_10 hown hW (gx.S hM) tt_10 18 ?o93 rfl kw_1161 ⟨rfl, rfl, rfl⟩ ffw0_x_18 dX10_begins_51 ?_
            case o93 => decide
            refine lv_iload_n hx hb dX10_begins_54 rfl (lv_at hl 1 rfl) ?_
            refine lv_bipush (v := 40) hx hb dX10_begins_55 ?o94 ?_
            case o94 => decide
            refine hb_icmp_ne (zx := r_3.toInt) (zy := 40) (tgt := 65) hx hb rfl ?o95 dX10_begins_57 ?o96 (fun c_48 => ?_) (fun c_48 => ?_)
            case o95 => decide
            case o96 => decide
            · skip
              refine lv_iconst (v := 2) hx hb dX10_begins_65 ?o97 ?_
              case o97 => decide
              have nia0_qoO := nia0_qo
              refine hx_iast hx hb hW hT (hx_S.rf (M := [(56, 0)])) (gqo.S hM) tt_56 rfl ⟨?o98, ?o99⟩ rfl ?o100 (List.mem_singleton.mpr rfl) dX10_begins_66 (fun H locs h_49 eh_49 hW hT hs => ?_)
              case o98 => omega
              case o99 => omega
              case o100 => decide
              replace f_x_16 := (hs.o (gx.S hM) trivial rfl).1.trans f_x_16
              replace f_x_14 := (hs.o (gx.S hM) trivial rfl).1.trans f_x_14
              replace f_x_9 := (hs.o (gx.S hM) trivial rfl).1.trans f_x_9
              replace ffw0_x_18 := (hs.o (gx.S hM) trivial rfl).1.trans ffw0_x_18
              replace fw_13 := (hs.o (gx.S hM) trivial rfl).1.trans fw_13
              replace fw_14 := (hs.o (gx.S hM) trivial rfl).1.trans fw_14
              replace af_qs : h_49.2.1 qs = sf := (funext fun j => (hs.a (gqs.S hM) rfl j).1).trans af_qs
              replace hM := hM.tr (hs.mono ?o101)
              case o101 => decide
              obtain ⟨fa_50, dfa_50⟩ : ∃ g : Nat → Int32, g = hx_up ia0_qo fw0_x_18.toNatClampNeg (2 : Int32) := ⟨_, rfl⟩
              have nfa_50 : h_49.2.1 qo = fa_50 := ?o102
              case o102 =>
                rw [eh_49, dfa_50, ← nia0_qoO]
                exact hx_pi_fun _ _ _ _
              refine lv_aload_n hx hb dX10_begins_67 rfl (lv_at hl 2 rfl) ?_
              refine lv_dup hx hb dX10_begins_68 rfl ?_
              refine hk_geti hx hb hts hC_10 hown hW (gx.S hM) tt_10 18 ?o103 rfl kw_1161 ⟨rfl, rfl, rfl⟩ ffw0_x_18 dX10_begins_69 ?_
              case o103 => decide
              refine lv_iconst (v := 1) hx hb dX10_begins_72 ?o104 ?_
              case o104 => decide
              refine lv_iadd hx hb dX10_begins_73 ?_
              have rg_51 := i32_r fw0_x_18
              refine lv_topi (fun x_52 ex_52 => ?_)
              have zx_52 : x_52.toInt = fw0_x_18.toInt + 1 := ?o105
              case o105 =>
                rw [ex_52]
                refine i32_add rfl ?o106 ?o107 ?o108
                case o106 => decide
                case o107 => omega
                case o108 => omega
              refine hx_puti hx hb hts hC_10 hown hW hT (hx_S.rf (M := [(10, 18)])) (gx.S hM) tt_10 18 ?o109 rfl kw_1161 ⟨rfl, rfl, rfl⟩ rfl (x := x_52) ⟨?o110, ?o111⟩ rfl rfl rfl (List.mem_singleton.mpr rfl) dX10_begins_74 (fun H locs h_53 eh_53 hW hT hs => ?_)
              case o109 => decide
              case o110 => omega
              case o111 => omega
              replace f_x_16 := (hs.o (gx.S hM) trivial rfl).1.trans f_x_16
              replace f_x_14 := (hs.o (gx.S hM) trivial rfl).1.trans f_x_14
              replace f_x_9 := (hs.o (gx.S hM) trivial rfl).1.trans f_x_9
              replace fw_13 := (hs.o (gx.S hM) trivial rfl).1.trans fw_13
              replace fw_14 := (hs.o (gx.S hM) trivial rfl).1.trans fw_14
              replace af_qs : h_53.2.1 qs = sf := (funext fun j => (hs.a (gqs.S hM) rfl j).1).trans af_qs
              replace nfa_50 : h_53.2.1 qo = fa_50 := (funext fun j => (hs.a (gqo.S hM) rfl j).1).trans nfa_50
              replace hM := hM.tr (hs.mono ?o112)
              case o112 => decide
              have f_54 : h_53.2.1 x 18 = x_52 := ?o113
              case o113 =>
                rw [eh_53]
                exact hx_pi_at _ _ _ _
              refine lv_aload_n hx hb dX10_begins_77 rfl (lv_at hl 2 rfl) ?_
              refine lv_dup hx hb dX10_begins_78 rfl ?_
              refine hk_geti hx hb hts hC_10 hown hW (gx.S hM) tt_10 8 ?o114 rfl kw_1151 ⟨rfl, rfl, rfl⟩ fw_13 dX10_begins_79 ?_
              case o114 => decide
              refine lv_iload_n hx hb dX10_begins_82 rfl (lv_at hl 1 rfl) ?_
              refine lv_bipush (v := 40) hx hb dX10_begins_83 ?o115 ?_
              case o115 => decide
              refine hb_icmp_ne (zx := r_3.toInt) (zy := 40) (tgt := 92) hx hb rfl ?o116 dX10_begins_85 ?o117 (fun c_55 => ?_) (fun c_55 => ?_)
              case o116 => decide
              case o117 => decide
              · skip
                refine lv_iconst (v := 3) hx hb dX10_begins_92 ?o118 ?_
                case o118 => decide
                refine lv_iadd hx hb dX10_begins_93 ?_
                have rg_56 := i32_r w_13
                refine lv_topi (fun x_57 ex_57 => ?_)
                have zx_57 : x_57.toInt = w_13.toInt + 3 := ?o119
                case o119 =>
                  rw [ex_57]
                  refine i32_add rfl ?o120 ?o121 ?o122
                  case o120 => decide
                  case o121 => omega
                  case o122 => omega
                refine hx_puti hx hb hts hC_10 hown hW hT (hx_S.rf (M := [(10, 8)])) (gx.S hM) tt_10 8 ?o123 rfl kw_1151 ⟨rfl, rfl, rfl⟩ rfl (x := x_57) ⟨?o124, ?o125⟩ rfl rfl rfl (List.mem_singleton.mpr rfl) dX10_begins_94 (fun H locs h_58 eh_58 hW hT hs => ?_)
                case o123 => decide
                case o124 => omega
                case o125 => omega
                replace f_x_16 := (hs.o (gx.S hM) trivial rfl).1.trans f_x_16
                replace f_x_14 := (hs.o (gx.S hM) trivial rfl).1.trans f_x_14
                replace f_x_9 := (hs.o (gx.S hM) trivial rfl).1.trans f_x_9
                replace fw_14 := (hs.o (gx.S hM) trivial rfl).1.trans fw_14
                replace f_54 := (hs.o (gx.S hM) trivial rfl).1.trans f_54
                replace af_qs : h_58.2.1 qs = sf := (funext fun j => (hs.a (gqs.S hM) rfl j).1).trans af_qs
                replace nfa_50 : h_58.2.1 qo = fa_50 := (funext fun j => (hs.a (gqo.S hM) rfl j).1).trans nfa_50
                replace hM := hM.tr (hs.mono ?o126)
                case o126 => decide
                have f_59 : h_58.2.1 x 8 = x_57 := ?o127
                case o127 =>
                  rw [eh_58]
                  exact hx_pi_at _ _ _ _
                refine lv_goto (tgt := 0) hx hb dX10_begins_97 ?o128 ?_
                case o128 => decide
                exact ih0 x_52 x_57 fa_50 _ _ L_42 h_58 (by omega) (by omega) (by omega) (by omega) (by omega) (hx_QQ_open vi0_1 (by have q := hx_QQ_dp vi0_1; omega) (by have z1 : (100 : Int32).toInt = 100 := (by decide); have z2 : (2 : Int32).toInt = 2 := (by decide); omega) (hx_cl (by omega)) (by omega) dfa_50) (vi0_2.trans ((hv_RN_n (by rw [← eks]; exact hw2) hdp).trans (by rw [← eks, show w_13.toInt.toNat + 3 = x_57.toInt.toNat by omega, hv_ls_p (n := fw0_x_18.toInt.toNat) (z := 2) rfl (by omega) (by first | decide | omega) dfa_50]))) (by omega) ls (by omega) hW hT hM f_54 f_59 f_x_16 f_x_14 f_x_9 nfa_50 af_qs (lv_sub hl [2] rfl)
              · skip
                refine lv_iconst (v := 1) hx hb dX10_begins_88 ?o129 ?_
                case o129 => decide
                refine lv_goto (tgt := 93) hx hb dX10_begins_89 ?o130 ?_
                case o130 => decide
                refine lv_iadd hx hb dX10_begins_93 ?_
                have rg_60 := i32_r w_13
                refine lv_topi (fun x_61 ex_61 => ?_)
                have zx_61 : x_61.toInt = w_13.toInt + 1 := ?o131
                case o131 =>
                  rw [ex_61]
                  refine i32_add rfl ?o132 ?o133 ?o134
                  case o132 => decide
                  case o133 => omega
                  case o134 => omega
                refine hx_puti hx hb hts hC_10 hown hW hT (hx_S.rf (M := [(10, 8)])) (gx.S hM) tt_10 8 ?o135 rfl kw_1151 ⟨rfl, rfl, rfl⟩ rfl (x := x_61) ⟨?o136, ?o137⟩ rfl rfl rfl (List.mem_singleton.mpr rfl) dX10_begins_94 (fun H locs h_62 eh_62 hW hT hs => ?_)
                case o135 => decide
                case o136 => omega
                case o137 => omega
                replace f_x_16 := (hs.o (gx.S hM) trivial rfl).1.trans f_x_16
                replace f_x_14 := (hs.o (gx.S hM) trivial rfl).1.trans f_x_14
                replace f_x_9 := (hs.o (gx.S hM) trivial rfl).1.trans f_x_9
                replace fw_14 := (hs.o (gx.S hM) trivial rfl).1.trans fw_14
                replace f_54 := (hs.o (gx.S hM) trivial rfl).1.trans f_54
                replace af_qs : h_62.2.1 qs = sf := (funext fun j => (hs.a (gqs.S hM) rfl j).1).trans af_qs
                replace nfa_50 : h_62.2.1 qo = fa_50 := (funext fun j => (hs.a (gqo.S hM) rfl j).1).trans nfa_50
                replace hM := hM.tr (hs.mono ?o138)
                case o138 => decide
                have f_63 : h_62.2.1 x 8 = x_61 := ?o139
                case o139 =>
                  rw [eh_62]
                  exact hx_pi_at _ _ _ _
                refine lv_goto (tgt := 0) hx hb dX10_begins_97 ?o140 ?_
                case o140 => decide
                exact ih0 x_52 x_61 fa_50 _ _ L_42 h_62 (by omega) (by omega) (by omega) (by omega) (by omega) (hx_QQ_open vi0_1 (by have q := hx_QQ_dp vi0_1; omega) (by have z1 : (100 : Int32).toInt = 100 := (by decide); have z2 : (2 : Int32).toInt = 2 := (by decide); omega) (hx_cl (by omega)) (by omega) dfa_50) (vi0_2.trans ((hv_RN_n (by rw [← eks]; exact hw2) hdp).trans (by rw [← eks, show w_13.toInt.toNat + 3 = x_61.toInt.toNat by omega, hv_ls_p (n := fw0_x_18.toInt.toNat) (z := 2) rfl (by omega) (by first | decide | omega) dfa_50]))) (by omega) ls (by omega) hW hT hM f_54 f_63 f_x_16 f_x_14 f_x_9 nfa_50 af_qs (lv_sub hl [2] rfl)
            · skip
              refine lv_bipush (v := 100) hx hb dX10_begins_60 ?o141 ?_
              case o141 => decide
              refine lv_goto (tgt := 66) hx hb dX10_begins_62 ?o142 ?_
              case o142 => decide
              have nia0_qoO := nia0_qo
              refine hx_iast hx hb hW hT (hx_S.rf (M := [(56, 0)])) (gqo.S hM) tt_56 rfl ⟨?o143, ?o144⟩ rfl ?o145 (List.mem_singleton.mpr rfl) dX10_begins_66 (fun H locs h_64 eh_64 hW hT hs => ?_)
              case o143 => omega
              case o144 => omega
              case o145 => decide
              replace f_x_16 := (hs.o (gx.S hM) trivial rfl).1.trans f_x_16
              replace f_x_14 := (hs.o (gx.S hM) trivial rfl).1.trans f_x_14
              replace f_x_9 := (hs.o (gx.S hM) trivial rfl).1.trans f_x_9
              replace ffw0_x_18 := (hs.o (gx.S hM) trivial rfl).1.trans ffw0_x_18
              replace fw_13 := (hs.o (gx.S hM) trivial rfl).1.trans fw_13
              replace fw_14 := (hs.o (gx.S hM) trivial rfl).1.trans fw_14
              replace af_qs : h_64.2.1 qs = sf := (funext fun j => (hs.a (gqs.S hM) rfl j).1).trans af_qs
              replace hM := hM.tr (hs.mono ?o146)
              case o146 => decide
              obtain ⟨fa_65, dfa_65⟩ : ∃ g : Nat → Int32, g = hx_up ia0_qo fw0_x_18.toNatClampNeg (100 : Int32) := ⟨_, rfl⟩
              have nfa_65 : h_64.2.1 qo = fa_65 := ?o147
              case o147 =>
                rw [eh_64, dfa_65, ← nia0_qoO]
                exact hx_pi_fun _ _ _ _
              refine lv_aload_n hx hb dX10_begins_67 rfl (lv_at hl 2 rfl) ?_
              refine lv_dup hx hb dX10_begins_68 rfl ?_
              refine hk_geti hx hb hts hC_10 hown hW (gx.S hM) tt_10 18 ?o148 rfl kw_1161 ⟨rfl, rfl, rfl⟩ ffw0_x_18 dX10_begins_69 ?_
              case o148 => decide
              refine lv_iconst (v := 1) hx hb dX10_begins_72 ?o149 ?_
              case o149 => decide
              refine lv_iadd hx hb dX10_begins_73 ?_
              have rg_66 := i32_r fw0_x_18
              refine lv_topi (fun x_67 ex_67 => ?_)
              have zx_67 : x_67.toInt = fw0_x_18.toInt + 1 := ?o150
              case o150 =>
                rw [ex_67]
                refine i32_add rfl ?o151 ?o152 ?o153
                case o151 => decide
                case o152 => omega
                case o153 => omega
              refine hx_puti hx hb hts hC_10 hown hW hT (hx_S.rf (M := [(10, 18)])) (gx.S hM) tt_10 18 ?o154 rfl kw_1161 ⟨rfl, rfl, rfl⟩ rfl (x := x_67) ⟨?o155, ?o156⟩ rfl rfl rfl (List.mem_singleton.mpr rfl) dX10_begins_74 (fun H locs h_68 eh_68 hW hT hs => ?_)
              case o154 => decide
              case o155 => omega
              case o156 => omega
              replace f_x_16 := (hs.o (gx.S hM) trivial rfl).1.trans f_x_16
              replace f_x_14 := (hs.o (gx.S hM) trivial rfl).1.trans f_x_14
              replace f_x_9 := (hs.o (gx.S hM) trivial rfl).1.trans f_x_9
              replace fw_13 := (hs.o (gx.S hM) trivial rfl).1.trans fw_13
              replace fw_14 := (hs.o (gx.S hM) trivial rfl).1.trans fw_14
              replace af_qs : h_68.2.1 qs = sf := (funext fun j => (hs.a (gqs.S hM) rfl j).1).trans af_qs
              replace nfa_65 : h_68.2.1 qo = fa_65 := (funext fun j => (hs.a (gqo.S hM) rfl j).1).trans nfa_65
              replace hM := hM.tr (hs.mono ?o157)
              case o157 => decide
              have f_69 : h_68.2.1 x 18 = x_67 := ?o158
              case o158 =>
                rw [eh_68]
                exact hx_pi_at _ _ _ _
              refine lv_aload_n hx hb dX10_begins_77 rfl (lv_at hl 2 rfl) ?_
              refine lv_dup hx hb dX10_begins_78 rfl ?_
              refine hk_geti hx hb hts hC_10 hown hW (gx.S hM) tt_10 8 ?o159 rfl kw_1151 ⟨rfl, rfl, rfl⟩ fw_13 dX10_begins_79 ?_
              case o159 => decide
              refine lv_iload_n hx hb dX10_begins_82 rfl (lv_at hl 1 rfl) ?_
              refine lv_bipush (v := 40) hx hb dX10_begins_83 ?o160 ?_
              case o160 => decide
              refine hb_icmp_ne (zx := r_3.toInt) (zy := 40) (tgt := 92) hx hb rfl ?o161 dX10_begins_85 ?o162 (fun c_70 => ?o163) (fun c_70 => ?_)
              case o161 => decide
              case o162 => decide
              case o163 =>
                exfalso
                omega
              refine lv_iconst (v := 1) hx hb dX10_begins_88 ?o164 ?_
              case o164 => decide
              refine lv_goto (tgt := 93) hx hb dX10_begins_89 ?o165 ?_
              case o165 => decide
              refine lv_iadd hx hb dX10_begins_93 ?_
              have rg_71 := i32_r w_13
              refine lv_topi (fun x_72 ex_72 => ?_)
              have zx_72 : x_72.toInt = w_13.toInt + 1 := ?o166
              case o166 =>
                rw [ex_72]
                refine i32_add rfl ?o167 ?o168 ?o169
                case o167 => decide
                case o168 => omega
                case o169 => omega
              refine hx_puti hx hb hts hC_10 hown hW hT (hx_S.rf (M := [(10, 8)])) (gx.S hM) tt_10 8 ?o170 rfl kw_1151 ⟨rfl, rfl, rfl⟩ rfl (x := x_72) ⟨?o171, ?o172⟩ rfl rfl rfl (List.mem_singleton.mpr rfl) dX10_begins_94 (fun H locs h_73 eh_73 hW hT hs => ?_)
              case o170 => decide
              case o171 => omega
              case o172 => omega
              replace f_x_16 := (hs.o (gx.S hM) trivial rfl).1.trans f_x_16
              replace f_x_14 := (hs.o (gx.S hM) trivial rfl).1.trans f_x_14
              replace f_x_9 := (hs.o (gx.S hM) trivial rfl).1.trans f_x_9
              replace fw_14 := (hs.o (gx.S hM) trivial rfl).1.trans fw_14
              replace f_69 := (hs.o (gx.S hM) trivial rfl).1.trans f_69
              replace af_qs : h_73.2.1 qs = sf := (funext fun j => (hs.a (gqs.S hM) rfl j).1).trans af_qs
              replace nfa_65 : h_73.2.1 qo = fa_65 := (funext fun j => (hs.a (gqo.S hM) rfl j).1).trans nfa_65
              replace hM := hM.tr (hs.mono ?o173)
              case o173 => decide
              have f_74 : h_73.2.1 x 8 = x_72 := ?o174
              case o174 =>
                rw [eh_73]
                exact hx_pi_at _ _ _ _
              refine lv_goto (tgt := 0) hx hb dX10_begins_97 ?o175 ?_
              case o175 => decide
              exact ih0 x_67 x_72 fa_65 _ _ L_42 h_73 (by omega) (by omega) (by omega) (by omega) (by omega) (hx_QQ_open vi0_1 (by have q := hx_QQ_dp vi0_1; omega) (by have z1 : (100 : Int32).toInt = 100 := (by decide); have z2 : (2 : Int32).toInt = 2 := (by decide); omega) (hx_cl (by omega)) (by omega) dfa_65) (vi0_2.trans ((hv_RN_n (by rw [← eks]; exact hw2) hdp).trans (by rw [← eks, show w_13.toInt.toNat + 3 = x_72.toInt.toNat by omega, hv_ls_p (n := fw0_x_18.toInt.toNat) (z := 2) rfl (by omega) (by first | decide | omega) dfa_65]))) (by omega) ls (by omega) hW hT hM f_69 f_74 f_x_16 f_x_14 f_x_9 nfa_65 af_qs (lv_sub hl [2] rfl)
          · skip
            refine lv_aload_n hx hb dX10_begins_36 rfl (lv_at hl 2 rfl) ?_
            refine lv_iconst (v := 3) hx hb dX10_begins_37 ?o176 ?_
            case o176 => decide
            refine lv_aload_n hx hb dX10_begins_38 rfl (lv_at hl 2 rfl) ?_
            refine hk_geti hx hb hts hC_10 hown hW (gx.S hM) tt_10 8 ?o177 rfl kw_1151 ⟨rfl, rfl, rfl⟩ fw_13 dX10_begins_39 ?_
            case o177 => decide
            have zc_3 : (3 : Int32).toInt = 3 := ?o178
            case o178 => decide
            refine hx_goi (hx_runV (As := [.int (3 : Int32), .int w_13]) (rest := []) ⟨hx, hb, hml, hown, hts⟩ hW (gx.S hM) tt_10 (T := TX10) (N := 98) rfl (t_X10_fails_v l dC dI dA L_42 h_43 H.size x (3 : Int32) w_13 hT (gx.S hM) ft0 f_x_9 ?o179 ?o180 ⟨?o181, ?o182⟩) (cwV 2 hts (hx_gV kw_1480 kw_1477 kw_1479 kw_56 kw_103) rfl rfl rfl (by decide +kernel) ⟨Nat.le_of_ble_eq_true rfl, Nat.le_of_ble_eq_true rfl⟩) rfl hl.1 rfl (Nat.le_of_ble_eq_true rfl) dX10_begins_42 ⟨Nat.le_of_ble_eq_true rfl, Nat.le_of_ble_eq_true rfl⟩) hW (fun r_77 L_75 h_76 H locs p_78 hW => ?_)
            case o179 => omega
            case o180 => decide
            case o181 => omega
            case o182 => omega
            obtain ⟨⟨w_80, fw_80, hr_79⟩, hT, hs⟩ := p_78
            replace hT : hx_T T_tb L_75 h_76 := hT
            replace hs : hx_S T_tb [(10, 9)] L_42 h_43 L_75 h_76 := hs
            replace f_x_16 := (hs.o (gx.S hM) trivial rfl).1.trans f_x_16
            replace f_x_14 := (hs.o (gx.S hM) trivial rfl).1.trans f_x_14
            replace ffw0_x_18 := (hs.o (gx.S hM) trivial rfl).1.trans ffw0_x_18
            replace fw_13 := (hs.o (gx.S hM) trivial rfl).1.trans fw_13
            replace fw_14 := (hs.o (gx.S hM) trivial rfl).1.trans fw_14
            replace af_qs : h_76.2.1 qs = sf := (funext fun j => (hs.a (gqs.S hM) rfl j).1).trans af_qs
            replace nia0_qo : h_76.2.1 qo = ia0_qo := (funext fun j => (hs.a (gqo.S hM) rfl j).1).trans nia0_qo
            replace hM := hM.tr (hs.mono ?o183)
            case o183 => decide
            have fw_80 : h_76.2.1 x 9 = w_80 := fw_80
            have bw_80 := hT.gi (gx.S hM) tt_10 (k := 9) rfl
            rw [fw_80] at bw_80
            have bw_80 : -2147483648 ≤ w_80.toInt ∧ w_80.toInt ≤ 2147483647 := bw_80
            refine hx_retz hx hb hr (hx_nar01 ?o184) hlk hW ⟨⟨cp0, w_13, st0, fw0_x_18, w_80, sf, ia0_qo, f_x_16, fw_13, f_x_14, ffw0_x_18, fw_80, af_qs, nia0_qo, ⟨?o185, ?o186, (fun z => ?o187), (hv_BG_f (x := 4 + 8 * w_13.toInt.toNat) ?o188 ?o189 ?o190 (vi0_2.trans ((hv_RN_d (Or.inl (by rw [← eks]; exact hw2)) (by rw [hv_dp_ls]; omega)).trans (by rw [← eks])))), (fun z9 => ?o191)⟩⟩, hT, hM⟩ dX10_begins_45
            case o184 => omega
            case o185 => omega
            case o186 => omega
            case o187 =>
              exfalso
              omega
            case o188 => omega
            case o189 => omega
            case o190 => omega
            case o191 =>
              exfalso
              omega
        · skip
          have hb40 : ¬ (w_13.toInt.toNat < tp0.toInt.toNat ∧ (tf w_13.toInt.toNat).toInt = 40) := ?o192
          case o192 =>
            rw [e12]
            refine fun z9 => hv_SE_n (k := 40) hr_5S ?o193 ⟨?o194, z9.2, ?o195⟩
            case o193 => omega
            case o194 => omega
            case o195 => decide
          have hb2 : hv_wd tf tp0.toInt.toNat w_13.toInt.toNat ≠ 2 := ?o196
          case o196 => omega
          refine lv_aload_n hx hb dX10_begins_21 rfl (lv_at hl 2 rfl) ?_
          refine lv_iload_n hx hb dX10_begins_22 rfl (lv_at hl 0 rfl) ?_
          refine hx_goi (hx_runV (As := [.int r_10]) (rest := []) ⟨hx, hb, hml, hown, hts⟩ hW (gx.S hM) tt_10 (T := TX10) (N := 98) rfl (t_X10_compare_v l dC dI dA L_8 h_9 H.size x r_10 hT (gx.S hM) qs (gqs.S hM) ((hM.o gx trivial rfl).2.trans f_x_15) qo (gqo.S hM) ((hM.o gx trivial rfl).2.trans f_x_17) qt (gqt.S hM) ((hM.o gx trivial rfl).2.trans f_x_6) qw (gqw.S hM) ((hM.o gx trivial rfl).2.trans f_x_19) sf af_qs ia0_qo nia0_qo tf (hx_afS hM gqt rfl af_qt) wf (hx_afS hM gqw rfl af_qw) cp0 f_x_16 w_13 fw_13 st0 f_x_14 fw0_x_18 ffw0_x_18 tp0 ((hM.o gx trivial rfl).1.trans f_x_7) w_14 fw_14 ft0 f_x_9 (hx_QQ_next vi0_1 ?o197) hwd o hO ?o198 ?o199 hr_12W hr_12E) (cwV 1 hts (hx_gV kw_1496 kw_1493 kw_1495 kw_60 kw_103) rfl rfl rfl (by decide +kernel) ⟨Nat.le_of_ble_eq_true rfl, Nat.le_of_ble_eq_true rfl⟩) rfl hl.1 rfl (Nat.le_of_ble_eq_true rfl) dX10_begins_23 ⟨Nat.le_of_ble_eq_true rfl, Nat.le_of_ble_eq_true rfl⟩) hW (fun r_83 L_81 h_82 H locs p_84 hW => ?_)
          case o197 => omega
          case o198 => omega
          case o199 => omega
          obtain ⟨⟨w_86, w_87, w_88, w_89, w_90, fw_86, fw_87, fw_88, fw_89, fw_90, hr_85⟩, hT, hs⟩ := p_84
          replace hT : hx_T T_tb L_81 h_82 := hT
          replace hs : hx_S T_tb [(10, 8), (10, 9), (10, 10), (10, 11), (10, 14), (10, 16), (55, 0)] L_8 h_9 L_81 h_82 := hs
          replace ffw0_x_18 := (hs.o (gx.S hM) trivial rfl).1.trans ffw0_x_18
          replace nia0_qo : h_82.2.1 qo = ia0_qo := (funext fun j => (hs.a (gqo.S hM) rfl j).1).trans nia0_qo
          replace hM := hM.tr (hs.mono ?o200)
          case o200 => decide
          have fw_86 : h_82.2.1 x 16 = w_86 := fw_86
          have bw_86 := hT.gi (gx.S hM) tt_10 (k := 16) rfl
          rw [fw_86] at bw_86
          have bw_86 : 0 ≤ w_86.toInt ∧ w_86.toInt ≤ 20 := bw_86
          have fw_87 : h_82.2.1 x 8 = w_87 := fw_87
          have bw_87 := hT.gi (gx.S hM) tt_10 (k := 8) rfl
          rw [fw_87] at bw_87
          have bw_87 : 0 ≤ w_87.toInt ∧ w_87.toInt ≤ 402 := bw_87
          have fw_88 : h_82.2.1 x 14 = w_88 := fw_88
          have bw_88 := hT.gi (gx.S hM) tt_10 (k := 14) rfl
          rw [fw_88] at bw_88
          have bw_88 : 0 ≤ w_88.toInt ∧ w_88.toInt ≤ 128 := bw_88
          have fw_89 : h_82.2.1 x 9 = w_89 := fw_89
          have bw_89 := hT.gi (gx.S hM) tt_10 (k := 9) rfl
          rw [fw_89] at bw_89
          have bw_89 : -2147483648 ≤ w_89.toInt ∧ w_89.toInt ≤ 2147483647 := bw_89
          have fw_90 : h_82.2.1 qs = w_90 := fw_90
          refine hx_retz hx hb hr (hx_nar01 ?o201) hlk hW ⟨⟨w_86, w_87, w_88, fw0_x_18, w_89, w_90, ia0_qo, fw_86, fw_87, fw_88, ffw0_x_18, fw_89, fw_90, nia0_qo, ⟨?o202, ?o203, hr_85.2.2.1, (hv_BG_K hr_85.2.2.2.1 (fun x h9 => vi0_2.trans (hv_RN_t0 (by rw [← eks]; exact hb2) (by rw [← eks]; exact hb40) (by rw [← eks]; exact h9))) (fun p1 t1 o1 h9 => vi0_2.trans (hv_RN_t1 (by rw [← eks]; exact hb2) (by rw [← eks]; exact hb40) (by rw [← eks]; exact h9)))), (fun z9 => by have h8 := hr_85.2.2.2.2 z9; exact ⟨by omega, by omega⟩)⟩⟩, hT, hM⟩ dX10_begins_26
          case o201 => omega
          case o202 => omega
          case o203 => omega
  refine loop0 403 op0 nx0 of _ _ L h ?o204 ?o205 ?o206 ?o207 ?o208 hQ rfl ?o209 ls ?o210 hW hT hM f_x_18 f_x_8 f_x_16 f_x_14 f_x_9 af_qo af_qs hl
  case o204 => omega
  case o205 => omega
  case o206 => omega
  case o207 => omega
  case o208 => omega
  case o209 => omega
  case o210 => omega
end
section
set_option maxHeartbeats 4000000 in
set_option maxRecDepth 100000 in
theorem t_X10_closesNots_v (l : Launch) (dC : Nat → ClassId) (dI : Nat → Nat → Nat) (dA : Nat → ClassId) (L : List Nat) (h : hx_h) (sz : Nat) (x : Nat) (hT : hx_T T_tb L h) (gx : hx_g L h x 10) (qs : Nat) (gqs : hx_g L h qs 55) (f_x_15 : h.2.2 x 15 = some qs) (qo : Nat) (gqo : hx_g L h qo 56) (f_x_17 : h.2.2 x 17 = some qo) (sf : Nat → Int32) (af_qs : h.2.1 qs = sf) (of : Nat → Int32) (af_qo : h.2.1 qo = of) (cp0 : Int32) (f_x_16 : h.2.1 x 16 = cp0) (nx0 : Int32) (f_x_8 : h.2.1 x 8 = nx0) (st0 : Int32) (f_x_14 : h.2.1 x 14 = st0) (op0 : Int32) (f_x_18 : h.2.1 x 18 = op0) (hQ : hx_QQ 1 cp0.toInt nx0.toInt st0.toInt op0.toInt sf of) (o : List hv_tok) (hO : hv_ls sf st0.toInt.toNat = o.map hv_rc) : Met l yX10_closesNots (Cond.code yX10_closesNots cX10_closesNots 1 none :: hx_all) ({ frames := 1, cells := 0, slots := 0, locals := 21 }) (va_Pc [.ref x] (hx_B T_tb (P_ty dA) (dC, dI) vwCl L h sz)) (va_Qv (fun (u : List Nat × hx_h) => (∃ (st1 : Int32) (op1 : Int32) (sf1 : Nat → Int32), u.2.2.1 x 14 = st1 ∧ u.2.2.1 x 18 = op1 ∧ u.2.2.1 qs = sf1 ∧ (hx_QQ 1 cp0.toInt nx0.toInt st1.toInt op1.toInt sf1 of ∧ (∃ o1 : List hv_tok, hv_ls sf1 st1.toInt.toNat = o1.map hv_rc ∧ hv_cn o (hv_ls of op0.toInt.toNat) = (o1, hv_ls of op1.toInt.toNat)))) ∧ hx_T T_tb u.1 u.2 ∧ hx_S T_tb [(10, 14), (10, 18), (55, 0)] L h u.1 u.2) (hx_E T_tb (P_ty dA) (dC, dI) vwCl (hx_A L sz)) (hx_A L sz)) 0 0 (hx_A L sz) := by
  refine hx_met (lv := [(0, .ref x)]) (by decide +kernel) rfl (Nat.le_of_ble_eq_true rfl) rfl ?_
  intro p e s m below meth c hx hb hml hr hlk hts0 hown hin hsz hW ls hl
  have hts : ∀ w ∈ hx_all, w.before _ s = true := fun w hw => hts0 w (List.mem_cons_of_mem _ hw)
  have hown : s.vm.findClass "SmallCourtModel" = some m.cls := hown
  have hM : hx_S T_tb [(10, 14), (10, 18), (55, 0)] L h L h := hx_S.rf
  have b_cp0 := hT.gi gx tt_10 (k := 16) rfl
  rw [f_x_16] at b_cp0
  have b_cp0 : 0 ≤ cp0.toInt ∧ cp0.toInt ≤ 20 := b_cp0
  have b_nx0 := hT.gi gx tt_10 (k := 8) rfl
  rw [f_x_8] at b_nx0
  have b_nx0 : 0 ≤ nx0.toInt ∧ nx0.toInt ≤ 402 := b_nx0
  have b_st0 := hT.gi gx tt_10 (k := 14) rfl
  rw [f_x_14] at b_st0
  have b_st0 : 0 ≤ st0.toInt ∧ st0.toInt ≤ 128 := b_st0
  have b_op0 := hT.gi gx tt_10 (k := 18) rfl
  rw [f_x_18] at b_op0
  have b_op0 : 0 ≤ op0.toInt ∧ op0.toInt ≤ 128 := b_op0
  have loop0 : ∀ (n0 : Nat) (fw0_x_14 fw0_x_18 : Int32) (ia0_qs : Nat → Int32) (H : Heap) (locs : List Loc) (hL1 : List Nat) (hl1 : hx_h), 0 ≤ fw0_x_14.toInt → fw0_x_14.toInt ≤ 128 → 0 ≤ fw0_x_18.toInt → fw0_x_18.toInt ≤ 128 → (hx_QQ 1 cp0.toInt nx0.toInt fw0_x_14.toInt fw0_x_18.toInt ia0_qs of) → (∃ o9 : List hv_tok, hv_ls ia0_qs (fw0_x_14.toInt).toNat = o9.map hv_rc ∧ hv_cn o (hv_ls of op0.toInt.toNat) = hv_cn o9 (hv_ls of (fw0_x_18.toInt).toNat)) → ∀ (ls : Array Slot), fw0_x_18.toInt < (n0 : Int) → hx_W T_tb (P_ty dA) (dC, dI) vwCl (hx_A L sz) s.heap hL1 hl1 s H locs → hx_T T_tb hL1 hl1 → hx_S T_tb [(10, 14), (10, 18), (55, 0)] L h hL1 hl1 → hl1.2.1 x 14 = fw0_x_14 → hl1.2.1 x 18 = fw0_x_18 → hl1.2.1 qs = ia0_qs → lv_has ls 1 [(0, .ref x)] → W p l e ({ frames := 1, cells := 0, slots := 0, locals := 21 }) s m ([.ref x] : List Value).toArray below meth c H locs 0 0 (MQ below (va_Qv (fun (u : List Nat × hx_h) => (∃ (st1 : Int32) (op1 : Int32) (sf1 : Nat → Int32), u.2.2.1 x 14 = st1 ∧ u.2.2.1 x 18 = op1 ∧ u.2.2.1 qs = sf1 ∧ (hx_QQ 1 cp0.toInt nx0.toInt st1.toInt op1.toInt sf1 of ∧ (∃ o1 : List hv_tok, hv_ls sf1 st1.toInt.toNat = o1.map hv_rc ∧ hv_cn o (hv_ls of op0.toInt.toNat) = (o1, hv_ls of op1.toInt.toNat)))) ∧ hx_T T_tb u.1 u.2 ∧ hx_S T_tb [(10, 14), (10, 18), (55, 0)] L h u.1 u.2) (hx_E T_tb (P_ty dA) (dC, dI) vwCl (hx_A L sz)) (hx_A L sz)) ([.ref x] : List Value).toArray s 0 0 (hx_A L sz)) (F0 m 0 ls []) := by
    intro n0
    induction n0 with
    | zero => intro fw0_x_14 fw0_x_18 ia0_qs H locs hL1 hl1 blfw0_x_14 bufw0_x_14 blfw0_x_18 bufw0_x_18 vi0_0 vi0_1 ls hn0; exfalso; omega
    | succ n0 ih0 =>
      intro fw0_x_14 fw0_x_18 ia0_qs H locs hL1 hl1 blfw0_x_14 bufw0_x_14 blfw0_x_18 bufw0_x_18 vi0_0 vi0_1 ls hn0 hW hT hM ffw0_x_14 ffw0_x_18 nia0_qs hl
      obtain ⟨o9, hO9, hE9⟩ := vi0_1
      refine lv_aload_n hx hb dX10_closesNots_0 rfl (lv_at hl 0 rfl) ?_
      refine hk_geti hx hb hts hC_10 hown hW (gx.S hM) tt_10 18 ?o0 rfl kw_1161 ⟨rfl, rfl, rfl⟩ ffw0_x_18 dX10_closesNots_1 ?_
      case o0 => decide
      refine hb_if_le (zx := fw0_x_18.toInt) (tgt := 40) hx hb rfl dX10_closesNots_4 ?o1 (fun c_1 => ?_) (fun c_1 => ?_)
      case o1 => decide
      · skip
        exact hx_retv hx hb hr hlk hW ⟨⟨fw0_x_14, fw0_x_18, ia0_qs, ffw0_x_14, ffw0_x_18, nia0_qs, ⟨vi0_0, o9, hO9, hE9.trans (by rw [hv_ls_0 (by omega)]; rfl)⟩⟩, hT, hM⟩ dX10_closesNots_40
      · skip
        refine lv_aload_n hx hb dX10_closesNots_7 rfl (lv_at hl 0 rfl) ?_
        refine hk_getr hx hb hts hC_10 hown hW (gx.S hM) tt_10 17 ?o2 rfl kw_1160 ⟨rfl, rfl, rfl⟩ ((hM.o gx trivial rfl).2.trans f_x_17) dX10_closesNots_8 ?_
        case o2 => decide
        refine lv_aload_n hx hb dX10_closesNots_11 rfl (lv_at hl 0 rfl) ?_
        refine hk_geti hx hb hts hC_10 hown hW (gx.S hM) tt_10 18 ?o3 rfl kw_1161 ⟨rfl, rfl, rfl⟩ ffw0_x_18 dX10_closesNots_12 ?_
        case o3 => decide
        refine lv_iconst (v := 1) hx hb dX10_closesNots_15 ?o4 ?_
        case o4 => decide
        refine lv_isub hx hb dX10_closesNots_16 ?_
        have rg_2 := i32_r fw0_x_18
        refine lv_topi (fun x_3 ex_3 => ?_)
        have zx_3 : x_3.toInt = fw0_x_18.toInt - 1 := ?o5
        case o5 =>
          rw [ex_3]
          refine i32_sub rfl ?o6 ?o7 ?o8
          case o6 => decide
          case o7 => omega
          case o8 => omega
        refine hx_iald hx hb hW hT (gqo.S hM) tt_56 rfl ⟨?o9, ?o10⟩ dX10_closesNots_17 (fun x_4 ex_4 lx_4 ux_4 => ?_)
        case o9 => omega
        case o10 => omega
        have ax_4 : x_4 = of x_3.toNatClampNeg := ex_4.trans (congrFun (hx_afS hM gqo rfl af_qo) _)
        refine lv_iconst (v := 2) hx hb dX10_closesNots_18 ?o11 ?_
        case o11 => decide
        refine hb_icmp_ne (zx := x_4.toInt) (zy := 2) (tgt := 40) hx hb rfl ?o12 dX10_closesNots_19 ?o13 (fun c_5 => ?_) (fun c_5 => ?_)
        case o12 => decide
        case o13 => decide
        · skip
          exact hx_retv hx hb hr hlk hW ⟨⟨fw0_x_14, fw0_x_18, ia0_qs, ffw0_x_14, ffw0_x_18, nia0_qs, ⟨vi0_0, o9, hO9, hE9.trans (by rw [hv_ls_t (op := fw0_x_18.toInt) (j := x_3) (by omega) ax_4 (by omega) (by omega)]; exact hv_cn_n (by omega))⟩⟩, hT, hM⟩ dX10_closesNots_40
        · skip
          have hroom := hx_QQ_poproom vi0_0 ?o14 ax_4 ?o15 ?o16
          case o14 => omega
          case o15 => omega
          case o16 => omega
          have htop := hx_top vi0_0 ?o17 ax_4 ?o18
          case o17 => omega
          case o18 => omega
          refine lv_aload_n hx hb dX10_closesNots_22 rfl (lv_at hl 0 rfl) ?_
          refine lv_iconst (v := 2) hx hb dX10_closesNots_23 ?o19 ?_
          case o19 => decide
          have zc_2 : (2 : Int32).toInt = 2 := ?o20
          case o20 => decide
          refine hx_gov (hx_runV (As := [.int (2 : Int32)]) (rest := []) ⟨hx, hb, hml, hown, hts⟩ hW (gx.S hM) tt_10 (T := TX10) (N := 98) rfl (t_X10_writes l dC dI dA hL1 hl1 H.size x (2 : Int32) hT (gx.S hM) qs (gqs.S hM) ((hM.o gx trivial rfl).2.trans f_x_15) ia0_qs nia0_qs fw0_x_14 ffw0_x_14 ?o21) (cwV 1 hts (hx_gV kw_1138 kw_1135 kw_1137 kw_50 kw_103) rfl rfl rfl (by decide +kernel) ⟨Nat.le_of_ble_eq_true rfl, Nat.le_of_ble_eq_true rfl⟩) rfl hl.1 rfl (Nat.le_of_ble_eq_true rfl) dX10_closesNots_24 ⟨Nat.le_of_ble_eq_true rfl, Nat.le_of_ble_eq_true rfl⟩) hW (fun L_6 h_7 H locs p_9 hW => ?_)
          case o21 => omega
          obtain ⟨⟨w_11, w_12, fw_11, fw_12, hr_10⟩, hT, hs⟩ := p_9
          replace hT : hx_T T_tb L_6 h_7 := hT
          replace hs : hx_S T_tb [(10, 14), (55, 0)] hL1 hl1 L_6 h_7 := hs
          replace ffw0_x_18 := (hs.o (gx.S hM) trivial rfl).1.trans ffw0_x_18
          replace ex_4 := ex_4.trans (hs.a (gqo.S hM) rfl _).1.symm
          replace hM := hM.tr (hs.mono ?o22)
          case o22 => decide
          have fw_11 : h_7.2.1 x 14 = w_11 := fw_11
          have bw_11 := hT.gi (gx.S hM) tt_10 (k := 14) rfl
          rw [fw_11] at bw_11
          have bw_11 : 0 ≤ w_11.toInt ∧ w_11.toInt ≤ 128 := bw_11
          have fw_12 : h_7.2.1 qs = w_12 := fw_12
          refine lv_aload_n hx hb dX10_closesNots_27 rfl (lv_at hl 0 rfl) ?_
          refine lv_dup hx hb dX10_closesNots_28 rfl ?_
          refine hk_geti hx hb hts hC_10 hown hW (gx.S hM) tt_10 18 ?o23 rfl kw_1161 ⟨rfl, rfl, rfl⟩ ffw0_x_18 dX10_closesNots_29 ?_
          case o23 => decide
          refine lv_iconst (v := 1) hx hb dX10_closesNots_32 ?o24 ?_
          case o24 => decide
          refine lv_isub hx hb dX10_closesNots_33 ?_
          refine lv_topi (fun x_13 ex_13 => ?_)
          have zx_13 : x_13.toInt = fw0_x_18.toInt - 1 := ?o25
          case o25 =>
            rw [ex_13]
            refine i32_sub rfl ?o26 ?o27 ?o28
            case o26 => decide
            case o27 => omega
            case o28 => omega
          refine hx_puti hx hb hts hC_10 hown hW hT (hx_S.rf (M := [(10, 18)])) (gx.S hM) tt_10 18 ?o29 rfl kw_1161 ⟨rfl, rfl, rfl⟩ rfl (x := x_13) ⟨?o30, ?o31⟩ rfl rfl rfl (List.mem_singleton.mpr rfl) dX10_closesNots_34 (fun H locs h_14 eh_14 hW hT hs => ?_)
          case o29 => decide
          case o30 => omega
          case o31 => omega
          replace fw_11 := (hs.o (gx.S hM) trivial rfl).1.trans fw_11
          replace fw_12 : h_14.2.1 qs = w_12 := (funext fun j => (hs.a (gqs.S hM) rfl j).1).trans fw_12
          replace ex_4 := ex_4.trans (hs.a (gqo.S hM) rfl _).1.symm
          replace hM := hM.tr (hs.mono ?o32)
          case o32 => decide
          have f_15 : h_14.2.1 x 18 = x_13 := ?o33
          case o33 =>
            rw [eh_14]
            exact hx_pi_at _ _ _ _
          have hOn := hv_ls_u (t := (0, 2, 0)) hO9 ?o34 (show w_11.toInt.toNat = fw0_x_14.toInt.toNat + 1 from ?o35) hr_10.2
          case o34 => decide
          case o35 => omega
          have htp := hv_ls_t (op := fw0_x_18.toInt) (j := x_13) ?o36 ax_4 ?o37 ?o38
          case o36 => omega
          case o37 => omega
          case o38 => omega
          have hEn := hE9.trans ((congrArg _ htp).trans (hv_cn_2 ?o39))
          case o39 => omega
          refine lv_goto (tgt := 0) hx hb dX10_closesNots_37 ?o40 ?_
          case o40 => decide
          refine ih0 w_11 x_13 w_12 _ _ L_6 h_14 ?o41 ?o42 ?o43 ?o44 (hx_QQ_pop vi0_0 ?o45 ax_4 ?o46 ?o47 ?o48 (hx_cl ?o49) hr_10.1 ?o50 hr_10.2) ⟨_, hOn, hEn⟩ ls ?o51 hW hT hM fw_11 f_15 fw_12 (lv_sub hl [0] rfl)
          case o41 => omega
          case o42 => omega
          case o43 => omega
          case o44 => omega
          case o45 => omega
          case o46 => omega
          case o47 => omega
          case o48 => omega
          case o49 => omega
          case o50 => omega
          case o51 => omega
  refine loop0 129 st0 op0 sf _ _ L h ?o52 ?o53 ?o54 ?o55 hQ ⟨o, hO, rfl⟩ ls ?o56 hW hT hM f_x_14 f_x_18 af_qs hl
  case o52 => omega
  case o53 => omega
  case o54 => omega
  case o55 => omega
  case o56 => omega


set_option maxHeartbeats 4000000 in
set_option maxRecDepth 100000 in
theorem t_X10_closesDown_v (l : Launch) (dC : Nat → ClassId) (dI : Nat → Nat → Nat) (dA : Nat → ClassId) (L : List Nat) (h : hx_h) (sz : Nat) (x : Nat) (i1 : Int32) (hT : hx_T T_tb L h) (gx : hx_g L h x 10) (qs : Nat) (gqs : hx_g L h qs 55) (f_x_15 : h.2.2 x 15 = some qs) (qo : Nat) (gqo : hx_g L h qo 56) (f_x_17 : h.2.2 x 17 = some qo) (sf : Nat → Int32) (af_qs : h.2.1 qs = sf) (of : Nat → Int32) (af_qo : h.2.1 qo = of) (cp0 : Int32) (f_x_16 : h.2.1 x 16 = cp0) (nx0 : Int32) (f_x_8 : h.2.1 x 8 = nx0) (st0 : Int32) (f_x_14 : h.2.1 x 14 = st0) (op0 : Int32) (f_x_18 : h.2.1 x 18 = op0) (hQ : hx_QQ 1 cp0.toInt nx0.toInt st0.toInt op0.toInt sf of) (o : List hv_tok) (hO : hv_ls sf st0.toInt.toNat = o.map hv_rc) : Met l yX10_closesDown (Cond.code yX10_closesDown cX10_closesDown 2 none :: hx_all) ({ frames := 1, cells := 0, slots := 0, locals := 21 }) (va_Pc [.ref x, .int i1] (hx_B T_tb (P_ty dA) (dC, dI) vwCl L h sz)) (va_Qv (fun (u : List Nat × hx_h) => (∃ (st1 : Int32) (op1 : Int32) (sf1 : Nat → Int32), u.2.2.1 x 14 = st1 ∧ u.2.2.1 x 18 = op1 ∧ u.2.2.1 qs = sf1 ∧ (hx_QQ 1 cp0.toInt nx0.toInt st1.toInt op1.toInt sf1 of ∧ (op1.toInt = 0 ∨ (of (op1.toInt.toNat - 1)).toInt = 100 ∨ (of (op1.toInt.toNat - 1)).toInt < i1.toInt) ∧ (∃ o1 : List hv_tok, hv_ls sf1 st1.toInt.toNat = o1.map hv_rc ∧ hv_cd i1.toInt o (hv_ls of op0.toInt.toNat) = (o1, hv_ls of op1.toInt.toNat)))) ∧ hx_T T_tb u.1 u.2 ∧ hx_S T_tb [(10, 14), (10, 18), (55, 0)] L h u.1 u.2) (hx_E T_tb (P_ty dA) (dC, dI) vwCl (hx_A L sz)) (hx_A L sz)) 0 0 (hx_A L sz) := by
  refine hx_met (lv := [(0, .ref x), (1, .int i1)]) (by decide +kernel) rfl (Nat.le_of_ble_eq_true rfl) rfl ?_
  intro p e s m below meth c hx hb hml hr hlk hts0 hown hin hsz hW ls hl
  have hts : ∀ w ∈ hx_all, w.before _ s = true := fun w hw => hts0 w (List.mem_cons_of_mem _ hw)
  have hown : s.vm.findClass "SmallCourtModel" = some m.cls := hown
  have hM : hx_S T_tb [(10, 14), (10, 18), (55, 0)] L h L h := hx_S.rf
  have b_cp0 := hT.gi gx tt_10 (k := 16) rfl
  rw [f_x_16] at b_cp0
  have b_cp0 : 0 ≤ cp0.toInt ∧ cp0.toInt ≤ 20 := b_cp0
  have b_nx0 := hT.gi gx tt_10 (k := 8) rfl
  rw [f_x_8] at b_nx0
  have b_nx0 : 0 ≤ nx0.toInt ∧ nx0.toInt ≤ 402 := b_nx0
  have b_st0 := hT.gi gx tt_10 (k := 14) rfl
  rw [f_x_14] at b_st0
  have b_st0 : 0 ≤ st0.toInt ∧ st0.toInt ≤ 128 := b_st0
  have b_op0 := hT.gi gx tt_10 (k := 18) rfl
  rw [f_x_18] at b_op0
  have b_op0 : 0 ≤ op0.toInt ∧ op0.toInt ≤ 128 := b_op0
  have loop0 : ∀ (n0 : Nat) (fw0_x_14 fw0_x_18 : Int32) (ia0_qs : Nat → Int32) (H : Heap) (locs : List Loc) (hL1 : List Nat) (hl1 : hx_h), 0 ≤ fw0_x_14.toInt → fw0_x_14.toInt ≤ 128 → 0 ≤ fw0_x_18.toInt → fw0_x_18.toInt ≤ 128 → (hx_QQ 1 cp0.toInt nx0.toInt fw0_x_14.toInt fw0_x_18.toInt ia0_qs of) → (∃ o9 : List hv_tok, hv_ls ia0_qs (fw0_x_14.toInt).toNat = o9.map hv_rc ∧ hv_cd i1.toInt o (hv_ls of op0.toInt.toNat) = hv_cd i1.toInt o9 (hv_ls of (fw0_x_18.toInt).toNat)) → ∀ (ls : Array Slot), fw0_x_18.toInt < (n0 : Int) → hx_W T_tb (P_ty dA) (dC, dI) vwCl (hx_A L sz) s.heap hL1 hl1 s H locs → hx_T T_tb hL1 hl1 → hx_S T_tb [(10, 14), (10, 18), (55, 0)] L h hL1 hl1 → hl1.2.1 x 14 = fw0_x_14 → hl1.2.1 x 18 = fw0_x_18 → hl1.2.1 qs = ia0_qs → lv_has ls 2 [(0, .ref x), (1, .int i1)] → W p l e ({ frames := 1, cells := 0, slots := 0, locals := 21 }) s m ([.ref x, .int i1] : List Value).toArray below meth c H locs 0 0 (MQ below (va_Qv (fun (u : List Nat × hx_h) => (∃ (st1 : Int32) (op1 : Int32) (sf1 : Nat → Int32), u.2.2.1 x 14 = st1 ∧ u.2.2.1 x 18 = op1 ∧ u.2.2.1 qs = sf1 ∧ (hx_QQ 1 cp0.toInt nx0.toInt st1.toInt op1.toInt sf1 of ∧ (op1.toInt = 0 ∨ (of (op1.toInt.toNat - 1)).toInt = 100 ∨ (of (op1.toInt.toNat - 1)).toInt < i1.toInt) ∧ (∃ o1 : List hv_tok, hv_ls sf1 st1.toInt.toNat = o1.map hv_rc ∧ hv_cd i1.toInt o (hv_ls of op0.toInt.toNat) = (o1, hv_ls of op1.toInt.toNat)))) ∧ hx_T T_tb u.1 u.2 ∧ hx_S T_tb [(10, 14), (10, 18), (55, 0)] L h u.1 u.2) (hx_E T_tb (P_ty dA) (dC, dI) vwCl (hx_A L sz)) (hx_A L sz)) ([.ref x, .int i1] : List Value).toArray s 0 0 (hx_A L sz)) (F0 m 0 ls []) := by
    intro n0
    induction n0 with
    | zero => intro fw0_x_14 fw0_x_18 ia0_qs H locs hL1 hl1 blfw0_x_14 bufw0_x_14 blfw0_x_18 bufw0_x_18 vi0_0 vi0_1 ls hn0; exfalso; omega
    | succ n0 ih0 =>
      intro fw0_x_14 fw0_x_18 ia0_qs H locs hL1 hl1 blfw0_x_14 bufw0_x_14 blfw0_x_18 bufw0_x_18 vi0_0 vi0_1 ls hn0 hW hT hM ffw0_x_14 ffw0_x_18 nia0_qs hl
      obtain ⟨o9, hO9, hE9⟩ := vi0_1
      refine lv_aload_n hx hb dX10_closesDown_0 rfl (lv_at hl 0 rfl) ?_
      refine hk_geti hx hb hts hC_10 hown hW (gx.S hM) tt_10 18 ?o0 rfl kw_1161 ⟨rfl, rfl, rfl⟩ ffw0_x_18 dX10_closesDown_1 ?_
      case o0 => decide
      refine hb_if_le (zx := fw0_x_18.toInt) (tgt := 66) hx hb rfl dX10_closesDown_4 ?o1 (fun c_1 => ?_) (fun c_1 => ?_)
      case o1 => decide
      · skip
        have hex : fw0_x_18.toInt = 0 ∨ (of (fw0_x_18.toInt.toNat - 1)).toInt = 100 ∨ (of (fw0_x_18.toInt.toNat - 1)).toInt < i1.toInt := by first | exact Or.inl (by omega)
        exact hx_retv hx hb hr hlk hW ⟨⟨fw0_x_14, fw0_x_18, ia0_qs, ffw0_x_14, ffw0_x_18, nia0_qs, ⟨vi0_0, hex, o9, hO9, hE9.trans (by rw [hv_ls_0 (by omega)]; rfl)⟩⟩, hT, hM⟩ dX10_closesDown_66
      · skip
        refine lv_aload_n hx hb dX10_closesDown_7 rfl (lv_at hl 0 rfl) ?_
        refine hk_getr hx hb hts hC_10 hown hW (gx.S hM) tt_10 17 ?o2 rfl kw_1160 ⟨rfl, rfl, rfl⟩ ((hM.o gx trivial rfl).2.trans f_x_17) dX10_closesDown_8 ?_
        case o2 => decide
        refine lv_aload_n hx hb dX10_closesDown_11 rfl (lv_at hl 0 rfl) ?_
        refine hk_geti hx hb hts hC_10 hown hW (gx.S hM) tt_10 18 ?o3 rfl kw_1161 ⟨rfl, rfl, rfl⟩ ffw0_x_18 dX10_closesDown_12 ?_
        case o3 => decide
        refine lv_iconst (v := 1) hx hb dX10_closesDown_15 ?o4 ?_
        case o4 => decide
        refine lv_isub hx hb dX10_closesDown_16 ?_
        have rg_2 := i32_r fw0_x_18
        refine lv_topi (fun x_3 ex_3 => ?_)
        have zx_3 : x_3.toInt = fw0_x_18.toInt - 1 := ?o5
        case o5 =>
          rw [ex_3]
          refine i32_sub rfl ?o6 ?o7 ?o8
          case o6 => decide
          case o7 => omega
          case o8 => omega
        refine hx_iald hx hb hW hT (gqo.S hM) tt_56 rfl ⟨?o9, ?o10⟩ dX10_closesDown_17 (fun x_4 ex_4 lx_4 ux_4 => ?_)
        case o9 => omega
        case o10 => omega
        have ax_4 : x_4 = of x_3.toNatClampNeg := ex_4.trans (congrFun (hx_afS hM gqo rfl af_qo) _)
        refine lv_bipush (v := 100) hx hb dX10_closesDown_18 ?o11 ?_
        case o11 => decide
        refine hb_icmp_eq (zx := x_4.toInt) (zy := 100) (tgt := 66) hx hb rfl ?o12 dX10_closesDown_20 ?o13 (fun c_5 => ?_) (fun c_5 => ?_)
        case o12 => decide
        case o13 => decide
        · skip
          have hex : fw0_x_18.toInt = 0 ∨ (of (fw0_x_18.toInt.toNat - 1)).toInt = 100 ∨ (of (fw0_x_18.toInt.toNat - 1)).toInt < i1.toInt := by first | exact Or.inl (by omega) | exact Or.inr (Or.inl (by rw [← (hx_top vi0_0 (by omega) ax_4 (by omega)).1]; omega)) | exact Or.inr (Or.inr (by rw [← (hx_top vi0_0 (by omega) ax_4 (by omega)).1]; omega))
          exact hx_retv hx hb hr hlk hW ⟨⟨fw0_x_14, fw0_x_18, ia0_qs, ffw0_x_14, ffw0_x_18, nia0_qs, ⟨vi0_0, hex, o9, hO9, hE9.trans (by rw [hv_ls_t (op := fw0_x_18.toInt) (j := x_3) (by omega) ax_4 (by omega) (by omega)]; exact hv_cd_n (by omega))⟩⟩, hT, hM⟩ dX10_closesDown_66
        · skip
          refine lv_aload_n hx hb dX10_closesDown_23 rfl (lv_at hl 0 rfl) ?_
          refine hk_getr hx hb hts hC_10 hown hW (gx.S hM) tt_10 17 ?o14 rfl kw_1160 ⟨rfl, rfl, rfl⟩ ((hM.o gx trivial rfl).2.trans f_x_17) dX10_closesDown_24 ?_
          case o14 => decide
          refine lv_aload_n hx hb dX10_closesDown_27 rfl (lv_at hl 0 rfl) ?_
          refine hk_geti hx hb hts hC_10 hown hW (gx.S hM) tt_10 18 ?o15 rfl kw_1161 ⟨rfl, rfl, rfl⟩ ffw0_x_18 dX10_closesDown_28 ?_
          case o15 => decide
          refine lv_iconst (v := 1) hx hb dX10_closesDown_31 ?o16 ?_
          case o16 => decide
          refine lv_isub hx hb dX10_closesDown_32 ?_
          refine lv_topi (fun x_6 ex_6 => ?_)
          have zx_6 : x_6.toInt = fw0_x_18.toInt - 1 := ?o17
          case o17 =>
            rw [ex_6]
            refine i32_sub rfl ?o18 ?o19 ?o20
            case o18 => decide
            case o19 => omega
            case o20 => omega
          obtain rfl : x_3 = x_6 := ex_3.trans ex_6.symm
          refine hx_iald hx hb hW hT (gqo.S hM) tt_56 rfl ⟨?o21, ?o22⟩ dX10_closesDown_33 (fun x_7 ex_7 lx_7 ux_7 => ?_)
          case o21 => omega
          case o22 => omega
          have ax_7 : x_7 = of x_3.toNatClampNeg := ex_7.trans (congrFun (hx_afS hM gqo rfl af_qo) _)
          obtain rfl : x_4 = x_7 := ex_4.trans ex_7.symm
          refine lv_iload_n hx hb dX10_closesDown_34 rfl (lv_at hl 1 rfl) ?_
          refine hb_icmp_lt (zx := x_4.toInt) (zy := i1.toInt) (tgt := 66) hx hb rfl rfl dX10_closesDown_35 ?o23 (fun c_8 => ?_) (fun c_8 => ?_)
          case o23 => decide
          · skip
            have hex : fw0_x_18.toInt = 0 ∨ (of (fw0_x_18.toInt.toNat - 1)).toInt = 100 ∨ (of (fw0_x_18.toInt.toNat - 1)).toInt < i1.toInt := by first | exact Or.inl (by omega) | exact Or.inr (Or.inl (by rw [← (hx_top vi0_0 (by omega) ax_4 (by omega)).1]; omega)) | exact Or.inr (Or.inr (by rw [← (hx_top vi0_0 (by omega) ax_4 (by omega)).1]; omega))
            exact hx_retv hx hb hr hlk hW ⟨⟨fw0_x_14, fw0_x_18, ia0_qs, ffw0_x_14, ffw0_x_18, nia0_qs, ⟨vi0_0, hex, o9, hO9, hE9.trans (by rw [hv_ls_t (op := fw0_x_18.toInt) (j := x_3) (by omega) ax_4 (by omega) (by omega)]; exact hv_cd_n (by omega))⟩⟩, hT, hM⟩ dX10_closesDown_66
          · skip
            have hroom := hx_QQ_poproom vi0_0 ?o24 ax_4 ?o25 ?o26
            case o24 => omega
            case o25 => omega
            case o26 => omega
            have htop := hx_top vi0_0 ?o27 ax_4 ?o28
            case o27 => omega
            case o28 => omega
            refine lv_aload_n hx hb dX10_closesDown_38 rfl (lv_at hl 0 rfl) ?_
            refine lv_aload_n hx hb dX10_closesDown_39 rfl (lv_at hl 0 rfl) ?_
            refine hk_getr hx hb hts hC_10 hown hW (gx.S hM) tt_10 17 ?o29 rfl kw_1160 ⟨rfl, rfl, rfl⟩ ((hM.o gx trivial rfl).2.trans f_x_17) dX10_closesDown_40 ?_
            case o29 => decide
            refine lv_aload_n hx hb dX10_closesDown_43 rfl (lv_at hl 0 rfl) ?_
            refine hk_geti hx hb hts hC_10 hown hW (gx.S hM) tt_10 18 ?o30 rfl kw_1161 ⟨rfl, rfl, rfl⟩ ffw0_x_18 dX10_closesDown_44 ?_
            case o30 => decide
            refine lv_iconst (v := 1) hx hb dX10_closesDown_47 ?o31 ?_
            case o31 => decide
            refine lv_isub hx hb dX10_closesDown_48 ?_
            refine lv_topi (fun x_9 ex_9 => ?_)
            have zx_9 : x_9.toInt = fw0_x_18.toInt - 1 := ?o32
            case o32 =>
              rw [ex_9]
              refine i32_sub rfl ?o33 ?o34 ?o35
              case o33 => decide
              case o34 => omega
              case o35 => omega
            obtain rfl : x_3 = x_9 := ex_3.trans ex_9.symm
            refine hx_iald hx hb hW hT (gqo.S hM) tt_56 rfl ⟨?o36, ?o37⟩ dX10_closesDown_49 (fun x_10 ex_10 lx_10 ux_10 => ?_)
            case o36 => omega
            case o37 => omega
            have ax_10 : x_10 = of x_3.toNatClampNeg := ex_10.trans (congrFun (hx_afS hM gqo rfl af_qo) _)
            obtain rfl : x_4 = x_10 := ex_4.trans ex_10.symm
            refine hx_gov (hx_runV (As := [.int x_4]) (rest := []) ⟨hx, hb, hml, hown, hts⟩ hW (gx.S hM) tt_10 (T := TX10) (N := 98) rfl (t_X10_writes l dC dI dA hL1 hl1 H.size x x_4 hT (gx.S hM) qs (gqs.S hM) ((hM.o gx trivial rfl).2.trans f_x_15) ia0_qs nia0_qs fw0_x_14 ffw0_x_14 ?o38) (cwV 1 hts (hx_gV kw_1138 kw_1135 kw_1137 kw_50 kw_103) rfl rfl rfl (by decide +kernel) ⟨Nat.le_of_ble_eq_true rfl, Nat.le_of_ble_eq_true rfl⟩) rfl hl.1 rfl (Nat.le_of_ble_eq_true rfl) dX10_closesDown_50 ⟨Nat.le_of_ble_eq_true rfl, Nat.le_of_ble_eq_true rfl⟩) hW (fun L_11 h_12 H locs p_14 hW => ?_)
            case o38 => omega
            obtain ⟨⟨w_16, w_17, fw_16, fw_17, hr_15⟩, hT, hs⟩ := p_14
            replace hT : hx_T T_tb L_11 h_12 := hT
            replace hs : hx_S T_tb [(10, 14), (55, 0)] hL1 hl1 L_11 h_12 := hs
            replace ffw0_x_18 := (hs.o (gx.S hM) trivial rfl).1.trans ffw0_x_18
            replace ex_4 := ex_4.trans (hs.a (gqo.S hM) rfl _).1.symm
            replace hM := hM.tr (hs.mono ?o39)
            case o39 => decide
            have fw_16 : h_12.2.1 x 14 = w_16 := fw_16
            have bw_16 := hT.gi (gx.S hM) tt_10 (k := 14) rfl
            rw [fw_16] at bw_16
            have bw_16 : 0 ≤ w_16.toInt ∧ w_16.toInt ≤ 128 := bw_16
            have fw_17 : h_12.2.1 qs = w_17 := fw_17
            refine lv_aload_n hx hb dX10_closesDown_53 rfl (lv_at hl 0 rfl) ?_
            refine lv_dup hx hb dX10_closesDown_54 rfl ?_
            refine hk_geti hx hb hts hC_10 hown hW (gx.S hM) tt_10 18 ?o40 rfl kw_1161 ⟨rfl, rfl, rfl⟩ ffw0_x_18 dX10_closesDown_55 ?_
            case o40 => decide
            refine lv_iconst (v := 1) hx hb dX10_closesDown_58 ?o41 ?_
            case o41 => decide
            refine lv_isub hx hb dX10_closesDown_59 ?_
            refine lv_topi (fun x_18 ex_18 => ?_)
            have zx_18 : x_18.toInt = fw0_x_18.toInt - 1 := ?o42
            case o42 =>
              rw [ex_18]
              refine i32_sub rfl ?o43 ?o44 ?o45
              case o43 => decide
              case o44 => omega
              case o45 => omega
            obtain rfl : x_3 = x_18 := ex_3.trans ex_18.symm
            refine hx_puti hx hb hts hC_10 hown hW hT (hx_S.rf (M := [(10, 18)])) (gx.S hM) tt_10 18 ?o46 rfl kw_1161 ⟨rfl, rfl, rfl⟩ rfl (x := x_3) ⟨?o47, ?o48⟩ rfl rfl rfl (List.mem_singleton.mpr rfl) dX10_closesDown_60 (fun H locs h_19 eh_19 hW hT hs => ?_)
            case o46 => decide
            case o47 => omega
            case o48 => omega
            replace fw_16 := (hs.o (gx.S hM) trivial rfl).1.trans fw_16
            replace fw_17 : h_19.2.1 qs = w_17 := (funext fun j => (hs.a (gqs.S hM) rfl j).1).trans fw_17
            replace ex_4 := ex_4.trans (hs.a (gqo.S hM) rfl _).1.symm
            replace hM := hM.tr (hs.mono ?o49)
            case o49 => decide
            have f_20 : h_19.2.1 x 18 = x_3 := ?o50
            case o50 =>
              rw [eh_19]
              exact hx_pi_at _ _ _ _
            have hOn := hv_ls_u (t := (0, x_4.toInt.toNat, 0)) hO9 (by unfold hv_rc; dsimp only; rw [if_pos rfl]; omega) (show w_16.toInt.toNat = fw0_x_14.toInt.toNat + 1 from ?o51) hr_15.2
            case o51 => omega
            have htp := hv_ls_t (op := fw0_x_18.toInt) (j := x_3) ?o52 ax_4 ?o53 ?o54
            case o52 => omega
            case o53 => omega
            case o54 => omega
            have hEn := hE9.trans ((congrArg _ htp).trans (hv_cd_y ?o55 ?o56))
            case o55 => omega
            case o56 => omega
            refine lv_goto (tgt := 0) hx hb dX10_closesDown_63 ?o57 ?_
            case o57 => decide
            refine ih0 w_16 x_3 w_17 _ _ L_11 h_19 ?o58 ?o59 ?o60 ?o61 (hx_QQ_pop vi0_0 ?o62 ax_4 ?o63 ?o64 ?o65 (hx_cl ?o66) hr_15.1 ?o67 hr_15.2) ⟨_, hOn, hEn⟩ ls ?o68 hW hT hM fw_16 f_20 fw_17 (lv_sub hl [0, 1] rfl)
            case o58 => omega
            case o59 => omega
            case o60 => omega
            case o61 => omega
            case o62 => omega
            case o63 => omega
            case o64 => omega
            case o65 => omega
            case o66 => omega
            case o67 => omega
            case o68 => omega
  refine loop0 129 st0 op0 sf _ _ L h ?o69 ?o70 ?o71 ?o72 hQ ⟨o, hO, rfl⟩ ls ?o73 hW hT hM f_x_14 f_x_18 af_qs hl
  case o69 => omega
  case o70 => omega
  case o71 => omega
  case o72 => omega
  case o73 => omega


set_option maxHeartbeats 4000000 in
set_option maxRecDepth 100000 in
theorem t_X10_clears_v (l : Launch) (dC : Nat → ClassId) (dI : Nat → Nat → Nat) (dA : Nat → ClassId) (L : List Nat) (h : hx_h) (sz : Nat) (x : Nat) (hT : hx_T T_tb L h) (gx : hx_g L h x 10)  : Met l yX10_clears (Cond.code yX10_clears cX10_clears 1 none :: hx_all) ({ frames := 0, cells := 0, slots := 0, locals := 0 }) (va_Pc [.ref x] (hx_B T_tb (P_ty dA) (dC, dI) vwCl L h sz)) (va_Qv (fun (u : List Nat × hx_h) => (∃ (st1 : Int32) (cp1 : Int32) (op1 : Int32), u.2.2.1 x 14 = st1 ∧ u.2.2.1 x 16 = cp1 ∧ u.2.2.1 x 18 = op1 ∧ (st1.toInt = 0 ∧ cp1.toInt = 0 ∧ op1.toInt = 0)) ∧ hx_T T_tb u.1 u.2 ∧ hx_S T_tb [(10, 14), (10, 16), (10, 18)] L h u.1 u.2) (hx_E T_tb (P_ty dA) (dC, dI) vwCl (hx_A L sz)) (hx_A L sz)) 0 0 (hx_A L sz) := by
  refine hx_met (lv := [(0, .ref x)]) (by decide +kernel) rfl (Nat.le_of_ble_eq_true rfl) rfl ?_
  intro p e s m below meth c hx hb hml hr hlk hts0 hown hin hsz hW ls hl
  have hts : ∀ w ∈ hx_all, w.before _ s = true := fun w hw => hts0 w (List.mem_cons_of_mem _ hw)
  have hown : s.vm.findClass "SmallCourtModel" = some m.cls := hown
  have hM : hx_S T_tb [(10, 14), (10, 16), (10, 18)] L h L h := hx_S.rf
  refine lv_aload_n hx hb dX10_clears_0 rfl (lv_at hl 0 rfl) ?_
  refine lv_iconst (v := 0) hx hb dX10_clears_1 ?o0 ?_
  case o0 => decide
  refine hx_puti hx hb hts hC_10 hown hW hT (hx_S.rf (M := [(10, 14)])) (gx.S hM) tt_10 14 ?o1 rfl kw_1157 ⟨rfl, rfl, rfl⟩ rfl (x := (0 : Int32)) ?o2 rfl rfl rfl (List.mem_singleton.mpr rfl) dX10_clears_2 (fun H locs h_1 eh_1 hW hT hs => ?_)
  case o1 => decide
  case o2 => decide
  replace hM := hM.tr (hs.mono ?o3)
  case o3 => decide
  have f_2 : h_1.2.1 x 14 = (0 : Int32) := ?o4
  case o4 =>
    rw [eh_1]
    exact hx_pi_at _ _ _ _
  refine lv_aload_n hx hb dX10_clears_5 rfl (lv_at hl 0 rfl) ?_
  refine lv_iconst (v := 0) hx hb dX10_clears_6 ?o5 ?_
  case o5 => decide
  refine hx_puti hx hb hts hC_10 hown hW hT (hx_S.rf (M := [(10, 16)])) (gx.S hM) tt_10 16 ?o6 rfl kw_1159 ⟨rfl, rfl, rfl⟩ rfl (x := (0 : Int32)) ?o7 rfl rfl rfl (List.mem_singleton.mpr rfl) dX10_clears_7 (fun H locs h_3 eh_3 hW hT hs => ?_)
  case o6 => decide
  case o7 => decide
  replace f_2 := (hs.o (gx.S hM) trivial rfl).1.trans f_2
  replace hM := hM.tr (hs.mono ?o8)
  case o8 => decide
  have f_4 : h_3.2.1 x 16 = (0 : Int32) := ?o9
  case o9 =>
    rw [eh_3]
    exact hx_pi_at _ _ _ _
  refine lv_aload_n hx hb dX10_clears_10 rfl (lv_at hl 0 rfl) ?_
  refine lv_iconst (v := 0) hx hb dX10_clears_11 ?o10 ?_
  case o10 => decide
  refine hx_puti hx hb hts hC_10 hown hW hT (hx_S.rf (M := [(10, 18)])) (gx.S hM) tt_10 18 ?o11 rfl kw_1161 ⟨rfl, rfl, rfl⟩ rfl (x := (0 : Int32)) ?o12 rfl rfl rfl (List.mem_singleton.mpr rfl) dX10_clears_12 (fun H locs h_5 eh_5 hW hT hs => ?_)
  case o11 => decide
  case o12 => decide
  replace f_2 := (hs.o (gx.S hM) trivial rfl).1.trans f_2
  replace f_4 := (hs.o (gx.S hM) trivial rfl).1.trans f_4
  replace hM := hM.tr (hs.mono ?o13)
  case o13 => decide
  have f_6 : h_5.2.1 x 18 = (0 : Int32) := ?o14
  case o14 =>
    rw [eh_5]
    exact hx_pi_at _ _ _ _
  have zo_0 : (0 : Int32).toInt = 0 := ?o15
  case o15 => decide
  have zo_0 : (0 : Int32).toInt = 0 := ?o16
  case o16 => decide
  have zo_0 : (0 : Int32).toInt = 0 := ?o17
  case o17 => decide
  refine hx_retv hx hb hr hlk hW ⟨⟨(0 : Int32), (0 : Int32), (0 : Int32), f_2, f_4, f_6, ⟨?o18, ?o19, ?o20⟩⟩, hT, hM⟩ dX10_clears_15
  case o18 => decide
  case o19 => decide
  case o20 => decide


set_option maxHeartbeats 4000000 in
set_option maxRecDepth 100000 in
theorem t_X10_either_v (l : Launch) (dC : Nat → ClassId) (dI : Nat → Nat → Nat) (dA : Nat → ClassId) (L : List Nat) (h : hx_h) (sz : Nat) (x : Nat) (hT : hx_T T_tb L h) (gx : hx_g L h x 10) (qs : Nat) (gqs : hx_g L h qs 55) (f_x_15 : h.2.2 x 15 = some qs) (qo : Nat) (gqo : hx_g L h qo 56) (f_x_17 : h.2.2 x 17 = some qo) (qt : Nat) (gqt : hx_g L h qt 53) (f_x_6 : h.2.2 x 6 = some qt) (qw : Nat) (gqw : hx_g L h qw 57) (f_x_19 : h.2.2 x 19 = some qw) (sf : Nat → Int32) (af_qs : h.2.1 qs = sf) (of : Nat → Int32) (af_qo : h.2.1 qo = of) (tf : Nat → Int32) (af_qt : h.2.1 qt = tf) (wf : Nat → Int32) (af_qw : h.2.1 qw = wf) (nx0 : Int32) (f_x_8 : h.2.1 x 8 = nx0) (tp0 : Int32) (f_x_7 : h.2.1 x 7 = tp0) (ft0 : Int32) (f_x_9 : h.2.1 x 9 = ft0) (hnx : 5 ≤ nx0.toInt) (hwd : hx_wd wf) (hF : ft0.toInt = 0) (hA : nx0.toInt ≤ tp0.toInt) : Met l yX10_either (Cond.code yX10_either cX10_either 4 (some .boolean) :: hx_all) ({ frames := 4, cells := 0, slots := 0, locals := 95 }) (va_Pc [.ref x] (hx_B T_tb (P_ty dA) (dC, dI) vwCl L h sz)) (va_Qi (fun (r : Int32) (u : List Nat × hx_h) => (∃ (nx1 : Int32) (st1 : Int32) (cp1 : Int32) (ft1 : Int32) (sf1 : Nat → Int32), u.2.2.1 x 8 = nx1 ∧ u.2.2.1 x 14 = st1 ∧ u.2.2.1 x 16 = cp1 ∧ u.2.2.1 x 9 = ft1 ∧ u.2.2.1 qs = sf1 ∧ ((r.toInt = 0 ∨ r.toInt = 1) ∧ nx0.toInt ≤ nx1.toInt ∧ (r.toInt = 1 → hx_rp sf1 st1.toInt.toNat = some 1) ∧ hv_K hv_rc (hv_RN tf tp0.toInt.toNat true nx0.toInt.toNat 0 [] ([])) r.toInt ft1.toInt nx1.toInt cp1.toInt (hv_ls sf1 st1.toInt.toNat) ∧ (r.toInt = 1 → nx1.toInt ≤ tp0.toInt))) ∧ hx_T T_tb u.1 u.2 ∧ hx_S T_tb [(10, 8), (10, 9), (10, 10), (10, 11), (10, 14), (10, 16), (10, 18), (55, 0), (56, 0)] L h u.1 u.2) (hx_E T_tb (P_ty dA) (dC, dI) vwCl (hx_A L sz)) (hx_A L sz)) 0 0 (hx_A L sz) := by
  refine hx_met (lv := [(0, .ref x)]) (by decide +kernel) rfl (Nat.le_of_ble_eq_true rfl) rfl ?_
  intro p e s m below meth c hx hb hml hr hlk hts0 hown hin hsz hW ls hl
  have hts : ∀ w ∈ hx_all, w.before _ s = true := fun w hw => hts0 w (List.mem_cons_of_mem _ hw)
  have hown : s.vm.findClass "SmallCourtModel" = some m.cls := hown
  have hM : hx_S T_tb [(10, 8), (10, 9), (10, 10), (10, 11), (10, 14), (10, 16), (10, 18), (55, 0), (56, 0)] L h L h := hx_S.rf
  have b_nx0 := hT.gi gx tt_10 (k := 8) rfl
  rw [f_x_8] at b_nx0
  have b_nx0 : 0 ≤ nx0.toInt ∧ nx0.toInt ≤ 402 := b_nx0
  have b_tp0 := hT.gi gx tt_10 (k := 7) rfl
  rw [f_x_7] at b_tp0
  have b_tp0 : 0 ≤ tp0.toInt ∧ tp0.toInt ≤ 400 := b_tp0
  have b_ft0 := hT.gi gx tt_10 (k := 9) rfl
  rw [f_x_9] at b_ft0
  have b_ft0 : -2147483648 ≤ ft0.toInt ∧ ft0.toInt ≤ 2147483647 := b_ft0
  refine lv_aload_n hx hb dX10_either_0 rfl (lv_at hl 0 rfl) ?_
  refine hx_gov (hx_runV (As := []) (rest := []) ⟨hx, hb, hml, hown, hts⟩ hW (gx.S hM) tt_10 (T := TX10) (N := 98) rfl (t_X10_clears_v l dC dI dA L h s.heap.size x hT (gx.S hM)) (cwV 0 hts (hx_gV kw_1125 kw_1122 kw_1124 kw_48 kw_103) rfl rfl rfl (by decide +kernel) ⟨Nat.le_of_ble_eq_true rfl, Nat.le_of_ble_eq_true rfl⟩) rfl hl.1 rfl (Nat.le_of_ble_eq_true rfl) dX10_either_1 ⟨Nat.le_of_ble_eq_true rfl, Nat.le_of_ble_eq_true rfl⟩) hW (fun L_1 h_2 H locs p_4 hW => ?_)
  obtain ⟨⟨w_6, w_7, w_8, fw_6, fw_7, fw_8, hr_5⟩, hT, hs⟩ := p_4
  replace hT : hx_T T_tb L_1 h_2 := hT
  replace hs : hx_S T_tb [(10, 14), (10, 16), (10, 18)] L h L_1 h_2 := hs
  replace f_x_8 := (hs.o (gx.S hM) trivial rfl).1.trans f_x_8
  replace f_x_9 := (hs.o (gx.S hM) trivial rfl).1.trans f_x_9
  replace af_qs : h_2.2.1 qs = sf := (funext fun j => (hs.a (gqs.S hM) rfl j).1).trans af_qs
  replace af_qo : h_2.2.1 qo = of := (funext fun j => (hs.a (gqo.S hM) rfl j).1).trans af_qo
  replace hM := hM.tr (hs.mono ?o0)
  case o0 => decide
  have fw_6 : h_2.2.1 x 14 = w_6 := fw_6
  have bw_6 := hT.gi (gx.S hM) tt_10 (k := 14) rfl
  rw [fw_6] at bw_6
  have bw_6 : 0 ≤ w_6.toInt ∧ w_6.toInt ≤ 128 := bw_6
  have fw_7 : h_2.2.1 x 16 = w_7 := fw_7
  have bw_7 := hT.gi (gx.S hM) tt_10 (k := 16) rfl
  rw [fw_7] at bw_7
  have bw_7 : 0 ≤ w_7.toInt ∧ w_7.toInt ≤ 20 := bw_7
  have fw_8 : h_2.2.1 x 18 = w_8 := fw_8
  have bw_8 := hT.gi (gx.S hM) tt_10 (k := 18) rfl
  rw [fw_8] at bw_8
  have bw_8 : 0 ≤ w_8.toInt ∧ w_8.toInt ≤ 128 := bw_8
  refine lv_iconst (v := 1) hx hb dX10_either_4 ?o1 ?_
  case o1 => decide
  refine lv_istore_n (lv' := [(1, .int (1 : Int32)), (0, .ref x)]) hx hb dX10_either_5 rfl hl ?o2 rfl (fun ls hl => ?_)
  case o2 => decide
  have loop6 : ∀ (n6 : Nat) (iv6_1 fw6_x_16 fw6_x_14 fw6_x_18 fw6_x_8 fw6_x_9 : Int32) (ia6_qs ia6_qo : Nat → Int32) (H : Heap) (locs : List Loc) (hL1 : List Nat) (hl1 : hx_h), 0 ≤ iv6_1.toInt → iv6_1.toInt ≤ 1 → 0 ≤ fw6_x_16.toInt → fw6_x_16.toInt ≤ 20 → 0 ≤ fw6_x_14.toInt → fw6_x_14.toInt ≤ 128 → 0 ≤ fw6_x_18.toInt → fw6_x_18.toInt ≤ 128 → 0 ≤ fw6_x_8.toInt → fw6_x_8.toInt ≤ 402 → -2147483648 ≤ fw6_x_9.toInt → fw6_x_9.toInt ≤ 2147483647 → (nx0.toInt ≤ fw6_x_8.toInt) → (hx_QQ (1 - (iv6_1.toInt : Int)).toNat fw6_x_16.toInt fw6_x_8.toInt fw6_x_14.toInt fw6_x_18.toInt ia6_qs ia6_qo) → (∃ o9 : List hv_tok, hv_ls ia6_qs (fw6_x_14.toInt).toNat = o9.map hv_rc ∧ hv_RN tf tp0.toInt.toNat true nx0.toInt.toNat 0 [] ([]) = hv_RN tf tp0.toInt.toNat (decide (iv6_1.toInt = 1)) (fw6_x_8.toInt).toNat (fw6_x_16.toInt).toNat o9 (hv_ls ia6_qo (fw6_x_18.toInt).toNat)) → (fw6_x_8.toInt ≤ tp0.toInt) → (fw6_x_9.toInt = 0) → ∀ (ls : Array Slot), 402 - fw6_x_8.toInt < (n6 : Int) → hx_W T_tb (P_ty dA) (dC, dI) vwCl (hx_A L sz) s.heap hL1 hl1 s H locs → hx_T T_tb hL1 hl1 → hx_S T_tb [(10, 8), (10, 9), (10, 10), (10, 11), (10, 14), (10, 16), (10, 18), (55, 0), (56, 0)] L h hL1 hl1 → hl1.2.1 x 16 = fw6_x_16 → hl1.2.1 x 14 = fw6_x_14 → hl1.2.1 x 18 = fw6_x_18 → hl1.2.1 x 8 = fw6_x_8 → hl1.2.1 x 9 = fw6_x_9 → hl1.2.1 qs = ia6_qs → hl1.2.1 qo = ia6_qo → lv_has ls 4 [(1, .int iv6_1), (0, .ref x)] → W p l e ({ frames := 4, cells := 0, slots := 0, locals := 95 }) s m ([.ref x] : List Value).toArray below meth c H locs 0 0 (MQ below (va_Qi (fun (r : Int32) (u : List Nat × hx_h) => (∃ (nx1 : Int32) (st1 : Int32) (cp1 : Int32) (ft1 : Int32) (sf1 : Nat → Int32), u.2.2.1 x 8 = nx1 ∧ u.2.2.1 x 14 = st1 ∧ u.2.2.1 x 16 = cp1 ∧ u.2.2.1 x 9 = ft1 ∧ u.2.2.1 qs = sf1 ∧ ((r.toInt = 0 ∨ r.toInt = 1) ∧ nx0.toInt ≤ nx1.toInt ∧ (r.toInt = 1 → hx_rp sf1 st1.toInt.toNat = some 1) ∧ hv_K hv_rc (hv_RN tf tp0.toInt.toNat true nx0.toInt.toNat 0 [] ([])) r.toInt ft1.toInt nx1.toInt cp1.toInt (hv_ls sf1 st1.toInt.toNat) ∧ (r.toInt = 1 → nx1.toInt ≤ tp0.toInt))) ∧ hx_T T_tb u.1 u.2 ∧ hx_S T_tb [(10, 8), (10, 9), (10, 10), (10, 11), (10, 14), (10, 16), (10, 18), (55, 0), (56, 0)] L h u.1 u.2) (hx_E T_tb (P_ty dA) (dC, dI) vwCl (hx_A L sz)) (hx_A L sz)) ([.ref x] : List Value).toArray s 0 0 (hx_A L sz)) (F0 m 6 ls []) := by
    intro n6
    induction n6 with
    | zero => intro iv6_1 fw6_x_16 fw6_x_14 fw6_x_18 fw6_x_8 fw6_x_9 ia6_qs ia6_qo H locs hL1 hl1 bliv6_1 buiv6_1 blfw6_x_16 bufw6_x_16 blfw6_x_14 bufw6_x_14 blfw6_x_18 bufw6_x_18 blfw6_x_8 bufw6_x_8 blfw6_x_9 bufw6_x_9 vi6_0 vi6_1 vi6_2 vi6_3 vi6_4 ls hn6; exfalso; omega
    | succ n6 ih6 =>
      intro iv6_1 fw6_x_16 fw6_x_14 fw6_x_18 fw6_x_8 fw6_x_9 ia6_qs ia6_qo H locs hL1 hl1 bliv6_1 buiv6_1 blfw6_x_16 bufw6_x_16 blfw6_x_14 bufw6_x_14 blfw6_x_18 bufw6_x_18 blfw6_x_8 bufw6_x_8 blfw6_x_9 bufw6_x_9 vi6_0 vi6_1 vi6_2 vi6_3 vi6_4 ls hn6 hW hT hM ffw6_x_16 ffw6_x_14 ffw6_x_18 ffw6_x_8 ffw6_x_9 nia6_qs nia6_qo hl
      obtain ⟨o6, hO6, hE6⟩ := vi6_2
      refine lv_iload_n hx hb dX10_either_6 rfl (lv_at hl 0 rfl) ?_
      refine hb_if_eq (zx := iv6_1.toInt) (tgt := 19) hx hb rfl dX10_either_7 ?o3 (fun c_9 => ?_) (fun c_9 => ?_)
      case o3 => decide
      · skip
        refine lv_iload_n hx hb dX10_either_19 rfl (lv_at hl 0 rfl) ?_
        refine hb_if_eq (zx := iv6_1.toInt) (tgt := 27) hx hb rfl dX10_either_20 ?o4 (fun c_10 => ?_) (fun c_10 => ?o5)
        case o4 => decide
        case o5 =>
          exfalso
          omega
        have hq1 : hx_QQ 1 fw6_x_16.toInt fw6_x_8.toInt fw6_x_14.toInt fw6_x_18.toInt ia6_qs ia6_qo := hx_QQ_bE vi6_1 ?o6
        case o6 => omega
        have hmE : hv_RN tf tp0.toInt.toNat true nx0.toInt.toNat 0 [] ([]) = hv_RN tf tp0.toInt.toNat false fw6_x_8.toInt.toNat fw6_x_16.toInt.toNat o6 (hv_ls ia6_qo fw6_x_18.toInt.toNat) := ?o7
        case o7 => rw [hE6, show decide (iv6_1.toInt = 1) = false from decide_eq_false (by omega)]
        refine lv_iconst (v := 0) hx hb dX10_either_27 ?o8 ?_
        case o8 => decide
        refine lv_istore_n (lv' := [(1, .int (0 : Int32)), (0, .ref x)]) hx hb dX10_either_28 rfl hl ?o9 rfl (fun ls hl => ?_)
        case o9 => decide
        refine lv_aload_n hx hb dX10_either_29 rfl (lv_at hl 1 rfl) ?_
        refine hx_goi (hx_runV (As := []) (rest := []) ⟨hx, hb, hml, hown, hts⟩ hW (gx.S hM) tt_10 (T := TX10) (N := 98) rfl (t_X10_see_v l dC dI dA hL1 hl1 H.size x hT (gx.S hM) qt (gqt.S hM) ((hM.o gx trivial rfl).2.trans f_x_6) tf (hx_afS hM gqt rfl af_qt) fw6_x_8 ffw6_x_8 tp0 ((hM.o gx trivial rfl).1.trans f_x_7) ?o10) (cwV 0 hts (hx_gV kw_1468 kw_1465 kw_1467 kw_53 kw_103) rfl rfl rfl (by decide +kernel) ⟨Nat.le_of_ble_eq_true rfl, Nat.le_of_ble_eq_true rfl⟩) rfl hl.1 rfl (Nat.le_of_ble_eq_true rfl) dX10_either_30 ⟨Nat.le_of_ble_eq_true rfl, Nat.le_of_ble_eq_true rfl⟩) hW (fun r_13 L_11 h_12 H locs p_14 hW => ?_)
        case o10 => omega
        obtain ⟨⟨w_16, fw_16, hr_15⟩, hT, hs⟩ := p_14
        replace hT : hx_T T_tb L_11 h_12 := hT
        replace hs : hx_S T_tb [(10, 8)] hL1 hl1 L_11 h_12 := hs
        replace ffw6_x_16 := (hs.o (gx.S hM) trivial rfl).1.trans ffw6_x_16
        replace ffw6_x_14 := (hs.o (gx.S hM) trivial rfl).1.trans ffw6_x_14
        replace ffw6_x_18 := (hs.o (gx.S hM) trivial rfl).1.trans ffw6_x_18
        replace ffw6_x_9 := (hs.o (gx.S hM) trivial rfl).1.trans ffw6_x_9
        replace nia6_qs : h_12.2.1 qs = ia6_qs := (funext fun j => (hs.a (gqs.S hM) rfl j).1).trans nia6_qs
        replace nia6_qo : h_12.2.1 qo = ia6_qo := (funext fun j => (hs.a (gqo.S hM) rfl j).1).trans nia6_qo
        replace hM := hM.tr (hs.mono ?o11)
        case o11 => decide
        have fw_16 : h_12.2.1 x 8 = w_16 := fw_16
        have bw_16 := hT.gi (gx.S hM) tt_10 (k := 8) rfl
        rw [fw_16] at bw_16
        have bw_16 : 0 ≤ w_16.toInt ∧ w_16.toInt ≤ 402 := bw_16
        have ek_17 : w_16.toInt.toNat = hv_sk tf tp0.toInt.toNat fw6_x_8.toInt.toNat := ?o12
        case o12 => omega
        have hr_15S := hr_15.2.2.2.1
        refine lv_istore_n (lv' := [(2, .int r_13), (1, .int (0 : Int32)), (0, .ref x)]) hx hb dX10_either_33 rfl hl ?o13 rfl (fun ls hl => ?_)
        case o13 => decide
        refine lv_aload_n hx hb dX10_either_34 rfl (lv_at hl 2 rfl) ?_
        refine hx_goi (hx_runV (As := []) (rest := []) ⟨hx, hb, hml, hown, hts⟩ hW (gx.S hM) tt_10 (T := TX10) (N := 98) rfl (t_X10_wordHere_v l dC dI dA L_11 h_12 H.size x hT (gx.S hM) qt (gqt.S hM) ((hM.o gx trivial rfl).2.trans f_x_6) qw (gqw.S hM) ((hM.o gx trivial rfl).2.trans f_x_19) tf (hx_afS hM gqt rfl af_qt) wf (hx_afS hM gqw rfl af_qw) w_16 fw_16 tp0 ((hM.o gx trivial rfl).1.trans f_x_7) hwd ?o14) (cwV 0 hts (hx_gV kw_1476 kw_1473 kw_1475 kw_55 kw_103) rfl rfl rfl (by decide +kernel) ⟨Nat.le_of_ble_eq_true rfl, Nat.le_of_ble_eq_true rfl⟩) rfl hl.1 rfl (Nat.le_of_ble_eq_true rfl) dX10_either_35 ⟨Nat.le_of_ble_eq_true rfl, Nat.le_of_ble_eq_true rfl⟩) hW (fun r_20 L_18 h_19 H locs p_21 hW => ?_)
        case o14 => omega
        obtain ⟨⟨w_23, w_24, fw_23, fw_24, hr_22⟩, hT, hs⟩ := p_21
        replace hT : hx_T T_tb L_18 h_19 := hT
        replace hs : hx_S T_tb [(10, 8), (10, 11)] L_11 h_12 L_18 h_19 := hs
        replace ffw6_x_16 := (hs.o (gx.S hM) trivial rfl).1.trans ffw6_x_16
        replace ffw6_x_14 := (hs.o (gx.S hM) trivial rfl).1.trans ffw6_x_14
        replace ffw6_x_18 := (hs.o (gx.S hM) trivial rfl).1.trans ffw6_x_18
        replace ffw6_x_9 := (hs.o (gx.S hM) trivial rfl).1.trans ffw6_x_9
        replace nia6_qs : h_19.2.1 qs = ia6_qs := (funext fun j => (hs.a (gqs.S hM) rfl j).1).trans nia6_qs
        replace nia6_qo : h_19.2.1 qo = ia6_qo := (funext fun j => (hs.a (gqo.S hM) rfl j).1).trans nia6_qo
        replace hM := hM.tr (hs.mono ?o15)
        case o15 => decide
        have fw_23 : h_19.2.1 x 8 = w_23 := fw_23
        have bw_23 := hT.gi (gx.S hM) tt_10 (k := 8) rfl
        rw [fw_23] at bw_23
        have bw_23 : 0 ≤ w_23.toInt ∧ w_23.toInt ≤ 402 := bw_23
        have fw_24 : h_19.2.1 x 11 = w_24 := fw_24
        have bw_24 := hT.gi (gx.S hM) tt_10 (k := 11) rfl
        rw [fw_24] at bw_24
        have bw_24 : 0 ≤ w_24.toInt ∧ w_24.toInt ≤ 400 := bw_24
        have ek_25 : w_23.toInt.toNat = hv_sk tf tp0.toInt.toNat w_16.toInt.toNat := ?o16
        case o16 => omega
        have hr_22W : r_20.toInt = hv_wd tf tp0.toInt.toNat w_23.toInt.toNat := ?o17
        case o17 =>
          rw [ek_25]
          exact hr_22.2.2.2.2.1
        have hr_22E : ((hv_we tf tp0.toInt.toNat w_23.toInt.toNat : Nat) : Int) = w_23.toInt + w_24.toInt := ?o18
        case o18 =>
          rw [ek_25]
          exact hr_22.2.2.2.1.symm
        refine lv_istore_n (lv' := [(3, .int r_20), (2, .int r_13), (1, .int (0 : Int32)), (0, .ref x)]) hx hb dX10_either_38 rfl hl ?o19 rfl (fun ls hl => ?_)
        case o19 => decide
        have e12 : w_23.toInt.toNat = w_16.toInt.toNat := ?o20
        case o20 =>
          rw [ek_25, ek_17]
          exact hv_sk_id
        have eks : w_23.toInt.toNat = hv_sk tf tp0.toInt.toNat fw6_x_8.toInt.toNat := ?o21
        case o21 => rw [e12, ek_17]
        refine lv_iload_n hx hb dX10_either_39 rfl (lv_at hl 0 rfl) ?_
        refine lv_iconst (v := 1) hx hb dX10_either_40 ?o22 ?_
        case o22 => decide
        refine hb_icmp_eq (zx := r_20.toInt) (zy := 1) (tgt := 48) hx hb rfl ?o23 dX10_either_41 ?o24 (fun c_26 => ?_) (fun c_26 => ?_)
        case o23 => decide
        case o24 => decide
        · skip
          have hmw : hv_wd tf tp0.toInt.toNat w_23.toInt.toNat = r_20.toInt := hr_22W.symm
          have hml9 : w_23.toInt.toNat + 2 ≤ hv_we tf tp0.toInt.toNat w_23.toInt.toNat ∧ hv_we tf tp0.toInt.toNat w_23.toInt.toNat ≤ tp0.toInt.toNat := ?o25
          case o25 =>
            rcases (show r_20.toInt = 1 ∨ r_20.toInt = 0 by omega) with z | z
            (have h9 := hv_wd_1 (hmw.trans z); omega)
            (have h9 := hv_wd_0 (hmw.trans z); omega)
          refine lv_aload_n hx hb dX10_either_48 rfl (lv_at hl 3 rfl) ?_
          refine lv_iload_n hx hb dX10_either_49 rfl (lv_at hl 0 rfl) ?_
          refine hx_gov (hx_runV (As := [.int r_20]) (rest := []) ⟨hx, hb, hml, hown, hts⟩ hW (gx.S hM) tt_10 (T := TX10) (N := 98) rfl (t_X10_closesDown_v l dC dI dA L_18 h_19 H.size x r_20 hT (gx.S hM) qs (gqs.S hM) ((hM.o gx trivial rfl).2.trans f_x_15) qo (gqo.S hM) ((hM.o gx trivial rfl).2.trans f_x_17) ia6_qs nia6_qs ia6_qo nia6_qo fw6_x_16 ffw6_x_16 w_23 fw_23 fw6_x_14 ffw6_x_14 fw6_x_18 ffw6_x_18 (hx_QQ_next hq1 ?o26) o6 hO6) (cwV 1 hts (hx_gV kw_1515 kw_1512 kw_1514 kw_64 kw_103) rfl rfl rfl (by decide +kernel) ⟨Nat.le_of_ble_eq_true rfl, Nat.le_of_ble_eq_true rfl⟩) rfl hl.1 rfl (Nat.le_of_ble_eq_true rfl) dX10_either_50 ⟨Nat.le_of_ble_eq_true rfl, Nat.le_of_ble_eq_true rfl⟩) hW (fun L_27 h_28 H locs p_30 hW => ?_)
          case o26 => omega
          obtain ⟨⟨w_32, w_33, w_34, fw_32, fw_33, fw_34, hr_31⟩, hT, hs⟩ := p_30
          replace hT : hx_T T_tb L_27 h_28 := hT
          replace hs : hx_S T_tb [(10, 14), (10, 18), (55, 0)] L_18 h_19 L_27 h_28 := hs
          replace ffw6_x_16 := (hs.o (gx.S hM) trivial rfl).1.trans ffw6_x_16
          replace ffw6_x_9 := (hs.o (gx.S hM) trivial rfl).1.trans ffw6_x_9
          replace fw_23 := (hs.o (gx.S hM) trivial rfl).1.trans fw_23
          replace fw_24 := (hs.o (gx.S hM) trivial rfl).1.trans fw_24
          replace nia6_qo : h_28.2.1 qo = ia6_qo := (funext fun j => (hs.a (gqo.S hM) rfl j).1).trans nia6_qo
          replace hM := hM.tr (hs.mono ?o27)
          case o27 => decide
          have fw_32 : h_28.2.1 x 14 = w_32 := fw_32
          have bw_32 := hT.gi (gx.S hM) tt_10 (k := 14) rfl
          rw [fw_32] at bw_32
          have bw_32 : 0 ≤ w_32.toInt ∧ w_32.toInt ≤ 128 := bw_32
          have fw_33 : h_28.2.1 x 18 = w_33 := fw_33
          have bw_33 := hT.gi (gx.S hM) tt_10 (k := 18) rfl
          rw [fw_33] at bw_33
          have bw_33 : 0 ≤ w_33.toInt ∧ w_33.toInt ≤ 128 := bw_33
          have fw_34 : h_28.2.1 qs = w_34 := fw_34
          obtain ⟨oc_35, oc_35O, oc_35E⟩ := hr_31.2.2
          have hqb := hx_QQ_b hr_31.1
          refine lv_aload_n hx hb dX10_either_53 rfl (lv_at hl 3 rfl) ?_
          refine hk_getr hx hb hts hC_10 hown hW (gx.S hM) tt_10 17 ?o28 rfl kw_1160 ⟨rfl, rfl, rfl⟩ ((hM.o gx trivial rfl).2.trans f_x_17) dX10_either_54 ?_
          case o28 => decide
          refine lv_aload_n hx hb dX10_either_57 rfl (lv_at hl 3 rfl) ?_
          refine hk_geti hx hb hts hC_10 hown hW (gx.S hM) tt_10 18 ?o29 rfl kw_1161 ⟨rfl, rfl, rfl⟩ fw_33 dX10_either_58 ?_
          case o29 => decide
          refine lv_iload_n hx hb dX10_either_61 rfl (lv_at hl 0 rfl) ?_
          have nia6_qoO := nia6_qo
          refine hx_iast hx hb hW hT (hx_S.rf (M := [(56, 0)])) (gqo.S hM) tt_56 rfl ⟨?o30, ?o31⟩ rfl ⟨?o32, ?o33⟩ (List.mem_singleton.mpr rfl) dX10_either_62 (fun H locs h_36 eh_36 hW hT hs => ?_)
          case o30 => omega
          case o31 => omega
          case o32 => omega
          case o33 => omega
          replace ffw6_x_16 := (hs.o (gx.S hM) trivial rfl).1.trans ffw6_x_16
          replace ffw6_x_9 := (hs.o (gx.S hM) trivial rfl).1.trans ffw6_x_9
          replace fw_23 := (hs.o (gx.S hM) trivial rfl).1.trans fw_23
          replace fw_24 := (hs.o (gx.S hM) trivial rfl).1.trans fw_24
          replace fw_32 := (hs.o (gx.S hM) trivial rfl).1.trans fw_32
          replace fw_33 := (hs.o (gx.S hM) trivial rfl).1.trans fw_33
          replace fw_34 : h_36.2.1 qs = w_34 := (funext fun j => (hs.a (gqs.S hM) rfl j).1).trans fw_34
          replace hM := hM.tr (hs.mono ?o34)
          case o34 => decide
          obtain ⟨fa_37, dfa_37⟩ : ∃ g : Nat → Int32, g = hx_up ia6_qo w_33.toNatClampNeg r_20 := ⟨_, rfl⟩
          have nfa_37 : h_36.2.1 qo = fa_37 := ?o35
          case o35 =>
            rw [eh_36, dfa_37, ← nia6_qoO]
            exact hx_pi_fun _ _ _ _
          refine lv_aload_n hx hb dX10_either_63 rfl (lv_at hl 3 rfl) ?_
          refine lv_dup hx hb dX10_either_64 rfl ?_
          refine hk_geti hx hb hts hC_10 hown hW (gx.S hM) tt_10 18 ?o36 rfl kw_1161 ⟨rfl, rfl, rfl⟩ fw_33 dX10_either_65 ?_
          case o36 => decide
          refine lv_iconst (v := 1) hx hb dX10_either_68 ?o37 ?_
          case o37 => decide
          refine lv_iadd hx hb dX10_either_69 ?_
          have rg_38 := i32_r w_33
          refine lv_topi (fun x_39 ex_39 => ?_)
          have zx_39 : x_39.toInt = w_33.toInt + 1 := ?o38
          case o38 =>
            rw [ex_39]
            refine i32_add rfl ?o39 ?o40 ?o41
            case o39 => decide
            case o40 => omega
            case o41 => omega
          refine hx_puti hx hb hts hC_10 hown hW hT (hx_S.rf (M := [(10, 18)])) (gx.S hM) tt_10 18 ?o42 rfl kw_1161 ⟨rfl, rfl, rfl⟩ rfl (x := x_39) ⟨?o43, ?o44⟩ rfl rfl rfl (List.mem_singleton.mpr rfl) dX10_either_70 (fun H locs h_40 eh_40 hW hT hs => ?_)
          case o42 => decide
          case o43 => omega
          case o44 => omega
          replace ffw6_x_16 := (hs.o (gx.S hM) trivial rfl).1.trans ffw6_x_16
          replace ffw6_x_9 := (hs.o (gx.S hM) trivial rfl).1.trans ffw6_x_9
          replace fw_23 := (hs.o (gx.S hM) trivial rfl).1.trans fw_23
          replace fw_24 := (hs.o (gx.S hM) trivial rfl).1.trans fw_24
          replace fw_32 := (hs.o (gx.S hM) trivial rfl).1.trans fw_32
          replace fw_34 : h_40.2.1 qs = w_34 := (funext fun j => (hs.a (gqs.S hM) rfl j).1).trans fw_34
          replace nfa_37 : h_40.2.1 qo = fa_37 := (funext fun j => (hs.a (gqo.S hM) rfl j).1).trans nfa_37
          replace hM := hM.tr (hs.mono ?o45)
          case o45 => decide
          have f_41 : h_40.2.1 x 18 = x_39 := ?o46
          case o46 =>
            rw [eh_40]
            exact hx_pi_at _ _ _ _
          refine lv_aload_n hx hb dX10_either_73 rfl (lv_at hl 3 rfl) ?_
          refine lv_dup hx hb dX10_either_74 rfl ?_
          refine hk_geti hx hb hts hC_10 hown hW (gx.S hM) tt_10 8 ?o47 rfl kw_1151 ⟨rfl, rfl, rfl⟩ fw_23 dX10_either_75 ?_
          case o47 => decide
          refine lv_aload_n hx hb dX10_either_78 rfl (lv_at hl 3 rfl) ?_
          refine hk_geti hx hb hts hC_10 hown hW (gx.S hM) tt_10 11 ?o48 rfl kw_1154 ⟨rfl, rfl, rfl⟩ fw_24 dX10_either_79 ?_
          case o48 => decide
          refine lv_iadd hx hb dX10_either_82 ?_
          have rg_42 := i32_r w_23
          have rg_43 := i32_r w_24
          refine lv_topi (fun x_44 ex_44 => ?_)
          have zx_44 : x_44.toInt = w_23.toInt + w_24.toInt := ?o49
          case o49 =>
            rw [ex_44]
            refine i32_add rfl rfl ?o50 ?o51
            case o50 => omega
            case o51 => omega
          refine hx_puti hx hb hts hC_10 hown hW hT (hx_S.rf (M := [(10, 8)])) (gx.S hM) tt_10 8 ?o52 rfl kw_1151 ⟨rfl, rfl, rfl⟩ rfl (x := x_44) ⟨?o53, ?o54⟩ rfl rfl rfl (List.mem_singleton.mpr rfl) dX10_either_83 (fun H locs h_45 eh_45 hW hT hs => ?_)
          case o52 => decide
          case o53 => omega
          case o54 => omega
          replace ffw6_x_16 := (hs.o (gx.S hM) trivial rfl).1.trans ffw6_x_16
          replace ffw6_x_9 := (hs.o (gx.S hM) trivial rfl).1.trans ffw6_x_9
          replace fw_24 := (hs.o (gx.S hM) trivial rfl).1.trans fw_24
          replace fw_32 := (hs.o (gx.S hM) trivial rfl).1.trans fw_32
          replace f_41 := (hs.o (gx.S hM) trivial rfl).1.trans f_41
          replace fw_34 : h_45.2.1 qs = w_34 := (funext fun j => (hs.a (gqs.S hM) rfl j).1).trans fw_34
          replace nfa_37 : h_45.2.1 qo = fa_37 := (funext fun j => (hs.a (gqo.S hM) rfl j).1).trans nfa_37
          replace hM := hM.tr (hs.mono ?o55)
          case o55 => decide
          have f_46 : h_45.2.1 x 8 = x_44 := ?o56
          case o56 =>
            rw [eh_45]
            exact hx_pi_at _ _ _ _
          refine lv_iconst (v := 1) hx hb dX10_either_86 ?o57 ?_
          case o57 => decide
          refine lv_istore_n (lv' := [(1, .int (1 : Int32)), (3, .int r_20), (2, .int r_13), (0, .ref x)]) hx hb dX10_either_87 rfl hl ?o58 rfl (fun ls hl => ?_)
          case o58 => decide
          refine lv_goto (tgt := 176) hx hb dX10_either_88 ?o59 ?_
          case o59 => decide
          refine lv_goto (tgt := 6) hx hb dX10_either_176 ?o60 ?_
          case o60 => decide
          have zk_1 : (1 : Int32).toInt = 1 := ?o61
          case o61 => decide
          refine ih6 (1 : Int32) fw6_x_16 w_32 x_39 x_44 fw6_x_9 w_34 fa_37 _ _ L_27 h_45 ?o62 ?o63 ?o64 ?o65 ?o66 ?o67 ?o68 ?o69 ?o70 ?o71 (i32_r _).1 (i32_r _).2 ?o72 (hx_QQ_bE (hx_QQ_join hr_31.1 ?o73 ?o74 ?o75 (hx_cl ?o76) ?o77 dfa_37) ?o78) ⟨oc_35, oc_35O, hmE.trans ((hv_RN_a (by rw [← eks]; exact hmw) ?o79 oc_35E).trans (by rw [← eks, show hv_we tf tp0.toInt.toNat w_23.toInt.toNat = x_44.toInt.toNat by omega, show decide ((1 : Int32).toInt = 1) = true from (by decide), hv_ls_p (n := w_33.toInt.toNat) (z := r_20.toInt) rfl (by omega) rfl dfa_37] <;> rfl))⟩ ?o80 ?o81 ls ?o82 hW hT hM ffw6_x_16 fw_32 f_41 f_46 ffw6_x_9 fw_34 nfa_37 (lv_sub hl [0, 3] rfl)
          case o62 => decide
          case o63 => decide
          case o64 => omega
          case o65 => omega
          case o66 => omega
          case o67 => omega
          case o68 => omega
          case o69 => omega
          case o70 => omega
          case o71 => omega
          case o72 => omega
          case o73 => omega
          case o74 => omega
          case o75 => omega
          case o76 => omega
          case o77 => omega
          case o78 => decide
          case o79 => omega
          case o80 => omega
          case o81 => omega
          case o82 => omega
        · skip
          refine lv_iload_n hx hb dX10_either_44 rfl (lv_at hl 0 rfl) ?_
          refine hb_if_ne (zx := r_20.toInt) (tgt := 91) hx hb rfl dX10_either_45 ?o83 (fun c_47 => ?_) (fun c_47 => ?_)
          case o83 => decide
          · skip
            have hmw : hv_wd tf tp0.toInt.toNat w_23.toInt.toNat ≠ 1 ∧ hv_wd tf tp0.toInt.toNat w_23.toInt.toNat ≠ 0 := ⟨?o84, ?o85⟩
            case o84 => omega
            case o85 => omega
            refine lv_iload_n hx hb dX10_either_91 rfl (lv_at hl 1 rfl) ?_
            refine lv_bipush (v := 41) hx hb dX10_either_92 ?o86 ?_
            case o86 => decide
            refine hb_icmp_ne (zx := r_13.toInt) (zy := 41) (tgt := 146) hx hb rfl ?o87 dX10_either_94 ?o88 (fun c_48 => ?_) (fun c_48 => ?_)
            case o87 => decide
            case o88 => decide
            · skip
              have hm41 : ¬ (w_23.toInt.toNat < tp0.toInt.toNat ∧ (tf w_23.toInt.toNat).toInt = 41) := ?o89
              case o89 =>
                rw [e12]
                refine fun z9 => hv_SE_n (k := 41) hr_15S ?o90 ⟨?o91, z9.2, ?o92⟩
                case o90 => omega
                case o91 => omega
                case o92 => decide
              refine lv_aload_n hx hb dX10_either_146 rfl (lv_at hl 3 rfl) ?_
              refine lv_iconst (v := 0) hx hb dX10_either_147 ?o93 ?_
              case o93 => decide
              have zc_0 : (0 : Int32).toInt = 0 := ?o94
              case o94 => decide
              refine hx_gov (hx_runV (As := [.int (0 : Int32)]) (rest := []) ⟨hx, hb, hml, hown, hts⟩ hW (gx.S hM) tt_10 (T := TX10) (N := 98) rfl (t_X10_closesDown_v l dC dI dA L_18 h_19 H.size x (0 : Int32) hT (gx.S hM) qs (gqs.S hM) ((hM.o gx trivial rfl).2.trans f_x_15) qo (gqo.S hM) ((hM.o gx trivial rfl).2.trans f_x_17) ia6_qs nia6_qs ia6_qo nia6_qo fw6_x_16 ffw6_x_16 w_23 fw_23 fw6_x_14 ffw6_x_14 fw6_x_18 ffw6_x_18 (hx_QQ_next hq1 ?o95) o6 hO6) (cwV 1 hts (hx_gV kw_1515 kw_1512 kw_1514 kw_64 kw_103) rfl rfl rfl (by decide +kernel) ⟨Nat.le_of_ble_eq_true rfl, Nat.le_of_ble_eq_true rfl⟩) rfl hl.1 rfl (Nat.le_of_ble_eq_true rfl) dX10_either_148 ⟨Nat.le_of_ble_eq_true rfl, Nat.le_of_ble_eq_true rfl⟩) hW (fun L_49 h_50 H locs p_52 hW => ?_)
              case o95 => omega
              obtain ⟨⟨w_54, w_55, w_56, fw_54, fw_55, fw_56, hr_53⟩, hT, hs⟩ := p_52
              replace hT : hx_T T_tb L_49 h_50 := hT
              replace hs : hx_S T_tb [(10, 14), (10, 18), (55, 0)] L_18 h_19 L_49 h_50 := hs
              replace ffw6_x_16 := (hs.o (gx.S hM) trivial rfl).1.trans ffw6_x_16
              replace ffw6_x_9 := (hs.o (gx.S hM) trivial rfl).1.trans ffw6_x_9
              replace fw_23 := (hs.o (gx.S hM) trivial rfl).1.trans fw_23
              replace fw_24 := (hs.o (gx.S hM) trivial rfl).1.trans fw_24
              replace nia6_qo : h_50.2.1 qo = ia6_qo := (funext fun j => (hs.a (gqo.S hM) rfl j).1).trans nia6_qo
              replace hM := hM.tr (hs.mono ?o96)
              case o96 => decide
              have fw_54 : h_50.2.1 x 14 = w_54 := fw_54
              have bw_54 := hT.gi (gx.S hM) tt_10 (k := 14) rfl
              rw [fw_54] at bw_54
              have bw_54 : 0 ≤ w_54.toInt ∧ w_54.toInt ≤ 128 := bw_54
              have fw_55 : h_50.2.1 x 18 = w_55 := fw_55
              have bw_55 := hT.gi (gx.S hM) tt_10 (k := 18) rfl
              rw [fw_55] at bw_55
              have bw_55 : 0 ≤ w_55.toInt ∧ w_55.toInt ≤ 128 := bw_55
              have fw_56 : h_50.2.1 qs = w_56 := fw_56
              obtain ⟨oc_57, oc_57O, oc_57E⟩ := hr_53.2.2
              refine lv_aload_n hx hb dX10_either_151 rfl (lv_at hl 3 rfl) ?_
              refine hk_geti hx hb hts hC_10 hown hW (gx.S hM) tt_10 18 ?o97 rfl kw_1161 ⟨rfl, rfl, rfl⟩ fw_55 dX10_either_152 ?_
              case o97 => decide
              refine hb_if_eq (zx := w_55.toInt) (tgt := 170) hx hb rfl dX10_either_155 ?o98 (fun c_58 => ?_) (fun c_58 => ?_)
              case o98 => decide
              · skip
                refine lv_iconst (v := 1) hx hb dX10_either_170 ?o99 ?_
                case o99 => decide
                refine lv_goto (tgt := 175) hx hb dX10_either_171 ?o100 ?_
                case o100 => decide
                refine hx_retz hx hb hr rfl hlk hW ⟨⟨w_23, w_54, fw6_x_16, fw6_x_9, w_56, fw_23, fw_54, ffw6_x_16, ffw6_x_9, fw_56, ⟨?o101, ?o102, fun _ => hx_QQ_endE hr_53.1 ?o103, (hv_K_t (x := w_23.toInt.toNat) (y := fw6_x_16.toInt.toNat) ?o104 ?o105 ?o106 ?o107 oc_57O (hmE.trans ((hv_RN_e0 (by rw [← eks]; exact hmw) (by rw [← eks]; exact hm41) (by have h9 := oc_57E; have z0 : (0 : Int32).toInt = 0 := (by decide); rw [z0] at h9; rw [hv_ls_0 (op := w_55.toInt) (by omega)] at h9; exact h9)).trans (by rw [← eks])))), fun _ => ?o108⟩⟩, hT, hM⟩ dX10_either_175
                case o101 => decide
                case o102 => omega
                case o103 => omega
                case o104 => decide
                case o105 => omega
                case o106 => omega
                case o107 => omega
                case o108 => omega
              · skip
                refine lv_aload_n hx hb dX10_either_158 rfl (lv_at hl 3 rfl) ?_
                refine lv_iconst (v := 0) hx hb dX10_either_159 ?o109 ?_
                case o109 => decide
                refine lv_aload_n hx hb dX10_either_160 rfl (lv_at hl 3 rfl) ?_
                refine hk_geti hx hb hts hC_10 hown hW (gx.S hM) tt_10 8 ?o110 rfl kw_1151 ⟨rfl, rfl, rfl⟩ fw_23 dX10_either_161 ?_
                case o110 => decide
                refine hx_goi (hx_runV (As := [.int (0 : Int32), .int w_23]) (rest := []) ⟨hx, hb, hml, hown, hts⟩ hW (gx.S hM) tt_10 (T := TX10) (N := 98) rfl (t_X10_fails_v l dC dI dA L_49 h_50 H.size x (0 : Int32) w_23 hT (gx.S hM) fw6_x_9 ffw6_x_9 ?o111 ?o112 ⟨?o113, ?o114⟩) (cwV 2 hts (hx_gV kw_1480 kw_1477 kw_1479 kw_56 kw_103) rfl rfl rfl (by decide +kernel) ⟨Nat.le_of_ble_eq_true rfl, Nat.le_of_ble_eq_true rfl⟩) rfl hl.1 rfl (Nat.le_of_ble_eq_true rfl) dX10_either_164 ⟨Nat.le_of_ble_eq_true rfl, Nat.le_of_ble_eq_true rfl⟩) hW (fun r_61 L_59 h_60 H locs p_62 hW => ?_)
                case o111 => omega
                case o112 => decide
                case o113 => omega
                case o114 => omega
                obtain ⟨⟨w_64, fw_64, hr_63⟩, hT, hs⟩ := p_62
                replace hT : hx_T T_tb L_59 h_60 := hT
                replace hs : hx_S T_tb [(10, 9)] L_49 h_50 L_59 h_60 := hs
                replace ffw6_x_16 := (hs.o (gx.S hM) trivial rfl).1.trans ffw6_x_16
                replace fw_23 := (hs.o (gx.S hM) trivial rfl).1.trans fw_23
                replace fw_24 := (hs.o (gx.S hM) trivial rfl).1.trans fw_24
                replace fw_54 := (hs.o (gx.S hM) trivial rfl).1.trans fw_54
                replace fw_55 := (hs.o (gx.S hM) trivial rfl).1.trans fw_55
                replace nia6_qo : h_60.2.1 qo = ia6_qo := (funext fun j => (hs.a (gqo.S hM) rfl j).1).trans nia6_qo
                replace fw_56 : h_60.2.1 qs = w_56 := (funext fun j => (hs.a (gqs.S hM) rfl j).1).trans fw_56
                replace hM := hM.tr (hs.mono ?o115)
                case o115 => decide
                have fw_64 : h_60.2.1 x 9 = w_64 := fw_64
                have bw_64 := hT.gi (gx.S hM) tt_10 (k := 9) rfl
                rw [fw_64] at bw_64
                have bw_64 : -2147483648 ≤ w_64.toInt ∧ w_64.toInt ≤ 2147483647 := bw_64
                refine hb_if_eq (zx := r_61.toInt) (tgt := 174) hx hb rfl dX10_either_167 ?o116 (fun c_65 => ?_) (fun c_65 => ?o117)
                case o116 => decide
                case o117 =>
                  exfalso
                  omega
                refine lv_iconst (v := 0) hx hb dX10_either_174 ?o118 ?_
                case o118 => decide
                refine hx_retz hx hb hr rfl hlk hW ⟨⟨w_23, w_54, fw6_x_16, w_64, w_56, fw_23, fw_54, ffw6_x_16, fw_64, fw_56, ⟨?o119, ?o120, (fun z9 => absurd z9 ?o121), (hv_K_f (x := 1 + 8 * w_23.toInt.toNat) ?o122 ?o123 ?o124 (hmE.trans ((hv_RN_e1 (by rw [← eks]; exact hmw) (by rw [← eks]; exact hm41) (by have h9 := oc_57E; have z0 : (0 : Int32).toInt = 0 := (by decide); rw [z0] at h9; exact h9) (hv_ls_n ?o125)).trans (by rw [← eks])))), (fun z9 => absurd z9 ?o126)⟩⟩, hT, hM⟩ dX10_either_175
                case o119 => omega
                case o120 => omega
                case o121 => decide
                case o122 => omega
                case o123 => omega
                case o124 => omega
                case o125 => omega
                case o126 => decide
            · skip
              have hm41 : w_23.toInt.toNat < tp0.toInt.toNat ∧ (tf w_23.toInt.toNat).toInt = 41 := ?o127
              case o127 =>
                rw [e12]
                have h8 := hv_SE_y (k := 41) hr_15S ?o128 ?o129 ?o130
                case o128 => decide
                case o129 => decide
                case o130 => omega
                refine ⟨?o131, h8.2⟩
                case o131 => omega
              refine lv_aload_n hx hb dX10_either_97 rfl (lv_at hl 3 rfl) ?_
              refine lv_iconst (v := 0) hx hb dX10_either_98 ?o132 ?_
              case o132 => decide
              have zc_0 : (0 : Int32).toInt = 0 := ?o133
              case o133 => decide
              refine hx_gov (hx_runV (As := [.int (0 : Int32)]) (rest := []) ⟨hx, hb, hml, hown, hts⟩ hW (gx.S hM) tt_10 (T := TX10) (N := 98) rfl (t_X10_closesDown_v l dC dI dA L_18 h_19 H.size x (0 : Int32) hT (gx.S hM) qs (gqs.S hM) ((hM.o gx trivial rfl).2.trans f_x_15) qo (gqo.S hM) ((hM.o gx trivial rfl).2.trans f_x_17) ia6_qs nia6_qs ia6_qo nia6_qo fw6_x_16 ffw6_x_16 w_23 fw_23 fw6_x_14 ffw6_x_14 fw6_x_18 ffw6_x_18 (hx_QQ_next hq1 ?o134) o6 hO6) (cwV 1 hts (hx_gV kw_1515 kw_1512 kw_1514 kw_64 kw_103) rfl rfl rfl (by decide +kernel) ⟨Nat.le_of_ble_eq_true rfl, Nat.le_of_ble_eq_true rfl⟩) rfl hl.1 rfl (Nat.le_of_ble_eq_true rfl) dX10_either_99 ⟨Nat.le_of_ble_eq_true rfl, Nat.le_of_ble_eq_true rfl⟩) hW (fun L_66 h_67 H locs p_69 hW => ?_)
              case o134 => omega
              obtain ⟨⟨w_71, w_72, w_73, fw_71, fw_72, fw_73, hr_70⟩, hT, hs⟩ := p_69
              replace hT : hx_T T_tb L_66 h_67 := hT
              replace hs : hx_S T_tb [(10, 14), (10, 18), (55, 0)] L_18 h_19 L_66 h_67 := hs
              replace ffw6_x_16 := (hs.o (gx.S hM) trivial rfl).1.trans ffw6_x_16
              replace ffw6_x_9 := (hs.o (gx.S hM) trivial rfl).1.trans ffw6_x_9
              replace fw_23 := (hs.o (gx.S hM) trivial rfl).1.trans fw_23
              replace fw_24 := (hs.o (gx.S hM) trivial rfl).1.trans fw_24
              replace nia6_qo : h_67.2.1 qo = ia6_qo := (funext fun j => (hs.a (gqo.S hM) rfl j).1).trans nia6_qo
              replace hM := hM.tr (hs.mono ?o135)
              case o135 => decide
              have fw_71 : h_67.2.1 x 14 = w_71 := fw_71
              have bw_71 := hT.gi (gx.S hM) tt_10 (k := 14) rfl
              rw [fw_71] at bw_71
              have bw_71 : 0 ≤ w_71.toInt ∧ w_71.toInt ≤ 128 := bw_71
              have fw_72 : h_67.2.1 x 18 = w_72 := fw_72
              have bw_72 := hT.gi (gx.S hM) tt_10 (k := 18) rfl
              rw [fw_72] at bw_72
              have bw_72 : 0 ≤ w_72.toInt ∧ w_72.toInt ≤ 128 := bw_72
              have fw_73 : h_67.2.1 qs = w_73 := fw_73
              obtain ⟨oc_74, oc_74O, oc_74E⟩ := hr_70.2.2
              refine lv_aload_n hx hb dX10_either_102 rfl (lv_at hl 3 rfl) ?_
              refine hk_geti hx hb hts hC_10 hown hW (gx.S hM) tt_10 18 ?o136 rfl kw_1161 ⟨rfl, rfl, rfl⟩ fw_72 dX10_either_103 ?_
              case o136 => decide
              refine hb_if_ne (zx := w_72.toInt) (tgt := 119) hx hb rfl dX10_either_106 ?o137 (fun c_75 => ?_) (fun c_75 => ?_)
              case o137 => decide
              · skip
                refine lv_aload_n hx hb dX10_either_119 rfl (lv_at hl 3 rfl) ?_
                refine lv_dup hx hb dX10_either_120 rfl ?_
                refine hk_geti hx hb hts hC_10 hown hW (gx.S hM) tt_10 18 ?o138 rfl kw_1161 ⟨rfl, rfl, rfl⟩ fw_72 dX10_either_121 ?_
                case o138 => decide
                refine lv_iconst (v := 1) hx hb dX10_either_124 ?o139 ?_
                case o139 => decide
                refine lv_isub hx hb dX10_either_125 ?_
                have rg_76 := i32_r w_72
                refine lv_topi (fun x_77 ex_77 => ?_)
                have zx_77 : x_77.toInt = w_72.toInt - 1 := ?o140
                case o140 =>
                  rw [ex_77]
                  refine i32_sub rfl ?o141 ?o142 ?o143
                  case o141 => decide
                  case o142 => omega
                  case o143 => omega
                refine hx_puti hx hb hts hC_10 hown hW hT (hx_S.rf (M := [(10, 18)])) (gx.S hM) tt_10 18 ?o144 rfl kw_1161 ⟨rfl, rfl, rfl⟩ rfl (x := x_77) ⟨?o145, ?o146⟩ rfl rfl rfl (List.mem_singleton.mpr rfl) dX10_either_126 (fun H locs h_78 eh_78 hW hT hs => ?_)
                case o144 => decide
                case o145 => omega
                case o146 => omega
                replace ffw6_x_16 := (hs.o (gx.S hM) trivial rfl).1.trans ffw6_x_16
                replace ffw6_x_9 := (hs.o (gx.S hM) trivial rfl).1.trans ffw6_x_9
                replace fw_23 := (hs.o (gx.S hM) trivial rfl).1.trans fw_23
                replace fw_24 := (hs.o (gx.S hM) trivial rfl).1.trans fw_24
                replace fw_71 := (hs.o (gx.S hM) trivial rfl).1.trans fw_71
                replace nia6_qo : h_78.2.1 qo = ia6_qo := (funext fun j => (hs.a (gqo.S hM) rfl j).1).trans nia6_qo
                replace fw_73 : h_78.2.1 qs = w_73 := (funext fun j => (hs.a (gqs.S hM) rfl j).1).trans fw_73
                replace hM := hM.tr (hs.mono ?o147)
                case o147 => decide
                have f_79 : h_78.2.1 x 18 = x_77 := ?o148
                case o148 =>
                  rw [eh_78]
                  exact hx_pi_at _ _ _ _
                refine lv_aload_n hx hb dX10_either_129 rfl (lv_at hl 3 rfl) ?_
                refine lv_dup hx hb dX10_either_130 rfl ?_
                refine hk_geti hx hb hts hC_10 hown hW (gx.S hM) tt_10 8 ?o149 rfl kw_1151 ⟨rfl, rfl, rfl⟩ fw_23 dX10_either_131 ?_
                case o149 => decide
                refine lv_iconst (v := 1) hx hb dX10_either_134 ?o150 ?_
                case o150 => decide
                refine lv_iadd hx hb dX10_either_135 ?_
                have rg_80 := i32_r w_23
                refine lv_topi (fun x_81 ex_81 => ?_)
                have zx_81 : x_81.toInt = w_23.toInt + 1 := ?o151
                case o151 =>
                  rw [ex_81]
                  refine i32_add rfl ?o152 ?o153 ?o154
                  case o152 => decide
                  case o153 => omega
                  case o154 => omega
                refine hx_puti hx hb hts hC_10 hown hW hT (hx_S.rf (M := [(10, 8)])) (gx.S hM) tt_10 8 ?o155 rfl kw_1151 ⟨rfl, rfl, rfl⟩ rfl (x := x_81) ⟨?o156, ?o157⟩ rfl rfl rfl (List.mem_singleton.mpr rfl) dX10_either_136 (fun H locs h_82 eh_82 hW hT hs => ?_)
                case o155 => decide
                case o156 => omega
                case o157 => omega
                replace ffw6_x_16 := (hs.o (gx.S hM) trivial rfl).1.trans ffw6_x_16
                replace ffw6_x_9 := (hs.o (gx.S hM) trivial rfl).1.trans ffw6_x_9
                replace fw_24 := (hs.o (gx.S hM) trivial rfl).1.trans fw_24
                replace fw_71 := (hs.o (gx.S hM) trivial rfl).1.trans fw_71
                replace f_79 := (hs.o (gx.S hM) trivial rfl).1.trans f_79
                replace nia6_qo : h_82.2.1 qo = ia6_qo := (funext fun j => (hs.a (gqo.S hM) rfl j).1).trans nia6_qo
                replace fw_73 : h_82.2.1 qs = w_73 := (funext fun j => (hs.a (gqs.S hM) rfl j).1).trans fw_73
                replace hM := hM.tr (hs.mono ?o158)
                case o158 => decide
                have f_83 : h_82.2.1 x 8 = x_81 := ?o159
                case o159 =>
                  rw [eh_82]
                  exact hx_pi_at _ _ _ _
                have hcd : hv_cd 0 o6 (hv_ls ia6_qo fw6_x_18.toInt.toNat) = (oc_74, (ia6_qo (w_72.toInt.toNat - 1)).toInt :: hv_ls ia6_qo x_77.toInt.toNat) := ?o160
                case o160 =>
                  have h9 := oc_74E
                  have z0 : (0 : Int32).toInt = 0 := ?o161
                  case o161 => decide
                  rw [z0] at h9
                  rw [h9, show w_72.toInt.toNat = x_77.toInt.toNat + 1 by omega, show x_77.toInt.toNat + 1 - 1 = x_77.toInt.toNat by omega]
                  rfl
                refine lv_aload_n hx hb dX10_either_139 rfl (lv_at hl 3 rfl) ?_
                refine hx_gov (hx_runV (As := []) (rest := []) ⟨hx, hb, hml, hown, hts⟩ hW (gx.S hM) tt_10 (T := TX10) (N := 98) rfl (t_X10_closesNots_v l dC dI dA L_66 h_82 H.size x hT (gx.S hM) qs (gqs.S hM) ((hM.o gx trivial rfl).2.trans f_x_15) qo (gqo.S hM) ((hM.o gx trivial rfl).2.trans f_x_17) w_73 fw_73 ia6_qo nia6_qo fw6_x_16 ffw6_x_16 x_81 f_83 w_71 fw_71 x_77 f_79 (hx_QQ_shut hr_70.1 ?o162 (hx_QQ_t100 hr_70.1 ?o163 hr_70.2.1 ?o164) ?o165 ?o166) oc_74 oc_74O) (cwV 0 hts (hx_gV kw_1511 kw_1508 kw_1510 kw_63 kw_103) rfl rfl rfl (by decide +kernel) ⟨Nat.le_of_ble_eq_true rfl, Nat.le_of_ble_eq_true rfl⟩) rfl hl.1 rfl (Nat.le_of_ble_eq_true rfl) dX10_either_140 ⟨Nat.le_of_ble_eq_true rfl, Nat.le_of_ble_eq_true rfl⟩) hW (fun L_84 h_85 H locs p_87 hW => ?_)
                case o162 => omega
                case o163 => omega
                case o164 => decide
                case o165 => omega
                case o166 => omega
                obtain ⟨⟨w_89, w_90, w_91, fw_89, fw_90, fw_91, hr_88⟩, hT, hs⟩ := p_87
                replace hT : hx_T T_tb L_84 h_85 := hT
                replace hs : hx_S T_tb [(10, 14), (10, 18), (55, 0)] L_66 h_82 L_84 h_85 := hs
                replace ffw6_x_16 := (hs.o (gx.S hM) trivial rfl).1.trans ffw6_x_16
                replace ffw6_x_9 := (hs.o (gx.S hM) trivial rfl).1.trans ffw6_x_9
                replace fw_24 := (hs.o (gx.S hM) trivial rfl).1.trans fw_24
                replace f_83 := (hs.o (gx.S hM) trivial rfl).1.trans f_83
                replace nia6_qo : h_85.2.1 qo = ia6_qo := (funext fun j => (hs.a (gqo.S hM) rfl j).1).trans nia6_qo
                replace hM := hM.tr (hs.mono ?o167)
                case o167 => decide
                have fw_89 : h_85.2.1 x 14 = w_89 := fw_89
                have bw_89 := hT.gi (gx.S hM) tt_10 (k := 14) rfl
                rw [fw_89] at bw_89
                have bw_89 : 0 ≤ w_89.toInt ∧ w_89.toInt ≤ 128 := bw_89
                have fw_90 : h_85.2.1 x 18 = w_90 := fw_90
                have bw_90 := hT.gi (gx.S hM) tt_10 (k := 18) rfl
                rw [fw_90] at bw_90
                have bw_90 : 0 ≤ w_90.toInt ∧ w_90.toInt ≤ 128 := bw_90
                have fw_91 : h_85.2.1 qs = w_91 := fw_91
                obtain ⟨oc_92, oc_92O, oc_92E⟩ := hr_88.2
                refine lv_goto (tgt := 176) hx hb dX10_either_143 ?o168 ?_
                case o168 => decide
                refine lv_goto (tgt := 6) hx hb dX10_either_176 ?o169 ?_
                case o169 => decide
                have zk_0 : (0 : Int32).toInt = 0 := ?o170
                case o170 => decide
                refine ih6 (0 : Int32) fw6_x_16 w_89 w_90 x_81 fw6_x_9 w_91 ia6_qo _ _ L_84 h_85 ?o171 ?o172 ?o173 ?o174 ?o175 ?o176 ?o177 ?o178 ?o179 ?o180 (i32_r _).1 (i32_r _).2 ?o181 (hx_QQ_bE hr_88.1 ?o182) ⟨oc_92, oc_92O, hmE.trans ((hv_RN_c1 (by rw [← eks]; exact hmw) (by rw [← eks]; exact hm41) hcd oc_92E).trans (by rw [← eks, show w_23.toInt.toNat + 1 = x_81.toInt.toNat by omega, show decide ((0 : Int32).toInt = 1) = false from (by decide)] <;> rfl))⟩ ?o183 ?o184 ls ?o185 hW hT hM ffw6_x_16 fw_89 fw_90 f_83 ffw6_x_9 fw_91 nia6_qo (lv_sub hl [2, 3] rfl)
                case o171 => decide
                case o172 => decide
                case o173 => omega
                case o174 => omega
                case o175 => omega
                case o176 => omega
                case o177 => omega
                case o178 => omega
                case o179 => omega
                case o180 => omega
                case o181 => omega
                case o182 => decide
                case o183 => omega
                case o184 => omega
                case o185 => omega
              · skip
                refine lv_aload_n hx hb dX10_either_109 rfl (lv_at hl 3 rfl) ?_
                refine lv_iconst (v := 0) hx hb dX10_either_110 ?o186 ?_
                case o186 => decide
                refine lv_aload_n hx hb dX10_either_111 rfl (lv_at hl 3 rfl) ?_
                refine hk_geti hx hb hts hC_10 hown hW (gx.S hM) tt_10 8 ?o187 rfl kw_1151 ⟨rfl, rfl, rfl⟩ fw_23 dX10_either_112 ?_
                case o187 => decide
                refine hx_goi (hx_runV (As := [.int (0 : Int32), .int w_23]) (rest := []) ⟨hx, hb, hml, hown, hts⟩ hW (gx.S hM) tt_10 (T := TX10) (N := 98) rfl (t_X10_fails_v l dC dI dA L_66 h_67 H.size x (0 : Int32) w_23 hT (gx.S hM) fw6_x_9 ffw6_x_9 ?o188 ?o189 ⟨?o190, ?o191⟩) (cwV 2 hts (hx_gV kw_1480 kw_1477 kw_1479 kw_56 kw_103) rfl rfl rfl (by decide +kernel) ⟨Nat.le_of_ble_eq_true rfl, Nat.le_of_ble_eq_true rfl⟩) rfl hl.1 rfl (Nat.le_of_ble_eq_true rfl) dX10_either_115 ⟨Nat.le_of_ble_eq_true rfl, Nat.le_of_ble_eq_true rfl⟩) hW (fun r_95 L_93 h_94 H locs p_96 hW => ?_)
                case o188 => omega
                case o189 => decide
                case o190 => omega
                case o191 => omega
                obtain ⟨⟨w_98, fw_98, hr_97⟩, hT, hs⟩ := p_96
                replace hT : hx_T T_tb L_93 h_94 := hT
                replace hs : hx_S T_tb [(10, 9)] L_66 h_67 L_93 h_94 := hs
                replace ffw6_x_16 := (hs.o (gx.S hM) trivial rfl).1.trans ffw6_x_16
                replace fw_23 := (hs.o (gx.S hM) trivial rfl).1.trans fw_23
                replace fw_24 := (hs.o (gx.S hM) trivial rfl).1.trans fw_24
                replace fw_71 := (hs.o (gx.S hM) trivial rfl).1.trans fw_71
                replace fw_72 := (hs.o (gx.S hM) trivial rfl).1.trans fw_72
                replace nia6_qo : h_94.2.1 qo = ia6_qo := (funext fun j => (hs.a (gqo.S hM) rfl j).1).trans nia6_qo
                replace fw_73 : h_94.2.1 qs = w_73 := (funext fun j => (hs.a (gqs.S hM) rfl j).1).trans fw_73
                replace hM := hM.tr (hs.mono ?o192)
                case o192 => decide
                have fw_98 : h_94.2.1 x 9 = w_98 := fw_98
                have bw_98 := hT.gi (gx.S hM) tt_10 (k := 9) rfl
                rw [fw_98] at bw_98
                have bw_98 : -2147483648 ≤ w_98.toInt ∧ w_98.toInt ≤ 2147483647 := bw_98
                refine hx_retz hx hb hr (hx_nar01 ?o193) hlk hW ⟨⟨w_23, w_71, fw6_x_16, w_98, w_73, fw_23, fw_71, ffw6_x_16, fw_98, fw_73, ⟨?o194, ?o195, (fun z9 => ?o196), (hv_K_f (x := 1 + 8 * w_23.toInt.toNat) ?o197 ?o198 ?o199 (hmE.trans ((hv_RN_c0 (by rw [← eks]; exact hmw) (by rw [← eks]; exact hm41) (by have h9 := oc_74E; have z0 : (0 : Int32).toInt = 0 := (by decide); rw [z0] at h9; rw [hv_ls_0 (op := w_72.toInt) (by omega)] at h9; exact h9)).trans (by rw [← eks])))), (fun z9 => ?o200)⟩⟩, hT, hM⟩ dX10_either_118
                case o193 => omega
                case o194 => omega
                case o195 => omega
                case o196 =>
                  exfalso
                  omega
                case o197 => omega
                case o198 => omega
                case o199 => omega
                case o200 =>
                  exfalso
                  omega
          · skip
            have hmw : hv_wd tf tp0.toInt.toNat w_23.toInt.toNat = r_20.toInt := hr_22W.symm
            have hml9 : w_23.toInt.toNat + 2 ≤ hv_we tf tp0.toInt.toNat w_23.toInt.toNat ∧ hv_we tf tp0.toInt.toNat w_23.toInt.toNat ≤ tp0.toInt.toNat := ?o201
            case o201 =>
              rcases (show r_20.toInt = 1 ∨ r_20.toInt = 0 by omega) with z | z
              (have h9 := hv_wd_1 (hmw.trans z); omega)
              (have h9 := hv_wd_0 (hmw.trans z); omega)
            refine lv_aload_n hx hb dX10_either_48 rfl (lv_at hl 3 rfl) ?_
            refine lv_iload_n hx hb dX10_either_49 rfl (lv_at hl 0 rfl) ?_
            refine hx_gov (hx_runV (As := [.int r_20]) (rest := []) ⟨hx, hb, hml, hown, hts⟩ hW (gx.S hM) tt_10 (T := TX10) (N := 98) rfl (t_X10_closesDown_v l dC dI dA L_18 h_19 H.size x r_20 hT (gx.S hM) qs (gqs.S hM) ((hM.o gx trivial rfl).2.trans f_x_15) qo (gqo.S hM) ((hM.o gx trivial rfl).2.trans f_x_17) ia6_qs nia6_qs ia6_qo nia6_qo fw6_x_16 ffw6_x_16 w_23 fw_23 fw6_x_14 ffw6_x_14 fw6_x_18 ffw6_x_18 (hx_QQ_next hq1 ?o202) o6 hO6) (cwV 1 hts (hx_gV kw_1515 kw_1512 kw_1514 kw_64 kw_103) rfl rfl rfl (by decide +kernel) ⟨Nat.le_of_ble_eq_true rfl, Nat.le_of_ble_eq_true rfl⟩) rfl hl.1 rfl (Nat.le_of_ble_eq_true rfl) dX10_either_50 ⟨Nat.le_of_ble_eq_true rfl, Nat.le_of_ble_eq_true rfl⟩) hW (fun L_99 h_100 H locs p_102 hW => ?_)
            case o202 => omega
            obtain ⟨⟨w_104, w_105, w_106, fw_104, fw_105, fw_106, hr_103⟩, hT, hs⟩ := p_102
            replace hT : hx_T T_tb L_99 h_100 := hT
            replace hs : hx_S T_tb [(10, 14), (10, 18), (55, 0)] L_18 h_19 L_99 h_100 := hs
            replace ffw6_x_16 := (hs.o (gx.S hM) trivial rfl).1.trans ffw6_x_16
            replace ffw6_x_9 := (hs.o (gx.S hM) trivial rfl).1.trans ffw6_x_9
            replace fw_23 := (hs.o (gx.S hM) trivial rfl).1.trans fw_23
            replace fw_24 := (hs.o (gx.S hM) trivial rfl).1.trans fw_24
            replace nia6_qo : h_100.2.1 qo = ia6_qo := (funext fun j => (hs.a (gqo.S hM) rfl j).1).trans nia6_qo
            replace hM := hM.tr (hs.mono ?o203)
            case o203 => decide
            have fw_104 : h_100.2.1 x 14 = w_104 := fw_104
            have bw_104 := hT.gi (gx.S hM) tt_10 (k := 14) rfl
            rw [fw_104] at bw_104
            have bw_104 : 0 ≤ w_104.toInt ∧ w_104.toInt ≤ 128 := bw_104
            have fw_105 : h_100.2.1 x 18 = w_105 := fw_105
            have bw_105 := hT.gi (gx.S hM) tt_10 (k := 18) rfl
            rw [fw_105] at bw_105
            have bw_105 : 0 ≤ w_105.toInt ∧ w_105.toInt ≤ 128 := bw_105
            have fw_106 : h_100.2.1 qs = w_106 := fw_106
            obtain ⟨oc_107, oc_107O, oc_107E⟩ := hr_103.2.2
            have hqb := hx_QQ_b hr_103.1
            refine lv_aload_n hx hb dX10_either_53 rfl (lv_at hl 3 rfl) ?_
            refine hk_getr hx hb hts hC_10 hown hW (gx.S hM) tt_10 17 ?o204 rfl kw_1160 ⟨rfl, rfl, rfl⟩ ((hM.o gx trivial rfl).2.trans f_x_17) dX10_either_54 ?_
            case o204 => decide
            refine lv_aload_n hx hb dX10_either_57 rfl (lv_at hl 3 rfl) ?_
            refine hk_geti hx hb hts hC_10 hown hW (gx.S hM) tt_10 18 ?o205 rfl kw_1161 ⟨rfl, rfl, rfl⟩ fw_105 dX10_either_58 ?_
            case o205 => decide
            refine lv_iload_n hx hb dX10_either_61 rfl (lv_at hl 0 rfl) ?_
            have nia6_qoO := nia6_qo
            refine hx_iast hx hb hW hT (hx_S.rf (M := [(56, 0)])) (gqo.S hM) tt_56 rfl ⟨?o206, ?o207⟩ rfl ⟨?o208, ?o209⟩ (List.mem_singleton.mpr rfl) dX10_either_62 (fun H locs h_108 eh_108 hW hT hs => ?_)
            case o206 => omega
            case o207 => omega
            case o208 => omega
            case o209 => omega
            replace ffw6_x_16 := (hs.o (gx.S hM) trivial rfl).1.trans ffw6_x_16
            replace ffw6_x_9 := (hs.o (gx.S hM) trivial rfl).1.trans ffw6_x_9
            replace fw_23 := (hs.o (gx.S hM) trivial rfl).1.trans fw_23
            replace fw_24 := (hs.o (gx.S hM) trivial rfl).1.trans fw_24
            replace fw_104 := (hs.o (gx.S hM) trivial rfl).1.trans fw_104
            replace fw_105 := (hs.o (gx.S hM) trivial rfl).1.trans fw_105
            replace fw_106 : h_108.2.1 qs = w_106 := (funext fun j => (hs.a (gqs.S hM) rfl j).1).trans fw_106
            replace hM := hM.tr (hs.mono ?o210)
            case o210 => decide
            obtain ⟨fa_109, dfa_109⟩ : ∃ g : Nat → Int32, g = hx_up ia6_qo w_105.toNatClampNeg r_20 := ⟨_, rfl⟩
            have nfa_109 : h_108.2.1 qo = fa_109 := ?o211
            case o211 =>
              rw [eh_108, dfa_109, ← nia6_qoO]
              exact hx_pi_fun _ _ _ _
            refine lv_aload_n hx hb dX10_either_63 rfl (lv_at hl 3 rfl) ?_
            refine lv_dup hx hb dX10_either_64 rfl ?_
            refine hk_geti hx hb hts hC_10 hown hW (gx.S hM) tt_10 18 ?o212 rfl kw_1161 ⟨rfl, rfl, rfl⟩ fw_105 dX10_either_65 ?_
            case o212 => decide
            refine lv_iconst (v := 1) hx hb dX10_either_68 ?o213 ?_
            case o213 => decide
            refine lv_iadd hx hb dX10_either_69 ?_
            have rg_110 := i32_r w_105
            refine lv_topi (fun x_111 ex_111 => ?_)
            have zx_111 : x_111.toInt = w_105.toInt + 1 := ?o214
            case o214 =>
              rw [ex_111]
              refine i32_add rfl ?o215 ?o216 ?o217
              case o215 => decide
              case o216 => omega
              case o217 => omega
            refine hx_puti hx hb hts hC_10 hown hW hT (hx_S.rf (M := [(10, 18)])) (gx.S hM) tt_10 18 ?o218 rfl kw_1161 ⟨rfl, rfl, rfl⟩ rfl (x := x_111) ⟨?o219, ?o220⟩ rfl rfl rfl (List.mem_singleton.mpr rfl) dX10_either_70 (fun H locs h_112 eh_112 hW hT hs => ?_)
            case o218 => decide
            case o219 => omega
            case o220 => omega
            replace ffw6_x_16 := (hs.o (gx.S hM) trivial rfl).1.trans ffw6_x_16
            replace ffw6_x_9 := (hs.o (gx.S hM) trivial rfl).1.trans ffw6_x_9
            replace fw_23 := (hs.o (gx.S hM) trivial rfl).1.trans fw_23
            replace fw_24 := (hs.o (gx.S hM) trivial rfl).1.trans fw_24
            replace fw_104 := (hs.o (gx.S hM) trivial rfl).1.trans fw_104
            replace fw_106 : h_112.2.1 qs = w_106 := (funext fun j => (hs.a (gqs.S hM) rfl j).1).trans fw_106
            replace nfa_109 : h_112.2.1 qo = fa_109 := (funext fun j => (hs.a (gqo.S hM) rfl j).1).trans nfa_109
            replace hM := hM.tr (hs.mono ?o221)
            case o221 => decide
            have f_113 : h_112.2.1 x 18 = x_111 := ?o222
            case o222 =>
              rw [eh_112]
              exact hx_pi_at _ _ _ _
            refine lv_aload_n hx hb dX10_either_73 rfl (lv_at hl 3 rfl) ?_
            refine lv_dup hx hb dX10_either_74 rfl ?_
            refine hk_geti hx hb hts hC_10 hown hW (gx.S hM) tt_10 8 ?o223 rfl kw_1151 ⟨rfl, rfl, rfl⟩ fw_23 dX10_either_75 ?_
            case o223 => decide
            refine lv_aload_n hx hb dX10_either_78 rfl (lv_at hl 3 rfl) ?_
            refine hk_geti hx hb hts hC_10 hown hW (gx.S hM) tt_10 11 ?o224 rfl kw_1154 ⟨rfl, rfl, rfl⟩ fw_24 dX10_either_79 ?_
            case o224 => decide
            refine lv_iadd hx hb dX10_either_82 ?_
            have rg_114 := i32_r w_23
            have rg_115 := i32_r w_24
            refine lv_topi (fun x_116 ex_116 => ?_)
            have zx_116 : x_116.toInt = w_23.toInt + w_24.toInt := ?o225
            case o225 =>
              rw [ex_116]
              refine i32_add rfl rfl ?o226 ?o227
              case o226 => omega
              case o227 => omega
            refine hx_puti hx hb hts hC_10 hown hW hT (hx_S.rf (M := [(10, 8)])) (gx.S hM) tt_10 8 ?o228 rfl kw_1151 ⟨rfl, rfl, rfl⟩ rfl (x := x_116) ⟨?o229, ?o230⟩ rfl rfl rfl (List.mem_singleton.mpr rfl) dX10_either_83 (fun H locs h_117 eh_117 hW hT hs => ?_)
            case o228 => decide
            case o229 => omega
            case o230 => omega
            replace ffw6_x_16 := (hs.o (gx.S hM) trivial rfl).1.trans ffw6_x_16
            replace ffw6_x_9 := (hs.o (gx.S hM) trivial rfl).1.trans ffw6_x_9
            replace fw_24 := (hs.o (gx.S hM) trivial rfl).1.trans fw_24
            replace fw_104 := (hs.o (gx.S hM) trivial rfl).1.trans fw_104
            replace f_113 := (hs.o (gx.S hM) trivial rfl).1.trans f_113
            replace fw_106 : h_117.2.1 qs = w_106 := (funext fun j => (hs.a (gqs.S hM) rfl j).1).trans fw_106
            replace nfa_109 : h_117.2.1 qo = fa_109 := (funext fun j => (hs.a (gqo.S hM) rfl j).1).trans nfa_109
            replace hM := hM.tr (hs.mono ?o231)
            case o231 => decide
            have f_118 : h_117.2.1 x 8 = x_116 := ?o232
            case o232 =>
              rw [eh_117]
              exact hx_pi_at _ _ _ _
            refine lv_iconst (v := 1) hx hb dX10_either_86 ?o233 ?_
            case o233 => decide
            refine lv_istore_n (lv' := [(1, .int (1 : Int32)), (3, .int r_20), (2, .int r_13), (0, .ref x)]) hx hb dX10_either_87 rfl hl ?o234 rfl (fun ls hl => ?_)
            case o234 => decide
            refine lv_goto (tgt := 176) hx hb dX10_either_88 ?o235 ?_
            case o235 => decide
            refine lv_goto (tgt := 6) hx hb dX10_either_176 ?o236 ?_
            case o236 => decide
            have zk_1 : (1 : Int32).toInt = 1 := ?o237
            case o237 => decide
            refine ih6 (1 : Int32) fw6_x_16 w_104 x_111 x_116 fw6_x_9 w_106 fa_109 _ _ L_99 h_117 ?o238 ?o239 ?o240 ?o241 ?o242 ?o243 ?o244 ?o245 ?o246 ?o247 (i32_r _).1 (i32_r _).2 ?o248 (hx_QQ_bE (hx_QQ_join hr_103.1 ?o249 ?o250 ?o251 (hx_cl ?o252) ?o253 dfa_109) ?o254) ⟨oc_107, oc_107O, hmE.trans ((hv_RN_a (by rw [← eks]; exact hmw) ?o255 oc_107E).trans (by rw [← eks, show hv_we tf tp0.toInt.toNat w_23.toInt.toNat = x_116.toInt.toNat by omega, show decide ((1 : Int32).toInt = 1) = true from (by decide), hv_ls_p (n := w_105.toInt.toNat) (z := r_20.toInt) rfl (by omega) rfl dfa_109] <;> rfl))⟩ ?o256 ?o257 ls ?o258 hW hT hM ffw6_x_16 fw_104 f_113 f_118 ffw6_x_9 fw_106 nfa_109 (lv_sub hl [0, 3] rfl)
            case o238 => decide
            case o239 => decide
            case o240 => omega
            case o241 => omega
            case o242 => omega
            case o243 => omega
            case o244 => omega
            case o245 => omega
            case o246 => omega
            case o247 => omega
            case o248 => omega
            case o249 => omega
            case o250 => omega
            case o251 => omega
            case o252 => omega
            case o253 => omega
            case o254 => decide
            case o255 => omega
            case o256 => omega
            case o257 => omega
            case o258 => omega
      · skip
        have hE6t := hE6; rw [show decide (iv6_1.toInt = 1) = true from decide_eq_true (by omega)] at hE6t
        refine lv_aload_n hx hb dX10_either_10 rfl (lv_at hl 1 rfl) ?_
        refine hx_goi (hx_runV (As := []) (rest := []) ⟨hx, hb, hml, hown, hts⟩ hW (gx.S hM) tt_10 (T := TX10) (N := 98) rfl (t_X10_begins_v l dC dI dA hL1 hl1 H.size x hT (gx.S hM) qs (gqs.S hM) ((hM.o gx trivial rfl).2.trans f_x_15) qo (gqo.S hM) ((hM.o gx trivial rfl).2.trans f_x_17) qt (gqt.S hM) ((hM.o gx trivial rfl).2.trans f_x_6) qw (gqw.S hM) ((hM.o gx trivial rfl).2.trans f_x_19) ia6_qs nia6_qs ia6_qo nia6_qo tf (hx_afS hM gqt rfl af_qt) wf (hx_afS hM gqw rfl af_qw) fw6_x_16 ffw6_x_16 fw6_x_8 ffw6_x_8 fw6_x_14 ffw6_x_14 fw6_x_18 ffw6_x_18 tp0 ((hM.o gx trivial rfl).1.trans f_x_7) fw6_x_9 ffw6_x_9 (hx_QQ_bE vi6_1 ?o259) hwd o6 hO6 ?o260 ?o261) (cwV 0 hts (hx_gV kw_1492 kw_1489 kw_1491 kw_59 kw_103) rfl rfl rfl (by decide +kernel) ⟨Nat.le_of_ble_eq_true rfl, Nat.le_of_ble_eq_true rfl⟩) rfl hl.1 rfl (Nat.le_of_ble_eq_true rfl) dX10_either_11 ⟨Nat.le_of_ble_eq_true rfl, Nat.le_of_ble_eq_true rfl⟩) hW (fun r_121 L_119 h_120 H locs p_122 hW => ?_)
        case o259 => omega
        case o260 => omega
        case o261 => omega
        obtain ⟨⟨w_124, w_125, w_126, w_127, w_128, w_129, w_130, fw_124, fw_125, fw_126, fw_127, fw_128, fw_129, fw_130, hr_123⟩, hT, hs⟩ := p_122
        replace hT : hx_T T_tb L_119 h_120 := hT
        replace hs : hx_S T_tb [(10, 8), (10, 9), (10, 10), (10, 11), (10, 14), (10, 16), (10, 18), (55, 0), (56, 0)] hL1 hl1 L_119 h_120 := hs
        replace hM := hM.tr (hs.mono ?o262)
        case o262 => decide
        have fw_124 : h_120.2.1 x 16 = w_124 := fw_124
        have bw_124 := hT.gi (gx.S hM) tt_10 (k := 16) rfl
        rw [fw_124] at bw_124
        have bw_124 : 0 ≤ w_124.toInt ∧ w_124.toInt ≤ 20 := bw_124
        have fw_125 : h_120.2.1 x 8 = w_125 := fw_125
        have bw_125 := hT.gi (gx.S hM) tt_10 (k := 8) rfl
        rw [fw_125] at bw_125
        have bw_125 : 0 ≤ w_125.toInt ∧ w_125.toInt ≤ 402 := bw_125
        have fw_126 : h_120.2.1 x 14 = w_126 := fw_126
        have bw_126 := hT.gi (gx.S hM) tt_10 (k := 14) rfl
        rw [fw_126] at bw_126
        have bw_126 : 0 ≤ w_126.toInt ∧ w_126.toInt ≤ 128 := bw_126
        have fw_127 : h_120.2.1 x 18 = w_127 := fw_127
        have bw_127 := hT.gi (gx.S hM) tt_10 (k := 18) rfl
        rw [fw_127] at bw_127
        have bw_127 : 0 ≤ w_127.toInt ∧ w_127.toInt ≤ 128 := bw_127
        have fw_128 : h_120.2.1 x 9 = w_128 := fw_128
        have bw_128 := hT.gi (gx.S hM) tt_10 (k := 9) rfl
        rw [fw_128] at bw_128
        have bw_128 : -2147483648 ≤ w_128.toInt ∧ w_128.toInt ≤ 2147483647 := bw_128
        have fw_129 : h_120.2.1 qs = w_129 := fw_129
        have fw_130 : h_120.2.1 qo = w_130 := fw_130
        refine hb_if_ne (zx := r_121.toInt) (tgt := 19) hx hb rfl dX10_either_14 ?o263 (fun c_131 => ?_) (fun c_131 => ?_)
        case o263 => decide
        · skip
          refine lv_iload_n hx hb dX10_either_19 rfl (lv_at hl 0 rfl) ?_
          refine hb_if_eq (zx := iv6_1.toInt) (tgt := 27) hx hb rfl dX10_either_20 ?o264 (fun c_132 => ?o265) (fun c_132 => ?_)
          case o264 => decide
          case o265 =>
            exfalso
            omega
          obtain ⟨hbF, hbp, hbt, ob, hbO, hbE⟩ := hv_BG_1 hr_123.2.2.2.1 (by omega)
          have hbn := hr_123.2.2.2.2 ?o266
          case o266 => omega
          refine lv_aload_n hx hb dX10_either_23 rfl (lv_at hl 1 rfl) ?_
          refine hx_gov (hx_runV (As := []) (rest := []) ⟨hx, hb, hml, hown, hts⟩ hW (gx.S hM) tt_10 (T := TX10) (N := 98) rfl (t_X10_closesNots_v l dC dI dA L_119 h_120 H.size x hT (gx.S hM) qs (gqs.S hM) ((hM.o gx trivial rfl).2.trans f_x_15) qo (gqo.S hM) ((hM.o gx trivial rfl).2.trans f_x_17) w_129 fw_129 w_130 fw_130 w_124 fw_124 w_125 fw_125 w_126 fw_126 w_127 fw_127 (hr_123.2.2.1 ?o267) ob hbO) (cwV 0 hts (hx_gV kw_1511 kw_1508 kw_1510 kw_63 kw_103) rfl rfl rfl (by decide +kernel) ⟨Nat.le_of_ble_eq_true rfl, Nat.le_of_ble_eq_true rfl⟩) rfl hl.1 rfl (Nat.le_of_ble_eq_true rfl) dX10_either_24 ⟨Nat.le_of_ble_eq_true rfl, Nat.le_of_ble_eq_true rfl⟩) hW (fun L_133 h_134 H locs p_136 hW => ?_)
          case o267 => omega
          obtain ⟨⟨w_138, w_139, w_140, fw_138, fw_139, fw_140, hr_137⟩, hT, hs⟩ := p_136
          replace hT : hx_T T_tb L_133 h_134 := hT
          replace hs : hx_S T_tb [(10, 14), (10, 18), (55, 0)] L_119 h_120 L_133 h_134 := hs
          replace fw_124 := (hs.o (gx.S hM) trivial rfl).1.trans fw_124
          replace fw_125 := (hs.o (gx.S hM) trivial rfl).1.trans fw_125
          replace fw_128 := (hs.o (gx.S hM) trivial rfl).1.trans fw_128
          replace fw_130 : h_134.2.1 qo = w_130 := (funext fun j => (hs.a (gqo.S hM) rfl j).1).trans fw_130
          replace hM := hM.tr (hs.mono ?o268)
          case o268 => decide
          have fw_138 : h_134.2.1 x 14 = w_138 := fw_138
          have bw_138 := hT.gi (gx.S hM) tt_10 (k := 14) rfl
          rw [fw_138] at bw_138
          have bw_138 : 0 ≤ w_138.toInt ∧ w_138.toInt ≤ 128 := bw_138
          have fw_139 : h_134.2.1 x 18 = w_139 := fw_139
          have bw_139 := hT.gi (gx.S hM) tt_10 (k := 18) rfl
          rw [fw_139] at bw_139
          have bw_139 : 0 ≤ w_139.toInt ∧ w_139.toInt ≤ 128 := bw_139
          have fw_140 : h_134.2.1 qs = w_140 := fw_140
          obtain ⟨oc_141, oc_141O, oc_141E⟩ := hr_137.2
          have hq1 : hx_QQ 1 w_124.toInt w_125.toInt w_138.toInt w_139.toInt w_140 w_130 := hr_137.1
          have hmE : hv_RN tf tp0.toInt.toNat true nx0.toInt.toNat 0 [] ([]) = hv_RN tf tp0.toInt.toNat false w_125.toInt.toNat w_124.toInt.toNat oc_141 (hv_ls w_130 w_139.toInt.toNat) := ?o269
          case o269 => rw [hE6t, hbE, oc_141E]
          refine lv_iconst (v := 0) hx hb dX10_either_27 ?o270 ?_
          case o270 => decide
          refine lv_istore_n (lv' := [(1, .int (0 : Int32)), (0, .ref x)]) hx hb dX10_either_28 rfl hl ?o271 rfl (fun ls hl => ?_)
          case o271 => decide
          refine lv_aload_n hx hb dX10_either_29 rfl (lv_at hl 1 rfl) ?_
          refine hx_goi (hx_runV (As := []) (rest := []) ⟨hx, hb, hml, hown, hts⟩ hW (gx.S hM) tt_10 (T := TX10) (N := 98) rfl (t_X10_see_v l dC dI dA L_133 h_134 H.size x hT (gx.S hM) qt (gqt.S hM) ((hM.o gx trivial rfl).2.trans f_x_6) tf (hx_afS hM gqt rfl af_qt) w_125 fw_125 tp0 ((hM.o gx trivial rfl).1.trans f_x_7) ?o272) (cwV 0 hts (hx_gV kw_1468 kw_1465 kw_1467 kw_53 kw_103) rfl rfl rfl (by decide +kernel) ⟨Nat.le_of_ble_eq_true rfl, Nat.le_of_ble_eq_true rfl⟩) rfl hl.1 rfl (Nat.le_of_ble_eq_true rfl) dX10_either_30 ⟨Nat.le_of_ble_eq_true rfl, Nat.le_of_ble_eq_true rfl⟩) hW (fun r_144 L_142 h_143 H locs p_145 hW => ?_)
          case o272 => omega
          obtain ⟨⟨w_147, fw_147, hr_146⟩, hT, hs⟩ := p_145
          replace hT : hx_T T_tb L_142 h_143 := hT
          replace hs : hx_S T_tb [(10, 8)] L_133 h_134 L_142 h_143 := hs
          replace fw_124 := (hs.o (gx.S hM) trivial rfl).1.trans fw_124
          replace fw_128 := (hs.o (gx.S hM) trivial rfl).1.trans fw_128
          replace fw_138 := (hs.o (gx.S hM) trivial rfl).1.trans fw_138
          replace fw_139 := (hs.o (gx.S hM) trivial rfl).1.trans fw_139
          replace fw_130 : h_143.2.1 qo = w_130 := (funext fun j => (hs.a (gqo.S hM) rfl j).1).trans fw_130
          replace fw_140 : h_143.2.1 qs = w_140 := (funext fun j => (hs.a (gqs.S hM) rfl j).1).trans fw_140
          replace hM := hM.tr (hs.mono ?o273)
          case o273 => decide
          have fw_147 : h_143.2.1 x 8 = w_147 := fw_147
          have bw_147 := hT.gi (gx.S hM) tt_10 (k := 8) rfl
          rw [fw_147] at bw_147
          have bw_147 : 0 ≤ w_147.toInt ∧ w_147.toInt ≤ 402 := bw_147
          have ek_148 : w_147.toInt.toNat = hv_sk tf tp0.toInt.toNat w_125.toInt.toNat := ?o274
          case o274 => omega
          have hr_146S := hr_146.2.2.2.1
          refine lv_istore_n (lv' := [(2, .int r_144), (1, .int (0 : Int32)), (0, .ref x)]) hx hb dX10_either_33 rfl hl ?o275 rfl (fun ls hl => ?_)
          case o275 => decide
          refine lv_aload_n hx hb dX10_either_34 rfl (lv_at hl 2 rfl) ?_
          refine hx_goi (hx_runV (As := []) (rest := []) ⟨hx, hb, hml, hown, hts⟩ hW (gx.S hM) tt_10 (T := TX10) (N := 98) rfl (t_X10_wordHere_v l dC dI dA L_142 h_143 H.size x hT (gx.S hM) qt (gqt.S hM) ((hM.o gx trivial rfl).2.trans f_x_6) qw (gqw.S hM) ((hM.o gx trivial rfl).2.trans f_x_19) tf (hx_afS hM gqt rfl af_qt) wf (hx_afS hM gqw rfl af_qw) w_147 fw_147 tp0 ((hM.o gx trivial rfl).1.trans f_x_7) hwd ?o276) (cwV 0 hts (hx_gV kw_1476 kw_1473 kw_1475 kw_55 kw_103) rfl rfl rfl (by decide +kernel) ⟨Nat.le_of_ble_eq_true rfl, Nat.le_of_ble_eq_true rfl⟩) rfl hl.1 rfl (Nat.le_of_ble_eq_true rfl) dX10_either_35 ⟨Nat.le_of_ble_eq_true rfl, Nat.le_of_ble_eq_true rfl⟩) hW (fun r_151 L_149 h_150 H locs p_152 hW => ?_)
          case o276 => omega
          obtain ⟨⟨w_154, w_155, fw_154, fw_155, hr_153⟩, hT, hs⟩ := p_152
          replace hT : hx_T T_tb L_149 h_150 := hT
          replace hs : hx_S T_tb [(10, 8), (10, 11)] L_142 h_143 L_149 h_150 := hs
          replace fw_124 := (hs.o (gx.S hM) trivial rfl).1.trans fw_124
          replace fw_128 := (hs.o (gx.S hM) trivial rfl).1.trans fw_128
          replace fw_138 := (hs.o (gx.S hM) trivial rfl).1.trans fw_138
          replace fw_139 := (hs.o (gx.S hM) trivial rfl).1.trans fw_139
          replace fw_130 : h_150.2.1 qo = w_130 := (funext fun j => (hs.a (gqo.S hM) rfl j).1).trans fw_130
          replace fw_140 : h_150.2.1 qs = w_140 := (funext fun j => (hs.a (gqs.S hM) rfl j).1).trans fw_140
          replace hM := hM.tr (hs.mono ?o277)
          case o277 => decide
          have fw_154 : h_150.2.1 x 8 = w_154 := fw_154
          have bw_154 := hT.gi (gx.S hM) tt_10 (k := 8) rfl
          rw [fw_154] at bw_154
          have bw_154 : 0 ≤ w_154.toInt ∧ w_154.toInt ≤ 402 := bw_154
          have fw_155 : h_150.2.1 x 11 = w_155 := fw_155
          have bw_155 := hT.gi (gx.S hM) tt_10 (k := 11) rfl
          rw [fw_155] at bw_155
          have bw_155 : 0 ≤ w_155.toInt ∧ w_155.toInt ≤ 400 := bw_155
          have ek_156 : w_154.toInt.toNat = hv_sk tf tp0.toInt.toNat w_147.toInt.toNat := ?o278
          case o278 => omega
          have hr_153W : r_151.toInt = hv_wd tf tp0.toInt.toNat w_154.toInt.toNat := ?o279
          case o279 =>
            rw [ek_156]
            exact hr_153.2.2.2.2.1
          have hr_153E : ((hv_we tf tp0.toInt.toNat w_154.toInt.toNat : Nat) : Int) = w_154.toInt + w_155.toInt := ?o280
          case o280 =>
            rw [ek_156]
            exact hr_153.2.2.2.1.symm
          refine lv_istore_n (lv' := [(3, .int r_151), (2, .int r_144), (1, .int (0 : Int32)), (0, .ref x)]) hx hb dX10_either_38 rfl hl ?o281 rfl (fun ls hl => ?_)
          case o281 => decide
          have e12 : w_154.toInt.toNat = w_147.toInt.toNat := ?o282
          case o282 =>
            rw [ek_156, ek_148]
            exact hv_sk_id
          have eks : w_154.toInt.toNat = hv_sk tf tp0.toInt.toNat w_125.toInt.toNat := ?o283
          case o283 => rw [e12, ek_148]
          refine lv_iload_n hx hb dX10_either_39 rfl (lv_at hl 0 rfl) ?_
          refine lv_iconst (v := 1) hx hb dX10_either_40 ?o284 ?_
          case o284 => decide
          refine hb_icmp_eq (zx := r_151.toInt) (zy := 1) (tgt := 48) hx hb rfl ?o285 dX10_either_41 ?o286 (fun c_157 => ?_) (fun c_157 => ?_)
          case o285 => decide
          case o286 => decide
          · skip
            have hmw : hv_wd tf tp0.toInt.toNat w_154.toInt.toNat = r_151.toInt := hr_153W.symm
            have hml9 : w_154.toInt.toNat + 2 ≤ hv_we tf tp0.toInt.toNat w_154.toInt.toNat ∧ hv_we tf tp0.toInt.toNat w_154.toInt.toNat ≤ tp0.toInt.toNat := ?o287
            case o287 =>
              rcases (show r_151.toInt = 1 ∨ r_151.toInt = 0 by omega) with z | z
              (have h9 := hv_wd_1 (hmw.trans z); omega)
              (have h9 := hv_wd_0 (hmw.trans z); omega)
            refine lv_aload_n hx hb dX10_either_48 rfl (lv_at hl 3 rfl) ?_
            refine lv_iload_n hx hb dX10_either_49 rfl (lv_at hl 0 rfl) ?_
            refine hx_gov (hx_runV (As := [.int r_151]) (rest := []) ⟨hx, hb, hml, hown, hts⟩ hW (gx.S hM) tt_10 (T := TX10) (N := 98) rfl (t_X10_closesDown_v l dC dI dA L_149 h_150 H.size x r_151 hT (gx.S hM) qs (gqs.S hM) ((hM.o gx trivial rfl).2.trans f_x_15) qo (gqo.S hM) ((hM.o gx trivial rfl).2.trans f_x_17) w_140 fw_140 w_130 fw_130 w_124 fw_124 w_154 fw_154 w_138 fw_138 w_139 fw_139 (hx_QQ_next hq1 ?o288) oc_141 oc_141O) (cwV 1 hts (hx_gV kw_1515 kw_1512 kw_1514 kw_64 kw_103) rfl rfl rfl (by decide +kernel) ⟨Nat.le_of_ble_eq_true rfl, Nat.le_of_ble_eq_true rfl⟩) rfl hl.1 rfl (Nat.le_of_ble_eq_true rfl) dX10_either_50 ⟨Nat.le_of_ble_eq_true rfl, Nat.le_of_ble_eq_true rfl⟩) hW (fun L_158 h_159 H locs p_161 hW => ?_)
            case o288 => omega
            obtain ⟨⟨w_163, w_164, w_165, fw_163, fw_164, fw_165, hr_162⟩, hT, hs⟩ := p_161
            replace hT : hx_T T_tb L_158 h_159 := hT
            replace hs : hx_S T_tb [(10, 14), (10, 18), (55, 0)] L_149 h_150 L_158 h_159 := hs
            replace fw_124 := (hs.o (gx.S hM) trivial rfl).1.trans fw_124
            replace fw_128 := (hs.o (gx.S hM) trivial rfl).1.trans fw_128
            replace fw_154 := (hs.o (gx.S hM) trivial rfl).1.trans fw_154
            replace fw_155 := (hs.o (gx.S hM) trivial rfl).1.trans fw_155
            replace fw_130 : h_159.2.1 qo = w_130 := (funext fun j => (hs.a (gqo.S hM) rfl j).1).trans fw_130
            replace hM := hM.tr (hs.mono ?o289)
            case o289 => decide
            have fw_163 : h_159.2.1 x 14 = w_163 := fw_163
            have bw_163 := hT.gi (gx.S hM) tt_10 (k := 14) rfl
            rw [fw_163] at bw_163
            have bw_163 : 0 ≤ w_163.toInt ∧ w_163.toInt ≤ 128 := bw_163
            have fw_164 : h_159.2.1 x 18 = w_164 := fw_164
            have bw_164 := hT.gi (gx.S hM) tt_10 (k := 18) rfl
            rw [fw_164] at bw_164
            have bw_164 : 0 ≤ w_164.toInt ∧ w_164.toInt ≤ 128 := bw_164
            have fw_165 : h_159.2.1 qs = w_165 := fw_165
            obtain ⟨oc_166, oc_166O, oc_166E⟩ := hr_162.2.2
            have hqb := hx_QQ_b hr_162.1
            refine lv_aload_n hx hb dX10_either_53 rfl (lv_at hl 3 rfl) ?_
            refine hk_getr hx hb hts hC_10 hown hW (gx.S hM) tt_10 17 ?o290 rfl kw_1160 ⟨rfl, rfl, rfl⟩ ((hM.o gx trivial rfl).2.trans f_x_17) dX10_either_54 ?_
            case o290 => decide
            refine lv_aload_n hx hb dX10_either_57 rfl (lv_at hl 3 rfl) ?_
            refine hk_geti hx hb hts hC_10 hown hW (gx.S hM) tt_10 18 ?o291 rfl kw_1161 ⟨rfl, rfl, rfl⟩ fw_164 dX10_either_58 ?_
            case o291 => decide
            refine lv_iload_n hx hb dX10_either_61 rfl (lv_at hl 0 rfl) ?_
            have fw_130O := fw_130
            refine hx_iast hx hb hW hT (hx_S.rf (M := [(56, 0)])) (gqo.S hM) tt_56 rfl ⟨?o292, ?o293⟩ rfl ⟨?o294, ?o295⟩ (List.mem_singleton.mpr rfl) dX10_either_62 (fun H locs h_167 eh_167 hW hT hs => ?_)
            case o292 => omega
            case o293 => omega
            case o294 => omega
            case o295 => omega
            replace fw_124 := (hs.o (gx.S hM) trivial rfl).1.trans fw_124
            replace fw_128 := (hs.o (gx.S hM) trivial rfl).1.trans fw_128
            replace fw_154 := (hs.o (gx.S hM) trivial rfl).1.trans fw_154
            replace fw_155 := (hs.o (gx.S hM) trivial rfl).1.trans fw_155
            replace fw_163 := (hs.o (gx.S hM) trivial rfl).1.trans fw_163
            replace fw_164 := (hs.o (gx.S hM) trivial rfl).1.trans fw_164
            replace fw_165 : h_167.2.1 qs = w_165 := (funext fun j => (hs.a (gqs.S hM) rfl j).1).trans fw_165
            replace hM := hM.tr (hs.mono ?o296)
            case o296 => decide
            obtain ⟨fa_168, dfa_168⟩ : ∃ g : Nat → Int32, g = hx_up w_130 w_164.toNatClampNeg r_151 := ⟨_, rfl⟩
            have nfa_168 : h_167.2.1 qo = fa_168 := ?o297
            case o297 =>
              rw [eh_167, dfa_168, ← fw_130O]
              exact hx_pi_fun _ _ _ _
            refine lv_aload_n hx hb dX10_either_63 rfl (lv_at hl 3 rfl) ?_
            refine lv_dup hx hb dX10_either_64 rfl ?_
            refine hk_geti hx hb hts hC_10 hown hW (gx.S hM) tt_10 18 ?o298 rfl kw_1161 ⟨rfl, rfl, rfl⟩ fw_164 dX10_either_65 ?_
            case o298 => decide
            refine lv_iconst (v := 1) hx hb dX10_either_68 ?o299 ?_
            case o299 => decide
            refine lv_iadd hx hb dX10_either_69 ?_
            have rg_169 := i32_r w_164
            refine lv_topi (fun x_170 ex_170 => ?_)
            have zx_170 : x_170.toInt = w_164.toInt + 1 := ?o300
            case o300 =>
              rw [ex_170]
              refine i32_add rfl ?o301 ?o302 ?o303
              case o301 => decide
              case o302 => omega
              case o303 => omega
            refine hx_puti hx hb hts hC_10 hown hW hT (hx_S.rf (M := [(10, 18)])) (gx.S hM) tt_10 18 ?o304 rfl kw_1161 ⟨rfl, rfl, rfl⟩ rfl (x := x_170) ⟨?o305, ?o306⟩ rfl rfl rfl (List.mem_singleton.mpr rfl) dX10_either_70 (fun H locs h_171 eh_171 hW hT hs => ?_)
            case o304 => decide
            case o305 => omega
            case o306 => omega
            replace fw_124 := (hs.o (gx.S hM) trivial rfl).1.trans fw_124
            replace fw_128 := (hs.o (gx.S hM) trivial rfl).1.trans fw_128
            replace fw_154 := (hs.o (gx.S hM) trivial rfl).1.trans fw_154
            replace fw_155 := (hs.o (gx.S hM) trivial rfl).1.trans fw_155
            replace fw_163 := (hs.o (gx.S hM) trivial rfl).1.trans fw_163
            replace fw_165 : h_171.2.1 qs = w_165 := (funext fun j => (hs.a (gqs.S hM) rfl j).1).trans fw_165
            replace nfa_168 : h_171.2.1 qo = fa_168 := (funext fun j => (hs.a (gqo.S hM) rfl j).1).trans nfa_168
            replace hM := hM.tr (hs.mono ?o307)
            case o307 => decide
            have f_172 : h_171.2.1 x 18 = x_170 := ?o308
            case o308 =>
              rw [eh_171]
              exact hx_pi_at _ _ _ _
            refine lv_aload_n hx hb dX10_either_73 rfl (lv_at hl 3 rfl) ?_
            refine lv_dup hx hb dX10_either_74 rfl ?_
            refine hk_geti hx hb hts hC_10 hown hW (gx.S hM) tt_10 8 ?o309 rfl kw_1151 ⟨rfl, rfl, rfl⟩ fw_154 dX10_either_75 ?_
            case o309 => decide
            refine lv_aload_n hx hb dX10_either_78 rfl (lv_at hl 3 rfl) ?_
            refine hk_geti hx hb hts hC_10 hown hW (gx.S hM) tt_10 11 ?o310 rfl kw_1154 ⟨rfl, rfl, rfl⟩ fw_155 dX10_either_79 ?_
            case o310 => decide
            refine lv_iadd hx hb dX10_either_82 ?_
            have rg_173 := i32_r w_154
            have rg_174 := i32_r w_155
            refine lv_topi (fun x_175 ex_175 => ?_)
            have zx_175 : x_175.toInt = w_154.toInt + w_155.toInt := ?o311
            case o311 =>
              rw [ex_175]
              refine i32_add rfl rfl ?o312 ?o313
              case o312 => omega
              case o313 => omega
            refine hx_puti hx hb hts hC_10 hown hW hT (hx_S.rf (M := [(10, 8)])) (gx.S hM) tt_10 8 ?o314 rfl kw_1151 ⟨rfl, rfl, rfl⟩ rfl (x := x_175) ⟨?o315, ?o316⟩ rfl rfl rfl (List.mem_singleton.mpr rfl) dX10_either_83 (fun H locs h_176 eh_176 hW hT hs => ?_)
            case o314 => decide
            case o315 => omega
            case o316 => omega
            replace fw_124 := (hs.o (gx.S hM) trivial rfl).1.trans fw_124
            replace fw_128 := (hs.o (gx.S hM) trivial rfl).1.trans fw_128
            replace fw_155 := (hs.o (gx.S hM) trivial rfl).1.trans fw_155
            replace fw_163 := (hs.o (gx.S hM) trivial rfl).1.trans fw_163
            replace f_172 := (hs.o (gx.S hM) trivial rfl).1.trans f_172
            replace fw_165 : h_176.2.1 qs = w_165 := (funext fun j => (hs.a (gqs.S hM) rfl j).1).trans fw_165
            replace nfa_168 : h_176.2.1 qo = fa_168 := (funext fun j => (hs.a (gqo.S hM) rfl j).1).trans nfa_168
            replace hM := hM.tr (hs.mono ?o317)
            case o317 => decide
            have f_177 : h_176.2.1 x 8 = x_175 := ?o318
            case o318 =>
              rw [eh_176]
              exact hx_pi_at _ _ _ _
            refine lv_iconst (v := 1) hx hb dX10_either_86 ?o319 ?_
            case o319 => decide
            refine lv_istore_n (lv' := [(1, .int (1 : Int32)), (3, .int r_151), (2, .int r_144), (0, .ref x)]) hx hb dX10_either_87 rfl hl ?o320 rfl (fun ls hl => ?_)
            case o320 => decide
            refine lv_goto (tgt := 176) hx hb dX10_either_88 ?o321 ?_
            case o321 => decide
            refine lv_goto (tgt := 6) hx hb dX10_either_176 ?o322 ?_
            case o322 => decide
            have zk_1 : (1 : Int32).toInt = 1 := ?o323
            case o323 => decide
            refine ih6 (1 : Int32) w_124 w_163 x_170 x_175 w_128 w_165 fa_168 _ _ L_158 h_176 ?o324 ?o325 ?o326 ?o327 ?o328 ?o329 ?o330 ?o331 ?o332 ?o333 (i32_r _).1 (i32_r _).2 ?o334 (hx_QQ_bE (hx_QQ_join hr_162.1 ?o335 ?o336 ?o337 (hx_cl ?o338) ?o339 dfa_168) ?o340) ⟨oc_166, oc_166O, hmE.trans ((hv_RN_a (by rw [← eks]; exact hmw) ?o341 oc_166E).trans (by rw [← eks, show hv_we tf tp0.toInt.toNat w_154.toInt.toNat = x_175.toInt.toNat by omega, show decide ((1 : Int32).toInt = 1) = true from (by decide), hv_ls_p (n := w_164.toInt.toNat) (z := r_151.toInt) rfl (by omega) rfl dfa_168] <;> rfl))⟩ ?o342 ?o343 ls ?o344 hW hT hM fw_124 fw_163 f_172 f_177 fw_128 fw_165 nfa_168 (lv_sub hl [0, 3] rfl)
            case o324 => decide
            case o325 => decide
            case o326 => omega
            case o327 => omega
            case o328 => omega
            case o329 => omega
            case o330 => omega
            case o331 => omega
            case o332 => omega
            case o333 => omega
            case o334 => omega
            case o335 => omega
            case o336 => omega
            case o337 => omega
            case o338 => omega
            case o339 => omega
            case o340 => decide
            case o341 => omega
            case o342 => omega
            case o343 => omega
            case o344 => omega
          · skip
            refine lv_iload_n hx hb dX10_either_44 rfl (lv_at hl 0 rfl) ?_
            refine hb_if_ne (zx := r_151.toInt) (tgt := 91) hx hb rfl dX10_either_45 ?o345 (fun c_178 => ?_) (fun c_178 => ?_)
            case o345 => decide
            · skip
              have hmw : hv_wd tf tp0.toInt.toNat w_154.toInt.toNat ≠ 1 ∧ hv_wd tf tp0.toInt.toNat w_154.toInt.toNat ≠ 0 := ⟨?o346, ?o347⟩
              case o346 => omega
              case o347 => omega
              refine lv_iload_n hx hb dX10_either_91 rfl (lv_at hl 1 rfl) ?_
              refine lv_bipush (v := 41) hx hb dX10_either_92 ?o348 ?_
              case o348 => decide
              refine hb_icmp_ne (zx := r_144.toInt) (zy := 41) (tgt := 146) hx hb rfl ?o349 dX10_either_94 ?o350 (fun c_179 => ?_) (fun c_179 => ?_)
              case o349 => decide
              case o350 => decide
              · skip
                have hm41 : ¬ (w_154.toInt.toNat < tp0.toInt.toNat ∧ (tf w_154.toInt.toNat).toInt = 41) := ?o351
                case o351 =>
                  rw [e12]
                  refine fun z9 => hv_SE_n (k := 41) hr_146S ?o352 ⟨?o353, z9.2, ?o354⟩
                  case o352 => omega
                  case o353 => omega
                  case o354 => decide
                refine lv_aload_n hx hb dX10_either_146 rfl (lv_at hl 3 rfl) ?_
                refine lv_iconst (v := 0) hx hb dX10_either_147 ?o355 ?_
                case o355 => decide
                have zc_0 : (0 : Int32).toInt = 0 := ?o356
                case o356 => decide
                refine hx_gov (hx_runV (As := [.int (0 : Int32)]) (rest := []) ⟨hx, hb, hml, hown, hts⟩ hW (gx.S hM) tt_10 (T := TX10) (N := 98) rfl (t_X10_closesDown_v l dC dI dA L_149 h_150 H.size x (0 : Int32) hT (gx.S hM) qs (gqs.S hM) ((hM.o gx trivial rfl).2.trans f_x_15) qo (gqo.S hM) ((hM.o gx trivial rfl).2.trans f_x_17) w_140 fw_140 w_130 fw_130 w_124 fw_124 w_154 fw_154 w_138 fw_138 w_139 fw_139 (hx_QQ_next hq1 ?o357) oc_141 oc_141O) (cwV 1 hts (hx_gV kw_1515 kw_1512 kw_1514 kw_64 kw_103) rfl rfl rfl (by decide +kernel) ⟨Nat.le_of_ble_eq_true rfl, Nat.le_of_ble_eq_true rfl⟩) rfl hl.1 rfl (Nat.le_of_ble_eq_true rfl) dX10_either_148 ⟨Nat.le_of_ble_eq_true rfl, Nat.le_of_ble_eq_true rfl⟩) hW (fun L_180 h_181 H locs p_183 hW => ?_)
                case o357 => omega
                obtain ⟨⟨w_185, w_186, w_187, fw_185, fw_186, fw_187, hr_184⟩, hT, hs⟩ := p_183
                replace hT : hx_T T_tb L_180 h_181 := hT
                replace hs : hx_S T_tb [(10, 14), (10, 18), (55, 0)] L_149 h_150 L_180 h_181 := hs
                replace fw_124 := (hs.o (gx.S hM) trivial rfl).1.trans fw_124
                replace fw_128 := (hs.o (gx.S hM) trivial rfl).1.trans fw_128
                replace fw_154 := (hs.o (gx.S hM) trivial rfl).1.trans fw_154
                replace fw_155 := (hs.o (gx.S hM) trivial rfl).1.trans fw_155
                replace fw_130 : h_181.2.1 qo = w_130 := (funext fun j => (hs.a (gqo.S hM) rfl j).1).trans fw_130
                replace hM := hM.tr (hs.mono ?o358)
                case o358 => decide
                have fw_185 : h_181.2.1 x 14 = w_185 := fw_185
                have bw_185 := hT.gi (gx.S hM) tt_10 (k := 14) rfl
                rw [fw_185] at bw_185
                have bw_185 : 0 ≤ w_185.toInt ∧ w_185.toInt ≤ 128 := bw_185
                have fw_186 : h_181.2.1 x 18 = w_186 := fw_186
                have bw_186 := hT.gi (gx.S hM) tt_10 (k := 18) rfl
                rw [fw_186] at bw_186
                have bw_186 : 0 ≤ w_186.toInt ∧ w_186.toInt ≤ 128 := bw_186
                have fw_187 : h_181.2.1 qs = w_187 := fw_187
                obtain ⟨oc_188, oc_188O, oc_188E⟩ := hr_184.2.2
                refine lv_aload_n hx hb dX10_either_151 rfl (lv_at hl 3 rfl) ?_
                refine hk_geti hx hb hts hC_10 hown hW (gx.S hM) tt_10 18 ?o359 rfl kw_1161 ⟨rfl, rfl, rfl⟩ fw_186 dX10_either_152 ?_
                case o359 => decide
                refine hb_if_eq (zx := w_186.toInt) (tgt := 170) hx hb rfl dX10_either_155 ?o360 (fun c_189 => ?_) (fun c_189 => ?_)
                case o360 => decide
                · skip
                  refine lv_iconst (v := 1) hx hb dX10_either_170 ?o361 ?_
                  case o361 => decide
                  refine lv_goto (tgt := 175) hx hb dX10_either_171 ?o362 ?_
                  case o362 => decide
                  refine hx_retz hx hb hr rfl hlk hW ⟨⟨w_154, w_185, w_124, w_128, w_187, fw_154, fw_185, fw_124, fw_128, fw_187, ⟨?o363, ?o364, fun _ => hx_QQ_endE hr_184.1 ?o365, (hv_K_t (x := w_154.toInt.toNat) (y := w_124.toInt.toNat) ?o366 ?o367 ?o368 ?o369 oc_188O (hmE.trans ((hv_RN_e0 (by rw [← eks]; exact hmw) (by rw [← eks]; exact hm41) (by have h9 := oc_188E; have z0 : (0 : Int32).toInt = 0 := (by decide); rw [z0] at h9; rw [hv_ls_0 (op := w_186.toInt) (by omega)] at h9; exact h9)).trans (by rw [← eks])))), fun _ => ?o370⟩⟩, hT, hM⟩ dX10_either_175
                  case o363 => decide
                  case o364 => omega
                  case o365 => omega
                  case o366 => decide
                  case o367 => omega
                  case o368 => omega
                  case o369 => omega
                  case o370 => omega
                · skip
                  refine lv_aload_n hx hb dX10_either_158 rfl (lv_at hl 3 rfl) ?_
                  refine lv_iconst (v := 0) hx hb dX10_either_159 ?o371 ?_
                  case o371 => decide
                  refine lv_aload_n hx hb dX10_either_160 rfl (lv_at hl 3 rfl) ?_
                  refine hk_geti hx hb hts hC_10 hown hW (gx.S hM) tt_10 8 ?o372 rfl kw_1151 ⟨rfl, rfl, rfl⟩ fw_154 dX10_either_161 ?_
                  case o372 => decide
                  refine hx_goi (hx_runV (As := [.int (0 : Int32), .int w_154]) (rest := []) ⟨hx, hb, hml, hown, hts⟩ hW (gx.S hM) tt_10 (T := TX10) (N := 98) rfl (t_X10_fails_v l dC dI dA L_180 h_181 H.size x (0 : Int32) w_154 hT (gx.S hM) w_128 fw_128 ?o373 ?o374 ⟨?o375, ?o376⟩) (cwV 2 hts (hx_gV kw_1480 kw_1477 kw_1479 kw_56 kw_103) rfl rfl rfl (by decide +kernel) ⟨Nat.le_of_ble_eq_true rfl, Nat.le_of_ble_eq_true rfl⟩) rfl hl.1 rfl (Nat.le_of_ble_eq_true rfl) dX10_either_164 ⟨Nat.le_of_ble_eq_true rfl, Nat.le_of_ble_eq_true rfl⟩) hW (fun r_192 L_190 h_191 H locs p_193 hW => ?_)
                  case o373 => omega
                  case o374 => decide
                  case o375 => omega
                  case o376 => omega
                  obtain ⟨⟨w_195, fw_195, hr_194⟩, hT, hs⟩ := p_193
                  replace hT : hx_T T_tb L_190 h_191 := hT
                  replace hs : hx_S T_tb [(10, 9)] L_180 h_181 L_190 h_191 := hs
                  replace fw_124 := (hs.o (gx.S hM) trivial rfl).1.trans fw_124
                  replace fw_154 := (hs.o (gx.S hM) trivial rfl).1.trans fw_154
                  replace fw_155 := (hs.o (gx.S hM) trivial rfl).1.trans fw_155
                  replace fw_185 := (hs.o (gx.S hM) trivial rfl).1.trans fw_185
                  replace fw_186 := (hs.o (gx.S hM) trivial rfl).1.trans fw_186
                  replace fw_130 : h_191.2.1 qo = w_130 := (funext fun j => (hs.a (gqo.S hM) rfl j).1).trans fw_130
                  replace fw_187 : h_191.2.1 qs = w_187 := (funext fun j => (hs.a (gqs.S hM) rfl j).1).trans fw_187
                  replace hM := hM.tr (hs.mono ?o377)
                  case o377 => decide
                  have fw_195 : h_191.2.1 x 9 = w_195 := fw_195
                  have bw_195 := hT.gi (gx.S hM) tt_10 (k := 9) rfl
                  rw [fw_195] at bw_195
                  have bw_195 : -2147483648 ≤ w_195.toInt ∧ w_195.toInt ≤ 2147483647 := bw_195
                  refine hb_if_eq (zx := r_192.toInt) (tgt := 174) hx hb rfl dX10_either_167 ?o378 (fun c_196 => ?_) (fun c_196 => ?o379)
                  case o378 => decide
                  case o379 =>
                    exfalso
                    omega
                  refine lv_iconst (v := 0) hx hb dX10_either_174 ?o380 ?_
                  case o380 => decide
                  refine hx_retz hx hb hr rfl hlk hW ⟨⟨w_154, w_185, w_124, w_195, w_187, fw_154, fw_185, fw_124, fw_195, fw_187, ⟨?o381, ?o382, (fun z9 => absurd z9 ?o383), (hv_K_f (x := 1 + 8 * w_154.toInt.toNat) ?o384 ?o385 ?o386 (hmE.trans ((hv_RN_e1 (by rw [← eks]; exact hmw) (by rw [← eks]; exact hm41) (by have h9 := oc_188E; have z0 : (0 : Int32).toInt = 0 := (by decide); rw [z0] at h9; exact h9) (hv_ls_n ?o387)).trans (by rw [← eks])))), (fun z9 => absurd z9 ?o388)⟩⟩, hT, hM⟩ dX10_either_175
                  case o381 => omega
                  case o382 => omega
                  case o383 => decide
                  case o384 => omega
                  case o385 => omega
                  case o386 => omega
                  case o387 => omega
                  case o388 => decide
              · skip
                have hm41 : w_154.toInt.toNat < tp0.toInt.toNat ∧ (tf w_154.toInt.toNat).toInt = 41 := ?o389
                case o389 =>
                  rw [e12]
                  have h8 := hv_SE_y (k := 41) hr_146S ?o390 ?o391 ?o392
                  case o390 => decide
                  case o391 => decide
                  case o392 => omega
                  refine ⟨?o393, h8.2⟩
                  case o393 => omega
                refine lv_aload_n hx hb dX10_either_97 rfl (lv_at hl 3 rfl) ?_
                refine lv_iconst (v := 0) hx hb dX10_either_98 ?o394 ?_
                case o394 => decide
                have zc_0 : (0 : Int32).toInt = 0 := ?o395
                case o395 => decide
                refine hx_gov (hx_runV (As := [.int (0 : Int32)]) (rest := []) ⟨hx, hb, hml, hown, hts⟩ hW (gx.S hM) tt_10 (T := TX10) (N := 98) rfl (t_X10_closesDown_v l dC dI dA L_149 h_150 H.size x (0 : Int32) hT (gx.S hM) qs (gqs.S hM) ((hM.o gx trivial rfl).2.trans f_x_15) qo (gqo.S hM) ((hM.o gx trivial rfl).2.trans f_x_17) w_140 fw_140 w_130 fw_130 w_124 fw_124 w_154 fw_154 w_138 fw_138 w_139 fw_139 (hx_QQ_next hq1 ?o396) oc_141 oc_141O) (cwV 1 hts (hx_gV kw_1515 kw_1512 kw_1514 kw_64 kw_103) rfl rfl rfl (by decide +kernel) ⟨Nat.le_of_ble_eq_true rfl, Nat.le_of_ble_eq_true rfl⟩) rfl hl.1 rfl (Nat.le_of_ble_eq_true rfl) dX10_either_99 ⟨Nat.le_of_ble_eq_true rfl, Nat.le_of_ble_eq_true rfl⟩) hW (fun L_197 h_198 H locs p_200 hW => ?_)
                case o396 => omega
                obtain ⟨⟨w_202, w_203, w_204, fw_202, fw_203, fw_204, hr_201⟩, hT, hs⟩ := p_200
                replace hT : hx_T T_tb L_197 h_198 := hT
                replace hs : hx_S T_tb [(10, 14), (10, 18), (55, 0)] L_149 h_150 L_197 h_198 := hs
                replace fw_124 := (hs.o (gx.S hM) trivial rfl).1.trans fw_124
                replace fw_128 := (hs.o (gx.S hM) trivial rfl).1.trans fw_128
                replace fw_154 := (hs.o (gx.S hM) trivial rfl).1.trans fw_154
                replace fw_155 := (hs.o (gx.S hM) trivial rfl).1.trans fw_155
                replace fw_130 : h_198.2.1 qo = w_130 := (funext fun j => (hs.a (gqo.S hM) rfl j).1).trans fw_130
                replace hM := hM.tr (hs.mono ?o397)
                case o397 => decide
                have fw_202 : h_198.2.1 x 14 = w_202 := fw_202
                have bw_202 := hT.gi (gx.S hM) tt_10 (k := 14) rfl
                rw [fw_202] at bw_202
                have bw_202 : 0 ≤ w_202.toInt ∧ w_202.toInt ≤ 128 := bw_202
                have fw_203 : h_198.2.1 x 18 = w_203 := fw_203
                have bw_203 := hT.gi (gx.S hM) tt_10 (k := 18) rfl
                rw [fw_203] at bw_203
                have bw_203 : 0 ≤ w_203.toInt ∧ w_203.toInt ≤ 128 := bw_203
                have fw_204 : h_198.2.1 qs = w_204 := fw_204
                obtain ⟨oc_205, oc_205O, oc_205E⟩ := hr_201.2.2
                refine lv_aload_n hx hb dX10_either_102 rfl (lv_at hl 3 rfl) ?_
                refine hk_geti hx hb hts hC_10 hown hW (gx.S hM) tt_10 18 ?o398 rfl kw_1161 ⟨rfl, rfl, rfl⟩ fw_203 dX10_either_103 ?_
                case o398 => decide
                refine hb_if_ne (zx := w_203.toInt) (tgt := 119) hx hb rfl dX10_either_106 ?o399 (fun c_206 => ?_) (fun c_206 => ?_)
                case o399 => decide
                · skip
                  refine lv_aload_n hx hb dX10_either_119 rfl (lv_at hl 3 rfl) ?_
                  refine lv_dup hx hb dX10_either_120 rfl ?_
                  refine hk_geti hx hb hts hC_10 hown hW (gx.S hM) tt_10 18 ?o400 rfl kw_1161 ⟨rfl, rfl, rfl⟩ fw_203 dX10_either_121 ?_
                  case o400 => decide
                  refine lv_iconst (v := 1) hx hb dX10_either_124 ?o401 ?_
                  case o401 => decide
                  refine lv_isub hx hb dX10_either_125 ?_
                  have rg_207 := i32_r w_203
                  refine lv_topi (fun x_208 ex_208 => ?_)
                  have zx_208 : x_208.toInt = w_203.toInt - 1 := ?o402
                  case o402 =>
                    rw [ex_208]
                    refine i32_sub rfl ?o403 ?o404 ?o405
                    case o403 => decide
                    case o404 => omega
                    case o405 => omega
                  refine hx_puti hx hb hts hC_10 hown hW hT (hx_S.rf (M := [(10, 18)])) (gx.S hM) tt_10 18 ?o406 rfl kw_1161 ⟨rfl, rfl, rfl⟩ rfl (x := x_208) ⟨?o407, ?o408⟩ rfl rfl rfl (List.mem_singleton.mpr rfl) dX10_either_126 (fun H locs h_209 eh_209 hW hT hs => ?_)
                  case o406 => decide
                  case o407 => omega
                  case o408 => omega
                  replace fw_124 := (hs.o (gx.S hM) trivial rfl).1.trans fw_124
                  replace fw_128 := (hs.o (gx.S hM) trivial rfl).1.trans fw_128
                  replace fw_154 := (hs.o (gx.S hM) trivial rfl).1.trans fw_154
                  replace fw_155 := (hs.o (gx.S hM) trivial rfl).1.trans fw_155
                  replace fw_202 := (hs.o (gx.S hM) trivial rfl).1.trans fw_202
                  replace fw_130 : h_209.2.1 qo = w_130 := (funext fun j => (hs.a (gqo.S hM) rfl j).1).trans fw_130
                  replace fw_204 : h_209.2.1 qs = w_204 := (funext fun j => (hs.a (gqs.S hM) rfl j).1).trans fw_204
                  replace hM := hM.tr (hs.mono ?o409)
                  case o409 => decide
                  have f_210 : h_209.2.1 x 18 = x_208 := ?o410
                  case o410 =>
                    rw [eh_209]
                    exact hx_pi_at _ _ _ _
                  refine lv_aload_n hx hb dX10_either_129 rfl (lv_at hl 3 rfl) ?_
                  refine lv_dup hx hb dX10_either_130 rfl ?_
                  refine hk_geti hx hb hts hC_10 hown hW (gx.S hM) tt_10 8 ?o411 rfl kw_1151 ⟨rfl, rfl, rfl⟩ fw_154 dX10_either_131 ?_
                  case o411 => decide
                  refine lv_iconst (v := 1) hx hb dX10_either_134 ?o412 ?_
                  case o412 => decide
                  refine lv_iadd hx hb dX10_either_135 ?_
                  have rg_211 := i32_r w_154
                  refine lv_topi (fun x_212 ex_212 => ?_)
                  have zx_212 : x_212.toInt = w_154.toInt + 1 := ?o413
                  case o413 =>
                    rw [ex_212]
                    refine i32_add rfl ?o414 ?o415 ?o416
                    case o414 => decide
                    case o415 => omega
                    case o416 => omega
                  refine hx_puti hx hb hts hC_10 hown hW hT (hx_S.rf (M := [(10, 8)])) (gx.S hM) tt_10 8 ?o417 rfl kw_1151 ⟨rfl, rfl, rfl⟩ rfl (x := x_212) ⟨?o418, ?o419⟩ rfl rfl rfl (List.mem_singleton.mpr rfl) dX10_either_136 (fun H locs h_213 eh_213 hW hT hs => ?_)
                  case o417 => decide
                  case o418 => omega
                  case o419 => omega
                  replace fw_124 := (hs.o (gx.S hM) trivial rfl).1.trans fw_124
                  replace fw_128 := (hs.o (gx.S hM) trivial rfl).1.trans fw_128
                  replace fw_155 := (hs.o (gx.S hM) trivial rfl).1.trans fw_155
                  replace fw_202 := (hs.o (gx.S hM) trivial rfl).1.trans fw_202
                  replace f_210 := (hs.o (gx.S hM) trivial rfl).1.trans f_210
                  replace fw_130 : h_213.2.1 qo = w_130 := (funext fun j => (hs.a (gqo.S hM) rfl j).1).trans fw_130
                  replace fw_204 : h_213.2.1 qs = w_204 := (funext fun j => (hs.a (gqs.S hM) rfl j).1).trans fw_204
                  replace hM := hM.tr (hs.mono ?o420)
                  case o420 => decide
                  have f_214 : h_213.2.1 x 8 = x_212 := ?o421
                  case o421 =>
                    rw [eh_213]
                    exact hx_pi_at _ _ _ _
                  have hcd : hv_cd 0 oc_141 (hv_ls w_130 w_139.toInt.toNat) = (oc_205, (w_130 (w_203.toInt.toNat - 1)).toInt :: hv_ls w_130 x_208.toInt.toNat) := ?o422
                  case o422 =>
                    have h9 := oc_205E
                    have z0 : (0 : Int32).toInt = 0 := ?o423
                    case o423 => decide
                    rw [z0] at h9
                    rw [h9, show w_203.toInt.toNat = x_208.toInt.toNat + 1 by omega, show x_208.toInt.toNat + 1 - 1 = x_208.toInt.toNat by omega]
                    rfl
                  refine lv_aload_n hx hb dX10_either_139 rfl (lv_at hl 3 rfl) ?_
                  refine hx_gov (hx_runV (As := []) (rest := []) ⟨hx, hb, hml, hown, hts⟩ hW (gx.S hM) tt_10 (T := TX10) (N := 98) rfl (t_X10_closesNots_v l dC dI dA L_197 h_213 H.size x hT (gx.S hM) qs (gqs.S hM) ((hM.o gx trivial rfl).2.trans f_x_15) qo (gqo.S hM) ((hM.o gx trivial rfl).2.trans f_x_17) w_204 fw_204 w_130 fw_130 w_124 fw_124 x_212 f_214 w_202 fw_202 x_208 f_210 (hx_QQ_shut hr_201.1 ?o424 (hx_QQ_t100 hr_201.1 ?o425 hr_201.2.1 ?o426) ?o427 ?o428) oc_205 oc_205O) (cwV 0 hts (hx_gV kw_1511 kw_1508 kw_1510 kw_63 kw_103) rfl rfl rfl (by decide +kernel) ⟨Nat.le_of_ble_eq_true rfl, Nat.le_of_ble_eq_true rfl⟩) rfl hl.1 rfl (Nat.le_of_ble_eq_true rfl) dX10_either_140 ⟨Nat.le_of_ble_eq_true rfl, Nat.le_of_ble_eq_true rfl⟩) hW (fun L_215 h_216 H locs p_218 hW => ?_)
                  case o424 => omega
                  case o425 => omega
                  case o426 => decide
                  case o427 => omega
                  case o428 => omega
                  obtain ⟨⟨w_220, w_221, w_222, fw_220, fw_221, fw_222, hr_219⟩, hT, hs⟩ := p_218
                  replace hT : hx_T T_tb L_215 h_216 := hT
                  replace hs : hx_S T_tb [(10, 14), (10, 18), (55, 0)] L_197 h_213 L_215 h_216 := hs
                  replace fw_124 := (hs.o (gx.S hM) trivial rfl).1.trans fw_124
                  replace fw_128 := (hs.o (gx.S hM) trivial rfl).1.trans fw_128
                  replace fw_155 := (hs.o (gx.S hM) trivial rfl).1.trans fw_155
                  replace f_214 := (hs.o (gx.S hM) trivial rfl).1.trans f_214
                  replace fw_130 : h_216.2.1 qo = w_130 := (funext fun j => (hs.a (gqo.S hM) rfl j).1).trans fw_130
                  replace hM := hM.tr (hs.mono ?o429)
                  case o429 => decide
                  have fw_220 : h_216.2.1 x 14 = w_220 := fw_220
                  have bw_220 := hT.gi (gx.S hM) tt_10 (k := 14) rfl
                  rw [fw_220] at bw_220
                  have bw_220 : 0 ≤ w_220.toInt ∧ w_220.toInt ≤ 128 := bw_220
                  have fw_221 : h_216.2.1 x 18 = w_221 := fw_221
                  have bw_221 := hT.gi (gx.S hM) tt_10 (k := 18) rfl
                  rw [fw_221] at bw_221
                  have bw_221 : 0 ≤ w_221.toInt ∧ w_221.toInt ≤ 128 := bw_221
                  have fw_222 : h_216.2.1 qs = w_222 := fw_222
                  obtain ⟨oc_223, oc_223O, oc_223E⟩ := hr_219.2
                  refine lv_goto (tgt := 176) hx hb dX10_either_143 ?o430 ?_
                  case o430 => decide
                  refine lv_goto (tgt := 6) hx hb dX10_either_176 ?o431 ?_
                  case o431 => decide
                  have zk_0 : (0 : Int32).toInt = 0 := ?o432
                  case o432 => decide
                  refine ih6 (0 : Int32) w_124 w_220 w_221 x_212 w_128 w_222 w_130 _ _ L_215 h_216 ?o433 ?o434 ?o435 ?o436 ?o437 ?o438 ?o439 ?o440 ?o441 ?o442 (i32_r _).1 (i32_r _).2 ?o443 (hx_QQ_bE hr_219.1 ?o444) ⟨oc_223, oc_223O, hmE.trans ((hv_RN_c1 (by rw [← eks]; exact hmw) (by rw [← eks]; exact hm41) hcd oc_223E).trans (by rw [← eks, show w_154.toInt.toNat + 1 = x_212.toInt.toNat by omega, show decide ((0 : Int32).toInt = 1) = false from (by decide)] <;> rfl))⟩ ?o445 ?o446 ls ?o447 hW hT hM fw_124 fw_220 fw_221 f_214 fw_128 fw_222 fw_130 (lv_sub hl [2, 3] rfl)
                  case o433 => decide
                  case o434 => decide
                  case o435 => omega
                  case o436 => omega
                  case o437 => omega
                  case o438 => omega
                  case o439 => omega
                  case o440 => omega
                  case o441 => omega
                  case o442 => omega
                  case o443 => omega
                  case o444 => decide
                  case o445 => omega
                  case o446 => omega
                  case o447 => omega
                · skip
                  refine lv_aload_n hx hb dX10_either_109 rfl (lv_at hl 3 rfl) ?_
                  refine lv_iconst (v := 0) hx hb dX10_either_110 ?o448 ?_
                  case o448 => decide
                  refine lv_aload_n hx hb dX10_either_111 rfl (lv_at hl 3 rfl) ?_
                  refine hk_geti hx hb hts hC_10 hown hW (gx.S hM) tt_10 8 ?o449 rfl kw_1151 ⟨rfl, rfl, rfl⟩ fw_154 dX10_either_112 ?_
                  case o449 => decide
                  refine hx_goi (hx_runV (As := [.int (0 : Int32), .int w_154]) (rest := []) ⟨hx, hb, hml, hown, hts⟩ hW (gx.S hM) tt_10 (T := TX10) (N := 98) rfl (t_X10_fails_v l dC dI dA L_197 h_198 H.size x (0 : Int32) w_154 hT (gx.S hM) w_128 fw_128 ?o450 ?o451 ⟨?o452, ?o453⟩) (cwV 2 hts (hx_gV kw_1480 kw_1477 kw_1479 kw_56 kw_103) rfl rfl rfl (by decide +kernel) ⟨Nat.le_of_ble_eq_true rfl, Nat.le_of_ble_eq_true rfl⟩) rfl hl.1 rfl (Nat.le_of_ble_eq_true rfl) dX10_either_115 ⟨Nat.le_of_ble_eq_true rfl, Nat.le_of_ble_eq_true rfl⟩) hW (fun r_226 L_224 h_225 H locs p_227 hW => ?_)
                  case o450 => omega
                  case o451 => decide
                  case o452 => omega
                  case o453 => omega
                  obtain ⟨⟨w_229, fw_229, hr_228⟩, hT, hs⟩ := p_227
                  replace hT : hx_T T_tb L_224 h_225 := hT
                  replace hs : hx_S T_tb [(10, 9)] L_197 h_198 L_224 h_225 := hs
                  replace fw_124 := (hs.o (gx.S hM) trivial rfl).1.trans fw_124
                  replace fw_154 := (hs.o (gx.S hM) trivial rfl).1.trans fw_154
                  replace fw_155 := (hs.o (gx.S hM) trivial rfl).1.trans fw_155
                  replace fw_202 := (hs.o (gx.S hM) trivial rfl).1.trans fw_202
                  replace fw_203 := (hs.o (gx.S hM) trivial rfl).1.trans fw_203
                  replace fw_130 : h_225.2.1 qo = w_130 := (funext fun j => (hs.a (gqo.S hM) rfl j).1).trans fw_130
                  replace fw_204 : h_225.2.1 qs = w_204 := (funext fun j => (hs.a (gqs.S hM) rfl j).1).trans fw_204
                  replace hM := hM.tr (hs.mono ?o454)
                  case o454 => decide
                  have fw_229 : h_225.2.1 x 9 = w_229 := fw_229
                  have bw_229 := hT.gi (gx.S hM) tt_10 (k := 9) rfl
                  rw [fw_229] at bw_229
                  have bw_229 : -2147483648 ≤ w_229.toInt ∧ w_229.toInt ≤ 2147483647 := bw_229
                  refine hx_retz hx hb hr (hx_nar01 ?o455) hlk hW ⟨⟨w_154, w_202, w_124, w_229, w_204, fw_154, fw_202, fw_124, fw_229, fw_204, ⟨?o456, ?o457, (fun z9 => ?o458), (hv_K_f (x := 1 + 8 * w_154.toInt.toNat) ?o459 ?o460 ?o461 (hmE.trans ((hv_RN_c0 (by rw [← eks]; exact hmw) (by rw [← eks]; exact hm41) (by have h9 := oc_205E; have z0 : (0 : Int32).toInt = 0 := (by decide); rw [z0] at h9; rw [hv_ls_0 (op := w_203.toInt) (by omega)] at h9; exact h9)).trans (by rw [← eks])))), (fun z9 => ?o462)⟩⟩, hT, hM⟩ dX10_either_118
                  case o455 => omega
                  case o456 => omega
                  case o457 => omega
                  case o458 =>
                    exfalso
                    omega
                  case o459 => omega
                  case o460 => omega
                  case o461 => omega
                  case o462 =>
                    exfalso
                    omega
            · skip
              have hmw : hv_wd tf tp0.toInt.toNat w_154.toInt.toNat = r_151.toInt := hr_153W.symm
              have hml9 : w_154.toInt.toNat + 2 ≤ hv_we tf tp0.toInt.toNat w_154.toInt.toNat ∧ hv_we tf tp0.toInt.toNat w_154.toInt.toNat ≤ tp0.toInt.toNat := ?o463
              case o463 =>
                rcases (show r_151.toInt = 1 ∨ r_151.toInt = 0 by omega) with z | z
                (have h9 := hv_wd_1 (hmw.trans z); omega)
                (have h9 := hv_wd_0 (hmw.trans z); omega)
              refine lv_aload_n hx hb dX10_either_48 rfl (lv_at hl 3 rfl) ?_
              refine lv_iload_n hx hb dX10_either_49 rfl (lv_at hl 0 rfl) ?_
              refine hx_gov (hx_runV (As := [.int r_151]) (rest := []) ⟨hx, hb, hml, hown, hts⟩ hW (gx.S hM) tt_10 (T := TX10) (N := 98) rfl (t_X10_closesDown_v l dC dI dA L_149 h_150 H.size x r_151 hT (gx.S hM) qs (gqs.S hM) ((hM.o gx trivial rfl).2.trans f_x_15) qo (gqo.S hM) ((hM.o gx trivial rfl).2.trans f_x_17) w_140 fw_140 w_130 fw_130 w_124 fw_124 w_154 fw_154 w_138 fw_138 w_139 fw_139 (hx_QQ_next hq1 ?o464) oc_141 oc_141O) (cwV 1 hts (hx_gV kw_1515 kw_1512 kw_1514 kw_64 kw_103) rfl rfl rfl (by decide +kernel) ⟨Nat.le_of_ble_eq_true rfl, Nat.le_of_ble_eq_true rfl⟩) rfl hl.1 rfl (Nat.le_of_ble_eq_true rfl) dX10_either_50 ⟨Nat.le_of_ble_eq_true rfl, Nat.le_of_ble_eq_true rfl⟩) hW (fun L_230 h_231 H locs p_233 hW => ?_)
              case o464 => omega
              obtain ⟨⟨w_235, w_236, w_237, fw_235, fw_236, fw_237, hr_234⟩, hT, hs⟩ := p_233
              replace hT : hx_T T_tb L_230 h_231 := hT
              replace hs : hx_S T_tb [(10, 14), (10, 18), (55, 0)] L_149 h_150 L_230 h_231 := hs
              replace fw_124 := (hs.o (gx.S hM) trivial rfl).1.trans fw_124
              replace fw_128 := (hs.o (gx.S hM) trivial rfl).1.trans fw_128
              replace fw_154 := (hs.o (gx.S hM) trivial rfl).1.trans fw_154
              replace fw_155 := (hs.o (gx.S hM) trivial rfl).1.trans fw_155
              replace fw_130 : h_231.2.1 qo = w_130 := (funext fun j => (hs.a (gqo.S hM) rfl j).1).trans fw_130
              replace hM := hM.tr (hs.mono ?o465)
              case o465 => decide
              have fw_235 : h_231.2.1 x 14 = w_235 := fw_235
              have bw_235 := hT.gi (gx.S hM) tt_10 (k := 14) rfl
              rw [fw_235] at bw_235
              have bw_235 : 0 ≤ w_235.toInt ∧ w_235.toInt ≤ 128 := bw_235
              have fw_236 : h_231.2.1 x 18 = w_236 := fw_236
              have bw_236 := hT.gi (gx.S hM) tt_10 (k := 18) rfl
              rw [fw_236] at bw_236
              have bw_236 : 0 ≤ w_236.toInt ∧ w_236.toInt ≤ 128 := bw_236
              have fw_237 : h_231.2.1 qs = w_237 := fw_237
              obtain ⟨oc_238, oc_238O, oc_238E⟩ := hr_234.2.2
              have hqb := hx_QQ_b hr_234.1
              refine lv_aload_n hx hb dX10_either_53 rfl (lv_at hl 3 rfl) ?_
              refine hk_getr hx hb hts hC_10 hown hW (gx.S hM) tt_10 17 ?o466 rfl kw_1160 ⟨rfl, rfl, rfl⟩ ((hM.o gx trivial rfl).2.trans f_x_17) dX10_either_54 ?_
              case o466 => decide
              refine lv_aload_n hx hb dX10_either_57 rfl (lv_at hl 3 rfl) ?_
              refine hk_geti hx hb hts hC_10 hown hW (gx.S hM) tt_10 18 ?o467 rfl kw_1161 ⟨rfl, rfl, rfl⟩ fw_236 dX10_either_58 ?_
              case o467 => decide
              refine lv_iload_n hx hb dX10_either_61 rfl (lv_at hl 0 rfl) ?_
              have fw_130O := fw_130
              refine hx_iast hx hb hW hT (hx_S.rf (M := [(56, 0)])) (gqo.S hM) tt_56 rfl ⟨?o468, ?o469⟩ rfl ⟨?o470, ?o471⟩ (List.mem_singleton.mpr rfl) dX10_either_62 (fun H locs h_239 eh_239 hW hT hs => ?_)
              case o468 => omega
              case o469 => omega
              case o470 => omega
              case o471 => omega
              replace fw_124 := (hs.o (gx.S hM) trivial rfl).1.trans fw_124
              replace fw_128 := (hs.o (gx.S hM) trivial rfl).1.trans fw_128
              replace fw_154 := (hs.o (gx.S hM) trivial rfl).1.trans fw_154
              replace fw_155 := (hs.o (gx.S hM) trivial rfl).1.trans fw_155
              replace fw_235 := (hs.o (gx.S hM) trivial rfl).1.trans fw_235
              replace fw_236 := (hs.o (gx.S hM) trivial rfl).1.trans fw_236
              replace fw_237 : h_239.2.1 qs = w_237 := (funext fun j => (hs.a (gqs.S hM) rfl j).1).trans fw_237
              replace hM := hM.tr (hs.mono ?o472)
              case o472 => decide
              obtain ⟨fa_240, dfa_240⟩ : ∃ g : Nat → Int32, g = hx_up w_130 w_236.toNatClampNeg r_151 := ⟨_, rfl⟩
              have nfa_240 : h_239.2.1 qo = fa_240 := ?o473
              case o473 =>
                rw [eh_239, dfa_240, ← fw_130O]
                exact hx_pi_fun _ _ _ _
              refine lv_aload_n hx hb dX10_either_63 rfl (lv_at hl 3 rfl) ?_
              refine lv_dup hx hb dX10_either_64 rfl ?_
              refine hk_geti hx hb hts hC_10 hown hW (gx.S hM) tt_10 18 ?o474 rfl kw_1161 ⟨rfl, rfl, rfl⟩ fw_236 dX10_either_65 ?_
              case o474 => decide
              refine lv_iconst (v := 1) hx hb dX10_either_68 ?o475 ?_
              case o475 => decide
              refine lv_iadd hx hb dX10_either_69 ?_
              have rg_241 := i32_r w_236
              refine lv_topi (fun x_242 ex_242 => ?_)
              have zx_242 : x_242.toInt = w_236.toInt + 1 := ?o476
              case o476 =>
                rw [ex_242]
                refine i32_add rfl ?o477 ?o478 ?o479
                case o477 => decide
                case o478 => omega
                case o479 => omega
              refine hx_puti hx hb hts hC_10 hown hW hT (hx_S.rf (M := [(10, 18)])) (gx.S hM) tt_10 18 ?o480 rfl kw_1161 ⟨rfl, rfl, rfl⟩ rfl (x := x_242) ⟨?o481, ?o482⟩ rfl rfl rfl (List.mem_singleton.mpr rfl) dX10_either_70 (fun H locs h_243 eh_243 hW hT hs => ?_)
              case o480 => decide
              case o481 => omega
              case o482 => omega
              replace fw_124 := (hs.o (gx.S hM) trivial rfl).1.trans fw_124
              replace fw_128 := (hs.o (gx.S hM) trivial rfl).1.trans fw_128
              replace fw_154 := (hs.o (gx.S hM) trivial rfl).1.trans fw_154
              replace fw_155 := (hs.o (gx.S hM) trivial rfl).1.trans fw_155
              replace fw_235 := (hs.o (gx.S hM) trivial rfl).1.trans fw_235
              replace fw_237 : h_243.2.1 qs = w_237 := (funext fun j => (hs.a (gqs.S hM) rfl j).1).trans fw_237
              replace nfa_240 : h_243.2.1 qo = fa_240 := (funext fun j => (hs.a (gqo.S hM) rfl j).1).trans nfa_240
              replace hM := hM.tr (hs.mono ?o483)
              case o483 => decide
              have f_244 : h_243.2.1 x 18 = x_242 := ?o484
              case o484 =>
                rw [eh_243]
                exact hx_pi_at _ _ _ _
              refine lv_aload_n hx hb dX10_either_73 rfl (lv_at hl 3 rfl) ?_
              refine lv_dup hx hb dX10_either_74 rfl ?_
              refine hk_geti hx hb hts hC_10 hown hW (gx.S hM) tt_10 8 ?o485 rfl kw_1151 ⟨rfl, rfl, rfl⟩ fw_154 dX10_either_75 ?_
              case o485 => decide
              refine lv_aload_n hx hb dX10_either_78 rfl (lv_at hl 3 rfl) ?_
              refine hk_geti hx hb hts hC_10 hown hW (gx.S hM) tt_10 11 ?o486 rfl kw_1154 ⟨rfl, rfl, rfl⟩ fw_155 dX10_either_79 ?_
              case o486 => decide
              refine lv_iadd hx hb dX10_either_82 ?_
              have rg_245 := i32_r w_154
              have rg_246 := i32_r w_155
              refine lv_topi (fun x_247 ex_247 => ?_)
              have zx_247 : x_247.toInt = w_154.toInt + w_155.toInt := ?o487
              case o487 =>
                rw [ex_247]
                refine i32_add rfl rfl ?o488 ?o489
                case o488 => omega
                case o489 => omega
              refine hx_puti hx hb hts hC_10 hown hW hT (hx_S.rf (M := [(10, 8)])) (gx.S hM) tt_10 8 ?o490 rfl kw_1151 ⟨rfl, rfl, rfl⟩ rfl (x := x_247) ⟨?o491, ?o492⟩ rfl rfl rfl (List.mem_singleton.mpr rfl) dX10_either_83 (fun H locs h_248 eh_248 hW hT hs => ?_)
              case o490 => decide
              case o491 => omega
              case o492 => omega
              replace fw_124 := (hs.o (gx.S hM) trivial rfl).1.trans fw_124
              replace fw_128 := (hs.o (gx.S hM) trivial rfl).1.trans fw_128
              replace fw_155 := (hs.o (gx.S hM) trivial rfl).1.trans fw_155
              replace fw_235 := (hs.o (gx.S hM) trivial rfl).1.trans fw_235
              replace f_244 := (hs.o (gx.S hM) trivial rfl).1.trans f_244
              replace fw_237 : h_248.2.1 qs = w_237 := (funext fun j => (hs.a (gqs.S hM) rfl j).1).trans fw_237
              replace nfa_240 : h_248.2.1 qo = fa_240 := (funext fun j => (hs.a (gqo.S hM) rfl j).1).trans nfa_240
              replace hM := hM.tr (hs.mono ?o493)
              case o493 => decide
              have f_249 : h_248.2.1 x 8 = x_247 := ?o494
              case o494 =>
                rw [eh_248]
                exact hx_pi_at _ _ _ _
              refine lv_iconst (v := 1) hx hb dX10_either_86 ?o495 ?_
              case o495 => decide
              refine lv_istore_n (lv' := [(1, .int (1 : Int32)), (3, .int r_151), (2, .int r_144), (0, .ref x)]) hx hb dX10_either_87 rfl hl ?o496 rfl (fun ls hl => ?_)
              case o496 => decide
              refine lv_goto (tgt := 176) hx hb dX10_either_88 ?o497 ?_
              case o497 => decide
              refine lv_goto (tgt := 6) hx hb dX10_either_176 ?o498 ?_
              case o498 => decide
              have zk_1 : (1 : Int32).toInt = 1 := ?o499
              case o499 => decide
              refine ih6 (1 : Int32) w_124 w_235 x_242 x_247 w_128 w_237 fa_240 _ _ L_230 h_248 ?o500 ?o501 ?o502 ?o503 ?o504 ?o505 ?o506 ?o507 ?o508 ?o509 (i32_r _).1 (i32_r _).2 ?o510 (hx_QQ_bE (hx_QQ_join hr_234.1 ?o511 ?o512 ?o513 (hx_cl ?o514) ?o515 dfa_240) ?o516) ⟨oc_238, oc_238O, hmE.trans ((hv_RN_a (by rw [← eks]; exact hmw) ?o517 oc_238E).trans (by rw [← eks, show hv_we tf tp0.toInt.toNat w_154.toInt.toNat = x_247.toInt.toNat by omega, show decide ((1 : Int32).toInt = 1) = true from (by decide), hv_ls_p (n := w_236.toInt.toNat) (z := r_151.toInt) rfl (by omega) rfl dfa_240] <;> rfl))⟩ ?o518 ?o519 ls ?o520 hW hT hM fw_124 fw_235 f_244 f_249 fw_128 fw_237 nfa_240 (lv_sub hl [0, 3] rfl)
              case o500 => decide
              case o501 => decide
              case o502 => omega
              case o503 => omega
              case o504 => omega
              case o505 => omega
              case o506 => omega
              case o507 => omega
              case o508 => omega
              case o509 => omega
              case o510 => omega
              case o511 => omega
              case o512 => omega
              case o513 => omega
              case o514 => omega
              case o515 => omega
              case o516 => decide
              case o517 => omega
              case o518 => omega
              case o519 => omega
              case o520 => omega
        · skip
          refine lv_iconst (v := 0) hx hb dX10_either_17 ?o521 ?_
          case o521 => decide
          refine hx_retz hx hb hr rfl hlk hW ⟨⟨w_125, w_126, w_124, w_128, w_129, fw_125, fw_126, fw_124, fw_128, fw_129, ⟨?o522, ?o523, fun z => absurd z ?o524, (have h8 := hv_BG_0 hr_123.2.2.2.1 ?o525; hv_K_f (x := w_128.toInt.toNat) ?o526 ?o527 ?o528 (hE6t.trans h8.2)), fun z => absurd z ?o529⟩⟩, hT, hM⟩ dX10_either_18
          case o522 => decide
          case o523 => omega
          case o524 => decide
          case o525 => omega
          case o526 => decide
          case o527 => omega
          case o528 => omega
          case o529 => decide
  have zk_1 : (1 : Int32).toInt = 1 := ?o530
  case o530 => decide
  refine loop6 403 (1 : Int32) w_7 w_6 w_8 nx0 ft0 sf of _ _ L_1 h_2 ?o531 ?o532 ?o533 ?o534 ?o535 ?o536 ?o537 ?o538 ?o539 ?o540 (i32_r _).1 (i32_r _).2 ?o541 (hx_QQ_startE rfl ?o542 ?o543 ?o544 ?o545) ⟨[], (by rw [show w_6.toInt.toNat = 0 by omega]; rfl), (by rw [hv_ls_0 (by omega), show w_7.toInt.toNat = 0 by omega, show decide ((1 : Int32).toInt = 1) = true from (by decide)])⟩ ?o546 ?o547 ls ?o548 hW hT hM fw_7 fw_6 fw_8 f_x_8 f_x_9 af_qs af_qo hl
  case o531 => decide
  case o532 => decide
  case o533 => omega
  case o534 => omega
  case o535 => omega
  case o536 => omega
  case o537 => omega
  case o538 => omega
  case o539 => omega
  case o540 => omega
  case o541 => omega
  case o542 => omega
  case o543 => omega
  case o544 => omega
  case o545 => omega
  case o546 => omega
  case o547 => omega
  case o548 => omega
end
