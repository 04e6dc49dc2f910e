section
set_option maxHeartbeats 4000000 in
set_option maxRecDepth 100000 in
theorem t_X8_isIn_2 (l : Launch) (dC : Nat → ClassId) (dI : Nat → Nat → Nat) (dA : Nat → ClassId) (L : List Nat) (h : hx_h) (sz : Nat) (i1 : Int32) (i2 : Int32) (hT : hx_T T_tb L h)  (hi1 : 0 ≤ i1.toInt ∧ i1.toInt ≤ 7) (hi2 : 0 ≤ i2.toInt ∧ i2.toInt ≤ 255) : Met l yX8_isIn (Cond.code yX8_isIn cX8_isIn 2 (some .boolean) :: hx_all) ({ frames := 0, cells := 0, slots := 0, locals := 0 }) (va_Pc [.int i1, .int i2] (hx_B T_tb (P_ty dA) (dC, dI) vwCl L h sz)) (va_Qi (fun (r : Int32) (u : List Nat × hx_h) => ((r.toInt = 1 ∧ hx_bt i2.toInt i1.toInt = true) ∨ (r.toInt = 0 ∧ hx_bt i2.toInt i1.toInt = false)) ∧ hx_T T_tb u.1 u.2 ∧ hx_S T_tb [] L h u.1 u.2) (hx_E T_tb (P_ty dA) (dC, dI) vwCl (hx_A L sz)) (hx_A L sz)) 0 0 (hx_A L sz) := by
  refine hx_met (lv := [(0, .int i1), (1, .int i2)]) (by decide +kernel) rfl (Nat.le_of_ble_eq_true rfl) rfl ?_
  intro p e s m below meth c hx hb hml hr hlk hts0 hown hin hsz hW ls hl
  have hts : ∀ w ∈ hx_all, w.before _ s = true := fun w hw => hts0 w (List.mem_cons_of_mem _ hw)
  have hown : s.vm.findClass "SmallCourt$Walk" = some m.cls := hown
  have hM : hx_S T_tb [] L h L h := hx_S.rf
  have hbits := hx_bits (L := i2) (K := i1) ?o0 ?o1 ?o2 ?o3
  case o0 => omega
  case o1 => omega
  case o2 => omega
  case o3 => omega
  refine lv_iload_n hx hb dX8_isIn_0 rfl (lv_at hl 1 rfl) ?_
  refine lv_iload_n hx hb dX8_isIn_1 rfl (lv_at hl 0 rfl) ?_
  refine lv_ishr hx hb dX8_isIn_2 ?_
  refine lv_topi (fun x_1 ex_1 => ?_)
  refine lv_iconst (v := 1) hx hb dX8_isIn_3 ?o4 ?_
  case o4 => decide
  refine lv_iand hx hb dX8_isIn_4 ?_
  refine lv_topi (fun x_2 ex_2 => ?_)
  have zx_2 : 0 ≤ x_2.toInt ∧ x_2.toInt ≤ 1 := ?o5
  case o5 =>
    rw [ex_2]
    refine hx_andR ?o6 ?o7
    case o6 => decide
    case o7 => decide
  refine lv_iconst (v := 1) hx hb dX8_isIn_5 ?o8 ?_
  case o8 => decide
  refine hb_icmp_ne (zx := x_2.toInt) (zy := 1) (tgt := 13) hx hb rfl ?o9 dX8_isIn_6 ?o10 (fun c_3 => ?_) (fun c_3 => ?_)
  case o9 => decide
  case o10 => decide
  · skip
    have hbf := hx_bit_no hbits.1 ex_1 ex_2 ?o11
    case o11 => omega
    refine lv_iconst (v := 0) hx hb dX8_isIn_13 ?o12 ?_
    case o12 => decide
    refine hx_retz hx hb hr rfl hlk hW ⟨(Or.inr ⟨?o13, hbf⟩), hT, hM⟩ dX8_isIn_14
    case o13 => decide
  · skip
    have hbt := hx_bit_yes hbits.1 ex_1 ex_2 ?o14
    case o14 => omega
    refine lv_iconst (v := 1) hx hb dX8_isIn_9 ?o15 ?_
    case o15 => decide
    refine lv_goto (tgt := 14) hx hb dX8_isIn_10 ?o16 ?_
    case o16 => decide
    refine hx_retz hx hb hr rfl hlk hW ⟨(Or.inl ⟨?o17, hbt⟩), hT, hM⟩ dX8_isIn_14
    case o17 => decide


set_option maxHeartbeats 4000000 in
set_option maxRecDepth 100000 in
theorem t_X8_between_2 (l : Launch) (dC : Nat → ClassId) (dI : Nat → Nat → Nat) (dA : Nat → ClassId) (L : List Nat) (h : hx_h) (sz : Nat) (v1 : Nat) (v2 : Nat) (hT : hx_T T_tb L h) (gv1 : hx_g L h v1 4) (gv2 : hx_g L h v2 4) (x1 : Int32) (f_v1_5 : h.2.1 v1 5 = x1) (y1 : Int32) (f_v1_6 : h.2.1 v1 6 = y1) (x2 : Int32) (f_v2_5 : h.2.1 v2 5 = x2) (y2 : Int32) (f_v2_6 : h.2.1 v2 6 = y2) (hb4 : (0 ≤ x1.toInt ∧ x1.toInt ≤ 99) ∧ (0 ≤ y1.toInt ∧ y1.toInt ≤ 99) ∧ (0 ≤ x2.toInt ∧ x2.toInt ≤ 99) ∧ (0 ≤ y2.toInt ∧ y2.toInt ≤ 99)) : Met l yX8_between (Cond.code yX8_between cX8_between 2 (some .int) :: hx_all) ({ frames := 1, cells := 0, slots := 0, locals := 21 }) (va_Pc [.ref v1, .ref v2] (hx_B T_tb (P_ty dA) (dC, dI) vwCl L h sz)) (va_Qi (fun (r : Int32) (u : List Nat × hx_h) => (r.toInt = hx_ab x1.toInt x2.toInt + hx_ab y1.toInt y2.toInt ∧ 0 ≤ r.toInt ∧ r.toInt ≤ 198) ∧ hx_T T_tb u.1 u.2 ∧ hx_S T_tb [] L h u.1 u.2) (hx_E T_tb (P_ty dA) (dC, dI) vwCl (hx_A L sz)) (hx_A L sz)) 0 0 (hx_A L sz) := by
  refine hx_met (lv := [(0, .ref v1), (1, .ref v2)]) (by decide +kernel) rfl (Nat.le_of_ble_eq_true rfl) rfl ?_
  intro p e s m below meth c hx hb hml hr hlk hts0 hown hin hsz hW ls hl
  have hts : ∀ w ∈ hx_all, w.before _ s = true := fun w hw => hts0 w (List.mem_cons_of_mem _ hw)
  have hown : s.vm.findClass "SmallCourt$Walk" = some m.cls := hown
  have hM : hx_S T_tb [] L h L h := hx_S.rf
  have b_x1 := hT.gi gv1 tt_4 (k := 5) rfl
  rw [f_v1_5] at b_x1
  have b_x1 : -2147483648 ≤ x1.toInt ∧ x1.toInt ≤ 2147483647 := b_x1
  have b_y1 := hT.gi gv1 tt_4 (k := 6) rfl
  rw [f_v1_6] at b_y1
  have b_y1 : -2147483648 ≤ y1.toInt ∧ y1.toInt ≤ 2147483647 := b_y1
  have b_x2 := hT.gi gv2 tt_4 (k := 5) rfl
  rw [f_v2_5] at b_x2
  have b_x2 : -2147483648 ≤ x2.toInt ∧ x2.toInt ≤ 2147483647 := b_x2
  have b_y2 := hT.gi gv2 tt_4 (k := 6) rfl
  rw [f_v2_6] at b_y2
  have b_y2 : -2147483648 ≤ y2.toInt ∧ y2.toInt ≤ 2147483647 := b_y2
  refine lv_aload_n hx hb dX8_between_0 rfl (lv_at hl 0 rfl) ?_
  refine hk_geti hx hb hts hC_4 hown hW (gv1.S hM) tt_4 5 ?o0 rfl kw_619 ⟨rfl, rfl, rfl⟩ ((hM.o gv1 trivial rfl).1.trans f_v1_5) dX8_between_1 ?_
  case o0 => decide
  refine lv_aload_n hx hb dX8_between_4 rfl (lv_at hl 1 rfl) ?_
  refine hk_geti hx hb hts hC_4 hown hW (gv2.S hM) tt_4 5 ?o1 rfl kw_619 ⟨rfl, rfl, rfl⟩ ((hM.o gv2 trivial rfl).1.trans f_v2_5) dX8_between_5 ?_
  case o1 => decide
  refine lv_isub hx hb dX8_between_8 ?_
  have rg_1 := i32_r x1
  have rg_2 := i32_r x2
  refine lv_topi (fun x_3 ex_3 => ?_)
  have zx_3 : x_3.toInt = x1.toInt - x2.toInt := ?o2
  case o2 =>
    rw [ex_3]
    refine i32_sub rfl rfl ?o3 ?o4
    case o3 => omega
    case o4 => omega
  refine va_mabs hx hb (hml.trans hl.1.symm) hown (hts _ kw_1063) (hts _ kw_706) (hts _ kw_109) (hts _ kw_707) (Nat.le_of_ble_eq_true rfl) (Nat.le_of_ble_eq_true rfl) (Nat.le_of_ble_eq_true rfl) (Nat.le_of_ble_eq_true rfl) dX8_between_9 ?_
  refine lv_topi (fun x_4 ex_4 => ?_)
  have hab1 := hy_abs ex_4 ?o5 ?o6
  case o5 => omega
  case o6 => omega
  refine lv_aload_n hx hb dX8_between_12 rfl (lv_at hl 0 rfl) ?_
  refine hk_geti hx hb hts hC_4 hown hW (gv1.S hM) tt_4 6 ?o7 rfl kw_621 ⟨rfl, rfl, rfl⟩ ((hM.o gv1 trivial rfl).1.trans f_v1_6) dX8_between_13 ?_
  case o7 => decide
  refine lv_aload_n hx hb dX8_between_16 rfl (lv_at hl 1 rfl) ?_
  refine hk_geti hx hb hts hC_4 hown hW (gv2.S hM) tt_4 6 ?o8 rfl kw_621 ⟨rfl, rfl, rfl⟩ ((hM.o gv2 trivial rfl).1.trans f_v2_6) dX8_between_17 ?_
  case o8 => decide
  refine lv_isub hx hb dX8_between_20 ?_
  have rg_5 := i32_r y1
  have rg_6 := i32_r y2
  refine lv_topi (fun x_7 ex_7 => ?_)
  have zx_7 : x_7.toInt = y1.toInt - y2.toInt := ?o9
  case o9 =>
    rw [ex_7]
    refine i32_sub rfl rfl ?o10 ?o11
    case o10 => omega
    case o11 => omega
  refine va_mabs hx hb (hml.trans hl.1.symm) hown (hts _ kw_1063) (hts _ kw_706) (hts _ kw_109) (hts _ kw_707) (Nat.le_of_ble_eq_true rfl) (Nat.le_of_ble_eq_true rfl) (Nat.le_of_ble_eq_true rfl) (Nat.le_of_ble_eq_true rfl) dX8_between_21 ?_
  refine lv_topi (fun x_8 ex_8 => ?_)
  have hab2 := hy_abs ex_8 ?o12 ?o13
  case o12 => omega
  case o13 => omega
  refine lv_iadd hx hb dX8_between_24 ?_
  have rg_9 := i32_r x_4
  have rg_10 := i32_r x_8
  refine lv_topi (fun x_11 ex_11 => ?_)
  have zx_11 : x_11.toInt = x_4.toInt + x_8.toInt := ?o14
  case o14 =>
    rw [ex_11]
    refine i32_add rfl rfl ?o15 ?o16
    case o15 => omega
    case o16 => omega
  refine hx_reti hx hb hr hlk hW ⟨⟨by simp only [hx_ab]; (repeat' split) <;> omega, ?o17, ?o18⟩, hT, hM⟩ dX8_between_25
  case o17 => omega
  case o18 => omega


set_option maxHeartbeats 4000000 in
set_option maxRecDepth 100000 in
theorem t_X8_fromCourt_2 (l : Launch) (dC : Nat → ClassId) (dI : Nat → Nat → Nat) (dA : Nat → ClassId) (L : List Nat) (h : hx_h) (sz : Nat) (x : Nat) (i1 : Int32) (hT : hx_T T_tb L h) (gx : hx_g L h x 8) (ql : Nat) (gql : hx_g L h ql 40) (f_x_3 : h.2.2 x 3 = some ql)  (cn : Int32) (f_x_0 : h.2.1 x 0 = cn) (hi1 : 0 ≤ i1.toInt ∧ i1.toInt < cn.toInt) (cfx cfy : Nat → Int32) (hGx : hx_dc h ql 2 5 cfx cn.toInt) (hGy : hx_dc h ql 2 6 cfy cn.toInt) (hBx : ∀ k : Nat, (k : Int) < cn.toInt → 0 ≤ (cfx k).toInt ∧ (cfx k).toInt ≤ 99) (hBy : ∀ k : Nat, (k : Int) < cn.toInt → 0 ≤ (cfy k).toInt ∧ (cfy k).toInt ≤ 99) (pf_x_0 : ∀ j : Nat, (j : Int) < (h.2.1 x 0).toInt → h.2.2 ql j ≠ none) : Met l yX8_fromCourt (Cond.code yX8_fromCourt cX8_fromCourt 3 (some .int) :: hx_all) ({ frames := 1, cells := 0, slots := 0, locals := 21 }) (va_Pc [.ref x, .int i1] (hx_B T_tb (P_ty dA) (dC, dI) vwCl L h sz)) (va_Qi (fun (r : Int32) (u : List Nat × hx_h) => (r.toInt = hx_fg cfx cfy cn.toInt i1.toInt cn.toInt ∧ 0 ≤ r.toInt ∧ r.toInt ≤ 198) ∧ hx_T T_tb u.1 u.2 ∧ hx_S T_tb [] L h u.1 u.2) (hx_E T_tb (P_ty dA) (dC, dI) vwCl (hx_A L sz)) (hx_A L sz)) 0 0 (hx_A L sz) := by
  refine hx_met (lv := [(0, .ref x), (1, .int i1)]) (by decide +kernel) rfl (Nat.le_of_ble_eq_true rfl) rfl ?_
  intro p e s m below meth c hx hb hml hr hlk hts0 hown hin hsz hW ls hl
  have hts : ∀ w ∈ hx_all, w.before _ s = true := fun w hw => hts0 w (List.mem_cons_of_mem _ hw)
  have hown : s.vm.findClass "SmallCourt$Walk" = some m.cls := hown
  have hM : hx_S T_tb [] L h L h := hx_S.rf
  have b_cn := hT.gi gx tt_8 (k := 0) rfl
  rw [f_x_0] at b_cn
  have b_cn : 0 ≤ cn.toInt ∧ cn.toInt ≤ 8 := b_cn
  refine lv_aload_n hx hb dX8_fromCourt_0 rfl (lv_at hl 0 rfl) ?_
  refine hk_getr hx hb hts hC_8 hown hW (gx.S hM) tt_8 3 ?o0 rfl kw_351 ⟨rfl, rfl, rfl⟩ ((hM.o gx trivial rfl).2.trans f_x_3) dX8_fromCourt_1 ?_
  case o0 => decide
  refine lv_iload_n hx hb dX8_fromCourt_4 rfl (lv_at hl 1 rfl) ?_
  refine hx_aaldN hx hb hW hT gql tt_40 (t1 := 2) rfl ⟨?o1, ?o2⟩ (pf_x_0 _ (by rw [((hM.o gx trivial rfl).1.trans f_x_0)]; exact hx_tnI (by omega) (by omega))) dX8_fromCourt_5 (fun q_1 fq_1 gq_1 => ?_)
  case o1 => omega
  case o2 => omega
  refine hx_getn hx hb hts hC_2 hown hW hT gq_1 tt_2 2 ?o3 rfl kw_732 ⟨rfl, rfl, rfl⟩ dX8_fromCourt_6 (fun q_2 fq_2 gq_2 => ?_)
  case o3 => decide
  refine lv_astore_n (lv' := [(2, .ref q_2), (0, .ref x), (1, .int i1)]) hx hb dX8_fromCourt_9 rfl hl ?o4 rfl (fun ls hl => ?_)
  case o4 => decide
  refine lv_aload_n hx hb dX8_fromCourt_10 rfl (lv_at hl 0 rfl) ?_
  refine hx_geti hx hb hts hC_4 hown hW hT gq_2 tt_4 5 ?o5 rfl kw_619 ⟨rfl, rfl, rfl⟩ dX8_fromCourt_11 (fun x_3 ex_3 lx_3 ux_3 => ?_)
  case o5 => decide
  have fx_3 := ex_3.symm
  have hX_4 : x_3 = cfx i1.toInt.toNat := fx_3.symm.trans (hGx i1.toNatClampNeg (by unfold Int32.toNatClampNeg; omega) _ _ fq_1 fq_2)
  have bhX_4 := hBx i1.toInt.toNat ?o6
  case o6 => omega
  rw [← hX_4] at bhX_4
  refine lv_bipush (v := 50) hx hb dX8_fromCourt_14 ?o7 ?_
  case o7 => decide
  refine lv_isub hx hb dX8_fromCourt_16 ?_
  have rg_5 := i32_r x_3
  refine lv_topi (fun x_6 ex_6 => ?_)
  have zx_6 : x_6.toInt = x_3.toInt - 50 := ?o8
  case o8 =>
    rw [ex_6]
    refine i32_sub rfl ?o9 ?o10 ?o11
    case o9 => decide
    case o10 => omega
    case o11 => omega
  have hTo := hT
  refine va_mabs hx hb (hml.trans hl.1.symm) hown (hts _ kw_1063) (hts _ kw_706) (hts _ kw_109) (hts _ kw_707) (Nat.le_of_ble_eq_true rfl) (Nat.le_of_ble_eq_true rfl) (Nat.le_of_ble_eq_true rfl) (Nat.le_of_ble_eq_true rfl) dX8_fromCourt_17 ?_
  refine lv_topi (fun x_7 ex_7 => ?_)
  have hab1 := hy_abs ex_7 ?o12 ?o13
  case o12 => omega
  case o13 => omega
  refine lv_aload_n hx hb dX8_fromCourt_20 rfl (lv_at hl 0 rfl) ?_
  refine hx_geti hx hb hts hC_4 hown hW hT gq_2 tt_4 6 ?o14 rfl kw_621 ⟨rfl, rfl, rfl⟩ dX8_fromCourt_21 (fun x_8 ex_8 lx_8 ux_8 => ?_)
  case o14 => decide
  have fx_8 := ex_8.symm
  have hX_9 : x_8 = cfy i1.toInt.toNat := fx_8.symm.trans (hGy i1.toNatClampNeg (by unfold Int32.toNatClampNeg; omega) _ _ fq_1 fq_2)
  have bhX_9 := hBy i1.toInt.toNat ?o15
  case o15 => omega
  rw [← hX_9] at bhX_9
  refine lv_bipush (v := 50) hx hb dX8_fromCourt_24 ?o16 ?_
  case o16 => decide
  refine lv_isub hx hb dX8_fromCourt_26 ?_
  have rg_10 := i32_r x_8
  refine lv_topi (fun x_11 ex_11 => ?_)
  have zx_11 : x_11.toInt = x_8.toInt - 50 := ?o17
  case o17 =>
    rw [ex_11]
    refine i32_sub rfl ?o18 ?o19 ?o20
    case o18 => decide
    case o19 => omega
    case o20 => omega
  have hTo := hT
  refine va_mabs hx hb (hml.trans hl.1.symm) hown (hts _ kw_1063) (hts _ kw_706) (hts _ kw_109) (hts _ kw_707) (Nat.le_of_ble_eq_true rfl) (Nat.le_of_ble_eq_true rfl) (Nat.le_of_ble_eq_true rfl) (Nat.le_of_ble_eq_true rfl) dX8_fromCourt_27 ?_
  refine lv_topi (fun x_12 ex_12 => ?_)
  have hab2 := hy_abs ex_12 ?o21 ?o22
  case o21 => omega
  case o22 => omega
  refine lv_iadd hx hb dX8_fromCourt_30 ?_
  have rg_13 := i32_r x_7
  have rg_14 := i32_r x_12
  refine lv_topi (fun x_15 ex_15 => ?_)
  have zx_15 : x_15.toInt = x_7.toInt + x_12.toInt := ?o23
  case o23 =>
    rw [ex_15]
    refine i32_add rfl rfl ?o24 ?o25
    case o24 => omega
    case o25 => omega
  refine hx_reti hx hb hr hlk hW ⟨⟨by unfold hx_fg; rw [hw_cg_lt (n := cn.toInt) (i := i1.toInt) (by omega) hX_4, hw_cg_n, hw_cg_lt (n := cn.toInt) (i := i1.toInt) (by omega) hX_9, hw_cg_n]; simp only [hx_ab]; (repeat' split) <;> omega, ?o26, ?o27⟩, hT, hM⟩ dX8_fromCourt_31
  case o26 => omega
  case o27 => omega


set_option maxHeartbeats 4000000 in
set_option maxRecDepth 100000 in
theorem t_X8_stepsBy_2 (l : Launch) (dC : Nat → ClassId) (dI : Nat → Nat → Nat) (dA : Nat → ClassId) (L : List Nat) (h : hx_h) (sz : Nat) (x : Nat) (i1 : Int32) (i2 : Int32) (i3 : Int32) (hT : hx_T T_tb L h) (gx : hx_g L h x 8) (ql : Nat) (gql : hx_g L h ql 40) (f_x_3 : h.2.2 x 3 = some ql) (qlf : Nat) (gqlf : hx_g L h qlf 41) (f_x_4 : h.2.2 x 4 = some qlf) (lff : Nat → Int32) (af_qlf : h.2.1 qlf = lff) (cn : Int32) (f_x_0 : h.2.1 x 0 = cn) (hi1 : 0 ≤ i1.toInt ∧ i1.toInt < 2 ^ cn.toInt.toNat) (hi2 : -1 ≤ i2.toInt ∧ i2.toInt < cn.toInt) (hi3 : 0 ≤ i3.toInt ∧ i3.toInt < cn.toInt) (cfx cfy : Nat → Int32) (hGx : hx_dc h ql 2 5 cfx cn.toInt) (hGy : hx_dc h ql 2 6 cfy cn.toInt) (hBx : ∀ k : Nat, (k : Int) < cn.toInt → 0 ≤ (cfx k).toInt ∧ (cfx k).toInt ≤ 99) (hBy : ∀ k : Nat, (k : Int) < cn.toInt → 0 ≤ (cfy k).toInt ∧ (cfy k).toInt ≤ 99) (hk : hx_bt i1.toInt i3.toInt = false) (hE : hw_E (hx_fg cfx cfy cn.toInt) (hw_HC cn.toInt lff) cn.toInt (2 ^ cn.toInt.toNat - 1 - i1.toInt) 0) (pf_x_0 : ∀ j : Nat, (j : Int) < (h.2.1 x 0).toInt → h.2.2 ql j ≠ none) : Met l yX8_stepsBy (Cond.code yX8_stepsBy cX8_stepsBy 5 (some .int) :: hx_all) ({ frames := 2, cells := 0, slots := 0, locals := 43 }) (va_Pc [.ref x, .int i1, .int i2, .int i3] (hx_B T_tb (P_ty dA) (dC, dI) vwCl L h sz)) (va_Qi (fun (r : Int32) (u : List Nat × hx_h) => (r.toInt = (hx_fg cfx cfy cn.toInt) (hw_la cn.toInt i2.toInt) i3.toInt + (hw_HC cn.toInt lff) (2 ^ cn.toInt.toNat - 1 - i1.toInt - hx_p2 i3.toInt) i3.toInt ∧ 0 ≤ r.toInt ∧ r.toInt ≤ 198 * (2 ^ cn.toInt.toNat - 1 - i1.toInt + 1)) ∧ hx_T T_tb u.1 u.2 ∧ hx_S T_tb [] L h u.1 u.2) (hx_E T_tb (P_ty dA) (dC, dI) vwCl (hx_A L sz)) (hx_A L sz)) 0 0 (hx_A L sz) := by
  refine hx_met (lv := [(0, .ref x), (1, .int i1), (2, .int i2), (3, .int i3)]) (by decide +kernel) rfl (Nat.le_of_ble_eq_true rfl) rfl ?_
  intro p e s m below meth c hx hb hml hr hlk hts0 hown hin hsz hW ls hl
  have hts : ∀ w ∈ hx_all, w.before _ s = true := fun w hw => hts0 w (List.mem_cons_of_mem _ hw)
  have hown : s.vm.findClass "SmallCourt$Walk" = some m.cls := hown
  have hM : hx_S T_tb [] L h L h := hx_S.rf
  have b_cn := hT.gi gx tt_8 (k := 0) rfl
  rw [f_x_0] at b_cn
  have b_cn : 0 ≤ cn.toInt ∧ cn.toInt ≤ 8 := b_cn
  have hpn := hx_p2n (n := cn.toInt) ?o0 ?o1
  case o0 => omega
  case o1 => omega
  refine lv_iload_n hx hb dX8_stepsBy_0 rfl (lv_at hl 2 rfl) ?_
  refine lv_iconst (v := -1) hx hb dX8_stepsBy_1 ?o2 ?_
  case o2 => decide
  refine hb_icmp_ne (zx := i2.toInt) (zy := (-1)) (tgt := 13) hx hb rfl ?o3 dX8_stepsBy_2 ?o4 (fun c_1 => ?_) (fun c_1 => ?_)
  case o3 => decide
  case o4 => decide
  · skip
    refine lv_aload_n hx hb dX8_stepsBy_13 rfl (lv_at hl 0 rfl) ?_
    refine hk_getr hx hb hts hC_8 hown hW (gx.S hM) tt_8 3 ?o5 rfl kw_351 ⟨rfl, rfl, rfl⟩ ((hM.o gx trivial rfl).2.trans f_x_3) dX8_stepsBy_14 ?_
    case o5 => decide
    refine lv_iload_n hx hb dX8_stepsBy_17 rfl (lv_at hl 2 rfl) ?_
    refine hx_aaldN hx hb hW hT gql tt_40 (t1 := 2) rfl ⟨?o6, ?o7⟩ (pf_x_0 _ (by rw [((hM.o gx trivial rfl).1.trans f_x_0)]; exact hx_tnI (by omega) (by omega))) dX8_stepsBy_18 (fun q_2 fq_2 gq_2 => ?_)
    case o6 => omega
    case o7 => omega
    refine hx_getn hx hb hts hC_2 hown hW hT gq_2 tt_2 2 ?o8 rfl kw_732 ⟨rfl, rfl, rfl⟩ dX8_stepsBy_19 (fun q_3 fq_3 gq_3 => ?_)
    case o8 => decide
    refine lv_aload_n hx hb dX8_stepsBy_22 rfl (lv_at hl 0 rfl) ?_
    refine hk_getr hx hb hts hC_8 hown hW (gx.S hM) tt_8 3 ?o9 rfl kw_351 ⟨rfl, rfl, rfl⟩ ((hM.o gx trivial rfl).2.trans f_x_3) dX8_stepsBy_23 ?_
    case o9 => decide
    refine lv_iload_n hx hb dX8_stepsBy_26 rfl (lv_at hl 3 rfl) ?_
    refine hx_aaldN hx hb hW hT gql tt_40 (t1 := 2) rfl ⟨?o10, ?o11⟩ (pf_x_0 _ (by rw [((hM.o gx trivial rfl).1.trans f_x_0)]; exact hx_tnI (by omega) (by omega))) dX8_stepsBy_27 (fun q_4 fq_4 gq_4 => ?_)
    case o10 => omega
    case o11 => omega
    refine hx_getn hx hb hts hC_2 hown hW hT gq_4 tt_2 2 ?o12 rfl kw_732 ⟨rfl, rfl, rfl⟩ dX8_stepsBy_28 (fun q_5 fq_5 gq_5 => ?_)
    case o12 => decide
    have hTo := hT
    obtain ⟨fv_6, efv_6⟩ : ∃ y : Int32, y = h.2.1 q_3 5 := ⟨_, rfl⟩
    have bfv_6 := hT.gi gq_3 tt_4 (k := 5) rfl
    rw [← efv_6] at bfv_6
    have bfv_6 : -2147483648 ≤ fv_6.toInt ∧ fv_6.toInt ≤ 2147483647 := bfv_6
    have ffv_6 := efv_6.symm
    obtain ⟨fv_7, efv_7⟩ : ∃ y : Int32, y = h.2.1 q_3 6 := ⟨_, rfl⟩
    have bfv_7 := hT.gi gq_3 tt_4 (k := 6) rfl
    rw [← efv_7] at bfv_7
    have bfv_7 : -2147483648 ≤ fv_7.toInt ∧ fv_7.toInt ≤ 2147483647 := bfv_7
    have ffv_7 := efv_7.symm
    obtain ⟨fv_8, efv_8⟩ : ∃ y : Int32, y = h.2.1 q_5 5 := ⟨_, rfl⟩
    have bfv_8 := hT.gi gq_5 tt_4 (k := 5) rfl
    rw [← efv_8] at bfv_8
    have bfv_8 : -2147483648 ≤ fv_8.toInt ∧ fv_8.toInt ≤ 2147483647 := bfv_8
    have ffv_8 := efv_8.symm
    obtain ⟨fv_9, efv_9⟩ : ∃ y : Int32, y = h.2.1 q_5 6 := ⟨_, rfl⟩
    have bfv_9 := hT.gi gq_5 tt_4 (k := 6) rfl
    rw [← efv_9] at bfv_9
    have bfv_9 : -2147483648 ≤ fv_9.toInt ∧ fv_9.toInt ≤ 2147483647 := bfv_9
    have ffv_9 := efv_9.symm
    have hX_10 : fv_6 = cfx i2.toInt.toNat := ffv_6.symm.trans (hGx i2.toNatClampNeg (by unfold Int32.toNatClampNeg; omega) _ _ fq_2 fq_3)
    have bhX_10 := hBx i2.toInt.toNat ?o13
    case o13 => omega
    rw [← hX_10] at bhX_10
    have hX_11 : fv_8 = cfx i3.toInt.toNat := ffv_8.symm.trans (hGx i3.toNatClampNeg (by unfold Int32.toNatClampNeg; omega) _ _ fq_4 fq_5)
    have bhX_11 := hBx i3.toInt.toNat ?o14
    case o14 => omega
    rw [← hX_11] at bhX_11
    have hX_12 : fv_7 = cfy i2.toInt.toNat := ffv_7.symm.trans (hGy i2.toNatClampNeg (by unfold Int32.toNatClampNeg; omega) _ _ fq_2 fq_3)
    have bhX_12 := hBy i2.toInt.toNat ?o15
    case o15 => omega
    rw [← hX_12] at bhX_12
    have hX_13 : fv_9 = cfy i3.toInt.toNat := ffv_9.symm.trans (hGy i3.toNatClampNeg (by unfold Int32.toNatClampNeg; omega) _ _ fq_4 fq_5)
    have bhX_13 := hBy i3.toInt.toNat ?o16
    case o16 => omega
    rw [← hX_13] at bhX_13
    refine hx_goi (hx_runS (As := [.ref q_3, .ref q_5]) (rest := []) ⟨hx, hb, hml, hown, hts⟩ hW (t_X8_between_2 l dC dI dA L h s.heap.size q_3 q_5 hT gq_3 gq_5 fv_6 ffv_6 fv_7 ffv_7 fv_8 ffv_8 fv_9 ffv_9 ⟨⟨?o17, ?o18⟩, ⟨?o19, ?o20⟩, ⟨?o21, ?o22⟩, ⟨?o23, ?o24⟩⟩) (va_cwS 2 hts (hx_gS kw_1075 kw_1073 kw_1074 kw_102) rfl rfl rfl (by decide +kernel) ⟨Nat.le_of_ble_eq_true rfl, Nat.le_of_ble_eq_true rfl⟩) rfl hl.1 rfl (Nat.le_of_ble_eq_true rfl) dX8_stepsBy_31 ⟨Nat.le_of_ble_eq_true rfl, Nat.le_of_ble_eq_true rfl⟩) hW (fun r_16 L_14 h_15 H locs p_17 hW => ?_)
    case o17 => omega
    case o18 => omega
    case o19 => omega
    case o20 => omega
    case o21 => omega
    case o22 => omega
    case o23 => omega
    case o24 => omega
    obtain ⟨hr_18, hT, hs⟩ := p_17
    replace hT : hx_T T_tb L_14 h_15 := hT
    replace hs : hx_S T_tb [] L h L_14 h_15 := hs
    replace fq_3 := (hs.o gq_2 trivial rfl).2.trans fq_3
    replace fq_5 := (hs.o gq_4 trivial rfl).2.trans fq_5
    replace ffv_6 := (hs.o gq_3 trivial rfl).1.trans ffv_6
    replace ffv_7 := (hs.o gq_3 trivial rfl).1.trans ffv_7
    replace ffv_8 := (hs.o gq_5 trivial rfl).1.trans ffv_8
    replace ffv_9 := (hs.o gq_5 trivial rfl).1.trans ffv_9
    replace pf_x_0 : ∀ j : Nat, (j : Int) < (h_15.2.1 x 0).toInt → h_15.2.2 ql j ≠ none := by
      intro j hj; rw [(hs.o (gx.S hM) trivial rfl).1] at hj; rw [(hs.a gql rfl j).2]; exact pf_x_0 j hj
    replace hGx : hx_dc h_15 ql 2 5 cfx cn.toInt := hx_dc_S hs hTo gql tt_40 tt_2 rfl tt_4 rfl rfl rfl ?o25 hGx
    case o25 => omega
    replace hGy : hx_dc h_15 ql 2 6 cfy cn.toInt := hx_dc_S hs hTo gql tt_40 tt_2 rfl tt_4 rfl rfl rfl ?o26 hGy
    case o26 => omega
    replace fq_2 := (hs.a gql rfl _).2.trans fq_2
    replace fq_4 := (hs.a gql rfl _).2.trans fq_4
    replace hM := hM.tr (hs.mono ?o27)
    case o27 => decide
    replace gql := gql.S hs
    replace gq_2 := gq_2.S hs
    replace gq_3 := gq_3.S hs
    replace gq_4 := gq_4.S hs
    replace gq_5 := gq_5.S hs
    have hF : r_16.toInt = (hx_fg cfx cfy cn.toInt) (hw_la cn.toInt i2.toInt) i3.toInt := ?o28
    case o28 =>
      rw [hw_la2 (by omega)]
      unfold hx_fg
      rw [hw_cg_lt (n := cn.toInt) (i := i2.toInt) (by omega) hX_10, hw_cg_lt (n := cn.toInt) (i := i3.toInt) (by omega) hX_11, hw_cg_lt (n := cn.toInt) (i := i2.toInt) (by omega) hX_12, hw_cg_lt (n := cn.toInt) (i := i3.toInt) (by omega) hX_13]
      exact hr_18.1
    refine lv_istore (lv' := [(4, .int r_16), (0, .ref x), (1, .int i1), (2, .int i2), (3, .int i3)]) hx hb dX8_stepsBy_34 hl ?o29 rfl (fun ls hl => ?_)
    case o29 => decide
    refine lv_iload hx hb dX8_stepsBy_36 (lv_at hl 0 rfl) ?_
    refine lv_aload_n hx hb dX8_stepsBy_38 rfl (lv_at hl 1 rfl) ?_
    refine hk_getr hx hb hts hC_8 hown hW (gx.S hM) tt_8 4 ?o30 rfl kw_352 ⟨rfl, rfl, rfl⟩ ((hM.o gx trivial rfl).2.trans f_x_4) dX8_stepsBy_39 ?_
    case o30 => decide
    refine lv_iload_n hx hb dX8_stepsBy_42 rfl (lv_at hl 2 rfl) ?_
    refine lv_iconst (v := 1) hx hb dX8_stepsBy_43 ?o31 ?_
    case o31 => decide
    refine lv_iload_n hx hb dX8_stepsBy_44 rfl (lv_at hl 4 rfl) ?_
    refine lv_ishl hx hb dX8_stepsBy_45 ?_
    refine lv_topi (fun x_19 ex_19 => ?_)
    have zx_19 : 1 ≤ x_19.toInt ∧ x_19.toInt ≤ 128 := ?o32
    case o32 =>
      rw [ex_19]
      refine hx_shl7 ?o33 ?o34
      case o33 => omega
      case o34 => omega
    refine lv_ior hx hb dX8_stepsBy_46 ?_
    refine lv_topi (fun x_20 ex_20 => ?_)
    have zx_20 : 0 ≤ x_20.toInt ∧ x_20.toInt ≤ 255 := ?o35
    case o35 =>
      rw [ex_20]
      refine hx_or8 ?o36 ?o37 ?o38 ?o39
      case o36 => omega
      case o37 => omega
      case o38 => omega
      case o39 => omega
    have hlw := hw_lk (n := cn.toInt) (B := i1) (K := i3) ?o40 ?o41 ?o42 ?o43 ?o44 ?o45 hk hE
    case o40 => omega
    case o41 => omega
    case o42 => omega
    case o43 => omega
    case o44 => omega
    case o45 => omega
    rw [← ex_19, ← ex_20] at hlw
    have hlw1 := hlw.1; have hlw2 := hlw.2.1; have hlw3 := hlw.2.2.1
    refine lv_bipush (v := 8) hx hb dX8_stepsBy_47 ?o46 ?_
    case o46 => decide
    refine lv_imul hx hb dX8_stepsBy_49 ?_
    refine lv_topi (fun x_21 ex_21 => ?_)
    have zx_21 : x_21.toInt = x_20.toInt * 8 := ?o47
    case o47 =>
      rw [ex_21]
      refine i32_mul rfl ?o48 rfl ?o49 ?o50
      case o48 => decide
      case o49 => omega
      case o50 => omega
    refine lv_iload_n hx hb dX8_stepsBy_50 rfl (lv_at hl 4 rfl) ?_
    refine lv_iadd hx hb dX8_stepsBy_51 ?_
    have rg_22 := i32_r x_21
    have rg_23 := i32_r i3
    refine lv_topi (fun x_24 ex_24 => ?_)
    have zx_24 : x_24.toInt = x_21.toInt + i3.toInt := ?o51
    case o51 =>
      rw [ex_24]
      refine i32_add rfl rfl ?o52 ?o53
      case o52 => omega
      case o53 => omega
    refine hx_iald hx hb hW hT (gqlf.S hM) tt_41 rfl ⟨?o54, ?o55⟩ dX8_stepsBy_52 (fun x_25 ex_25 lx_25 ux_25 => ?_)
    case o54 => omega
    case o55 => omega
    have ax_25 : x_25 = lff x_24.toNatClampNeg := ex_25.trans (congrFun (hx_afS hM gqlf rfl af_qlf) _)
    have hv : x_25.toInt = hw_HC cn.toInt lff (2 ^ cn.toInt.toNat - 1 - i1.toInt - hx_p2 i3.toInt) i3.toInt := hw_HCv ax_25 (by unfold Int32.toNatClampNeg; omega)
    have hv1 := hlw.2.2.2.2.1; have hv2 := hlw.2.2.2.2.2; rw [← hv] at hv1 hv2
    refine lv_iadd hx hb dX8_stepsBy_53 ?_
    have rg_26 := i32_r r_16
    have rg_27 := i32_r x_25
    refine lv_topi (fun x_28 ex_28 => ?_)
    have zx_28 : x_28.toInt = r_16.toInt + x_25.toInt := ?o56
    case o56 =>
      rw [ex_28]
      refine i32_add rfl rfl ?o57 ?o58
      case o57 => omega
      case o58 => omega
    refine hx_reti hx hb hr hlk hW ⟨⟨by rw [← hv, ← hF]; omega, ?o59, ?o60⟩, hT, hM⟩ dX8_stepsBy_54
    case o59 => omega
    case o60 => omega
  · skip
    refine lv_aload_n hx hb dX8_stepsBy_5 rfl (lv_at hl 0 rfl) ?_
    refine lv_iload_n hx hb dX8_stepsBy_6 rfl (lv_at hl 3 rfl) ?_
    have hTo := hT
    refine hx_goi (hx_runV (As := [.int i3]) (rest := []) ⟨hx, hb, hml, hown, hts⟩ hW (gx.S hM) tt_8 (T := TX8) (N := 5) rfl (t_X8_fromCourt_2 l dC dI dA L h s.heap.size x i3 hT (gx.S hM) ql gql ((hM.o gx trivial rfl).2.trans f_x_3) cn ((hM.o gx trivial rfl).1.trans f_x_0) ⟨?o61, ?o62⟩ cfx cfy hGx hGy hBx hBy pf_x_0) (cwV 1 hts (hx_gV kw_1062 kw_1059 kw_1061 kw_42 kw_102) rfl rfl rfl (by decide +kernel) ⟨Nat.le_of_ble_eq_true rfl, Nat.le_of_ble_eq_true rfl⟩) rfl hl.1 rfl (Nat.le_of_ble_eq_true rfl) dX8_stepsBy_7 ⟨Nat.le_of_ble_eq_true rfl, Nat.le_of_ble_eq_true rfl⟩) hW (fun r_31 L_29 h_30 H locs p_32 hW => ?_)
    case o61 => omega
    case o62 => omega
    obtain ⟨hr_33, hT, hs⟩ := p_32
    replace hT : hx_T T_tb L_29 h_30 := hT
    replace hs : hx_S T_tb [] L h L_29 h_30 := hs
    replace pf_x_0 : ∀ j : Nat, (j : Int) < (h_30.2.1 x 0).toInt → h_30.2.2 ql j ≠ none := by
      intro j hj; rw [(hs.o (gx.S hM) trivial rfl).1] at hj; rw [(hs.a gql rfl j).2]; exact pf_x_0 j hj
    replace hGx : hx_dc h_30 ql 2 5 cfx cn.toInt := hx_dc_S hs hTo gql tt_40 tt_2 rfl tt_4 rfl rfl rfl ?o63 hGx
    case o63 => omega
    replace hGy : hx_dc h_30 ql 2 6 cfy cn.toInt := hx_dc_S hs hTo gql tt_40 tt_2 rfl tt_4 rfl rfl rfl ?o64 hGy
    case o64 => omega
    replace hM := hM.tr (hs.mono ?o65)
    case o65 => decide
    replace gql := gql.S hs
    refine lv_goto (tgt := 34) hx hb dX8_stepsBy_10 ?o66 ?_
    case o66 => decide
    have hF : r_31.toInt = (hx_fg cfx cfy cn.toInt) (hw_la cn.toInt i2.toInt) i3.toInt := ?o67
    case o67 =>
      rw [hw_la1 (by omega), hw_fg_s]
      exact hr_33.1
    refine lv_istore (lv' := [(4, .int r_31), (0, .ref x), (1, .int i1), (2, .int i2), (3, .int i3)]) hx hb dX8_stepsBy_34 hl ?o68 rfl (fun ls hl => ?_)
    case o68 => decide
    refine lv_iload hx hb dX8_stepsBy_36 (lv_at hl 0 rfl) ?_
    refine lv_aload_n hx hb dX8_stepsBy_38 rfl (lv_at hl 1 rfl) ?_
    refine hk_getr hx hb hts hC_8 hown hW (gx.S hM) tt_8 4 ?o69 rfl kw_352 ⟨rfl, rfl, rfl⟩ ((hM.o gx trivial rfl).2.trans f_x_4) dX8_stepsBy_39 ?_
    case o69 => decide
    refine lv_iload_n hx hb dX8_stepsBy_42 rfl (lv_at hl 2 rfl) ?_
    refine lv_iconst (v := 1) hx hb dX8_stepsBy_43 ?o70 ?_
    case o70 => decide
    refine lv_iload_n hx hb dX8_stepsBy_44 rfl (lv_at hl 4 rfl) ?_
    refine lv_ishl hx hb dX8_stepsBy_45 ?_
    refine lv_topi (fun x_34 ex_34 => ?_)
    have zx_34 : 1 ≤ x_34.toInt ∧ x_34.toInt ≤ 128 := ?o71
    case o71 =>
      rw [ex_34]
      refine hx_shl7 ?o72 ?o73
      case o72 => omega
      case o73 => omega
    refine lv_ior hx hb dX8_stepsBy_46 ?_
    refine lv_topi (fun x_35 ex_35 => ?_)
    have zx_35 : 0 ≤ x_35.toInt ∧ x_35.toInt ≤ 255 := ?o74
    case o74 =>
      rw [ex_35]
      refine hx_or8 ?o75 ?o76 ?o77 ?o78
      case o75 => omega
      case o76 => omega
      case o77 => omega
      case o78 => omega
    have hlw := hw_lk (n := cn.toInt) (B := i1) (K := i3) ?o79 ?o80 ?o81 ?o82 ?o83 ?o84 hk hE
    case o79 => omega
    case o80 => omega
    case o81 => omega
    case o82 => omega
    case o83 => omega
    case o84 => omega
    rw [← ex_34, ← ex_35] at hlw
    have hlw1 := hlw.1; have hlw2 := hlw.2.1; have hlw3 := hlw.2.2.1
    refine lv_bipush (v := 8) hx hb dX8_stepsBy_47 ?o85 ?_
    case o85 => decide
    refine lv_imul hx hb dX8_stepsBy_49 ?_
    refine lv_topi (fun x_36 ex_36 => ?_)
    have zx_36 : x_36.toInt = x_35.toInt * 8 := ?o86
    case o86 =>
      rw [ex_36]
      refine i32_mul rfl ?o87 rfl ?o88 ?o89
      case o87 => decide
      case o88 => omega
      case o89 => omega
    refine lv_iload_n hx hb dX8_stepsBy_50 rfl (lv_at hl 4 rfl) ?_
    refine lv_iadd hx hb dX8_stepsBy_51 ?_
    have rg_37 := i32_r x_36
    have rg_38 := i32_r i3
    refine lv_topi (fun x_39 ex_39 => ?_)
    have zx_39 : x_39.toInt = x_36.toInt + i3.toInt := ?o90
    case o90 =>
      rw [ex_39]
      refine i32_add rfl rfl ?o91 ?o92
      case o91 => omega
      case o92 => omega
    refine hx_iald hx hb hW hT (gqlf.S hM) tt_41 rfl ⟨?o93, ?o94⟩ dX8_stepsBy_52 (fun x_40 ex_40 lx_40 ux_40 => ?_)
    case o93 => omega
    case o94 => omega
    have ax_40 : x_40 = lff x_39.toNatClampNeg := ex_40.trans (congrFun (hx_afS hM gqlf rfl af_qlf) _)
    have hv : x_40.toInt = hw_HC cn.toInt lff (2 ^ cn.toInt.toNat - 1 - i1.toInt - hx_p2 i3.toInt) i3.toInt := hw_HCv ax_40 (by unfold Int32.toNatClampNeg; omega)
    have hv1 := hlw.2.2.2.2.1; have hv2 := hlw.2.2.2.2.2; rw [← hv] at hv1 hv2
    refine lv_iadd hx hb dX8_stepsBy_53 ?_
    have rg_41 := i32_r r_31
    have rg_42 := i32_r x_40
    refine lv_topi (fun x_43 ex_43 => ?_)
    have zx_43 : x_43.toInt = r_31.toInt + x_40.toInt := ?o95
    case o95 =>
      rw [ex_43]
      refine i32_add rfl rfl ?o96 ?o97
      case o96 => omega
      case o97 => omega
    refine hx_reti hx hb hr hlk hW ⟨⟨by rw [← hv, ← hF]; omega, ?o98, ?o99⟩, hT, hM⟩ dX8_stepsBy_54
    case o98 => omega
    case o99 => omega


set_option maxHeartbeats 4000000 in
set_option maxRecDepth 100000 in
theorem t_X8_leastOn_2 (l : Launch) (dC : Nat → ClassId) (dI : Nat → Nat → Nat) (dA : Nat → ClassId) (L : List Nat) (h : hx_h) (sz : Nat) (x : Nat) (i1 : Int32) (i2 : Int32) (hT : hx_T T_tb L h) (gx : hx_g L h x 8) (ql : Nat) (gql : hx_g L h ql 40) (f_x_3 : h.2.2 x 3 = some ql) (qlf : Nat) (gqlf : hx_g L h qlf 41) (f_x_4 : h.2.2 x 4 = some qlf) (lff : Nat → Int32) (af_qlf : h.2.1 qlf = lff) (cn : Int32) (f_x_0 : h.2.1 x 0 = cn) (hi1 : 0 ≤ i1.toInt ∧ i1.toInt < 2 ^ cn.toInt.toNat - 1) (hi2 : -1 ≤ i2.toInt ∧ i2.toInt < cn.toInt) (cfx cfy : Nat → Int32) (hGx : hx_dc h ql 2 5 cfx cn.toInt) (hGy : hx_dc h ql 2 6 cfy cn.toInt) (hBx : ∀ k : Nat, (k : Int) < cn.toInt → 0 ≤ (cfx k).toInt ∧ (cfx k).toInt ≤ 99) (hBy : ∀ k : Nat, (k : Int) < cn.toInt → 0 ≤ (cfy k).toInt ∧ (cfy k).toInt ≤ 99) (hE : hw_E (hx_fg cfx cfy cn.toInt) (hw_HC cn.toInt lff) cn.toInt (2 ^ cn.toInt.toNat - 1 - i1.toInt) 0) (pf_x_0 : ∀ j : Nat, (j : Int) < (h.2.1 x 0).toInt → h.2.2 ql j ≠ none) : Met l yX8_leastOn (Cond.code yX8_leastOn cX8_leastOn 5 (some .int) :: hx_all) ({ frames := 3, cells := 0, slots := 0, locals := 67 }) (va_Pc [.ref x, .int i1, .int i2] (hx_B T_tb (P_ty dA) (dC, dI) vwCl L h sz)) (va_Qi (fun (r : Int32) (u : List Nat × hx_h) => (hx_mn (hx_fg cfx cfy cn.toInt) (hw_HC cn.toInt lff) cn.toInt (2 ^ cn.toInt.toNat - 1 - i1.toInt) (hw_la cn.toInt i2.toInt) r.toInt ∧ 0 ≤ r.toInt ∧ r.toInt ≤ 198 * (2 ^ cn.toInt.toNat - 1 - i1.toInt + 1)) ∧ hx_T T_tb u.1 u.2 ∧ hx_S T_tb [] L h u.1 u.2) (hx_E T_tb (P_ty dA) (dC, dI) vwCl (hx_A L sz)) (hx_A L sz)) 0 0 (hx_A L sz) := by
  refine hx_met (lv := [(0, .ref x), (1, .int i1), (2, .int i2)]) (by decide +kernel) rfl (Nat.le_of_ble_eq_true rfl) rfl ?_
  intro p e s m below meth c hx hb hml hr hlk hts0 hown hin hsz hW ls hl
  have hts : ∀ w ∈ hx_all, w.before _ s = true := fun w hw => hts0 w (List.mem_cons_of_mem _ hw)
  have hown : s.vm.findClass "SmallCourt$Walk" = some m.cls := hown
  have hM : hx_S T_tb [] L h L h := hx_S.rf
  have b_cn := hT.gi gx tt_8 (k := 0) rfl
  rw [f_x_0] at b_cn
  have b_cn : 0 ≤ cn.toInt ∧ cn.toInt ≤ 8 := b_cn
  have hpn := hx_p2n (n := cn.toInt) ?o0 ?o1
  case o0 => omega
  case o1 => omega
  refine lv_ldc (v := 1000000000) hx hb hown (hts _ kw_1068) dX8_leastOn_0 ?_
  refine lv_istore_n (lv' := [(3, .int (1000000000 : Int32)), (0, .ref x), (1, .int i1), (2, .int i2)]) hx hb dX8_leastOn_2 rfl hl ?o2 rfl (fun ls hl => ?_)
  case o2 => decide
  refine lv_iconst (v := 0) hx hb dX8_leastOn_3 ?o3 ?_
  case o3 => decide
  refine lv_istore (lv' := [(4, .int (0 : Int32)), (3, .int (1000000000 : Int32)), (0, .ref x), (1, .int i1), (2, .int i2)]) hx hb dX8_leastOn_4 hl ?o4 rfl (fun ls hl => ?_)
  case o4 => decide
  have loop6 : ∀ (n6 : Nat) (iv6_3 iv6_4 : Int32) (H : Heap) (locs : List Loc) (hL1 : List Nat) (hl1 : hx_h), -2147483648 ≤ iv6_3.toInt → iv6_3.toInt ≤ 2147483647 → 0 ≤ iv6_4.toInt → iv6_4.toInt ≤ 8 → (hw_bs (hx_fg cfx cfy cn.toInt) (hw_HC cn.toInt lff) (2 ^ cn.toInt.toNat - 1 - i1.toInt) (hw_la cn.toInt i2.toInt) iv6_4.toInt iv6_3.toInt) → (iv6_4.toInt ≤ cn.toInt) → ∀ (ls : Array Slot), 8 - iv6_4.toInt < (n6 : Int) → hx_W T_tb (P_ty dA) (dC, dI) vwCl (hx_A L sz) s.heap hL1 hl1 s H locs → hx_T T_tb hL1 hl1 → hx_S T_tb [] L h hL1 hl1 → hx_g hL1 hl1 ql 40 → (∀ j : Nat, (j : Int) < (hl1.2.1 x 0).toInt → hl1.2.2 ql j ≠ none) → hx_dc hl1 ql 2 5 cfx cn.toInt → hx_dc hl1 ql 2 6 cfy cn.toInt → lv_has ls 5 [(4, .int iv6_4), (3, .int iv6_3), (0, .ref x), (1, .int i1), (2, .int i2)] → W p l e ({ frames := 3, cells := 0, slots := 0, locals := 67 }) s m ([.ref x, .int i1, .int i2] : List Value).toArray below meth c H locs 0 0 (MQ below (va_Qi (fun (r : Int32) (u : List Nat × hx_h) => (hx_mn (hx_fg cfx cfy cn.toInt) (hw_HC cn.toInt lff) cn.toInt (2 ^ cn.toInt.toNat - 1 - i1.toInt) (hw_la cn.toInt i2.toInt) r.toInt ∧ 0 ≤ r.toInt ∧ r.toInt ≤ 198 * (2 ^ cn.toInt.toNat - 1 - i1.toInt + 1)) ∧ hx_T T_tb u.1 u.2 ∧ hx_S T_tb [] L h u.1 u.2) (hx_E T_tb (P_ty dA) (dC, dI) vwCl (hx_A L sz)) (hx_A L sz)) ([.ref x, .int i1, .int i2] : List Value).toArray s 0 0 (hx_A L sz)) (F0 m 6 ls []) := by
    intro n6
    induction n6 with
    | zero => intro iv6_3 iv6_4 H locs hL1 hl1 bliv6_3 buiv6_3 bliv6_4 buiv6_4 vi6_0 vi6_1 ls hn6; exfalso; omega
    | succ n6 ih6 =>
      intro iv6_3 iv6_4 H locs hL1 hl1 bliv6_3 buiv6_3 bliv6_4 buiv6_4 vi6_0 vi6_1 ls hn6 hW hT hM  gql pf_x_0 hGx hGy hl
      refine lv_iload hx hb dX8_leastOn_6 (lv_at hl 0 rfl) ?_
      refine lv_aload_n hx hb dX8_leastOn_8 rfl (lv_at hl 2 rfl) ?_
      refine hk_geti hx hb hts hC_8 hown hW (gx.S hM) tt_8 0 ?o5 rfl kw_345 ⟨rfl, rfl, rfl⟩ ((hM.o gx trivial rfl).1.trans f_x_0) dX8_leastOn_9 ?_
      case o5 => decide
      refine hb_icmp_ge (zx := iv6_4.toInt) (zy := cn.toInt) (tgt := 43) hx hb rfl rfl dX8_leastOn_12 ?o6 (fun c_1 => ?_) (fun c_1 => ?_)
      case o6 => decide
      · skip
        refine lv_iload_n hx hb dX8_leastOn_43 rfl (lv_at hl 1 rfl) ?_
        have hkn : iv6_4.toInt = cn.toInt := ?o7
        case o7 => omega
        have hfin := vi6_0
        rw [hkn] at hfin
        refine hx_reti hx hb hr hlk hW ⟨(hw_bs_mn ?o8 ?o9 hfin ?o10 ?o11), hT, hM⟩ dX8_leastOn_44
        case o8 => omega
        case o9 => omega
        case o10 => omega
        case o11 => omega
      · skip
        refine lv_iload hx hb dX8_leastOn_15 (lv_at hl 0 rfl) ?_
        refine lv_iload_n hx hb dX8_leastOn_17 rfl (lv_at hl 3 rfl) ?_
        have hTo := hT
        refine hx_goi (hx_runS (As := [.int iv6_4, .int i1]) (rest := []) ⟨hx, hb, hml, hown, hts⟩ hW (t_X8_isIn_2 l dC dI dA hL1 hl1 H.size iv6_4 i1 hT ⟨?o12, ?o13⟩ ⟨?o14, ?o15⟩) (va_cwS 2 hts (hx_gS kw_1058 kw_1056 kw_1057 kw_102) rfl rfl rfl (by decide +kernel) ⟨Nat.le_of_ble_eq_true rfl, Nat.le_of_ble_eq_true rfl⟩) rfl hl.1 rfl (Nat.le_of_ble_eq_true rfl) dX8_leastOn_18 ⟨Nat.le_of_ble_eq_true rfl, Nat.le_of_ble_eq_true rfl⟩) hW (fun r_4 L_2 h_3 H locs p_5 hW => ?_)
        case o12 => omega
        case o13 => omega
        case o14 => omega
        case o15 => omega
        obtain ⟨hr_6, hT, hs⟩ := p_5
        replace hT : hx_T T_tb L_2 h_3 := hT
        replace hs : hx_S T_tb [] hL1 hl1 L_2 h_3 := hs
        replace pf_x_0 : ∀ j : Nat, (j : Int) < (h_3.2.1 x 0).toInt → h_3.2.2 ql j ≠ none := by
          intro j hj; rw [(hs.o (gx.S hM) trivial rfl).1] at hj; rw [(hs.a gql rfl j).2]; exact pf_x_0 j hj
        replace hGx : hx_dc h_3 ql 2 5 cfx cn.toInt := hx_dc_S hs hTo gql tt_40 tt_2 rfl tt_4 rfl rfl rfl ?o16 hGx
        case o16 => omega
        replace hGy : hx_dc h_3 ql 2 6 cfy cn.toInt := hx_dc_S hs hTo gql tt_40 tt_2 rfl tt_4 rfl rfl rfl ?o17 hGy
        case o17 => omega
        replace hM := hM.tr (hs.mono ?o18)
        case o18 => decide
        replace gql := gql.S hs
        refine hb_if_ne (zx := r_4.toInt) (tgt := 37) hx hb rfl dX8_leastOn_21 ?o19 (fun c_7 => ?_) (fun c_7 => ?_)
        case o19 => decide
        · skip
          have hib : hx_bt i1.toInt iv6_4.toInt = true := ?o20
          case o20 =>
            rcases hr_6 with z | z
            exact z.2
            exfalso
            omega
          have hbl := hw_bf2 (n := cn.toInt) ?o21 ?o22 ?o23 ?o24 ?o25 ?o26 hib
          case o21 => omega
          case o22 => omega
          case o23 => omega
          case o24 => omega
          case o25 => omega
          case o26 => omega
          obtain ⟨x_8, ex_8⟩ : ∃ y : Int32, y = iv6_4 + Int32.ofInt 1 := ⟨_, rfl⟩
          have rg_9 := i32_r iv6_4
          have zx_8 : x_8.toInt = iv6_4.toInt + (1) := ?o27
          case o27 =>
            rw [ex_8]
            refine i32_add rfl ?o28 ?o29 ?o30
            case o28 => decide
            case o29 => omega
            case o30 => omega
          refine lv_iinc (v := x_8) (lv' := [(4, .int x_8), (3, .int iv6_3), (0, .ref x), (1, .int i1), (2, .int i2)]) hx hb dX8_leastOn_37 hl (k := 0) rfl ex_8.symm ?o31 rfl (fun ls hl => ?_)
          case o31 => decide
          refine lv_goto (tgt := 6) hx hb dX8_leastOn_40 ?o32 ?_
          case o32 => decide
          refine ih6 iv6_3 x_8 _ _ L_2 h_3 (i32_r _).1 (i32_r _).2 ?o33 ?o34 (hw_bs_no vi6_0 hbl zx_8) ?o35 ls ?o36 hW hT hM  gql pf_x_0 hGx hGy (lv_sub hl [0, 1, 2, 3, 4] rfl)
          case o33 => omega
          case o34 => omega
          case o35 => omega
          case o36 => omega
        · skip
          have hnb : hx_bt i1.toInt iv6_4.toInt = false := ?o37
          case o37 =>
            rcases hr_6 with z | z
            exfalso
            omega
            exact z.2
          have hbl := hw_bt2 (n := cn.toInt) ?o38 ?o39 ?o40 ?o41 ?o42 ?o43 hnb
          case o38 => omega
          case o39 => omega
          case o40 => omega
          case o41 => omega
          case o42 => omega
          case o43 => omega
          refine lv_iload_n hx hb dX8_leastOn_24 rfl (lv_at hl 1 rfl) ?_
          refine lv_aload_n hx hb dX8_leastOn_25 rfl (lv_at hl 2 rfl) ?_
          refine lv_iload_n hx hb dX8_leastOn_26 rfl (lv_at hl 3 rfl) ?_
          refine lv_iload_n hx hb dX8_leastOn_27 rfl (lv_at hl 4 rfl) ?_
          refine lv_iload hx hb dX8_leastOn_28 (lv_at hl 0 rfl) ?_
          have hTo := hT
          refine hx_goi (hx_runV (As := [.int i1, .int i2, .int iv6_4]) (rest := [.int iv6_3]) ⟨hx, hb, hml, hown, hts⟩ hW (gx.S hM) tt_8 (T := TX8) (N := 5) rfl (t_X8_stepsBy_2 l dC dI dA L_2 h_3 H.size x i1 i2 iv6_4 hT (gx.S hM) ql gql ((hM.o gx trivial rfl).2.trans f_x_3) qlf (gqlf.S hM) ((hM.o gx trivial rfl).2.trans f_x_4) lff (hx_afS hM gqlf rfl af_qlf) cn ((hM.o gx trivial rfl).1.trans f_x_0) ⟨?o44, ?o45⟩ ⟨?o46, ?o47⟩ ⟨?o48, ?o49⟩ cfx cfy hGx hGy hBx hBy hnb hE pf_x_0) (cwV 3 hts (hx_gV kw_1072 kw_1069 kw_1071 kw_44 kw_102) rfl rfl rfl (by decide +kernel) ⟨Nat.le_of_ble_eq_true rfl, Nat.le_of_ble_eq_true rfl⟩) rfl hl.1 rfl (Nat.le_of_ble_eq_true rfl) dX8_leastOn_30 ⟨Nat.le_of_ble_eq_true rfl, Nat.le_of_ble_eq_true rfl⟩) hW (fun r_12 L_10 h_11 H locs p_13 hW => ?_)
          case o44 => omega
          case o45 => omega
          case o46 => omega
          case o47 => omega
          case o48 => omega
          case o49 => omega
          obtain ⟨hr_14, hT, hs⟩ := p_13
          replace hT : hx_T T_tb L_10 h_11 := hT
          replace hs : hx_S T_tb [] L_2 h_3 L_10 h_11 := hs
          replace pf_x_0 : ∀ j : Nat, (j : Int) < (h_11.2.1 x 0).toInt → h_11.2.2 ql j ≠ none := by
            intro j hj; rw [(hs.o (gx.S hM) trivial rfl).1] at hj; rw [(hs.a gql rfl j).2]; exact pf_x_0 j hj
          replace hGx : hx_dc h_11 ql 2 5 cfx cn.toInt := hx_dc_S hs hTo gql tt_40 tt_2 rfl tt_4 rfl rfl rfl ?o50 hGx
          case o50 => omega
          replace hGy : hx_dc h_11 ql 2 6 cfy cn.toInt := hx_dc_S hs hTo gql tt_40 tt_2 rfl tt_4 rfl rfl rfl ?o51 hGy
          case o51 => omega
          replace hM := hM.tr (hs.mono ?o52)
          case o52 => decide
          replace gql := gql.S hs
          have hTo := hT
          refine va_mmin hx hb (hml.trans hl.1.symm) hown (hts _ kw_1076) (hts _ kw_917) (hts _ kw_109) (hts _ kw_918) (Nat.le_of_ble_eq_true rfl) (Nat.le_of_ble_eq_true rfl) (Nat.le_of_ble_eq_true rfl) (Nat.le_of_ble_eq_true rfl) dX8_leastOn_33 ?_
          refine lv_topi (fun x_15 ex_15 => ?_)
          have hmin := hw_min ex_15
          refine lv_istore_n (lv' := [(3, .int x_15), (4, .int iv6_4), (0, .ref x), (1, .int i1), (2, .int i2)]) hx hb dX8_leastOn_36 rfl hl ?o53 rfl (fun ls hl => ?_)
          case o53 => decide
          obtain ⟨x_16, ex_16⟩ : ∃ y : Int32, y = iv6_4 + Int32.ofInt 1 := ⟨_, rfl⟩
          have rg_17 := i32_r iv6_4
          have zx_16 : x_16.toInt = iv6_4.toInt + (1) := ?o54
          case o54 =>
            rw [ex_16]
            refine i32_add rfl ?o55 ?o56 ?o57
            case o55 => decide
            case o56 => omega
            case o57 => omega
          refine lv_iinc (v := x_16) (lv' := [(4, .int x_16), (3, .int x_15), (0, .ref x), (1, .int i1), (2, .int i2)]) hx hb dX8_leastOn_37 hl (k := 1) rfl ex_16.symm ?o58 rfl (fun ls hl => ?_)
          case o58 => decide
          refine lv_goto (tgt := 6) hx hb dX8_leastOn_40 ?o59 ?_
          case o59 => decide
          refine ih6 x_15 x_16 _ _ L_10 h_11 (i32_r _).1 (i32_r _).2 ?o60 ?o61 (hw_bs_yes vi6_0 hbl ?o62 ?o63 hr_14.1 ?o64 ?o65 hmin zx_16) ?o66 ls ?o67 hW hT hM  gql pf_x_0 hGx hGy (lv_sub hl [0, 1, 2, 3, 4] rfl)
          case o60 => omega
          case o61 => omega
          case o62 => omega
          case o63 => omega
          case o64 => omega
          case o65 => omega
          case o66 => omega
          case o67 => omega
  have zk_1000000000 : (1000000000 : Int32).toInt = 1000000000 := ?o68
  case o68 => decide
  have zk_0 : (0 : Int32).toInt = 0 := ?o69
  case o69 => decide
  refine loop6 9 (1000000000 : Int32) (0 : Int32) _ _ L h ?o70 ?o71 ?o72 ?o73 hw_bs_0 ?o74 ls ?o75 hW hT hM  gql pf_x_0 hGx hGy hl
  case o70 => decide
  case o71 => decide
  case o72 => decide
  case o73 => decide
  case o74 => omega
  case o75 => omega


set_option maxHeartbeats 4000000 in
set_option maxRecDepth 100000 in
theorem t_X8_firstOnWay_2 (l : Launch) (dC : Nat → ClassId) (dI : Nat → Nat → Nat) (dA : Nat → ClassId) (L : List Nat) (h : hx_h) (sz : Nat) (x : Nat) (i1 : Int32) (i2 : Int32) (i3 : Int32) (hT : hx_T T_tb L h) (gx : hx_g L h x 8) (ql : Nat) (gql : hx_g L h ql 40) (f_x_3 : h.2.2 x 3 = some ql) (qlf : Nat) (gqlf : hx_g L h qlf 41) (f_x_4 : h.2.2 x 4 = some qlf) (lff : Nat → Int32) (af_qlf : h.2.1 qlf = lff) (cn : Int32) (f_x_0 : h.2.1 x 0 = cn) (hi1 : 0 ≤ i1.toInt ∧ i1.toInt < 2 ^ cn.toInt.toNat) (hi2 : -1 ≤ i2.toInt ∧ i2.toInt < cn.toInt) (cfx cfy : Nat → Int32) (hGx : hx_dc h ql 2 5 cfx cn.toInt) (hGy : hx_dc h ql 2 6 cfy cn.toInt) (hBx : ∀ k : Nat, (k : Int) < cn.toInt → 0 ≤ (cfx k).toInt ∧ (cfx k).toInt ≤ 99) (hBy : ∀ k : Nat, (k : Int) < cn.toInt → 0 ≤ (cfy k).toInt ∧ (cfy k).toInt ≤ 99) (hE : hw_E (hx_fg cfx cfy cn.toInt) (hw_HC cn.toInt lff) cn.toInt (2 ^ cn.toInt.toNat - 1 - i1.toInt) 0) (hex : ∃ k : Int, 0 ≤ k ∧ k < cn.toInt ∧ hx_bt (2 ^ cn.toInt.toNat - 1 - i1.toInt) k = true ∧ (hx_fg cfx cfy cn.toInt) (hw_la cn.toInt i2.toInt) k + (hw_HC cn.toInt lff) (2 ^ cn.toInt.toNat - 1 - i1.toInt - hx_p2 k) k = i3.toInt) (pf_x_0 : ∀ j : Nat, (j : Int) < (h.2.1 x 0).toInt → h.2.2 ql j ≠ none) : Met l yX8_firstOnWay (Cond.code yX8_firstOnWay cX8_firstOnWay 5 (some .int) :: hx_all) ({ frames := 3, cells := 0, slots := 0, locals := 67 }) (va_Pc [.ref x, .int i1, .int i2, .int i3] (hx_B T_tb (P_ty dA) (dC, dI) vwCl L h sz)) (va_Qi (fun (r : Int32) (u : List Nat × hx_h) => (0 ≤ r.toInt ∧ r.toInt < cn.toInt ∧ hx_bt (2 ^ cn.toInt.toNat - 1 - i1.toInt) r.toInt = true ∧ (hx_fg cfx cfy cn.toInt) (hw_la cn.toInt i2.toInt) r.toInt + (hw_HC cn.toInt lff) (2 ^ cn.toInt.toNat - 1 - i1.toInt - hx_p2 r.toInt) r.toInt = i3.toInt ∧ ∀ k' : Int, 0 ≤ k' → k' < r.toInt → hx_bt (2 ^ cn.toInt.toNat - 1 - i1.toInt) k' = true → (hx_fg cfx cfy cn.toInt) (hw_la cn.toInt i2.toInt) k' + (hw_HC cn.toInt lff) (2 ^ cn.toInt.toNat - 1 - i1.toInt - hx_p2 k') k' ≠ i3.toInt) ∧ hx_T T_tb u.1 u.2 ∧ hx_S T_tb [] L h u.1 u.2) (hx_E T_tb (P_ty dA) (dC, dI) vwCl (hx_A L sz)) (hx_A L sz)) 0 0 (hx_A L sz) := by
  refine hx_met (lv := [(0, .ref x), (1, .int i1), (2, .int i2), (3, .int i3)]) (by decide +kernel) rfl (Nat.le_of_ble_eq_true rfl) rfl ?_
  intro p e s m below meth c hx hb hml hr hlk hts0 hown hin hsz hW ls hl
  have hts : ∀ w ∈ hx_all, w.before _ s = true := fun w hw => hts0 w (List.mem_cons_of_mem _ hw)
  have hown : s.vm.findClass "SmallCourt$Walk" = some m.cls := hown
  have hM : hx_S T_tb [] L h L h := hx_S.rf
  have b_cn := hT.gi gx tt_8 (k := 0) rfl
  rw [f_x_0] at b_cn
  have b_cn : 0 ≤ cn.toInt ∧ cn.toInt ≤ 8 := b_cn
  have hpn := hx_p2n (n := cn.toInt) ?o0 ?o1
  case o0 => omega
  case o1 => omega
  refine lv_iconst (v := 0) hx hb dX8_firstOnWay_0 ?o2 ?_
  case o2 => decide
  refine lv_istore (lv' := [(4, .int (0 : Int32)), (0, .ref x), (1, .int i1), (2, .int i2), (3, .int i3)]) hx hb dX8_firstOnWay_1 hl ?o3 rfl (fun ls hl => ?_)
  case o3 => decide
  have loop3 : ∀ (n3 : Nat) (iv3_4 : Int32) (H : Heap) (locs : List Loc) (hL1 : List Nat) (hl1 : hx_h), 0 ≤ iv3_4.toInt → iv3_4.toInt ≤ 8 → (∀ k' : Int, 0 ≤ k' → k' < iv3_4.toInt → hx_bt (2 ^ cn.toInt.toNat - 1 - i1.toInt) k' = true → (hx_fg cfx cfy cn.toInt) (hw_la cn.toInt i2.toInt) k' + (hw_HC cn.toInt lff) (2 ^ cn.toInt.toNat - 1 - i1.toInt - hx_p2 k') k' ≠ i3.toInt) → (iv3_4.toInt ≤ cn.toInt) → ∀ (ls : Array Slot), 8 - iv3_4.toInt < (n3 : Int) → hx_W T_tb (P_ty dA) (dC, dI) vwCl (hx_A L sz) s.heap hL1 hl1 s H locs → hx_T T_tb hL1 hl1 → hx_S T_tb [] L h hL1 hl1 → hx_g hL1 hl1 ql 40 → (∀ j : Nat, (j : Int) < (hl1.2.1 x 0).toInt → hl1.2.2 ql j ≠ none) → hx_dc hl1 ql 2 5 cfx cn.toInt → hx_dc hl1 ql 2 6 cfy cn.toInt → lv_has ls 5 [(4, .int iv3_4), (0, .ref x), (1, .int i1), (2, .int i2), (3, .int i3)] → W p l e ({ frames := 3, cells := 0, slots := 0, locals := 67 }) s m ([.ref x, .int i1, .int i2, .int i3] : List Value).toArray below meth c H locs 0 0 (MQ below (va_Qi (fun (r : Int32) (u : List Nat × hx_h) => (0 ≤ r.toInt ∧ r.toInt < cn.toInt ∧ hx_bt (2 ^ cn.toInt.toNat - 1 - i1.toInt) r.toInt = true ∧ (hx_fg cfx cfy cn.toInt) (hw_la cn.toInt i2.toInt) r.toInt + (hw_HC cn.toInt lff) (2 ^ cn.toInt.toNat - 1 - i1.toInt - hx_p2 r.toInt) r.toInt = i3.toInt ∧ ∀ k' : Int, 0 ≤ k' → k' < r.toInt → hx_bt (2 ^ cn.toInt.toNat - 1 - i1.toInt) k' = true → (hx_fg cfx cfy cn.toInt) (hw_la cn.toInt i2.toInt) k' + (hw_HC cn.toInt lff) (2 ^ cn.toInt.toNat - 1 - i1.toInt - hx_p2 k') k' ≠ i3.toInt) ∧ hx_T T_tb u.1 u.2 ∧ hx_S T_tb [] L h u.1 u.2) (hx_E T_tb (P_ty dA) (dC, dI) vwCl (hx_A L sz)) (hx_A L sz)) ([.ref x, .int i1, .int i2, .int i3] : List Value).toArray s 0 0 (hx_A L sz)) (F0 m 3 ls []) := by
    intro n3
    induction n3 with
    | zero => intro iv3_4 H locs hL1 hl1 bliv3_4 buiv3_4 vi3_0 vi3_1 ls hn3; exfalso; omega
    | succ n3 ih3 =>
      intro iv3_4 H locs hL1 hl1 bliv3_4 buiv3_4 vi3_0 vi3_1 ls hn3 hW hT hM  gql pf_x_0 hGx hGy hl
      refine lv_iload hx hb dX8_firstOnWay_3 (lv_at hl 0 rfl) ?_
      refine lv_aload_n hx hb dX8_firstOnWay_5 rfl (lv_at hl 1 rfl) ?_
      refine hk_geti hx hb hts hC_8 hown hW (gx.S hM) tt_8 0 ?o4 rfl kw_345 ⟨rfl, rfl, rfl⟩ ((hM.o gx trivial rfl).1.trans f_x_0) dX8_firstOnWay_6 ?_
      case o4 => decide
      refine hb_icmp_ge (zx := iv3_4.toInt) (zy := cn.toInt) (tgt := 42) hx hb rfl rfl dX8_firstOnWay_9 ?o5 (fun c_1 => ?_) (fun c_1 => ?_)
      case o5 => decide
      · skip
        refine lv_iconst (v := 0) hx hb dX8_firstOnWay_42 ?o6 ?_
        case o6 => decide
        exact hx_reti hx hb hr hlk hW ⟨(by exfalso; obtain ⟨k, k0, k1, kb, ke⟩ := hex; exact vi3_0 k k0 (by omega) kb ke), hT, hM⟩ dX8_firstOnWay_43
      · skip
        refine lv_iload hx hb dX8_firstOnWay_12 (lv_at hl 0 rfl) ?_
        refine lv_iload_n hx hb dX8_firstOnWay_14 rfl (lv_at hl 2 rfl) ?_
        have hTo := hT
        refine hx_goi (hx_runS (As := [.int iv3_4, .int i1]) (rest := []) ⟨hx, hb, hml, hown, hts⟩ hW (t_X8_isIn_2 l dC dI dA hL1 hl1 H.size iv3_4 i1 hT ⟨?o7, ?o8⟩ ⟨?o9, ?o10⟩) (va_cwS 2 hts (hx_gS kw_1058 kw_1056 kw_1057 kw_102) rfl rfl rfl (by decide +kernel) ⟨Nat.le_of_ble_eq_true rfl, Nat.le_of_ble_eq_true rfl⟩) rfl hl.1 rfl (Nat.le_of_ble_eq_true rfl) dX8_firstOnWay_15 ⟨Nat.le_of_ble_eq_true rfl, Nat.le_of_ble_eq_true rfl⟩) hW (fun r_4 L_2 h_3 H locs p_5 hW => ?_)
        case o7 => omega
        case o8 => omega
        case o9 => omega
        case o10 => omega
        obtain ⟨hr_6, hT, hs⟩ := p_5
        replace hT : hx_T T_tb L_2 h_3 := hT
        replace hs : hx_S T_tb [] hL1 hl1 L_2 h_3 := hs
        replace pf_x_0 : ∀ j : Nat, (j : Int) < (h_3.2.1 x 0).toInt → h_3.2.2 ql j ≠ none := by
          intro j hj; rw [(hs.o (gx.S hM) trivial rfl).1] at hj; rw [(hs.a gql rfl j).2]; exact pf_x_0 j hj
        replace hGx : hx_dc h_3 ql 2 5 cfx cn.toInt := hx_dc_S hs hTo gql tt_40 tt_2 rfl tt_4 rfl rfl rfl ?o11 hGx
        case o11 => omega
        replace hGy : hx_dc h_3 ql 2 6 cfy cn.toInt := hx_dc_S hs hTo gql tt_40 tt_2 rfl tt_4 rfl rfl rfl ?o12 hGy
        case o12 => omega
        replace hM := hM.tr (hs.mono ?o13)
        case o13 => decide
        replace gql := gql.S hs
        refine hb_if_ne (zx := r_4.toInt) (tgt := 36) hx hb rfl dX8_firstOnWay_18 ?o14 (fun c_7 => ?_) (fun c_7 => ?_)
        case o14 => decide
        · skip
          have hib : hx_bt i1.toInt iv3_4.toInt = true := ?o15
          case o15 =>
            rcases hr_6 with z | z
            exact z.2
            exfalso
            omega
          have hbl := hw_bf2 (n := cn.toInt) ?o16 ?o17 ?o18 ?o19 ?o20 ?o21 hib
          case o16 => omega
          case o17 => omega
          case o18 => omega
          case o19 => omega
          case o20 => omega
          case o21 => omega
          obtain ⟨x_8, ex_8⟩ : ∃ y : Int32, y = iv3_4 + Int32.ofInt 1 := ⟨_, rfl⟩
          have rg_9 := i32_r iv3_4
          have zx_8 : x_8.toInt = iv3_4.toInt + (1) := ?o22
          case o22 =>
            rw [ex_8]
            refine i32_add rfl ?o23 ?o24 ?o25
            case o23 => decide
            case o24 => omega
            case o25 => omega
          refine lv_iinc (v := x_8) (lv' := [(4, .int x_8), (0, .ref x), (1, .int i1), (2, .int i2), (3, .int i3)]) hx hb dX8_firstOnWay_36 hl (k := 0) rfl ex_8.symm ?o26 rfl (fun ls hl => ?_)
          case o26 => decide
          refine lv_goto (tgt := 3) hx hb dX8_firstOnWay_39 ?o27 ?_
          case o27 => decide
          refine ih3 x_8 _ _ L_2 h_3 ?o28 ?o29 (fun k' h0 h1 hb => by rcases (show k' < iv3_4.toInt ∨ k' = iv3_4.toInt by omega) with z | z; exact vi3_0 k' h0 z hb; subst z; rw [hbl] at hb; cases hb) ?o30 ls ?o31 hW hT hM  gql pf_x_0 hGx hGy (lv_sub hl [0, 1, 2, 3, 4] rfl)
          case o28 => omega
          case o29 => omega
          case o30 => omega
          case o31 => omega
        · skip
          have hnb : hx_bt i1.toInt iv3_4.toInt = false := ?o32
          case o32 =>
            rcases hr_6 with z | z
            exfalso
            omega
            exact z.2
          have hbl := hw_bt2 (n := cn.toInt) ?o33 ?o34 ?o35 ?o36 ?o37 ?o38 hnb
          case o33 => omega
          case o34 => omega
          case o35 => omega
          case o36 => omega
          case o37 => omega
          case o38 => omega
          refine lv_aload_n hx hb dX8_firstOnWay_21 rfl (lv_at hl 1 rfl) ?_
          refine lv_iload_n hx hb dX8_firstOnWay_22 rfl (lv_at hl 2 rfl) ?_
          refine lv_iload_n hx hb dX8_firstOnWay_23 rfl (lv_at hl 3 rfl) ?_
          refine lv_iload hx hb dX8_firstOnWay_24 (lv_at hl 0 rfl) ?_
          have hTo := hT
          refine hx_goi (hx_runV (As := [.int i1, .int i2, .int iv3_4]) (rest := []) ⟨hx, hb, hml, hown, hts⟩ hW (gx.S hM) tt_8 (T := TX8) (N := 5) rfl (t_X8_stepsBy_2 l dC dI dA L_2 h_3 H.size x i1 i2 iv3_4 hT (gx.S hM) ql gql ((hM.o gx trivial rfl).2.trans f_x_3) qlf (gqlf.S hM) ((hM.o gx trivial rfl).2.trans f_x_4) lff (hx_afS hM gqlf rfl af_qlf) cn ((hM.o gx trivial rfl).1.trans f_x_0) ⟨?o39, ?o40⟩ ⟨?o41, ?o42⟩ ⟨?o43, ?o44⟩ cfx cfy hGx hGy hBx hBy hnb hE pf_x_0) (cwV 3 hts (hx_gV kw_1072 kw_1069 kw_1071 kw_44 kw_102) rfl rfl rfl (by decide +kernel) ⟨Nat.le_of_ble_eq_true rfl, Nat.le_of_ble_eq_true rfl⟩) rfl hl.1 rfl (Nat.le_of_ble_eq_true rfl) dX8_firstOnWay_26 ⟨Nat.le_of_ble_eq_true rfl, Nat.le_of_ble_eq_true rfl⟩) hW (fun r_12 L_10 h_11 H locs p_13 hW => ?_)
          case o39 => omega
          case o40 => omega
          case o41 => omega
          case o42 => omega
          case o43 => omega
          case o44 => omega
          obtain ⟨hr_14, hT, hs⟩ := p_13
          replace hT : hx_T T_tb L_10 h_11 := hT
          replace hs : hx_S T_tb [] L_2 h_3 L_10 h_11 := hs
          replace pf_x_0 : ∀ j : Nat, (j : Int) < (h_11.2.1 x 0).toInt → h_11.2.2 ql j ≠ none := by
            intro j hj; rw [(hs.o (gx.S hM) trivial rfl).1] at hj; rw [(hs.a gql rfl j).2]; exact pf_x_0 j hj
          replace hGx : hx_dc h_11 ql 2 5 cfx cn.toInt := hx_dc_S hs hTo gql tt_40 tt_2 rfl tt_4 rfl rfl rfl ?o45 hGx
          case o45 => omega
          replace hGy : hx_dc h_11 ql 2 6 cfy cn.toInt := hx_dc_S hs hTo gql tt_40 tt_2 rfl tt_4 rfl rfl rfl ?o46 hGy
          case o46 => omega
          replace hM := hM.tr (hs.mono ?o47)
          case o47 => decide
          replace gql := gql.S hs
          refine lv_iload_n hx hb dX8_firstOnWay_29 rfl (lv_at hl 4 rfl) ?_
          refine hb_icmp_ne (zx := r_12.toInt) (zy := i3.toInt) (tgt := 36) hx hb rfl rfl dX8_firstOnWay_30 ?o48 (fun c_15 => ?_) (fun c_15 => ?_)
          case o48 => decide
          · skip
            obtain ⟨x_16, ex_16⟩ : ∃ y : Int32, y = iv3_4 + Int32.ofInt 1 := ⟨_, rfl⟩
            have rg_17 := i32_r iv3_4
            have zx_16 : x_16.toInt = iv3_4.toInt + (1) := ?o49
            case o49 =>
              rw [ex_16]
              refine i32_add rfl ?o50 ?o51 ?o52
              case o50 => decide
              case o51 => omega
              case o52 => omega
            refine lv_iinc (v := x_16) (lv' := [(4, .int x_16), (0, .ref x), (1, .int i1), (2, .int i2), (3, .int i3)]) hx hb dX8_firstOnWay_36 hl (k := 0) rfl ex_16.symm ?o53 rfl (fun ls hl => ?_)
            case o53 => decide
            refine lv_goto (tgt := 3) hx hb dX8_firstOnWay_39 ?o54 ?_
            case o54 => decide
            refine ih3 x_16 _ _ L_10 h_11 ?o55 ?o56 (fun k' h0 h1 hb => by rcases (show k' < iv3_4.toInt ∨ k' = iv3_4.toInt by omega) with z | z; exact vi3_0 k' h0 z hb; subst z; rw [← hr_14.1]; omega) ?o57 ls ?o58 hW hT hM  gql pf_x_0 hGx hGy (lv_sub hl [0, 1, 2, 3, 4] rfl)
            case o55 => omega
            case o56 => omega
            case o57 => omega
            case o58 => omega
          · skip
            refine lv_iload hx hb dX8_firstOnWay_33 (lv_at hl 0 rfl) ?_
            refine hx_reti hx hb hr hlk hW ⟨⟨?o59, ?o60, hbl, by rw [← hr_14.1]; omega, vi3_0⟩, hT, hM⟩ dX8_firstOnWay_35
            case o59 => omega
            case o60 => omega
  have zk_0 : (0 : Int32).toInt = 0 := ?o61
  case o61 => decide
  refine loop3 9 (0 : Int32) _ _ L h ?o62 ?o63 (fun k' h0 h1 => absurd h1 ?o64) ?o65 ls ?o66 hW hT hM  gql pf_x_0 hGx hGy hl
  case o62 => decide
  case o63 => decide
  case o64 => omega
  case o65 => omega
  case o66 => omega


set_option maxHeartbeats 4000000 in
set_option maxRecDepth 100000 in
theorem t_X8_retrace_2 (l : Launch) (dC : Nat → ClassId) (dI : Nat → Nat → Nat) (dA : Nat → ClassId) (L : List Nat) (h : hx_h) (sz : Nat) (x : Nat) (i1 : Int32) (hT : hx_T T_tb L h) (gx : hx_g L h x 8) (ql : Nat) (gql : hx_g L h ql 40) (f_x_3 : h.2.2 x 3 = some ql) (qlf : Nat) (gqlf : hx_g L h qlf 41) (f_x_4 : h.2.2 x 4 = some qlf) (qlt : Nat) (gqlt : hx_g L h qlt 39) (f_x_2 : h.2.2 x 2 = some qlt) (lff : Nat → Int32) (af_qlf : h.2.1 qlf = lff) (ltf : Nat → Int32) (af_qlt : h.2.1 qlt = ltf) (cn : Int32) (f_x_0 : h.2.1 x 0 = cn) (lf : Nat → Int32) (cl_ql_0 : hx_col 8 h ql 0 = lf) (cfx cfy : Nat → Int32) (hGx : hx_dc h ql 2 5 cfx cn.toInt) (hGy : hx_dc h ql 2 6 cfy cn.toInt) (hBx : ∀ k : Nat, (k : Int) < cn.toInt → 0 ≤ (cfx k).toInt ∧ (cfx k).toInt ≤ 99) (hBy : ∀ k : Nat, (k : Int) < cn.toInt → 0 ≤ (cfy k).toInt ∧ (cfy k).toInt ≤ 99) (hE : hw_E (hx_fg cfx cfy cn.toInt) (hw_HC cn.toInt lff) cn.toInt (2 ^ cn.toInt.toNat - 1) 0) (hm : hx_mn (hx_fg cfx cfy cn.toInt) (hw_HC cn.toInt lff) cn.toInt (2 ^ cn.toInt.toNat - 1) cn.toInt i1.toInt) (pf_x_0 : ∀ j : Nat, (j : Int) < (h.2.1 x 0).toInt → h.2.2 ql j ≠ none) : Met l yX8_retrace (Cond.code yX8_retrace cX8_retrace 7 none :: hx_all) ({ frames := 4, cells := 0, slots := 0, locals := 91 }) (va_Pc [.ref x, .int i1] (hx_B T_tb (P_ty dA) (dC, dI) vwCl L h sz)) (va_Qv (fun (u : List Nat × hx_h) => (∃ (lt1 : Nat → Int32), u.2.2.1 qlt = lt1 ∧ (∃ l a d : Int, hx_wj (hx_fg cfx cfy cn.toInt) (hw_HC cn.toInt lff) cn.toInt i1.toInt lf lt1 cn.toInt l a d)) ∧ hx_T T_tb u.1 u.2 ∧ hx_S T_tb [(39, 0)] L h u.1 u.2) (hx_E T_tb (P_ty dA) (dC, dI) vwCl (hx_A L sz)) (hx_A L sz)) 0 0 (hx_A L sz) := by
  refine hx_met (lv := [(0, .ref x), (1, .int i1)]) (by decide +kernel) rfl (Nat.le_of_ble_eq_true rfl) rfl ?_
  intro p e s m below meth c hx hb hml hr hlk hts0 hown hin hsz hW ls hl
  have hts : ∀ w ∈ hx_all, w.before _ s = true := fun w hw => hts0 w (List.mem_cons_of_mem _ hw)
  have hown : s.vm.findClass "SmallCourt$Walk" = some m.cls := hown
  have hM : hx_S T_tb [(39, 0)] L h L h := hx_S.rf
  have b_cn := hT.gi gx tt_8 (k := 0) rfl
  rw [f_x_0] at b_cn
  have b_cn : 0 ≤ cn.toInt ∧ cn.toInt ≤ 8 := b_cn
  have hpn := hx_p2n (n := cn.toInt) ?o0 ?o1
  case o0 => omega
  case o1 => omega
  refine lv_iconst (v := 0) hx hb dX8_retrace_0 ?o2 ?_
  case o2 => decide
  refine lv_istore_n (lv' := [(2, .int (0 : Int32)), (0, .ref x), (1, .int i1)]) hx hb dX8_retrace_1 rfl hl ?o3 rfl (fun ls hl => ?_)
  case o3 => decide
  refine lv_iconst (v := -1) hx hb dX8_retrace_2 ?o4 ?_
  case o4 => decide
  refine lv_istore_n (lv' := [(3, .int (-1 : Int32)), (2, .int (0 : Int32)), (0, .ref x), (1, .int i1)]) hx hb dX8_retrace_3 rfl hl ?o5 rfl (fun ls hl => ?_)
  case o5 => decide
  refine lv_iload_n hx hb dX8_retrace_4 rfl (lv_at hl 3 rfl) ?_
  refine lv_istore (lv' := [(4, .int i1), (3, .int (-1 : Int32)), (2, .int (0 : Int32)), (0, .ref x), (1, .int i1)]) hx hb dX8_retrace_5 hl ?o6 rfl (fun ls hl => ?_)
  case o6 => decide
  refine lv_iconst (v := 0) hx hb dX8_retrace_7 ?o7 ?_
  case o7 => decide
  refine lv_istore (lv' := [(5, .int (0 : Int32)), (4, .int i1), (3, .int (-1 : Int32)), (2, .int (0 : Int32)), (0, .ref x), (1, .int i1)]) hx hb dX8_retrace_8 hl ?o8 rfl (fun ls hl => ?_)
  case o8 => decide
  have loop10 : ∀ (n10 : Nat) (iv10_2 iv10_3 iv10_4 iv10_5 : Int32) (ia10_qlt : Nat → Int32) (H : Heap) (locs : List Loc) (hL1 : List Nat) (hl1 : hx_h), 0 ≤ iv10_2.toInt → iv10_2.toInt ≤ 255 → -1 ≤ iv10_3.toInt → iv10_3.toInt ≤ 7 → -2147483648 ≤ iv10_4.toInt → iv10_4.toInt ≤ 2147483647 → 0 ≤ iv10_5.toInt → iv10_5.toInt ≤ 8 → (hx_pc (2 ^ cn.toInt.toNat - 1 - iv10_2.toInt) = cn.toInt - iv10_5.toInt) → (hx_mn (hx_fg cfx cfy cn.toInt) (hw_HC cn.toInt lff) cn.toInt (2 ^ cn.toInt.toNat - 1 - iv10_2.toInt) (hw_la cn.toInt iv10_3.toInt) iv10_4.toInt) → (hx_wj (hx_fg cfx cfy cn.toInt) (hw_HC cn.toInt lff) cn.toInt i1.toInt lf ia10_qlt iv10_5.toInt (2 ^ cn.toInt.toNat - 1 - iv10_2.toInt) (hw_la cn.toInt iv10_3.toInt) iv10_4.toInt) → (iv10_3.toInt < cn.toInt) → (iv10_2.toInt < 2 ^ cn.toInt.toNat) → (iv10_5.toInt ≤ cn.toInt) → ∀ (ls : Array Slot), 8 - iv10_5.toInt < (n10 : Int) → hx_W T_tb (P_ty dA) (dC, dI) vwCl (hx_A L sz) s.heap hL1 hl1 s H locs → hx_T T_tb hL1 hl1 → hx_S T_tb [(39, 0)] L h hL1 hl1 → hx_g hL1 hl1 ql 40 → (∀ j : Nat, (j : Int) < (hl1.2.1 x 0).toInt → hl1.2.2 ql j ≠ none) → hl1.2.1 qlt = ia10_qlt → hx_col 8 hl1 ql 0 = lf → hx_dc hl1 ql 2 5 cfx cn.toInt → hx_dc hl1 ql 2 6 cfy cn.toInt → lv_has ls 7 [(5, .int iv10_5), (4, .int iv10_4), (3, .int iv10_3), (2, .int iv10_2), (0, .ref x), (1, .int i1)] → W p l e ({ frames := 4, cells := 0, slots := 0, locals := 91 }) s m ([.ref x, .int i1] : List Value).toArray below meth c H locs 0 0 (MQ below (va_Qv (fun (u : List Nat × hx_h) => (∃ (lt1 : Nat → Int32), u.2.2.1 qlt = lt1 ∧ (∃ l a d : Int, hx_wj (hx_fg cfx cfy cn.toInt) (hw_HC cn.toInt lff) cn.toInt i1.toInt lf lt1 cn.toInt l a d)) ∧ hx_T T_tb u.1 u.2 ∧ hx_S T_tb [(39, 0)] L h u.1 u.2) (hx_E T_tb (P_ty dA) (dC, dI) vwCl (hx_A L sz)) (hx_A L sz)) ([.ref x, .int i1] : List Value).toArray s 0 0 (hx_A L sz)) (F0 m 10 ls []) := by
    intro n10
    induction n10 with
    | zero => intro iv10_2 iv10_3 iv10_4 iv10_5 ia10_qlt H locs hL1 hl1 bliv10_2 buiv10_2 bliv10_3 buiv10_3 bliv10_4 buiv10_4 bliv10_5 buiv10_5 vi10_0 vi10_1 vi10_2 vi10_3 vi10_4 vi10_5 ls hn10; exfalso; omega
    | succ n10 ih10 =>
      intro iv10_2 iv10_3 iv10_4 iv10_5 ia10_qlt H locs hL1 hl1 bliv10_2 buiv10_2 bliv10_3 buiv10_3 bliv10_4 buiv10_4 bliv10_5 buiv10_5 vi10_0 vi10_1 vi10_2 vi10_3 vi10_4 vi10_5 ls hn10 hW hT hM  gql pf_x_0 nia10_qlt cl_ql_0 hGx hGy hl
      refine lv_iload hx hb dX8_retrace_10 (lv_at hl 0 rfl) ?_
      refine lv_aload_n hx hb dX8_retrace_12 rfl (lv_at hl 4 rfl) ?_
      refine hk_geti hx hb hts hC_8 hown hW (gx.S hM) tt_8 0 ?o9 rfl kw_345 ⟨rfl, rfl, rfl⟩ ((hM.o gx trivial rfl).1.trans f_x_0) dX8_retrace_13 ?_
      case o9 => decide
      refine hb_icmp_ge (zx := iv10_5.toInt) (zy := cn.toInt) (tgt := 75) hx hb rfl rfl dX8_retrace_16 ?o10 (fun c_1 => ?_) (fun c_1 => ?_)
      case o10 => decide
      · skip
        refine hx_retv hx hb hr hlk hW ⟨⟨ia10_qlt, nia10_qlt, ⟨_, _, _, hx_wj_j vi10_2 ?o11⟩⟩, hT, hM⟩ dX8_retrace_75
        case o11 => omega
      · skip
        have hlz : 2 ^ cn.toInt.toNat - 1 - iv10_2.toInt ≠ 0 := fun z => by have w := vi10_0; rw [z, hx_pc_0] at w; omega
        have hex := vi10_1.2.1 hlz
        obtain ⟨kx, kx0, kx1, kxb, kxe⟩ := hex
        have hex := (⟨kx, kx0, kx1, kxb, kxe.symm⟩ : ∃ k : Int, 0 ≤ k ∧ k < cn.toInt ∧ hx_bt (2 ^ cn.toInt.toNat - 1 - iv10_2.toInt) k = true ∧ (hx_fg cfx cfy cn.toInt) (hw_la cn.toInt iv10_3.toInt) k + (hw_HC cn.toInt lff) (2 ^ cn.toInt.toNat - 1 - iv10_2.toInt - hx_p2 k) k = iv10_4.toInt)
        refine lv_aload_n hx hb dX8_retrace_19 rfl (lv_at hl 4 rfl) ?_
        refine lv_iload_n hx hb dX8_retrace_20 rfl (lv_at hl 3 rfl) ?_
        refine lv_iload_n hx hb dX8_retrace_21 rfl (lv_at hl 2 rfl) ?_
        refine lv_iload hx hb dX8_retrace_22 (lv_at hl 1 rfl) ?_
        have hTo := hT
        refine hx_goi (hx_runV (As := [.int iv10_2, .int iv10_3, .int iv10_4]) (rest := []) ⟨hx, hb, hml, hown, hts⟩ hW (gx.S hM) tt_8 (T := TX8) (N := 5) rfl (t_X8_firstOnWay_2 l dC dI dA hL1 hl1 H.size x iv10_2 iv10_3 iv10_4 hT (gx.S hM) ql gql ((hM.o gx trivial rfl).2.trans f_x_3) qlf (gqlf.S hM) ((hM.o gx trivial rfl).2.trans f_x_4) lff (hx_afS hM gqlf rfl af_qlf) cn ((hM.o gx trivial rfl).1.trans f_x_0) ⟨?o12, ?o13⟩ ⟨?o14, ?o15⟩ cfx cfy hGx hGy hBx hBy (hw_E_le hE ?o16) hex pf_x_0) (cwV 3 hts (hx_gV kw_1084 kw_1081 kw_1083 kw_46 kw_102) rfl rfl rfl (by decide +kernel) ⟨Nat.le_of_ble_eq_true rfl, Nat.le_of_ble_eq_true rfl⟩) rfl hl.1 rfl (Nat.le_of_ble_eq_true rfl) dX8_retrace_24 ⟨Nat.le_of_ble_eq_true rfl, Nat.le_of_ble_eq_true rfl⟩) hW (fun r_4 L_2 h_3 H locs p_5 hW => ?_)
        case o12 => omega
        case o13 => omega
        case o14 => omega
        case o15 => omega
        case o16 => omega
        obtain ⟨hr_6, hT, hs⟩ := p_5
        replace hT : hx_T T_tb L_2 h_3 := hT
        replace hs : hx_S T_tb [] hL1 hl1 L_2 h_3 := hs
        replace pf_x_0 : ∀ j : Nat, (j : Int) < (h_3.2.1 x 0).toInt → h_3.2.2 ql j ≠ none := by
          intro j hj; rw [(hs.o (gx.S hM) trivial rfl).1] at hj; rw [(hs.a gql rfl j).2]; exact pf_x_0 j hj
        replace cl_ql_0 : hx_col 8 h_3 ql 0 = lf := (hx_col_S hs hTo gql tt_40 tt_2 rfl rfl).trans cl_ql_0
        replace hGx : hx_dc h_3 ql 2 5 cfx cn.toInt := hx_dc_S hs hTo gql tt_40 tt_2 rfl tt_4 rfl rfl rfl ?o17 hGx
        case o17 => omega
        replace hGy : hx_dc h_3 ql 2 6 cfy cn.toInt := hx_dc_S hs hTo gql tt_40 tt_2 rfl tt_4 rfl rfl rfl ?o18 hGy
        case o18 => omega
        replace nia10_qlt : h_3.2.1 qlt = ia10_qlt := (funext fun j => (hs.a (gqlt.S hM) rfl j).1).trans nia10_qlt
        replace hM := hM.tr (hs.mono ?o19)
        case o19 => decide
        replace gql := gql.S hs
        have hn0 := hr_6.1; have hn1 := hr_6.2.1; have hnt := hr_6.2.2.1
        have hnf := hw_bf (n := cn.toInt) ?o20 ?o21 ?o22 ?o23 hn0 hn1 hnt
        case o20 => omega
        case o21 => omega
        case o22 => omega
        case o23 => omega
        have hsd := hx_sub_d (n := cn.toInt) ?o24 ?o25 ?o26 ?o27 hn0 hn1 hnt
        case o24 => omega
        case o25 => omega
        case o26 => omega
        case o27 => omega
        refine lv_istore (lv' := [(6, .int r_4), (5, .int iv10_5), (4, .int iv10_4), (3, .int iv10_3), (2, .int iv10_2), (0, .ref x), (1, .int i1)]) hx hb dX8_retrace_27 hl ?o28 rfl (fun ls hl => ?_)
        case o28 => decide
        refine lv_aload_n hx hb dX8_retrace_29 rfl (lv_at hl 5 rfl) ?_
        refine hk_getr hx hb hts hC_8 hown hW (gx.S hM) tt_8 2 ?o29 rfl kw_349 ⟨rfl, rfl, rfl⟩ ((hM.o gx trivial rfl).2.trans f_x_2) dX8_retrace_30 ?_
        case o29 => decide
        refine lv_iload hx hb dX8_retrace_33 (lv_at hl 1 rfl) ?_
        refine lv_aload_n hx hb dX8_retrace_35 rfl (lv_at hl 5 rfl) ?_
        refine hk_getr hx hb hts hC_8 hown hW (gx.S hM) tt_8 3 ?o30 rfl kw_351 ⟨rfl, rfl, rfl⟩ ((hM.o gx trivial rfl).2.trans f_x_3) dX8_retrace_36 ?_
        case o30 => decide
        refine lv_iload hx hb dX8_retrace_39 (lv_at hl 0 rfl) ?_
        refine hx_aaldN hx hb hW hT gql tt_40 (t1 := 2) rfl ⟨?o31, ?o32⟩ (pf_x_0 _ (by rw [((hM.o gx trivial rfl).1.trans f_x_0)]; exact hx_tnI (by omega) (by omega))) dX8_retrace_41 (fun q_7 fq_7 gq_7 => ?_)
        case o31 => omega
        case o32 => omega
        refine hx_geti hx hb hts hC_2 hown hW hT gq_7 tt_2 0 ?o33 rfl kw_723 ⟨rfl, rfl, rfl⟩ dX8_retrace_42 (fun x_8 ex_8 lx_8 ux_8 => ?_)
        case o33 => decide
        have fx_8 := ex_8.symm
        have cx_8 : x_8 = lf r_4.toNatClampNeg := ?o34
        case o34 =>
          rw [ex_8, ← cl_ql_0]
          exact (hx_col_at fq_7 (by unfold Int32.toNatClampNeg; omega)).symm
        have hTo := hT
        have nia10_qltO := nia10_qlt
        have hTo := hT
        refine hx_iast hx hb hW hT (hx_S.rf (M := [(39, 0)])) (gqlt.S hM) tt_39 rfl ⟨?o35, ?o36⟩ rfl (i32_r _) (List.mem_singleton.mpr rfl) dX8_retrace_45 (fun H locs h_9 eh_9 hW hT hs => ?_)
        case o35 => omega
        case o36 => omega
        replace fx_8 := (hs.o gq_7 trivial rfl).1.trans fx_8
        replace pf_x_0 : ∀ j : Nat, (j : Int) < (h_9.2.1 x 0).toInt → h_9.2.2 ql j ≠ none := by
          intro j hj; rw [(hs.o (gx.S hM) trivial rfl).1] at hj; rw [(hs.a gql rfl j).2]; exact pf_x_0 j hj
        replace cl_ql_0 : hx_col 8 h_9 ql 0 = lf := (hx_col_S hs hTo gql tt_40 tt_2 rfl rfl).trans cl_ql_0
        replace hGx : hx_dc h_9 ql 2 5 cfx cn.toInt := hx_dc_S hs hTo gql tt_40 tt_2 rfl tt_4 rfl rfl rfl ?o37 hGx
        case o37 => omega
        replace hGy : hx_dc h_9 ql 2 6 cfy cn.toInt := hx_dc_S hs hTo gql tt_40 tt_2 rfl tt_4 rfl rfl rfl ?o38 hGy
        case o38 => omega
        replace fq_7 := (hs.a gql rfl _).2.trans fq_7
        replace hM := hM.tr (hs.mono ?o39)
        case o39 => decide
        replace gql := gql.S hs
        replace gq_7 := gq_7.S hs
        obtain ⟨fa_10, dfa_10⟩ : ∃ g : Nat → Int32, g = hx_up ia10_qlt iv10_5.toNatClampNeg x_8 := ⟨_, rfl⟩
        have nfa_10 : h_9.2.1 qlt = fa_10 := ?o40
        case o40 =>
          rw [eh_9, dfa_10, ← nia10_qltO]
          exact hx_pi_fun _ _ _ _
        refine lv_iload_n hx hb dX8_retrace_46 rfl (lv_at hl 4 rfl) ?_
        refine lv_iconst (v := 1) hx hb dX8_retrace_47 ?o41 ?_
        case o41 => decide
        refine lv_iload hx hb dX8_retrace_48 (lv_at hl 0 rfl) ?_
        refine lv_ishl hx hb dX8_retrace_50 ?_
        refine lv_topi (fun x_11 ex_11 => ?_)
        have zx_11 : 1 ≤ x_11.toInt ∧ x_11.toInt ≤ 128 := ?o42
        case o42 =>
          rw [ex_11]
          refine hx_shl7 ?o43 ?o44
          case o43 => omega
          case o44 => omega
        refine lv_ior hx hb dX8_retrace_51 ?_
        refine lv_topi (fun x_12 ex_12 => ?_)
        have zx_12 : 0 ≤ x_12.toInt ∧ x_12.toInt ≤ 255 := ?o45
        case o45 =>
          rw [ex_12]
          refine hx_or8 ?o46 ?o47 ?o48 ?o49
          case o46 => omega
          case o47 => omega
          case o48 => omega
          case o49 => omega
        have hlw := hw_lk (n := cn.toInt) (B := iv10_2) (K := r_4) ?o50 ?o51 ?o52 ?o53 ?o54 ?o55 hnf (hw_E_le hE ?o56)
        case o50 => omega
        case o51 => omega
        case o52 => omega
        case o53 => omega
        case o54 => omega
        case o55 => omega
        case o56 => omega
        rw [← ex_11, ← ex_12] at hlw
        have hlw1 := hlw.1; have hlw2 := hlw.2.1; have hlw3 := hlw.2.2.1
        refine lv_istore_n (lv' := [(2, .int x_12), (6, .int r_4), (5, .int iv10_5), (4, .int iv10_4), (3, .int iv10_3), (0, .ref x), (1, .int i1)]) hx hb dX8_retrace_52 rfl hl ?o57 rfl (fun ls hl => ?_)
        case o57 => decide
        refine lv_iload hx hb dX8_retrace_53 (lv_at hl 1 rfl) ?_
        refine lv_istore_n (lv' := [(3, .int r_4), (2, .int x_12), (6, .int r_4), (5, .int iv10_5), (4, .int iv10_4), (0, .ref x), (1, .int i1)]) hx hb dX8_retrace_55 rfl hl ?o58 rfl (fun ls hl => ?_)
        case o58 => decide
        refine lv_aload_n hx hb dX8_retrace_56 rfl (lv_at hl 5 rfl) ?_
        refine hk_getr hx hb hts hC_8 hown hW (gx.S hM) tt_8 4 ?o59 rfl kw_352 ⟨rfl, rfl, rfl⟩ ((hM.o gx trivial rfl).2.trans f_x_4) dX8_retrace_57 ?_
        case o59 => decide
        refine lv_iload_n hx hb dX8_retrace_60 rfl (lv_at hl 1 rfl) ?_
        refine lv_bipush (v := 8) hx hb dX8_retrace_61 ?o60 ?_
        case o60 => decide
        refine lv_imul hx hb dX8_retrace_63 ?_
        refine lv_topi (fun x_13 ex_13 => ?_)
        have zx_13 : x_13.toInt = x_12.toInt * 8 := ?o61
        case o61 =>
          rw [ex_13]
          refine i32_mul rfl ?o62 rfl ?o63 ?o64
          case o62 => decide
          case o63 => omega
          case o64 => omega
        refine lv_iload_n hx hb dX8_retrace_64 rfl (lv_at hl 0 rfl) ?_
        refine lv_iadd hx hb dX8_retrace_65 ?_
        have rg_14 := i32_r x_13
        have rg_15 := i32_r r_4
        refine lv_topi (fun x_16 ex_16 => ?_)
        have zx_16 : x_16.toInt = x_13.toInt + r_4.toInt := ?o65
        case o65 =>
          rw [ex_16]
          refine i32_add rfl rfl ?o66 ?o67
          case o66 => omega
          case o67 => omega
        refine hx_iald hx hb hW hT (gqlf.S hM) tt_41 rfl ⟨?o68, ?o69⟩ dX8_retrace_66 (fun x_17 ex_17 lx_17 ux_17 => ?_)
        case o68 => omega
        case o69 => omega
        have ax_17 : x_17 = lff x_16.toNatClampNeg := ex_17.trans (congrFun (hx_afS hM gqlf rfl af_qlf) _)
        have hv : x_17.toInt = hw_HC cn.toInt lff (2 ^ cn.toInt.toNat - 1 - iv10_2.toInt - hx_p2 r_4.toInt) r_4.toInt := hw_HCv ax_17 (by unfold Int32.toNatClampNeg; omega)
        have hv1 := hlw.2.2.2.2.1; have hv2 := hlw.2.2.2.2.2; rw [← hv] at hv1 hv2
        refine lv_istore (lv' := [(4, .int x_17), (3, .int r_4), (2, .int x_12), (6, .int r_4), (5, .int iv10_5), (0, .ref x), (1, .int i1)]) hx hb dX8_retrace_67 hl ?o70 rfl (fun ls hl => ?_)
        case o70 => decide
        obtain ⟨x_18, ex_18⟩ : ∃ y : Int32, y = iv10_5 + Int32.ofInt 1 := ⟨_, rfl⟩
        have rg_19 := i32_r iv10_5
        have zx_18 : x_18.toInt = iv10_5.toInt + (1) := ?o71
        case o71 =>
          rw [ex_18]
          refine i32_add rfl ?o72 ?o73 ?o74
          case o72 => decide
          case o73 => omega
          case o74 => omega
        refine lv_iinc (v := x_18) (lv' := [(5, .int x_18), (4, .int x_17), (3, .int r_4), (2, .int x_12), (6, .int r_4), (0, .ref x), (1, .int i1)]) hx hb dX8_retrace_69 hl (k := 4) rfl ex_18.symm ?o75 rfl (fun ls hl => ?_)
        case o75 => decide
        refine lv_goto (tgt := 10) hx hb dX8_retrace_72 ?o76 ?_
        case o76 => decide
        refine ih10 x_12 r_4 x_17 x_18 fa_10 _ _ L_2 h_9 ?o77 ?o78 ?o79 ?o80 (i32_r _).1 (i32_r _).2 ?o81 ?o82 (by rw [show 2 ^ cn.toInt.toNat - 1 - x_12.toInt = 2 ^ cn.toInt.toNat - 1 - iv10_2.toInt - hx_p2 r_4.toInt by omega, hw_pc (by omega) (by omega) hn0 (by omega) hnt]; omega) (hw_mn_c (by rw [hv]; exact (hE.1 _ _ hsd.1 (by omega) hn0 hn1 hsd.2.2.2).2.2) ?o83 (hw_la2 ?o84).symm) (by rw [hw_la2 (n := cn.toInt) (i := r_4.toInt) (by omega)]; exact hx_wj_s vi10_2 (by omega) ⟨hn0, hn1, hnt, hr_6.2.2.2.1, hr_6.2.2.2.2, by omega, by rw [show 2 ^ cn.toInt.toNat - 1 - x_12.toInt = 2 ^ cn.toInt.toNat - 1 - iv10_2.toInt - hx_p2 r_4.toInt by omega]; exact hv⟩ dfa_10 (by unfold Int32.toNatClampNeg; omega) cx_8 (by omega)) ?o85 ?o86 ?o87 ls ?o88 hW hT hM  gql pf_x_0 nfa_10 cl_ql_0 hGx hGy (lv_sub hl [0, 1, 2, 3, 5, 6] rfl)
        case o77 => omega
        case o78 => omega
        case o79 => omega
        case o80 => omega
        case o81 => omega
        case o82 => omega
        case o83 => omega
        case o84 => omega
        case o85 => omega
        case o86 => omega
        case o87 => omega
        case o88 => omega
  have zk_0 : (0 : Int32).toInt = 0 := ?o89
  case o89 => decide
  have zk_m1 : (-1 : Int32).toInt = -1 := ?o90
  case o90 => decide
  have zk_0 : (0 : Int32).toInt = 0 := ?o91
  case o91 => decide
  refine loop10 9 (0 : Int32) (-1 : Int32) i1 (0 : Int32) ltf _ _ L h ?o92 ?o93 ?o94 ?o95 (i32_r _).1 (i32_r _).2 ?o96 ?o97 (by have w := hx_pc_all (n := cn.toInt) (by omega) (by omega); rw [show 2 ^ cn.toInt.toNat - 1 - (0 : Int32).toInt = 2 ^ cn.toInt.toNat - 1 by omega]; omega) (hw_mn_c hm ?o98 (hw_la1 ?o99).symm) (hx_wj_i ?o100 ?o101 (hw_la1 ?o102) rfl) ?o103 ?o104 ?o105 ls ?o106 hW hT hM  gql pf_x_0 af_qlt cl_ql_0 hGx hGy hl
  case o92 => decide
  case o93 => decide
  case o94 => decide
  case o95 => decide
  case o96 => decide
  case o97 => decide
  case o98 => omega
  case o99 => omega
  case o100 => omega
  case o101 => omega
  case o102 => omega
  case o103 => omega
  case o104 => omega
  case o105 => omega
  case o106 => omega


set_option maxHeartbeats 4000000 in
set_option maxRecDepth 100000 in
theorem t_X8_walkList_2 (l : Launch) (dC : Nat → ClassId) (dI : Nat → Nat → Nat) (dA : Nat → ClassId) (L : List Nat) (h : hx_h) (sz : Nat) (x : Nat) (hT : hx_T T_tb L h) (gx : hx_g L h x 8) (ql : Nat) (gql : hx_g L h ql 40) (f_x_3 : h.2.2 x 3 = some ql) (qlf : Nat) (gqlf : hx_g L h qlf 41) (f_x_4 : h.2.2 x 4 = some qlf) (qlt : Nat) (gqlt : hx_g L h qlt 39) (f_x_2 : h.2.2 x 2 = some qlt) (lff : Nat → Int32) (af_qlf : h.2.1 qlf = lff) (ltf : Nat → Int32) (af_qlt : h.2.1 qlt = ltf) (cn : Int32) (f_x_0 : h.2.1 x 0 = cn) (lf : Nat → Int32) (cl_ql_0 : hx_col 8 h ql 0 = lf) (cfx cfy : Nat → Int32) (hGx : hx_dc h ql 2 5 cfx cn.toInt) (hGy : hx_dc h ql 2 6 cfy cn.toInt) (hBx : ∀ k : Nat, (k : Int) < cn.toInt → 0 ≤ (cfx k).toInt ∧ (cfx k).toInt ≤ 99) (hBy : ∀ k : Nat, (k : Int) < cn.toInt → 0 ≤ (cfy k).toInt ∧ (cfy k).toInt ≤ 99) (pf_x_0 : ∀ j : Nat, (j : Int) < (h.2.1 x 0).toInt → h.2.2 ql j ≠ none) : Met l yX8_walkList (Cond.code yX8_walkList cX8_walkList 4 (some .int) :: hx_all) ({ frames := 5, cells := 0, slots := 0, locals := 117 }) (va_Pc [.ref x] (hx_B T_tb (P_ty dA) (dC, dI) vwCl L h sz)) (va_Qi (fun (r : Int32) (u : List Nat × hx_h) => (∃ (n1 : Int32) (wm1 : Int32) (lt1 : Nat → Int32), u.2.2.1 x 0 = n1 ∧ u.2.2.1 x 1 = wm1 ∧ u.2.2.1 qlt = lt1 ∧ (n1.toInt = 0 ∧ wm1.toInt = cn.toInt ∧ hx_WA (hx_fg cfx cfy cn.toInt) cn.toInt lf lt1 r.toInt)) ∧ hx_T T_tb u.1 u.2 ∧ hx_S T_tb [(8, 0), (8, 1), (39, 0), (41, 0)] L h u.1 u.2) (hx_E T_tb (P_ty dA) (dC, dI) vwCl (hx_A L sz)) (hx_A L sz)) 0 0 (hx_A L sz) := by
  refine hx_met (lv := [(0, .ref x)]) (by decide +kernel) rfl (Nat.le_of_ble_eq_true rfl) rfl ?_
  intro p e s m below meth c hx hb hml hr hlk hts0 hown hin hsz hW ls hl
  have hts : ∀ w ∈ hx_all, w.before _ s = true := fun w hw => hts0 w (List.mem_cons_of_mem _ hw)
  have hown : s.vm.findClass "SmallCourt$Walk" = some m.cls := hown
  have hM : hx_S T_tb [(8, 0), (8, 1), (39, 0), (41, 0)] L h L h := hx_S.rf
  have b_cn := hT.gi gx tt_8 (k := 0) rfl
  rw [f_x_0] at b_cn
  have b_cn : 0 ≤ cn.toInt ∧ cn.toInt ≤ 8 := b_cn
  have hpn := hx_p2n (n := cn.toInt) ?o0 ?o1
  case o0 => omega
  case o1 => omega
  refine lv_iconst (v := 1) hx hb dX8_walkList_0 ?o2 ?_
  case o2 => decide
  refine lv_aload_n hx hb dX8_walkList_1 rfl (lv_at hl 0 rfl) ?_
  refine hk_geti hx hb hts hC_8 hown hW (gx.S hM) tt_8 0 ?o3 rfl kw_345 ⟨rfl, rfl, rfl⟩ f_x_0 dX8_walkList_2 ?_
  case o3 => decide
  refine lv_ishl hx hb dX8_walkList_5 ?_
  refine lv_topi (fun x_1 ex_1 => ?_)
  have zx_1 : 1 ≤ x_1.toInt ∧ x_1.toInt ≤ 256 := ?o4
  case o4 =>
    rw [ex_1]
    refine hx_shl8 ?o5 ?o6
    case o5 => omega
    case o6 => omega
  have hsets : x_1.toInt = 2 ^ cn.toInt.toNat := ?o7
  case o7 =>
    rw [ex_1]
    refine hx_sh2 ?o8 ?o9
    case o8 => omega
    case o9 => omega
  refine lv_iconst (v := 1) hx hb dX8_walkList_6 ?o10 ?_
  case o10 => decide
  refine lv_isub hx hb dX8_walkList_7 ?_
  have rg_2 := i32_r x_1
  refine lv_topi (fun x_3 ex_3 => ?_)
  have zx_3 : x_3.toInt = x_1.toInt - 1 := ?o11
  case o11 =>
    rw [ex_3]
    refine i32_sub rfl ?o12 ?o13 ?o14
    case o12 => decide
    case o13 => omega
    case o14 => omega
  refine lv_istore_n (lv' := [(1, .int x_3), (0, .ref x)]) hx hb dX8_walkList_8 rfl hl ?o15 rfl (fun ls hl => ?_)
  case o15 => decide
  refine lv_iload_n hx hb dX8_walkList_9 rfl (lv_at hl 0 rfl) ?_
  refine lv_istore_n (lv' := [(2, .int x_3), (1, .int x_3), (0, .ref x)]) hx hb dX8_walkList_10 rfl hl ?o16 rfl (fun ls hl => ?_)
  case o16 => decide
  have loop11 : ∀ (n11 : Nat) (iv11_2 : Int32) (ia11_qlf : Nat → Int32) (H : Heap) (locs : List Loc) (hL1 : List Nat) (hl1 : hx_h), 0 ≤ iv11_2.toInt → iv11_2.toInt ≤ 255 → (hw_E (hx_fg cfx cfy cn.toInt) (hw_HC cn.toInt ia11_qlf) cn.toInt (2 ^ cn.toInt.toNat - 1 - iv11_2.toInt) 0) → (iv11_2.toInt ≤ x_3.toInt) → ∀ (ls : Array Slot), iv11_2.toInt < (n11 : Int) → hx_W T_tb (P_ty dA) (dC, dI) vwCl (hx_A L sz) s.heap hL1 hl1 s H locs → hx_T T_tb hL1 hl1 → hx_S T_tb [(8, 0), (8, 1), (39, 0), (41, 0)] L h hL1 hl1 → hl1.2.1 x 0 = cn → hx_g hL1 hl1 ql 40 → (∀ j : Nat, (j : Int) < (hl1.2.1 x 0).toInt → hl1.2.2 ql j ≠ none) → hl1.2.1 qlf = ia11_qlf → hl1.2.1 qlt = ltf → hx_col 8 hl1 ql 0 = lf → hx_dc hl1 ql 2 5 cfx cn.toInt → hx_dc hl1 ql 2 6 cfy cn.toInt → lv_has ls 4 [(2, .int iv11_2), (1, .int x_3), (0, .ref x)] → W p l e ({ frames := 5, cells := 0, slots := 0, locals := 117 }) s m ([.ref x] : List Value).toArray below meth c H locs 0 0 (MQ below (va_Qi (fun (r : Int32) (u : List Nat × hx_h) => (∃ (n1 : Int32) (wm1 : Int32) (lt1 : Nat → Int32), u.2.2.1 x 0 = n1 ∧ u.2.2.1 x 1 = wm1 ∧ u.2.2.1 qlt = lt1 ∧ (n1.toInt = 0 ∧ wm1.toInt = cn.toInt ∧ hx_WA (hx_fg cfx cfy cn.toInt) cn.toInt lf lt1 r.toInt)) ∧ hx_T T_tb u.1 u.2 ∧ hx_S T_tb [(8, 0), (8, 1), (39, 0), (41, 0)] L h u.1 u.2) (hx_E T_tb (P_ty dA) (dC, dI) vwCl (hx_A L sz)) (hx_A L sz)) ([.ref x] : List Value).toArray s 0 0 (hx_A L sz)) (F0 m 11 ls []) := by
    intro n11
    induction n11 with
    | zero => intro iv11_2 ia11_qlf H locs hL1 hl1 bliv11_2 buiv11_2 vi11_0 vi11_1 ls hn11; exfalso; omega
    | succ n11 ih11 =>
      intro iv11_2 ia11_qlf H locs hL1 hl1 bliv11_2 buiv11_2 vi11_0 vi11_1 ls hn11 hW hT hM f_x_0 gql pf_x_0 nia11_qlf af_qlt cl_ql_0 hGx hGy hl
      refine lv_iload_n hx hb dX8_walkList_11 rfl (lv_at hl 0 rfl) ?_
      refine hb_if_le (zx := iv11_2.toInt) (tgt := 75) hx hb rfl dX8_walkList_12 ?o17 (fun c_4 => ?_) (fun c_4 => ?_)
      case o17 => decide
      · skip
        have hEf : hw_E (hx_fg cfx cfy cn.toInt) (hw_HC cn.toInt ia11_qlf) cn.toInt (2 ^ cn.toInt.toNat - 1) 0 := hw_E_l vi11_0 ?o18
        case o18 => omega
        refine lv_aload_n hx hb dX8_walkList_75 rfl (lv_at hl 2 rfl) ?_
        refine hk_geti hx hb hts hC_8 hown hW (gx.S hM) tt_8 0 ?o19 rfl kw_345 ⟨rfl, rfl, rfl⟩ f_x_0 dX8_walkList_76 ?_
        case o19 => decide
        refine hb_if_ne (zx := cn.toInt) (tgt := 86) hx hb rfl dX8_walkList_79 ?o20 (fun c_5 => ?_) (fun c_5 => ?_)
        case o20 => decide
        · skip
          have hp1 := hw_p2n1 (n := cn.toInt) ?o21 ?o22
          case o21 => omega
          case o22 => omega
          refine lv_aload_n hx hb dX8_walkList_86 rfl (lv_at hl 2 rfl) ?_
          refine lv_iconst (v := 0) hx hb dX8_walkList_87 ?o23 ?_
          case o23 => decide
          refine lv_iconst (v := -1) hx hb dX8_walkList_88 ?o24 ?_
          case o24 => decide
          have hTo := hT
          have zc_m1 : (-1 : Int32).toInt = -1 := ?o25
          case o25 => decide
          have zc_0 : (0 : Int32).toInt = 0 := ?o26
          case o26 => decide
          refine hx_goi (hx_runV (As := [.int (0 : Int32), .int (-1 : Int32)]) (rest := []) ⟨hx, hb, hml, hown, hts⟩ hW (gx.S hM) tt_8 (T := TX8) (N := 5) rfl (t_X8_leastOn_2 l dC dI dA hL1 hl1 H.size x (0 : Int32) (-1 : Int32) hT (gx.S hM) ql gql ((hM.o gx trivial rfl).2.trans f_x_3) qlf (gqlf.S hM) ((hM.o gx trivial rfl).2.trans f_x_4) ia11_qlf nia11_qlf cn f_x_0 ⟨?o27, ?o28⟩ ⟨?o29, ?o30⟩ cfx cfy hGx hGy hBx hBy (hw_E_l (hw_E_w vi11_0) ?o31) pf_x_0) (cwV 2 hts (hx_gV kw_1067 kw_1064 kw_1066 kw_43 kw_102) rfl rfl rfl (by decide +kernel) ⟨Nat.le_of_ble_eq_true rfl, Nat.le_of_ble_eq_true rfl⟩) rfl hl.1 rfl (Nat.le_of_ble_eq_true rfl) dX8_walkList_89 ⟨Nat.le_of_ble_eq_true rfl, Nat.le_of_ble_eq_true rfl⟩) hW (fun r_8 L_6 h_7 H locs p_9 hW => ?_)
          case o27 => omega
          case o28 => omega
          case o29 => omega
          case o30 => omega
          case o31 => omega
          obtain ⟨hr_10, hT, hs⟩ := p_9
          replace hT : hx_T T_tb L_6 h_7 := hT
          replace hs : hx_S T_tb [] hL1 hl1 L_6 h_7 := hs
          replace f_x_0 := (hs.o (gx.S hM) trivial rfl).1.trans f_x_0
          replace pf_x_0 : ∀ j : Nat, (j : Int) < (h_7.2.1 x 0).toInt → h_7.2.2 ql j ≠ none := by
            intro j hj; rw [(hs.o (gx.S hM) trivial rfl).1] at hj; rw [(hs.a gql rfl j).2]; exact pf_x_0 j hj
          replace cl_ql_0 : hx_col 8 h_7 ql 0 = lf := (hx_col_S hs hTo gql tt_40 tt_2 rfl rfl).trans cl_ql_0
          replace hGx : hx_dc h_7 ql 2 5 cfx cn.toInt := hx_dc_S hs hTo gql tt_40 tt_2 rfl tt_4 rfl rfl rfl ?o32 hGx
          case o32 => omega
          replace hGy : hx_dc h_7 ql 2 6 cfy cn.toInt := hx_dc_S hs hTo gql tt_40 tt_2 rfl tt_4 rfl rfl rfl ?o33 hGy
          case o33 => omega
          replace af_qlt : h_7.2.1 qlt = ltf := (funext fun j => (hs.a (gqlt.S hM) rfl j).1).trans af_qlt
          replace nia11_qlf : h_7.2.1 qlf = ia11_qlf := (funext fun j => (hs.a (gqlf.S hM) rfl j).1).trans nia11_qlf
          replace hM := hM.tr (hs.mono ?o34)
          case o34 => decide
          replace gql := gql.S hs
          have hmf := hw_mn_c (l1 := 2 ^ cn.toInt.toNat - 1) (i1 := cn.toInt) hr_10.1 ?o35 (hw_la1 ?o36)
          case o35 => omega
          case o36 => omega
          refine lv_istore_n (lv' := [(2, .int r_8), (1, .int x_3), (0, .ref x)]) hx hb dX8_walkList_92 rfl hl ?o37 rfl (fun ls hl => ?_)
          case o37 => decide
          refine lv_aload_n hx hb dX8_walkList_93 rfl (lv_at hl 2 rfl) ?_
          refine lv_iload_n hx hb dX8_walkList_94 rfl (lv_at hl 0 rfl) ?_
          have hTo := hT
          refine hx_gov (hx_runV (As := [.int r_8]) (rest := []) ⟨hx, hb, hml, hown, hts⟩ hW (gx.S hM) tt_8 (T := TX8) (N := 5) rfl (t_X8_retrace_2 l dC dI dA L_6 h_7 H.size x r_8 hT (gx.S hM) ql gql ((hM.o gx trivial rfl).2.trans f_x_3) qlf (gqlf.S hM) ((hM.o gx trivial rfl).2.trans f_x_4) qlt (gqlt.S hM) ((hM.o gx trivial rfl).2.trans f_x_2) ia11_qlf nia11_qlf ltf af_qlt cn f_x_0 lf cl_ql_0 cfx cfy hGx hGy hBx hBy hEf hmf pf_x_0) (cwV 1 hts (hx_gV kw_1080 kw_1077 kw_1079 kw_45 kw_102) rfl rfl rfl (by decide +kernel) ⟨Nat.le_of_ble_eq_true rfl, Nat.le_of_ble_eq_true rfl⟩) rfl hl.1 rfl (Nat.le_of_ble_eq_true rfl) dX8_walkList_95 ⟨Nat.le_of_ble_eq_true rfl, Nat.le_of_ble_eq_true rfl⟩) hW (fun L_11 h_12 H locs p_14 hW => ?_)
          obtain ⟨⟨w_16, fw_16, hr_15⟩, hT, hs⟩ := p_14
          replace hT : hx_T T_tb L_11 h_12 := hT
          replace hs : hx_S T_tb [(39, 0)] L_6 h_7 L_11 h_12 := hs
          replace f_x_0 := (hs.o (gx.S hM) trivial rfl).1.trans f_x_0
          replace pf_x_0 : ∀ j : Nat, (j : Int) < (h_12.2.1 x 0).toInt → h_12.2.2 ql j ≠ none := by
            intro j hj; rw [(hs.o (gx.S hM) trivial rfl).1] at hj; rw [(hs.a gql rfl j).2]; exact pf_x_0 j hj
          replace cl_ql_0 : hx_col 8 h_12 ql 0 = lf := (hx_col_S hs hTo gql tt_40 tt_2 rfl rfl).trans cl_ql_0
          replace hGx : hx_dc h_12 ql 2 5 cfx cn.toInt := hx_dc_S hs hTo gql tt_40 tt_2 rfl tt_4 rfl rfl rfl ?o38 hGx
          case o38 => omega
          replace hGy : hx_dc h_12 ql 2 6 cfy cn.toInt := hx_dc_S hs hTo gql tt_40 tt_2 rfl tt_4 rfl rfl rfl ?o39 hGy
          case o39 => omega
          replace nia11_qlf : h_12.2.1 qlf = ia11_qlf := (funext fun j => (hs.a (gqlf.S hM) rfl j).1).trans nia11_qlf
          replace hM := hM.tr (hs.mono ?o40)
          case o40 => decide
          replace gql := gql.S hs
          have fw_16 : h_12.2.1 qlt = w_16 := fw_16
          refine lv_aload_n hx hb dX8_walkList_98 rfl (lv_at hl 2 rfl) ?_
          refine lv_aload_n hx hb dX8_walkList_99 rfl (lv_at hl 2 rfl) ?_
          refine hk_geti hx hb hts hC_8 hown hW (gx.S hM) tt_8 0 ?o41 rfl kw_345 ⟨rfl, rfl, rfl⟩ f_x_0 dX8_walkList_100 ?_
          case o41 => decide
          have hTo := hT
          refine hx_puti hx hb hts hC_8 hown hW hT (hx_S.rf (M := [(8, 1)])) (gx.S hM) tt_8 1 ?o42 rfl kw_347 ⟨rfl, rfl, rfl⟩ rfl (x := cn) ⟨?o43, ?o44⟩ rfl rfl rfl (List.mem_singleton.mpr rfl) dX8_walkList_103 (fun H locs h_17 eh_17 hW hT hs => ?_)
          case o42 => decide
          case o43 => omega
          case o44 => omega
          replace f_x_0 := (hs.o (gx.S hM) trivial rfl).1.trans f_x_0
          replace pf_x_0 : ∀ j : Nat, (j : Int) < (h_17.2.1 x 0).toInt → h_17.2.2 ql j ≠ none := by
            intro j hj; rw [(hs.o (gx.S hM) trivial rfl).1] at hj; rw [(hs.a gql rfl j).2]; exact pf_x_0 j hj
          replace cl_ql_0 : hx_col 8 h_17 ql 0 = lf := (hx_col_S hs hTo gql tt_40 tt_2 rfl rfl).trans cl_ql_0
          replace hGx : hx_dc h_17 ql 2 5 cfx cn.toInt := hx_dc_S hs hTo gql tt_40 tt_2 rfl tt_4 rfl rfl rfl ?o45 hGx
          case o45 => omega
          replace hGy : hx_dc h_17 ql 2 6 cfy cn.toInt := hx_dc_S hs hTo gql tt_40 tt_2 rfl tt_4 rfl rfl rfl ?o46 hGy
          case o46 => omega
          replace nia11_qlf : h_17.2.1 qlf = ia11_qlf := (funext fun j => (hs.a (gqlf.S hM) rfl j).1).trans nia11_qlf
          replace fw_16 : h_17.2.1 qlt = w_16 := (funext fun j => (hs.a (gqlt.S hM) rfl j).1).trans fw_16
          replace hM := hM.tr (hs.mono ?o47)
          case o47 => decide
          replace gql := gql.S hs
          have f_18 : h_17.2.1 x 1 = cn := ?o48
          case o48 =>
            rw [eh_17]
            exact hx_pi_at _ _ _ _
          refine lv_aload_n hx hb dX8_walkList_106 rfl (lv_at hl 2 rfl) ?_
          refine lv_iconst (v := 0) hx hb dX8_walkList_107 ?o49 ?_
          case o49 => decide
          have hTo := hT
          refine hx_puti hx hb hts hC_8 hown hW hT (hx_S.rf (M := [(8, 0)])) (gx.S hM) tt_8 0 ?o50 rfl kw_345 ⟨rfl, rfl, rfl⟩ rfl (x := (0 : Int32)) ?o51 rfl rfl rfl (List.mem_singleton.mpr rfl) dX8_walkList_108 (fun H locs h_19 eh_19 hW hT hs => ?_)
          case o50 => decide
          case o51 => decide
          replace f_18 := (hs.o (gx.S hM) trivial rfl).1.trans f_18
          replace cl_ql_0 : hx_col 8 h_19 ql 0 = lf := (hx_col_S hs hTo gql tt_40 tt_2 rfl rfl).trans cl_ql_0
          replace hGx : hx_dc h_19 ql 2 5 cfx cn.toInt := hx_dc_S hs hTo gql tt_40 tt_2 rfl tt_4 rfl rfl rfl ?o52 hGx
          case o52 => omega
          replace hGy : hx_dc h_19 ql 2 6 cfy cn.toInt := hx_dc_S hs hTo gql tt_40 tt_2 rfl tt_4 rfl rfl rfl ?o53 hGy
          case o53 => omega
          replace nia11_qlf : h_19.2.1 qlf = ia11_qlf := (funext fun j => (hs.a (gqlf.S hM) rfl j).1).trans nia11_qlf
          replace fw_16 : h_19.2.1 qlt = w_16 := (funext fun j => (hs.a (gqlt.S hM) rfl j).1).trans fw_16
          replace hM := hM.tr (hs.mono ?o54)
          case o54 => decide
          replace gql := gql.S hs
          have f_20 : h_19.2.1 x 0 = (0 : Int32) := ?o55
          case o55 =>
            rw [eh_19]
            exact hx_pi_at _ _ _ _
          refine lv_iload_n hx hb dX8_walkList_111 rfl (lv_at hl 0 rfl) ?_
          have zo_0 : (0 : Int32).toInt = 0 := ?o56
          case o56 => decide
          refine hx_reti hx hb hr hlk hW ⟨⟨(0 : Int32), cn, w_16, f_20, f_18, fw_16, ⟨?o57, rfl, (hw_HC cn.toInt ia11_qlf), hw_E_WT ?o58 ?o59 hEf, hmf, hr_15⟩⟩, hT, hM⟩ dX8_walkList_112
          case o57 => decide
          case o58 => omega
          case o59 => omega
        · skip
          refine lv_iconst (v := 0) hx hb dX8_walkList_82 ?o60 ?_
          case o60 => decide
          refine lv_goto (tgt := 92) hx hb dX8_walkList_83 ?o61 ?_
          case o61 => decide
          have hmf := hw_mn_00 (gx := cfx) (gy := cfy) (H := (hw_HC cn.toInt ia11_qlf)) (n := cn.toInt) (V := (0 : Int32).toInt) ?o62 ?o63
          case o62 => omega
          case o63 => decide
          refine lv_istore_n (lv' := [(2, .int (0 : Int32)), (1, .int x_3), (0, .ref x)]) hx hb dX8_walkList_92 rfl hl ?o64 rfl (fun ls hl => ?_)
          case o64 => decide
          refine lv_aload_n hx hb dX8_walkList_93 rfl (lv_at hl 2 rfl) ?_
          refine lv_iload_n hx hb dX8_walkList_94 rfl (lv_at hl 0 rfl) ?_
          have hTo := hT
          have zc_0 : (0 : Int32).toInt = 0 := ?o65
          case o65 => decide
          refine hx_gov (hx_runV (As := [.int (0 : Int32)]) (rest := []) ⟨hx, hb, hml, hown, hts⟩ hW (gx.S hM) tt_8 (T := TX8) (N := 5) rfl (t_X8_retrace_2 l dC dI dA hL1 hl1 H.size x (0 : Int32) hT (gx.S hM) ql gql ((hM.o gx trivial rfl).2.trans f_x_3) qlf (gqlf.S hM) ((hM.o gx trivial rfl).2.trans f_x_4) qlt (gqlt.S hM) ((hM.o gx trivial rfl).2.trans f_x_2) ia11_qlf nia11_qlf ltf af_qlt cn f_x_0 lf cl_ql_0 cfx cfy hGx hGy hBx hBy hEf hmf pf_x_0) (cwV 1 hts (hx_gV kw_1080 kw_1077 kw_1079 kw_45 kw_102) rfl rfl rfl (by decide +kernel) ⟨Nat.le_of_ble_eq_true rfl, Nat.le_of_ble_eq_true rfl⟩) rfl hl.1 rfl (Nat.le_of_ble_eq_true rfl) dX8_walkList_95 ⟨Nat.le_of_ble_eq_true rfl, Nat.le_of_ble_eq_true rfl⟩) hW (fun L_21 h_22 H locs p_24 hW => ?_)
          obtain ⟨⟨w_26, fw_26, hr_25⟩, hT, hs⟩ := p_24
          replace hT : hx_T T_tb L_21 h_22 := hT
          replace hs : hx_S T_tb [(39, 0)] hL1 hl1 L_21 h_22 := hs
          replace f_x_0 := (hs.o (gx.S hM) trivial rfl).1.trans f_x_0
          replace pf_x_0 : ∀ j : Nat, (j : Int) < (h_22.2.1 x 0).toInt → h_22.2.2 ql j ≠ none := by
            intro j hj; rw [(hs.o (gx.S hM) trivial rfl).1] at hj; rw [(hs.a gql rfl j).2]; exact pf_x_0 j hj
          replace cl_ql_0 : hx_col 8 h_22 ql 0 = lf := (hx_col_S hs hTo gql tt_40 tt_2 rfl rfl).trans cl_ql_0
          replace hGx : hx_dc h_22 ql 2 5 cfx cn.toInt := hx_dc_S hs hTo gql tt_40 tt_2 rfl tt_4 rfl rfl rfl ?o66 hGx
          case o66 => omega
          replace hGy : hx_dc h_22 ql 2 6 cfy cn.toInt := hx_dc_S hs hTo gql tt_40 tt_2 rfl tt_4 rfl rfl rfl ?o67 hGy
          case o67 => omega
          replace nia11_qlf : h_22.2.1 qlf = ia11_qlf := (funext fun j => (hs.a (gqlf.S hM) rfl j).1).trans nia11_qlf
          replace hM := hM.tr (hs.mono ?o68)
          case o68 => decide
          replace gql := gql.S hs
          have fw_26 : h_22.2.1 qlt = w_26 := fw_26
          refine lv_aload_n hx hb dX8_walkList_98 rfl (lv_at hl 2 rfl) ?_
          refine lv_aload_n hx hb dX8_walkList_99 rfl (lv_at hl 2 rfl) ?_
          refine hk_geti hx hb hts hC_8 hown hW (gx.S hM) tt_8 0 ?o69 rfl kw_345 ⟨rfl, rfl, rfl⟩ f_x_0 dX8_walkList_100 ?_
          case o69 => decide
          have hTo := hT
          refine hx_puti hx hb hts hC_8 hown hW hT (hx_S.rf (M := [(8, 1)])) (gx.S hM) tt_8 1 ?o70 rfl kw_347 ⟨rfl, rfl, rfl⟩ rfl (x := cn) ⟨?o71, ?o72⟩ rfl rfl rfl (List.mem_singleton.mpr rfl) dX8_walkList_103 (fun H locs h_27 eh_27 hW hT hs => ?_)
          case o70 => decide
          case o71 => omega
          case o72 => omega
          replace f_x_0 := (hs.o (gx.S hM) trivial rfl).1.trans f_x_0
          replace pf_x_0 : ∀ j : Nat, (j : Int) < (h_27.2.1 x 0).toInt → h_27.2.2 ql j ≠ none := by
            intro j hj; rw [(hs.o (gx.S hM) trivial rfl).1] at hj; rw [(hs.a gql rfl j).2]; exact pf_x_0 j hj
          replace cl_ql_0 : hx_col 8 h_27 ql 0 = lf := (hx_col_S hs hTo gql tt_40 tt_2 rfl rfl).trans cl_ql_0
          replace hGx : hx_dc h_27 ql 2 5 cfx cn.toInt := hx_dc_S hs hTo gql tt_40 tt_2 rfl tt_4 rfl rfl rfl ?o73 hGx
          case o73 => omega
          replace hGy : hx_dc h_27 ql 2 6 cfy cn.toInt := hx_dc_S hs hTo gql tt_40 tt_2 rfl tt_4 rfl rfl rfl ?o74 hGy
          case o74 => omega
          replace nia11_qlf : h_27.2.1 qlf = ia11_qlf := (funext fun j => (hs.a (gqlf.S hM) rfl j).1).trans nia11_qlf
          replace fw_26 : h_27.2.1 qlt = w_26 := (funext fun j => (hs.a (gqlt.S hM) rfl j).1).trans fw_26
          replace hM := hM.tr (hs.mono ?o75)
          case o75 => decide
          replace gql := gql.S hs
          have f_28 : h_27.2.1 x 1 = cn := ?o76
          case o76 =>
            rw [eh_27]
            exact hx_pi_at _ _ _ _
          refine lv_aload_n hx hb dX8_walkList_106 rfl (lv_at hl 2 rfl) ?_
          refine lv_iconst (v := 0) hx hb dX8_walkList_107 ?o77 ?_
          case o77 => decide
          have hTo := hT
          refine hx_puti hx hb hts hC_8 hown hW hT (hx_S.rf (M := [(8, 0)])) (gx.S hM) tt_8 0 ?o78 rfl kw_345 ⟨rfl, rfl, rfl⟩ rfl (x := (0 : Int32)) ?o79 rfl rfl rfl (List.mem_singleton.mpr rfl) dX8_walkList_108 (fun H locs h_29 eh_29 hW hT hs => ?_)
          case o78 => decide
          case o79 => decide
          replace f_28 := (hs.o (gx.S hM) trivial rfl).1.trans f_28
          replace cl_ql_0 : hx_col 8 h_29 ql 0 = lf := (hx_col_S hs hTo gql tt_40 tt_2 rfl rfl).trans cl_ql_0
          replace hGx : hx_dc h_29 ql 2 5 cfx cn.toInt := hx_dc_S hs hTo gql tt_40 tt_2 rfl tt_4 rfl rfl rfl ?o80 hGx
          case o80 => omega
          replace hGy : hx_dc h_29 ql 2 6 cfy cn.toInt := hx_dc_S hs hTo gql tt_40 tt_2 rfl tt_4 rfl rfl rfl ?o81 hGy
          case o81 => omega
          replace nia11_qlf : h_29.2.1 qlf = ia11_qlf := (funext fun j => (hs.a (gqlf.S hM) rfl j).1).trans nia11_qlf
          replace fw_26 : h_29.2.1 qlt = w_26 := (funext fun j => (hs.a (gqlt.S hM) rfl j).1).trans fw_26
          replace hM := hM.tr (hs.mono ?o82)
          case o82 => decide
          replace gql := gql.S hs
          have f_30 : h_29.2.1 x 0 = (0 : Int32) := ?o83
          case o83 =>
            rw [eh_29]
            exact hx_pi_at _ _ _ _
          refine lv_iload_n hx hb dX8_walkList_111 rfl (lv_at hl 0 rfl) ?_
          have zo_0 : (0 : Int32).toInt = 0 := ?o84
          case o84 => decide
          refine hx_reti hx hb hr hlk hW ⟨⟨(0 : Int32), cn, w_26, f_30, f_28, fw_26, ⟨?o85, rfl, (hw_HC cn.toInt ia11_qlf), hw_E_WT ?o86 ?o87 hEf, hmf, hr_25⟩⟩, hT, hM⟩ dX8_walkList_112
          case o85 => decide
          case o86 => omega
          case o87 => omega
      · skip
        refine lv_iconst (v := 0) hx hb dX8_walkList_15 ?o88 ?_
        case o88 => decide
        refine lv_istore_n (lv' := [(3, .int (0 : Int32)), (2, .int iv11_2), (1, .int x_3), (0, .ref x)]) hx hb dX8_walkList_16 rfl hl ?o89 rfl (fun ls hl => ?_)
        case o89 => decide
        have loop17 : ∀ (n17 : Nat) (iv17_3 : Int32) (ia17_qlf : Nat → Int32) (H : Heap) (locs : List Loc) (hL1 : List Nat) (hl1 : hx_h), 0 ≤ iv17_3.toInt → iv17_3.toInt ≤ 8 → (hw_E (hx_fg cfx cfy cn.toInt) (hw_HC cn.toInt ia17_qlf) cn.toInt (2 ^ cn.toInt.toNat - 1 - iv11_2.toInt) iv17_3.toInt) → ∀ (ls : Array Slot), 8 - iv17_3.toInt < (n17 : Int) → hx_W T_tb (P_ty dA) (dC, dI) vwCl (hx_A L sz) s.heap hL1 hl1 s H locs → hx_T T_tb hL1 hl1 → hx_S T_tb [(8, 0), (8, 1), (39, 0), (41, 0)] L h hL1 hl1 → hl1.2.1 x 0 = cn → hx_g hL1 hl1 ql 40 → (∀ j : Nat, (j : Int) < (hl1.2.1 x 0).toInt → hl1.2.2 ql j ≠ none) → hl1.2.1 qlf = ia17_qlf → hl1.2.1 qlt = ltf → hx_col 8 hl1 ql 0 = lf → hx_dc hl1 ql 2 5 cfx cn.toInt → hx_dc hl1 ql 2 6 cfy cn.toInt → lv_has ls 4 [(3, .int iv17_3), (2, .int iv11_2), (1, .int x_3), (0, .ref x)] → W p l e ({ frames := 5, cells := 0, slots := 0, locals := 117 }) s m ([.ref x] : List Value).toArray below meth c H locs 0 0 (MQ below (va_Qi (fun (r : Int32) (u : List Nat × hx_h) => (∃ (n1 : Int32) (wm1 : Int32) (lt1 : Nat → Int32), u.2.2.1 x 0 = n1 ∧ u.2.2.1 x 1 = wm1 ∧ u.2.2.1 qlt = lt1 ∧ (n1.toInt = 0 ∧ wm1.toInt = cn.toInt ∧ hx_WA (hx_fg cfx cfy cn.toInt) cn.toInt lf lt1 r.toInt)) ∧ hx_T T_tb u.1 u.2 ∧ hx_S T_tb [(8, 0), (8, 1), (39, 0), (41, 0)] L h u.1 u.2) (hx_E T_tb (P_ty dA) (dC, dI) vwCl (hx_A L sz)) (hx_A L sz)) ([.ref x] : List Value).toArray s 0 0 (hx_A L sz)) (F0 m 17 ls []) := by
          intro n17
          induction n17 with
          | zero => intro iv17_3 ia17_qlf H locs hL1 hl1 bliv17_3 buiv17_3 vi17_0 ls hn17; exfalso; omega
          | succ n17 ih17 =>
            intro iv17_3 ia17_qlf H locs hL1 hl1 bliv17_3 buiv17_3 vi17_0 ls hn17 hW hT hM f_x_0 gql pf_x_0 nia17_qlf af_qlt cl_ql_0 hGx hGy hl
            refine lv_iload_n hx hb dX8_walkList_17 rfl (lv_at hl 0 rfl) ?_
            refine lv_aload_n hx hb dX8_walkList_18 rfl (lv_at hl 3 rfl) ?_
            refine hk_geti hx hb hts hC_8 hown hW (gx.S hM) tt_8 0 ?o90 rfl kw_345 ⟨rfl, rfl, rfl⟩ f_x_0 dX8_walkList_19 ?_
            case o90 => decide
            refine hb_icmp_ge (zx := iv17_3.toInt) (zy := cn.toInt) (tgt := 69) hx hb rfl rfl dX8_walkList_22 ?o91 (fun c_31 => ?_) (fun c_31 => ?_)
            case o91 => decide
            · skip
              obtain ⟨x_32, ex_32⟩ : ∃ y : Int32, y = iv11_2 + Int32.ofInt (-1) := ⟨_, rfl⟩
              have rg_33 := i32_r iv11_2
              have zx_32 : x_32.toInt = iv11_2.toInt + (-1) := ?o92
              case o92 =>
                rw [ex_32]
                refine i32_add rfl ?o93 ?o94 ?o95
                case o93 => decide
                case o94 => omega
                case o95 => omega
              refine lv_iinc (v := x_32) (lv' := [(2, .int x_32), (3, .int iv17_3), (1, .int x_3), (0, .ref x)]) hx hb dX8_walkList_69 hl (k := 1) rfl ex_32.symm ?o96 rfl (fun ls hl => ?_)
              case o96 => decide
              refine lv_goto (tgt := 11) hx hb dX8_walkList_72 ?o97 ?_
              case o97 => decide
              refine ih11 x_32 ia17_qlf _ _ hL1 hl1 ?o98 ?o99 (hw_E_row vi17_0 ?o100 ?o101) ?o102 ls ?o103 hW hT hM f_x_0 gql pf_x_0 nia17_qlf af_qlt cl_ql_0 hGx hGy (lv_sub hl [0, 2, 3] rfl)
              case o98 => omega
              case o99 => omega
              case o100 => omega
              case o101 => omega
              case o102 => omega
              case o103 => omega
            · skip
              refine lv_iload_n hx hb dX8_walkList_25 rfl (lv_at hl 0 rfl) ?_
              refine lv_iload_n hx hb dX8_walkList_26 rfl (lv_at hl 1 rfl) ?_
              have hTo := hT
              refine hx_goi (hx_runS (As := [.int iv17_3, .int iv11_2]) (rest := []) ⟨hx, hb, hml, hown, hts⟩ hW (t_X8_isIn_2 l dC dI dA hL1 hl1 H.size iv17_3 iv11_2 hT ⟨?o104, ?o105⟩ ⟨?o106, ?o107⟩) (va_cwS 2 hts (hx_gS kw_1058 kw_1056 kw_1057 kw_102) rfl rfl rfl (by decide +kernel) ⟨Nat.le_of_ble_eq_true rfl, Nat.le_of_ble_eq_true rfl⟩) rfl hl.1 rfl (Nat.le_of_ble_eq_true rfl) dX8_walkList_27 ⟨Nat.le_of_ble_eq_true rfl, Nat.le_of_ble_eq_true rfl⟩) hW (fun r_36 L_34 h_35 H locs p_37 hW => ?_)
              case o104 => omega
              case o105 => omega
              case o106 => omega
              case o107 => omega
              obtain ⟨hr_38, hT, hs⟩ := p_37
              replace hT : hx_T T_tb L_34 h_35 := hT
              replace hs : hx_S T_tb [] hL1 hl1 L_34 h_35 := hs
              replace f_x_0 := (hs.o (gx.S hM) trivial rfl).1.trans f_x_0
              replace pf_x_0 : ∀ j : Nat, (j : Int) < (h_35.2.1 x 0).toInt → h_35.2.2 ql j ≠ none := by
                intro j hj; rw [(hs.o (gx.S hM) trivial rfl).1] at hj; rw [(hs.a gql rfl j).2]; exact pf_x_0 j hj
              replace cl_ql_0 : hx_col 8 h_35 ql 0 = lf := (hx_col_S hs hTo gql tt_40 tt_2 rfl rfl).trans cl_ql_0
              replace hGx : hx_dc h_35 ql 2 5 cfx cn.toInt := hx_dc_S hs hTo gql tt_40 tt_2 rfl tt_4 rfl rfl rfl ?o108 hGx
              case o108 => omega
              replace hGy : hx_dc h_35 ql 2 6 cfy cn.toInt := hx_dc_S hs hTo gql tt_40 tt_2 rfl tt_4 rfl rfl rfl ?o109 hGy
              case o109 => omega
              replace af_qlt : h_35.2.1 qlt = ltf := (funext fun j => (hs.a (gqlt.S hM) rfl j).1).trans af_qlt
              replace nia17_qlf : h_35.2.1 qlf = ia17_qlf := (funext fun j => (hs.a (gqlf.S hM) rfl j).1).trans nia17_qlf
              replace hM := hM.tr (hs.mono ?o110)
              case o110 => decide
              replace gql := gql.S hs
              refine hb_if_eq (zx := r_36.toInt) (tgt := 63) hx hb rfl dX8_walkList_30 ?o111 (fun c_39 => ?_) (fun c_39 => ?_)
              case o111 => decide
              · skip
                have hnb : hx_bt iv11_2.toInt iv17_3.toInt = false := ?o112
                case o112 =>
                  rcases hr_38 with z | z
                  exfalso
                  omega
                  exact z.2
                have hbl := hw_bt2 (n := cn.toInt) ?o113 ?o114 ?o115 ?o116 ?o117 ?o118 hnb
                case o113 => omega
                case o114 => omega
                case o115 => omega
                case o116 => omega
                case o117 => omega
                case o118 => omega
                obtain ⟨x_40, ex_40⟩ : ∃ y : Int32, y = iv17_3 + Int32.ofInt 1 := ⟨_, rfl⟩
                have rg_41 := i32_r iv17_3
                have zx_40 : x_40.toInt = iv17_3.toInt + (1) := ?o119
                case o119 =>
                  rw [ex_40]
                  refine i32_add rfl ?o120 ?o121 ?o122
                  case o120 => decide
                  case o121 => omega
                  case o122 => omega
                refine lv_iinc (v := x_40) (lv' := [(3, .int x_40), (2, .int iv11_2), (1, .int x_3), (0, .ref x)]) hx hb dX8_walkList_63 hl (k := 0) rfl ex_40.symm ?o123 rfl (fun ls hl => ?_)
                case o123 => decide
                refine lv_goto (tgt := 17) hx hb dX8_walkList_66 ?o124 ?_
                case o124 => decide
                refine ih17 x_40 ia17_qlf _ _ L_34 h_35 ?o125 ?o126 (hw_E_skip vi17_0 hbl zx_40) ls ?o127 hW hT hM f_x_0 gql pf_x_0 nia17_qlf af_qlt cl_ql_0 hGx hGy (lv_sub hl [0, 1, 2, 3] rfl)
                case o125 => omega
                case o126 => omega
                case o127 => omega
              · skip
                have hib : hx_bt iv11_2.toInt iv17_3.toInt = true := ?o128
                case o128 =>
                  rcases hr_38 with z | z
                  exact z.2
                  exfalso
                  omega
                have hbl := hw_bf2 (n := cn.toInt) ?o129 ?o130 ?o131 ?o132 ?o133 ?o134 hib
                case o129 => omega
                case o130 => omega
                case o131 => omega
                case o132 => omega
                case o133 => omega
                case o134 => omega
                refine lv_aload_n hx hb dX8_walkList_33 rfl (lv_at hl 3 rfl) ?_
                refine hk_getr hx hb hts hC_8 hown hW (gx.S hM) tt_8 4 ?o135 rfl kw_352 ⟨rfl, rfl, rfl⟩ ((hM.o gx trivial rfl).2.trans f_x_4) dX8_walkList_34 ?_
                case o135 => decide
                refine lv_iload_n hx hb dX8_walkList_37 rfl (lv_at hl 1 rfl) ?_
                refine lv_bipush (v := 8) hx hb dX8_walkList_38 ?o136 ?_
                case o136 => decide
                refine lv_imul hx hb dX8_walkList_40 ?_
                refine lv_topi (fun x_42 ex_42 => ?_)
                have zx_42 : x_42.toInt = iv11_2.toInt * 8 := ?o137
                case o137 =>
                  rw [ex_42]
                  refine i32_mul rfl ?o138 rfl ?o139 ?o140
                  case o138 => decide
                  case o139 => omega
                  case o140 => omega
                refine lv_iload_n hx hb dX8_walkList_41 rfl (lv_at hl 0 rfl) ?_
                refine lv_iadd hx hb dX8_walkList_42 ?_
                have rg_43 := i32_r x_42
                have rg_44 := i32_r iv17_3
                refine lv_topi (fun x_45 ex_45 => ?_)
                have zx_45 : x_45.toInt = x_42.toInt + iv17_3.toInt := ?o141
                case o141 =>
                  rw [ex_45]
                  refine i32_add rfl rfl ?o142 ?o143
                  case o142 => omega
                  case o143 => omega
                refine lv_iload_n hx hb dX8_walkList_43 rfl (lv_at hl 1 rfl) ?_
                refine lv_iload_n hx hb dX8_walkList_44 rfl (lv_at hl 2 rfl) ?_
                refine hb_icmp_ne (zx := iv11_2.toInt) (zy := x_3.toInt) (tgt := 56) hx hb rfl rfl dX8_walkList_45 ?o144 (fun c_46 => ?_) (fun c_46 => ?_)
                case o144 => decide
                · skip
                  refine lv_aload_n hx hb dX8_walkList_56 rfl (lv_at hl 3 rfl) ?_
                  refine lv_iload_n hx hb dX8_walkList_57 rfl (lv_at hl 1 rfl) ?_
                  refine lv_iload_n hx hb dX8_walkList_58 rfl (lv_at hl 0 rfl) ?_
                  have hTo := hT
                  refine hx_goi (hx_runV (As := [.int iv11_2, .int iv17_3]) (rest := [.int x_45, .ref qlf]) ⟨hx, hb, hml, hown, hts⟩ hW (gx.S hM) tt_8 (T := TX8) (N := 5) rfl (t_X8_leastOn_2 l dC dI dA L_34 h_35 H.size x iv11_2 iv17_3 hT (gx.S hM) ql gql ((hM.o gx trivial rfl).2.trans f_x_3) qlf (gqlf.S hM) ((hM.o gx trivial rfl).2.trans f_x_4) ia17_qlf nia17_qlf cn f_x_0 ⟨?o145, ?o146⟩ ⟨?o147, ?o148⟩ cfx cfy hGx hGy hBx hBy (hw_E_l (hw_E_w vi17_0) ?o149) pf_x_0) (cwV 2 hts (hx_gV kw_1067 kw_1064 kw_1066 kw_43 kw_102) rfl rfl rfl (by decide +kernel) ⟨Nat.le_of_ble_eq_true rfl, Nat.le_of_ble_eq_true rfl⟩) rfl hl.1 rfl (Nat.le_of_ble_eq_true rfl) dX8_walkList_59 ⟨Nat.le_of_ble_eq_true rfl, Nat.le_of_ble_eq_true rfl⟩) hW (fun r_49 L_47 h_48 H locs p_50 hW => ?_)
                  case o145 => omega
                  case o146 => omega
                  case o147 => omega
                  case o148 => omega
                  case o149 => omega
                  obtain ⟨hr_51, hT, hs⟩ := p_50
                  replace hT : hx_T T_tb L_47 h_48 := hT
                  replace hs : hx_S T_tb [] L_34 h_35 L_47 h_48 := hs
                  replace f_x_0 := (hs.o (gx.S hM) trivial rfl).1.trans f_x_0
                  replace pf_x_0 : ∀ j : Nat, (j : Int) < (h_48.2.1 x 0).toInt → h_48.2.2 ql j ≠ none := by
                    intro j hj; rw [(hs.o (gx.S hM) trivial rfl).1] at hj; rw [(hs.a gql rfl j).2]; exact pf_x_0 j hj
                  replace cl_ql_0 : hx_col 8 h_48 ql 0 = lf := (hx_col_S hs hTo gql tt_40 tt_2 rfl rfl).trans cl_ql_0
                  replace hGx : hx_dc h_48 ql 2 5 cfx cn.toInt := hx_dc_S hs hTo gql tt_40 tt_2 rfl tt_4 rfl rfl rfl ?o150 hGx
                  case o150 => omega
                  replace hGy : hx_dc h_48 ql 2 6 cfy cn.toInt := hx_dc_S hs hTo gql tt_40 tt_2 rfl tt_4 rfl rfl rfl ?o151 hGy
                  case o151 => omega
                  replace af_qlt : h_48.2.1 qlt = ltf := (funext fun j => (hs.a (gqlt.S hM) rfl j).1).trans af_qlt
                  replace nia17_qlf : h_48.2.1 qlf = ia17_qlf := (funext fun j => (hs.a (gqlf.S hM) rfl j).1).trans nia17_qlf
                  replace hM := hM.tr (hs.mono ?o152)
                  case o152 => decide
                  replace gql := gql.S hs
                  have hmc := hw_mn_c hr_51.1 rfl (hw_la2 ?o153)
                  case o153 => omega
                  have hTo := hT
                  have nia17_qlfO := nia17_qlf
                  have hTo := hT
                  refine hx_iast hx hb hW hT (hx_S.rf (M := [(41, 0)])) (gqlf.S hM) tt_41 rfl ⟨?o154, ?o155⟩ rfl (i32_r _) (List.mem_singleton.mpr rfl) dX8_walkList_62 (fun H locs h_52 eh_52 hW hT hs => ?_)
                  case o154 => omega
                  case o155 => omega
                  replace f_x_0 := (hs.o (gx.S hM) trivial rfl).1.trans f_x_0
                  replace pf_x_0 : ∀ j : Nat, (j : Int) < (h_52.2.1 x 0).toInt → h_52.2.2 ql j ≠ none := by
                    intro j hj; rw [(hs.o (gx.S hM) trivial rfl).1] at hj; rw [(hs.a gql rfl j).2]; exact pf_x_0 j hj
                  replace cl_ql_0 : hx_col 8 h_52 ql 0 = lf := (hx_col_S hs hTo gql tt_40 tt_2 rfl rfl).trans cl_ql_0
                  replace hGx : hx_dc h_52 ql 2 5 cfx cn.toInt := hx_dc_S hs hTo gql tt_40 tt_2 rfl tt_4 rfl rfl rfl ?o156 hGx
                  case o156 => omega
                  replace hGy : hx_dc h_52 ql 2 6 cfy cn.toInt := hx_dc_S hs hTo gql tt_40 tt_2 rfl tt_4 rfl rfl rfl ?o157 hGy
                  case o157 => omega
                  replace af_qlt : h_52.2.1 qlt = ltf := (funext fun j => (hs.a (gqlt.S hM) rfl j).1).trans af_qlt
                  replace hM := hM.tr (hs.mono ?o158)
                  case o158 => decide
                  replace gql := gql.S hs
                  obtain ⟨fa_53, dfa_53⟩ : ∃ g : Nat → Int32, g = hx_up ia17_qlf x_45.toNatClampNeg r_49 := ⟨_, rfl⟩
                  have nfa_53 : h_52.2.1 qlf = fa_53 := ?o159
                  case o159 =>
                    rw [eh_52, dfa_53, ← nia17_qlfO]
                    exact hx_pi_fun _ _ _ _
                  obtain ⟨x_54, ex_54⟩ : ∃ y : Int32, y = iv17_3 + Int32.ofInt 1 := ⟨_, rfl⟩
                  have zx_54 : x_54.toInt = iv17_3.toInt + (1) := ?o160
                  case o160 =>
                    rw [ex_54]
                    refine i32_add rfl ?o161 ?o162 ?o163
                    case o161 => decide
                    case o162 => omega
                    case o163 => omega
                  refine lv_iinc (v := x_54) (lv' := [(3, .int x_54), (2, .int iv11_2), (1, .int x_3), (0, .ref x)]) hx hb dX8_walkList_63 hl (k := 0) rfl ex_54.symm ?o164 rfl (fun ls hl => ?_)
                  case o164 => decide
                  refine lv_goto (tgt := 17) hx hb dX8_walkList_66 ?o165 ?_
                  case o165 => decide
                  refine ih17 x_54 fa_53 _ _ L_47 h_52 ?o166 ?o167 (hw_E_put vi17_0 ?o168 ?o169 ?o170 ?o171 ?o172 ?o173 (by unfold Int32.toNatClampNeg; omega) rfl dfa_53 zx_54 ?o174 ?o175 hmc) ls ?o176 hW hT hM f_x_0 gql pf_x_0 nfa_53 af_qlt cl_ql_0 hGx hGy (lv_sub hl [0, 1, 2, 3] rfl)
                  case o166 => omega
                  case o167 => omega
                  case o168 => omega
                  case o169 => omega
                  case o170 => omega
                  case o171 => omega
                  case o172 => omega
                  case o173 => omega
                  case o174 => omega
                  case o175 => omega
                  case o176 => omega
                · skip
                  refine lv_aload_n hx hb dX8_walkList_48 rfl (lv_at hl 3 rfl) ?_
                  refine lv_iload_n hx hb dX8_walkList_49 rfl (lv_at hl 0 rfl) ?_
                  have hTo := hT
                  refine hx_goi (hx_runV (As := [.int iv17_3]) (rest := [.int x_45, .ref qlf]) ⟨hx, hb, hml, hown, hts⟩ hW (gx.S hM) tt_8 (T := TX8) (N := 5) rfl (t_X8_fromCourt_2 l dC dI dA L_34 h_35 H.size x iv17_3 hT (gx.S hM) ql gql ((hM.o gx trivial rfl).2.trans f_x_3) cn f_x_0 ⟨?o177, ?o178⟩ cfx cfy hGx hGy hBx hBy pf_x_0) (cwV 1 hts (hx_gV kw_1062 kw_1059 kw_1061 kw_42 kw_102) rfl rfl rfl (by decide +kernel) ⟨Nat.le_of_ble_eq_true rfl, Nat.le_of_ble_eq_true rfl⟩) rfl hl.1 rfl (Nat.le_of_ble_eq_true rfl) dX8_walkList_50 ⟨Nat.le_of_ble_eq_true rfl, Nat.le_of_ble_eq_true rfl⟩) hW (fun r_57 L_55 h_56 H locs p_58 hW => ?_)
                  case o177 => omega
                  case o178 => omega
                  obtain ⟨hr_59, hT, hs⟩ := p_58
                  replace hT : hx_T T_tb L_55 h_56 := hT
                  replace hs : hx_S T_tb [] L_34 h_35 L_55 h_56 := hs
                  replace f_x_0 := (hs.o (gx.S hM) trivial rfl).1.trans f_x_0
                  replace pf_x_0 : ∀ j : Nat, (j : Int) < (h_56.2.1 x 0).toInt → h_56.2.2 ql j ≠ none := by
                    intro j hj; rw [(hs.o (gx.S hM) trivial rfl).1] at hj; rw [(hs.a gql rfl j).2]; exact pf_x_0 j hj
                  replace cl_ql_0 : hx_col 8 h_56 ql 0 = lf := (hx_col_S hs hTo gql tt_40 tt_2 rfl rfl).trans cl_ql_0
                  replace hGx : hx_dc h_56 ql 2 5 cfx cn.toInt := hx_dc_S hs hTo gql tt_40 tt_2 rfl tt_4 rfl rfl rfl ?o179 hGx
                  case o179 => omega
                  replace hGy : hx_dc h_56 ql 2 6 cfy cn.toInt := hx_dc_S hs hTo gql tt_40 tt_2 rfl tt_4 rfl rfl rfl ?o180 hGy
                  case o180 => omega
                  replace af_qlt : h_56.2.1 qlt = ltf := (funext fun j => (hs.a (gqlt.S hM) rfl j).1).trans af_qlt
                  replace nia17_qlf : h_56.2.1 qlf = ia17_qlf := (funext fun j => (hs.a (gqlf.S hM) rfl j).1).trans nia17_qlf
                  replace hM := hM.tr (hs.mono ?o181)
                  case o181 => decide
                  replace gql := gql.S hs
                  have hl0 : 2 ^ cn.toInt.toNat - 1 - iv11_2.toInt = 0 := ?o182
                  case o182 => omega
                  have hmc := hw_mn0 (F := (hx_fg cfx cfy cn.toInt)) (H := (hw_HC cn.toInt ia17_qlf)) (n := cn.toInt) hl0 hr_59.1
                  refine lv_goto (tgt := 62) hx hb dX8_walkList_53 ?o183 ?_
                  case o183 => decide
                  have hTo := hT
                  have nia17_qlfO := nia17_qlf
                  have hTo := hT
                  refine hx_iast hx hb hW hT (hx_S.rf (M := [(41, 0)])) (gqlf.S hM) tt_41 rfl ⟨?o184, ?o185⟩ rfl (i32_r _) (List.mem_singleton.mpr rfl) dX8_walkList_62 (fun H locs h_60 eh_60 hW hT hs => ?_)
                  case o184 => omega
                  case o185 => omega
                  replace f_x_0 := (hs.o (gx.S hM) trivial rfl).1.trans f_x_0
                  replace pf_x_0 : ∀ j : Nat, (j : Int) < (h_60.2.1 x 0).toInt → h_60.2.2 ql j ≠ none := by
                    intro j hj; rw [(hs.o (gx.S hM) trivial rfl).1] at hj; rw [(hs.a gql rfl j).2]; exact pf_x_0 j hj
                  replace cl_ql_0 : hx_col 8 h_60 ql 0 = lf := (hx_col_S hs hTo gql tt_40 tt_2 rfl rfl).trans cl_ql_0
                  replace hGx : hx_dc h_60 ql 2 5 cfx cn.toInt := hx_dc_S hs hTo gql tt_40 tt_2 rfl tt_4 rfl rfl rfl ?o186 hGx
                  case o186 => omega
                  replace hGy : hx_dc h_60 ql 2 6 cfy cn.toInt := hx_dc_S hs hTo gql tt_40 tt_2 rfl tt_4 rfl rfl rfl ?o187 hGy
                  case o187 => omega
                  replace af_qlt : h_60.2.1 qlt = ltf := (funext fun j => (hs.a (gqlt.S hM) rfl j).1).trans af_qlt
                  replace hM := hM.tr (hs.mono ?o188)
                  case o188 => decide
                  replace gql := gql.S hs
                  obtain ⟨fa_61, dfa_61⟩ : ∃ g : Nat → Int32, g = hx_up ia17_qlf x_45.toNatClampNeg r_57 := ⟨_, rfl⟩
                  have nfa_61 : h_60.2.1 qlf = fa_61 := ?o189
                  case o189 =>
                    rw [eh_60, dfa_61, ← nia17_qlfO]
                    exact hx_pi_fun _ _ _ _
                  obtain ⟨x_62, ex_62⟩ : ∃ y : Int32, y = iv17_3 + Int32.ofInt 1 := ⟨_, rfl⟩
                  have zx_62 : x_62.toInt = iv17_3.toInt + (1) := ?o190
                  case o190 =>
                    rw [ex_62]
                    refine i32_add rfl ?o191 ?o192 ?o193
                    case o191 => decide
                    case o192 => omega
                    case o193 => omega
                  refine lv_iinc (v := x_62) (lv' := [(3, .int x_62), (2, .int iv11_2), (1, .int x_3), (0, .ref x)]) hx hb dX8_walkList_63 hl (k := 0) rfl ex_62.symm ?o194 rfl (fun ls hl => ?_)
                  case o194 => decide
                  refine lv_goto (tgt := 17) hx hb dX8_walkList_66 ?o195 ?_
                  case o195 => decide
                  refine ih17 x_62 fa_61 _ _ L_55 h_60 ?o196 ?o197 (hw_E_put vi17_0 ?o198 ?o199 ?o200 ?o201 ?o202 ?o203 (by unfold Int32.toNatClampNeg; omega) rfl dfa_61 zx_62 ?o204 ?o205 hmc) ls ?o206 hW hT hM f_x_0 gql pf_x_0 nfa_61 af_qlt cl_ql_0 hGx hGy (lv_sub hl [0, 1, 2, 3] rfl)
                  case o196 => omega
                  case o197 => omega
                  case o198 => omega
                  case o199 => omega
                  case o200 => omega
                  case o201 => omega
                  case o202 => omega
                  case o203 => omega
                  case o204 => omega
                  case o205 => omega
                  case o206 => omega
        have zk_0 : (0 : Int32).toInt = 0 := ?o207
        case o207 => decide
        refine loop17 9 (0 : Int32) ia11_qlf _ _ hL1 hl1 ?o208 ?o209 vi11_0 ls ?o210 hW hT hM f_x_0 gql pf_x_0 nia11_qlf af_qlt cl_ql_0 hGx hGy hl
        case o208 => decide
        case o209 => decide
        case o210 => omega
  refine loop11 256 x_3 lff _ _ L h ?o211 ?o212 (hw_E_l hw_E0 ?o213) ?o214 ls ?o215 hW hT hM f_x_0 gql pf_x_0 af_qlf af_qlt cl_ql_0 hGx hGy hl
  case o211 => omega
  case o212 => omega
  case o213 => omega
  case o214 => omega
  case o215 => omega


set_option maxHeartbeats 4000000 in
set_option maxRecDepth 100000 in
theorem t_X9_walk_2 (l : Launch) (dC : Nat → ClassId) (dI : Nat → Nat → Nat) (dA : Nat → ClassId) (L : List Nat) (h : hx_h) (sz : Nat) (x : Nat) (hT : hx_T T_tb L h) (gx : hx_g L h x 9) (qw : Nat) (gqw : hx_g L h qw 8) (f_x_19 : h.2.2 x 19 = some qw) (ql : Nat) (gql : hx_g L h ql 40) (f_qw_3 : h.2.2 qw 3 = some ql) (qlf : Nat) (gqlf : hx_g L h qlf 41) (f_qw_4 : h.2.2 qw 4 = some qlf) (qlt : Nat) (gqlt : hx_g L h qlt 39) (f_qw_2 : h.2.2 qw 2 = some qlt) (ltf : Nat → Int32) (af_qlt : h.2.1 qlt = ltf) (cn : Int32) (f_qw_0 : h.2.1 qw 0 = cn) (lf : Nat → Int32) (cl_ql_0 : hx_col 8 h ql 0 = lf) (cfx cfy : Nat → Int32) (hGx : hx_dc h ql 2 5 cfx cn.toInt) (hGy : hx_dc h ql 2 6 cfy cn.toInt) (hBx : ∀ k : Nat, (k : Int) < cn.toInt → 0 ≤ (cfx k).toInt ∧ (cfx k).toInt ≤ 99) (hBy : ∀ k : Nat, (k : Int) < cn.toInt → 0 ≤ (cfy k).toInt ∧ (cfy k).toInt ≤ 99) (pf_qw_0 : ∀ j : Nat, (j : Int) < (h.2.1 qw 0).toInt → h.2.2 ql j ≠ none) : Met l yX9_walk (Cond.code yX9_walk cX9_walk 1 (some .int) :: hx_all) ({ frames := 6, cells := 0, slots := 0, locals := 140 }) (va_Pc [.ref x] (hx_B T_tb (P_ty dA) (dC, dI) vwCl L h sz)) (va_Qi (fun (r : Int32) (u : List Nat × hx_h) => (∃ (n1 : Int32) (wm1 : Int32) (lt1 : Nat → Int32), u.2.2.1 qw 0 = n1 ∧ u.2.2.1 qw 1 = wm1 ∧ u.2.2.1 qlt = lt1 ∧ (n1.toInt = 0 ∧ wm1.toInt = cn.toInt ∧ hx_WA (hx_fg cfx cfy cn.toInt) cn.toInt lf lt1 r.toInt)) ∧ hx_T T_tb u.1 u.2 ∧ hx_S T_tb [(8, 0), (8, 1), (39, 0), (41, 0)] L h u.1 u.2) (hx_E T_tb (P_ty dA) (dC, dI) vwCl (hx_A L sz)) (hx_A L sz)) 0 0 (hx_A L sz) := by
  refine hx_met (lv := [(0, .ref x)]) (by decide +kernel) rfl (Nat.le_of_ble_eq_true rfl) rfl ?_
  intro p e s m below meth c hx hb hml hr hlk hts0 hown hin hsz hW ls hl
  have hts : ∀ w ∈ hx_all, w.before _ s = true := fun w hw => hts0 w (List.mem_cons_of_mem _ hw)
  have hown : s.vm.findClass "SmallCourt" = some m.cls := hown
  have hM : hx_S T_tb [(8, 0), (8, 1), (39, 0), (41, 0)] L h L h := hx_S.rf
  have b_cn := hT.gi gqw tt_8 (k := 0) rfl
  rw [f_qw_0] at b_cn
  have b_cn : 0 ≤ cn.toInt ∧ cn.toInt ≤ 8 := b_cn
  refine lv_aload_n hx hb dX9_walk_0 rfl (lv_at hl 0 rfl) ?_
  refine hk_getr hx hb hts hC_9 hown hW (gx.S hM) tt_9 19 ?o0 rfl kw_383 ⟨rfl, rfl, rfl⟩ ((hM.o gx trivial rfl).2.trans f_x_19) dX9_walk_1 ?_
  case o0 => decide
  have hTo := hT
  obtain ⟨fa_1, nfa_1⟩ : ∃ g : Nat → Int32, h.2.1 qlf = g := ⟨_, rfl⟩
  refine hx_goi (hx_runV (As := []) (rest := []) ⟨hx, hb, hml, hown, hts⟩ hW (gqw.S hM) tt_8 (T := TX8) (N := 5) rfl (t_X8_walkList_2 l dC dI dA L h s.heap.size qw hT (gqw.S hM) ql gql ((hM.o gqw trivial rfl).2.trans f_qw_3) qlf (gqlf.S hM) ((hM.o gqw trivial rfl).2.trans f_qw_4) qlt (gqlt.S hM) ((hM.o gqw trivial rfl).2.trans f_qw_2) fa_1 nfa_1 ltf af_qlt cn f_qw_0 lf cl_ql_0 cfx cfy hGx hGy hBx hBy pf_qw_0) (cwV 0 hts (hx_gV kw_1055 kw_1052 kw_1053 kw_1054 kw_102) rfl rfl rfl (by decide +kernel) ⟨Nat.le_of_ble_eq_true rfl, Nat.le_of_ble_eq_true rfl⟩) rfl hl.1 rfl (Nat.le_of_ble_eq_true rfl) dX9_walk_4 ⟨Nat.le_of_ble_eq_true rfl, Nat.le_of_ble_eq_true rfl⟩) hW (fun r_4 L_2 h_3 H locs p_5 hW => ?_)
  obtain ⟨⟨w_7, w_8, w_9, fw_7, fw_8, fw_9, hr_6⟩, hT, hs⟩ := p_5
  replace hT : hx_T T_tb L_2 h_3 := hT
  replace hs : hx_S T_tb [(8, 0), (8, 1), (39, 0), (41, 0)] L h L_2 h_3 := hs
  replace cl_ql_0 : hx_col 8 h_3 ql 0 = lf := (hx_col_S hs hTo gql tt_40 tt_2 rfl rfl).trans cl_ql_0
  replace hGx : hx_dc h_3 ql 2 5 cfx cn.toInt := hx_dc_S hs hTo gql tt_40 tt_2 rfl tt_4 rfl rfl rfl ?o1 hGx
  case o1 => omega
  replace hGy : hx_dc h_3 ql 2 6 cfy cn.toInt := hx_dc_S hs hTo gql tt_40 tt_2 rfl tt_4 rfl rfl rfl ?o2 hGy
  case o2 => omega
  replace hM := hM.tr (hs.mono ?o3)
  case o3 => decide
  replace gql := gql.S hs
  have fw_7 : h_3.2.1 qw 0 = w_7 := fw_7
  have bw_7 := hT.gi (gqw.S hM) tt_8 (k := 0) rfl
  rw [fw_7] at bw_7
  have bw_7 : 0 ≤ w_7.toInt ∧ w_7.toInt ≤ 8 := bw_7
  have fw_8 : h_3.2.1 qw 1 = w_8 := fw_8
  have bw_8 := hT.gi (gqw.S hM) tt_8 (k := 1) rfl
  rw [fw_8] at bw_8
  have bw_8 : 0 ≤ w_8.toInt ∧ w_8.toInt ≤ 8 := bw_8
  have fw_9 : h_3.2.1 qlt = w_9 := fw_9
  exact hx_reti hx hb hr hlk hW ⟨⟨w_7, w_8, w_9, fw_7, fw_8, fw_9, hr_6⟩, hT, hM⟩ dX9_walk_7


set_option maxHeartbeats 4000000 in
set_option maxRecDepth 100000 in
theorem t_X9_walked_2 (l : Launch) (dC : Nat → ClassId) (dI : Nat → Nat → Nat) (dA : Nat → ClassId) (L : List Nat) (h : hx_h) (sz : Nat) (x : Nat) (i1 : Int32) (hT : hx_T T_tb L h) (gx : hx_g L h x 9) (qw : Nat) (gqw : hx_g L h qw 8) (f_x_19 : h.2.2 x 19 = some qw) (qlt : Nat) (gqlt : hx_g L h qlt 39) (f_qw_2 : h.2.2 qw 2 = some qlt) (ltf : Nat → Int32) (af_qlt : h.2.1 qlt = ltf) (wm : Int32) (f_qw_1 : h.2.1 qw 1 = wm) : Met l yX9_walked (Cond.code yX9_walked cX9_walked 2 (some .int) :: hx_all) ({ frames := 0, cells := 0, slots := 0, locals := 0 }) (va_Pc [.ref x, .int i1] (hx_B T_tb (P_ty dA) (dC, dI) vwCl L h sz)) (va_Qi (fun (r : Int32) (u : List Nat × hx_h) => ((r.toInt = -1 ∧ ¬ (0 ≤ i1.toInt ∧ i1.toInt < wm.toInt)) ∨ ((0 ≤ i1.toInt ∧ i1.toInt < wm.toInt) ∧ r = ltf i1.toInt.toNat)) ∧ hx_T T_tb u.1 u.2 ∧ hx_S T_tb [] L h u.1 u.2) (hx_E T_tb (P_ty dA) (dC, dI) vwCl (hx_A L sz)) (hx_A L sz)) 0 0 (hx_A L sz) := by
  refine hx_met (lv := [(0, .ref x), (1, .int i1)]) (by decide +kernel) rfl (Nat.le_of_ble_eq_true rfl) rfl ?_
  intro p e s m below meth c hx hb hml hr hlk hts0 hown hin hsz hW ls hl
  have hts : ∀ w ∈ hx_all, w.before _ s = true := fun w hw => hts0 w (List.mem_cons_of_mem _ hw)
  have hown : s.vm.findClass "SmallCourt" = some m.cls := hown
  have hM : hx_S T_tb [] L h L h := hx_S.rf
  have b_wm := hT.gi gqw tt_8 (k := 1) rfl
  rw [f_qw_1] at b_wm
  have b_wm : 0 ≤ wm.toInt ∧ wm.toInt ≤ 8 := b_wm
  refine lv_iload_n hx hb dX9_walked_0 rfl (lv_at hl 1 rfl) ?_
  refine hb_if_lt (zx := i1.toInt) (tgt := 15) hx hb rfl dX9_walked_1 ?o0 (fun c_1 => ?_) (fun c_1 => ?_)
  case o0 => decide
  · skip
    refine lv_iconst (v := -1) hx hb dX9_walked_15 ?o1 ?_
    case o1 => decide
    refine lv_goto (tgt := 28) hx hb dX9_walked_16 ?o2 ?_
    case o2 => decide
    refine hx_reti hx hb hr hlk hW ⟨(Or.inl ⟨?o3, ?o4⟩), hT, hM⟩ dX9_walked_28
    case o3 => decide
    case o4 => omega
  · skip
    refine lv_iload_n hx hb dX9_walked_4 rfl (lv_at hl 1 rfl) ?_
    refine lv_aload_n hx hb dX9_walked_5 rfl (lv_at hl 0 rfl) ?_
    refine hk_getr hx hb hts hC_9 hown hW (gx.S hM) tt_9 19 ?o5 rfl kw_383 ⟨rfl, rfl, rfl⟩ ((hM.o gx trivial rfl).2.trans f_x_19) dX9_walked_6 ?_
    case o5 => decide
    refine hk_geti hx hb hts hC_8 hown hW (gqw.S hM) tt_8 1 ?o6 rfl kw_348 ⟨rfl, rfl, rfl⟩ ((hM.o gqw trivial rfl).1.trans f_qw_1) dX9_walked_9 ?_
    case o6 => decide
    refine hb_icmp_lt (zx := i1.toInt) (zy := wm.toInt) (tgt := 19) hx hb rfl rfl dX9_walked_12 ?o7 (fun c_2 => ?_) (fun c_2 => ?_)
    case o7 => decide
    · skip
      refine lv_aload_n hx hb dX9_walked_19 rfl (lv_at hl 0 rfl) ?_
      refine hk_getr hx hb hts hC_9 hown hW (gx.S hM) tt_9 19 ?o8 rfl kw_383 ⟨rfl, rfl, rfl⟩ ((hM.o gx trivial rfl).2.trans f_x_19) dX9_walked_20 ?_
      case o8 => decide
      refine hk_getr hx hb hts hC_8 hown hW (gqw.S hM) tt_8 2 ?o9 rfl kw_350 ⟨rfl, rfl, rfl⟩ ((hM.o gqw trivial rfl).2.trans f_qw_2) dX9_walked_23 ?_
      case o9 => decide
      refine lv_iload_n hx hb dX9_walked_26 rfl (lv_at hl 1 rfl) ?_
      refine hx_iald hx hb hW hT (gqlt.S hM) tt_39 rfl ⟨?o10, ?o11⟩ dX9_walked_27 (fun x_3 ex_3 lx_3 ux_3 => ?_)
      case o10 => omega
      case o11 => omega
      have ax_3 : x_3 = ltf i1.toNatClampNeg := ex_3.trans (congrFun (hx_afS hM gqlt rfl af_qlt) _)
      refine hx_reti hx hb hr hlk hW ⟨(Or.inr ⟨⟨?o12, ?o13⟩, ax_3⟩), hT, hM⟩ dX9_walked_28
      case o12 => omega
      case o13 => omega
    · skip
      refine lv_iconst (v := -1) hx hb dX9_walked_15 ?o14 ?_
      case o14 => decide
      refine lv_goto (tgt := 28) hx hb dX9_walked_16 ?o15 ?_
      case o15 => decide
      refine hx_reti hx hb hr hlk hW ⟨(Or.inl ⟨?o16, ?o17⟩), hT, hM⟩ dX9_walked_28
      case o16 => decide
      case o17 => omega


set_option maxHeartbeats 4000000 in
set_option maxRecDepth 100000 in
theorem t_X10_walked_2 (l : Launch) (dC : Nat → ClassId) (dI : Nat → Nat → Nat) (dA : Nat → ClassId) (L : List Nat) (h : hx_h) (sz : Nat) (x : Nat) (i1 : Int32) (hT : hx_T T_tb L h) (gx : hx_g L h x 10) (qwd : Nat) (gqwd : hx_g L h qwd 113) (f_x_93 : h.2.2 x 93 = some qwd) (wdf : Nat → Int32) (af_qwd : h.2.1 qwd = wdf) (wm : Int32) (f_x_92 : h.2.1 x 92 = wm) : Met l yX10_walked (Cond.code yX10_walked cX10_walked 2 (some .int) :: hx_all) ({ frames := 1, cells := 0, slots := 0, locals := 22 }) (va_Pc [.ref x, .int i1] (hx_B T_tb (P_ty dA) (dC, dI) vwCl L h sz)) (va_Qi (fun (r : Int32) (u : List Nat × hx_h) => ((r.toInt = -1 ∧ ¬ (0 ≤ i1.toInt ∧ i1.toInt < wm.toInt)) ∨ ((0 ≤ i1.toInt ∧ i1.toInt < wm.toInt) ∧ r = wdf i1.toInt.toNat)) ∧ hx_T T_tb u.1 u.2 ∧ hx_S T_tb [] L h u.1 u.2) (hx_E T_tb (P_ty dA) (dC, dI) vwCl (hx_A L sz)) (hx_A L sz)) 0 0 (hx_A L sz) := by
  refine hx_met (lv := [(0, .ref x), (1, .int i1)]) (by decide +kernel) rfl (Nat.le_of_ble_eq_true rfl) rfl ?_
  intro p e s m below meth c hx hb hml hr hlk hts0 hown hin hsz hW ls hl
  have hts : ∀ w ∈ hx_all, w.before _ s = true := fun w hw => hts0 w (List.mem_cons_of_mem _ hw)
  have hown : s.vm.findClass "SmallCourtModel" = some m.cls := hown
  have hM : hx_S T_tb [] L h L h := hx_S.rf
  have b_wm := hT.gi gx tt_10 (k := 92) rfl
  rw [f_x_92] at b_wm
  have b_wm : 0 ≤ wm.toInt ∧ wm.toInt ≤ 8 := b_wm
  refine lv_iload_n hx hb dX10_walked_0 rfl (lv_at hl 1 rfl) ?_
  refine lv_iconst (v := 0) hx hb dX10_walked_1 ?o0 ?_
  case o0 => decide
  refine lv_aload_n hx hb dX10_walked_2 rfl (lv_at hl 0 rfl) ?_
  refine hk_geti hx hb hts hC_10 hown hW (gx.S hM) tt_10 92 ?o1 rfl kw_1235 ⟨rfl, rfl, rfl⟩ ((hM.o gx trivial rfl).1.trans f_x_92) dX10_walked_3 ?_
  case o1 => decide
  refine lv_iconst (v := 1) hx hb dX10_walked_6 ?o2 ?_
  case o2 => decide
  refine lv_isub hx hb dX10_walked_7 ?_
  have rg_1 := i32_r wm
  refine lv_topi (fun x_2 ex_2 => ?_)
  have zx_2 : x_2.toInt = wm.toInt - 1 := ?o3
  case o3 =>
    rw [ex_2]
    refine i32_sub rfl ?o4 ?o5 ?o6
    case o4 => decide
    case o5 => omega
    case o6 => omega
  have zc_0 : (0 : Int32).toInt = 0 := ?o7
  case o7 => decide
  refine hx_goi (hx_runS (As := [.int i1, .int (0 : Int32), .int x_2]) (rest := []) ⟨hx, hb, hml, hown, hts⟩ hW (t_X10_in l dC dI dA L h s.heap.size i1 (0 : Int32) x_2 hT) (va_cwS 3 hts (hx_gS kw_1445 kw_1443 kw_1444 kw_103) rfl rfl rfl (by decide +kernel) ⟨Nat.le_of_ble_eq_true rfl, Nat.le_of_ble_eq_true rfl⟩) rfl hl.1 rfl (Nat.le_of_ble_eq_true rfl) dX10_walked_8 ⟨Nat.le_of_ble_eq_true rfl, Nat.le_of_ble_eq_true rfl⟩) hW (fun r_5 L_3 h_4 H locs p_6 hW => ?_)
  obtain ⟨hr_7, hT, hs⟩ := p_6
  replace hT : hx_T T_tb L_3 h_4 := hT
  replace hs : hx_S T_tb [] L h L_3 h_4 := hs
  replace hM := hM.tr (hs.mono ?o8)
  case o8 => decide
  refine hb_if_eq (zx := r_5.toInt) (tgt := 23) hx hb rfl dX10_walked_11 ?o9 (fun c_8 => ?_) (fun c_8 => ?_)
  case o9 => decide
  · skip
    replace hr_7 := hr_7.resolve_right (fun z9 => absurd (c_8.symm.trans z9.1) ?o10)
    case o10 => decide
    replace hr_7 := hr_7.2
    refine lv_iconst (v := -1) hx hb dX10_walked_23 ?o11 ?_
    case o11 => decide
    refine hx_reti hx hb hr hlk hW ⟨(Or.inl ⟨?o12, ?o13⟩), hT, hM⟩ dX10_walked_24
    case o12 => decide
    case o13 => omega
  · skip
    replace hr_7 := hr_7.resolve_left (fun z9 => c_8 z9.1)
    replace c_8 := hr_7.1
    replace hr_7 := hr_7.2
    refine lv_aload_n hx hb dX10_walked_14 rfl (lv_at hl 0 rfl) ?_
    refine hk_getr hx hb hts hC_10 hown hW (gx.S hM) tt_10 93 ?o14 rfl kw_1236 ⟨rfl, rfl, rfl⟩ ((hM.o gx trivial rfl).2.trans f_x_93) dX10_walked_15 ?_
    case o14 => decide
    refine lv_iload_n hx hb dX10_walked_18 rfl (lv_at hl 1 rfl) ?_
    refine hx_iald hx hb hW hT (gqwd.S hM) tt_113 rfl ⟨?o15, ?o16⟩ dX10_walked_19 (fun x_9 ex_9 lx_9 ux_9 => ?_)
    case o15 => omega
    case o16 => omega
    have ax_9 : x_9 = wdf i1.toNatClampNeg := ex_9.trans (congrFun (hx_afS hM gqwd rfl af_qwd) _)
    refine lv_goto (tgt := 24) hx hb dX10_walked_20 ?o17 ?_
    case o17 => decide
    refine hx_reti hx hb hr hlk hW ⟨(Or.inr ⟨⟨?o18, ?o19⟩, ax_9⟩), hT, hM⟩ dX10_walked_24
    case o18 => omega
    case o19 => omega
end
section
/-! THE READER'S METHODS: what their answers say -/
section HVI
variable {T : Nat → Int32} {i j m y : Int32}
theorem hv_bl_t (e : y = T i.toNatClampNeg) (z : y.toInt = 32) : hv_bl T i.toInt.toNat = true := by
  show decide ((T i.toNatClampNeg).toInt = 32) = true
  rw [← e]; exact decide_eq_true z
theorem hv_bl_f (e : y = T i.toNatClampNeg) (z : y.toInt ≠ 32) : hv_bl T i.toInt.toNat = false := by
  show decide ((T i.toNatClampNeg).toInt = 32) = false
  rw [← e]; exact decide_eq_false z
theorem hv_lt_t (e : y = T i.toNatClampNeg) (z1 : 97 ≤ y.toInt) (z2 : y.toInt ≤ 122) : hv_lt T i.toInt.toNat = true := by
  show decide (97 ≤ (T i.toNatClampNeg).toInt ∧ (T i.toNatClampNeg).toInt ≤ 122) = true
  rw [← e]; exact decide_eq_true ⟨z1, z2⟩
theorem hv_lt_f (e : y = T i.toNatClampNeg) (z : y.toInt < 97 ∨ 122 < y.toInt) : hv_lt T i.toInt.toNat = false := by
  show decide (97 ≤ (T i.toNatClampNeg).toInt ∧ (T i.toNatClampNeg).toInt ≤ 122) = false
  rw [← e]; exact decide_eq_false (fun w => by omega)
theorem hv_dg_t (e : y = T i.toNatClampNeg) (z1 : 48 ≤ y.toInt) (z2 : y.toInt ≤ 57) : hv_dg T i.toInt.toNat = true := by
  show decide (48 ≤ (T i.toNatClampNeg).toInt ∧ (T i.toNatClampNeg).toInt ≤ 57) = true
  rw [← e]; exact decide_eq_true ⟨z1, z2⟩
theorem hv_dg_f (e : y = T i.toNatClampNeg) (z : y.toInt < 48 ∨ 57 < y.toInt) : hv_dg T i.toInt.toNat = false := by
  show decide (48 ≤ (T i.toNatClampNeg).toInt ∧ (T i.toNatClampNeg).toInt ≤ 57) = false
  rw [← e]; exact decide_eq_false (fun w => by omega)
theorem hv_dg_u (h : hv_dg T i.toInt.toNat = true) (e : y = T i.toNatClampNeg) : 48 ≤ y.toInt ∧ y.toInt ≤ 57 := by
  have h2 : decide (48 ≤ (T i.toNatClampNeg).toInt ∧ (T i.toNatClampNeg).toInt ≤ 57) = true := h
  rw [← e] at h2; exact of_decide_eq_true h2
theorem hv_sn_i {P : Nat → Bool} (h0 : 0 ≤ i.toInt) (hn : i.toInt < m.toInt) (e : P i.toInt.toNat = true) (ej : j.toInt = i.toInt + 1) : hv_sn P m.toInt.toNat i.toInt.toNat = hv_sn P m.toInt.toNat j.toInt.toNat := by
  rw [show j.toInt.toNat = i.toInt.toNat + 1 by omega]; exact hv_sn_s (by omega) e
theorem hv_sn_o {P : Nat → Bool} (h0 : 0 ≤ i.toInt) (h : i.toInt < m.toInt → P i.toInt.toNat = false) : ((hv_sn P m.toInt.toNat i.toInt.toNat : Nat) : Int) = i.toInt := by
  rw [hv_sn_e (fun z => h (by omega))]; omega
end HVI
theorem hv_chr : ∀ js, js < 6 → ∀ i, i < 97 → ((((P_by.getD js []).getD i 0) &&& 255).toUInt32 % 65536).toInt32 = (P_by.getD js []).getD i 0 := by decide +kernel
theorem hv_c1_t {T : Nat → Int32} {js : Nat} {s p e l x a rc y : Int32} (h1 : 0 ≤ s.toInt) (h2 : 0 ≤ p.toInt) (h3 : 0 ≤ l.toInt) (zx : x.toInt = s.toInt + l.toInt) (za : a.toInt = p.toInt + l.toInt) (hrc : rc = (P_by.getD js []).getD x.toNatClampNeg 0) (hy : y = T a.toNatClampNeg) (lt : a.toInt < e.toInt) (q : rc.toInt = y.toInt) : hv_c1 T js s.toInt.toNat p.toInt.toNat e.toInt.toNat l.toInt.toNat := by
  intro _
  unfold hv_chs
  rw [if_pos (by omega), show s.toInt.toNat + l.toInt.toNat = x.toNatClampNeg by unfold Int32.toNatClampNeg; omega, show p.toInt.toNat + l.toInt.toNat = a.toNatClampNeg by unfold Int32.toNatClampNeg; omega, ← hrc, ← hy]
  exact q
theorem hv_c1_f {T : Nat → Int32} {js : Nat} {s p e l x rc : Int32} (h1 : 0 ≤ s.toInt) (h2 : 0 ≤ p.toInt) (h3 : 0 ≤ l.toInt) (zx : x.toInt = s.toInt + l.toInt) (hrc : rc = (P_by.getD js []).getD x.toNatClampNeg 0) (lt : e.toInt ≤ p.toInt + l.toInt) (q : rc.toInt = 32) : hv_c1 T js s.toInt.toNat p.toInt.toNat e.toInt.toNat l.toInt.toNat := by
  intro _
  unfold hv_chs
  rw [if_neg (by omega), show s.toInt.toNat + l.toInt.toNat = x.toNatClampNeg by unfold Int32.toNatClampNeg; omega, ← hrc]
  exact q
theorem hv_c1_nt {T : Nat → Int32} {js : Nat} {s p e l x a rc y : Int32} (h1 : 0 ≤ s.toInt) (h2 : 0 ≤ p.toInt) (h3 : 0 ≤ l.toInt) (zx : x.toInt = s.toInt + l.toInt) (za : a.toInt = p.toInt + l.toInt) (hrc : rc = (P_by.getD js []).getD x.toNatClampNeg 0) (hy : y = T a.toNatClampNeg) (lt : a.toInt < e.toInt) (hl : x.toInt < (P_ln.getD js 0 : Nat)) (q : rc.toInt ≠ y.toInt) : ¬ hv_c1 T js s.toInt.toNat p.toInt.toNat e.toInt.toNat l.toInt.toNat := by
  intro h
  have h9 := h (by omega)
  unfold hv_chs at h9
  rw [if_pos (by omega), show s.toInt.toNat + l.toInt.toNat = x.toNatClampNeg by unfold Int32.toNatClampNeg; omega, show p.toInt.toNat + l.toInt.toNat = a.toNatClampNeg by unfold Int32.toNatClampNeg; omega, ← hrc, ← hy] at h9
  exact q h9
theorem hv_c1_nf {T : Nat → Int32} {js : Nat} {s p e l x rc : Int32} (h1 : 0 ≤ s.toInt) (h2 : 0 ≤ p.toInt) (h3 : 0 ≤ l.toInt) (zx : x.toInt = s.toInt + l.toInt) (hrc : rc = (P_by.getD js []).getD x.toNatClampNeg 0) (lt : e.toInt ≤ p.toInt + l.toInt) (hl : x.toInt < (P_ln.getD js 0 : Nat)) (q : rc.toInt ≠ 32) : ¬ hv_c1 T js s.toInt.toNat p.toInt.toNat e.toInt.toNat l.toInt.toNat := by
  intro h
  have h9 := h (by omega)
  unfold hv_chs at h9
  rw [if_neg (by omega), show s.toInt.toNat + l.toInt.toNat = x.toNatClampNeg by unfold Int32.toNatClampNeg; omega, ← hrc] at h9
  exact q h9
theorem hv_c1_s {T : Nat → Int32} {js s p e : Nat} {l j : Int32} (h : ∀ i : Nat, (i : Int) < l.toInt → hv_c1 T js s p e i) (h0 : 0 ≤ l.toInt) (hn : hv_c1 T js s p e l.toInt.toNat) (ej : j.toInt = l.toInt + 1) : ∀ i : Nat, (i : Int) < j.toInt → hv_c1 T js s p e i := fun i hi => by
  rcases (show (i : Int) < l.toInt ∨ i = l.toInt.toNat by omega) with z | z
  · exact h i z
  · rw [z]; exact hn
theorem hv_sl_e {T : Nat → Int32} {js s p e : Nat} {l : Int} (he : e ≤ p + 8) (h : ∀ i : Nat, (i : Int) < l → hv_c1 T js s p e i) (hl : 8 ≤ l ∨ (P_ln.getD js 0 : Nat) ≤ s + l) : hv_sl T js s p e := ⟨he, fun i hi => by
  rcases (show (i : Int) < l ∨ l ≤ (i : Int) by omega) with z | z
  · exact h i z
  · intro w; exfalso; omega⟩
theorem hv_rw_s {C : Nat → Prop} {l j : Int32} (h : ∀ k : Nat, 8 * (k : Int) + 8 ≤ l.toInt → ¬ C (8 * k)) (h0 : 0 ≤ l.toInt) (hm : l.toInt % 8 = 0) (hn : ¬ C l.toInt.toNat) (ej : j.toInt = l.toInt + 8) : ∀ k : Nat, 8 * (k : Int) + 8 ≤ j.toInt → ¬ C (8 * k) := fun k hk => by
  rcases (show 8 * (k : Int) + 8 ≤ l.toInt ∨ 8 * k = l.toInt.toNat by omega) with z | z
  · exact h k z
  · rw [z]; exact hn
theorem hv_dv_s {T : Nat → Int32} {a f x l v y : Int32} (h : l.toInt = hv_dv T a.toInt.toNat (min (f.toInt - a.toInt).toNat 4)) (h0 : 0 ≤ a.toInt) (h1 : a.toInt ≤ f.toInt) (h2 : f.toInt - a.toInt < 4) (hy : y = T f.toNatClampNeg) (hv : v.toInt = 10 * l.toInt + y.toInt - 48) (ex : x.toInt = f.toInt + 1) : v.toInt = hv_dv T a.toInt.toNat (min (x.toInt - a.toInt).toNat 4) := by
  rw [show min (f.toInt - a.toInt).toNat 4 = (f.toInt - a.toInt).toNat by omega] at h
  rw [show min (x.toInt - a.toInt).toNat 4 = (f.toInt - a.toInt).toNat + 1 by omega]
  show v.toInt = 10 * hv_dv T a.toInt.toNat (f.toInt - a.toInt).toNat + ((T (a.toInt.toNat + (f.toInt - a.toInt).toNat)).toInt - 48)
  rw [← h, show a.toInt.toNat + (f.toInt - a.toInt).toNat = f.toNatClampNeg by unfold Int32.toNatClampNeg; omega, ← hy]
  omega
theorem hv_dv_k {T : Nat → Int32} {a f x l : Int32} (h : l.toInt = hv_dv T a.toInt.toNat (min (f.toInt - a.toInt).toNat 4)) (h2 : 4 ≤ f.toInt - a.toInt) (ex : x.toInt = f.toInt + 1) : l.toInt = hv_dv T a.toInt.toNat (min (x.toInt - a.toInt).toNat 4) := by
  rw [h]; congr 1; omega
/-- the SIGN as the class has it -/
def hv_scd (s : Nat × Nat) : Int := if s.2 = 0 then 0 else (match s.1 with | 0 => 1 | 1 => 3 | 2 => 2 | 3 => 6 | _ => 4)
section HVG
variable {T : Nat → Int32} {w x m : Int32}
theorem hv_sg_3 (A : w.toInt < m.toInt ∧ (T w.toInt.toNat).toInt = 60) (C : x.toInt < m.toInt ∧ (T x.toInt.toNat).toInt = 61) (h0 : 0 ≤ w.toInt) (e : x.toInt = w.toInt + 1) : hv_sg T m.toInt.toNat w.toInt.toNat = (1, 2) := by
  unfold hv_sg
  rw [if_pos (by omega), if_neg (by omega), if_pos A.2, show w.toInt.toNat + 1 = x.toInt.toNat by omega, if_pos ⟨by omega, C.2⟩]
theorem hv_sg_1 (A : w.toInt < m.toInt ∧ (T w.toInt.toNat).toInt = 60) (C : ¬ (x.toInt < m.toInt ∧ (T x.toInt.toNat).toInt = 61)) (h0 : 0 ≤ w.toInt) (e : x.toInt = w.toInt + 1) : hv_sg T m.toInt.toNat w.toInt.toNat = (0, 1) := by
  unfold hv_sg
  rw [if_pos (by omega), if_neg (by omega), if_pos A.2, show w.toInt.toNat + 1 = x.toInt.toNat by omega, if_neg (fun z => C ⟨by omega, z.2⟩)]
theorem hv_sg_6 (A : w.toInt < m.toInt ∧ (T w.toInt.toNat).toInt = 62) (C : x.toInt < m.toInt ∧ (T x.toInt.toNat).toInt = 61) (h0 : 0 ≤ w.toInt) (e : x.toInt = w.toInt + 1) : hv_sg T m.toInt.toNat w.toInt.toNat = (3, 2) := by
  unfold hv_sg
  rw [if_pos (by omega), if_neg (by omega), if_neg (by omega), if_pos A.2, show w.toInt.toNat + 1 = x.toInt.toNat by omega, if_pos ⟨by omega, C.2⟩]
theorem hv_sg_4 (A : w.toInt < m.toInt ∧ (T w.toInt.toNat).toInt = 62) (C : ¬ (x.toInt < m.toInt ∧ (T x.toInt.toNat).toInt = 61)) (h0 : 0 ≤ w.toInt) (e : x.toInt = w.toInt + 1) : hv_sg T m.toInt.toNat w.toInt.toNat = (4, 1) := by
  unfold hv_sg
  rw [if_pos (by omega), if_neg (by omega), if_neg (by omega), if_pos A.2, show w.toInt.toNat + 1 = x.toInt.toNat by omega, if_neg (fun z => C ⟨by omega, z.2⟩)]
theorem hv_sg_2 (C : w.toInt < m.toInt ∧ (T w.toInt.toNat).toInt = 61) (h0 : 0 ≤ w.toInt) : hv_sg T m.toInt.toNat w.toInt.toNat = (2, 1) := by
  unfold hv_sg
  rw [if_pos (by omega), if_pos C.2]
theorem hv_sg_0 (A : ¬ (w.toInt < m.toInt ∧ (T w.toInt.toNat).toInt = 60)) (B : ¬ (w.toInt < m.toInt ∧ (T w.toInt.toNat).toInt = 62)) (C : ¬ (w.toInt < m.toInt ∧ (T w.toInt.toNat).toInt = 61)) (h0 : 0 ≤ w.toInt) : hv_sg T m.toInt.toNat w.toInt.toNat = (0, 0) := by
  unfold hv_sg
  by_cases z : w.toInt.toNat < m.toInt.toNat
  · rw [if_pos z, if_neg (fun e => C ⟨by omega, e⟩), if_neg (fun e => A ⟨by omega, e⟩), if_neg (fun e => B ⟨by omega, e⟩)]
  · rw [if_neg z]
end HVG
end
section
/-! WHAT IS WRITTEN, AS THE CLASS HAS IT -/
theorem hv_i32n {x : Int32} (h : 0 ≤ x.toInt) : x.toInt = (x.toBitVec.toNat : Int) ∧ x.toBitVec.toNat < 2147483648 := by
  have e : x.toInt = x.toBitVec.toInt := rfl
  have b := x.toBitVec.isLt
  rw [e] at h ⊢
  rw [BitVec.toInt_eq_toNat_cond] at h ⊢
  by_cases c : 2 * x.toBitVec.toNat < 2 ^ 32
  · rw [if_pos c]
    exact ⟨rfl, by omega⟩
  · rw [if_neg c] at h
    exfalso; omega
theorem hv_orr {x y : Int32} (k m p : Nat) (hp : p = 2 ^ k) (x0 : 0 ≤ x.toInt) (x1 : x.toInt < (p : Int)) (y0 : y.toInt = (p : Int) * (m : Int)) (s : x.toInt + y.toInt < 2147483648) : (x ||| y).toInt = x.toInt + y.toInt := by
  have hy0 : 0 ≤ y.toInt := by rw [y0]; exact Int.mul_nonneg (Int.natCast_nonneg _) (Int.natCast_nonneg _)
  obtain ⟨ex, bx⟩ := hv_i32n x0
  obtain ⟨ey, by'⟩ := hv_i32n hy0
  have h1 : y.toBitVec.toNat = 2 ^ k * m := by
    have h2 : (y.toBitVec.toNat : Int) = ((p * m : Nat) : Int) := by rw [← ey, y0, Int.natCast_mul]
    rw [← hp]
    exact Int.ofNat_inj.mp h2
  have hx : x.toBitVec.toNat < 2 ^ k := by rw [← hp]; omega
  have e : (x ||| y).toInt = (x.toBitVec ||| y.toBitVec).toInt := rfl
  have en : (x.toBitVec ||| y.toBitVec).toNat = x.toBitVec.toNat + y.toBitVec.toNat := by
    rw [BitVec.toNat_or, h1, Nat.or_comm, ← Nat.two_pow_add_eq_or_of_lt hx m]
    omega
  rw [e, BitVec.toInt_eq_toNat_cond, en, if_pos (by omega)]
  omega
theorem hv_sh3 {x : Int32} (h0 : 0 ≤ x.toInt) (h1 : x.toInt ≤ 10007) : (x <<< ((3 : Int32) &&& 31)).toInt = 8 * x.toInt := by
  obtain ⟨ex, bx⟩ := hv_i32n h0
  have e : (x <<< ((3 : Int32) &&& 31)).toBitVec = x.toBitVec <<< 3 := rfl
  have e2 : (x <<< ((3 : Int32) &&& 31)).toInt = (x <<< ((3 : Int32) &&& 31)).toBitVec.toInt := rfl
  rw [e2, e, BitVec.toInt_eq_toNat_cond, BitVec.toNat_shiftLeft, Nat.shiftLeft_eq]
  rw [ex] at h1 ⊢
  split <;> omega
theorem hv_sh7 {x : Int32} (h0 : 0 ≤ x.toInt) (h1 : x.toInt ≤ 10007) : (x <<< ((7 : Int32) &&& 31)).toInt = 128 * x.toInt := by
  obtain ⟨ex, bx⟩ := hv_i32n h0
  have e : (x <<< ((7 : Int32) &&& 31)).toBitVec = x.toBitVec <<< 7 := rfl
  have e2 : (x <<< ((7 : Int32) &&& 31)).toInt = (x <<< ((7 : Int32) &&& 31)).toBitVec.toInt := rfl
  rw [e2, e, BitVec.toInt_eq_toNat_cond, BitVec.toNat_shiftLeft, Nat.shiftLeft_eq]
  rw [ex] at h1 ⊢
  split <;> omega
theorem hv_tm {a b d v1 v2 v3 v4 v5 c : Int32} (cb : Nat) (hc : c.toInt = 64 * (cb : Int)) (hcb : cb ≤ 1) (a0 : 0 ≤ a.toInt ∧ a.toInt ≤ 7) (b0 : 0 ≤ b.toInt ∧ b.toInt ≤ 7) (d0 : 0 ≤ d.toInt ∧ d.toInt ≤ 9999) (e1 : v1 = b <<< ((3 : Int32) &&& 31)) (e2 : v2 = a ||| v1) (e3 : v3 = v2 ||| c) (e4 : v4 = d <<< ((7 : Int32) &&& 31)) (e5 : v5 = v3 ||| v4) : v5.toInt = a.toInt + 8 * b.toInt + 64 * (cb : Int) + 128 * d.toInt := by
  have h1 : v1.toInt = 8 * b.toInt := by rw [e1]; exact hv_sh3 b0.1 (by omega)
  have h2 : v2.toInt = a.toInt + v1.toInt := by rw [e2]; exact hv_orr 3 b.toInt.toNat 8 rfl a0.1 (by omega) (by omega) (by omega)
  have h3 : v3.toInt = v2.toInt + c.toInt := by rw [e3]; exact hv_orr 6 cb 64 rfl (by omega) (by omega) (by omega) (by omega)
  have h4 : v4.toInt = 128 * d.toInt := by rw [e4]; exact hv_sh7 d0.1 (by omega)
  have h5 : v5.toInt = v3.toInt + v4.toInt := by rw [e5]; exact hv_orr 7 d.toInt.toNat 128 rfl (by omega) (by omega) (by omega) (by omega)
  omega
def hv_cc (t : hv_tok) : Int := if t.1 = 0 then (if t.2.1 = 0 then -2 else if t.2.1 = 1 then -1 else -3) else (t.1 - 1) + 8 * hv_scd (t.2.1, 1) + (if 10000 ≤ t.2.2 then 64 + 128 * (t.2.2 - 10000) else 128 * t.2.2)
def hv_ls (f : Nat → Int32) : Nat → List Int
  | 0 => []
  | k + 1 => (f k).toInt :: hv_ls f k
theorem hv_ls_c {f g : Nat → Int32} : ∀ k, (∀ j, j < k → f j = g j) → hv_ls f k = hv_ls g k := by
  intro k
  induction k with
  | zero => intro _; rfl
  | succ k ih =>
    intro h
    show (f k).toInt :: hv_ls f k = (g k).toInt :: hv_ls g k
    rw [h k (by omega), ih (fun j hj => h j (by omega))]
theorem hv_ls_len {f : Nat → Int32} : ∀ k, (hv_ls f k).length = k := by
  intro k
  induction k with
  | zero => rfl
  | succ k ih => show (hv_ls f k).length + 1 = k + 1; rw [ih]
theorem hv_ls_l {e : hv_tok → Int} {f : Nat → Int32} {n : Nat} {o : List hv_tok} (h : hv_ls f n = o.map e) : o.length = n := by
  have h2 := congrArg List.length h
  rw [hv_ls_len, List.length_map] at h2
  exact h2.symm
theorem hv_ls_u {e : hv_tok → Int} {f f1 : Nat → Int32} {n n1 : Nat} {o : List hv_tok} {v : Int32} {t : hv_tok} (h : hv_ls f n = o.map e) (hv : v.toInt = e t) (h1 : n1 = n + 1) (h2 : f1 = hx_up f n v) : hv_ls f1 n1 = (t :: o).map e := by
  subst h1; subst h2
  show (hx_up f n v n).toInt :: hv_ls (hx_up f n v) n = e t :: o.map e
  rw [hx_up_at, hv, ← h, hv_ls_c n (fun j hj => hx_up_ne (by omega))]
/-- what a method answers of what it has read -/
def hv_K (e : hv_tok → Int) (sp : hv_R) (r ft p t : Int) (ls : List Int) : Prop := (r = 1 ∧ ft = 0 ∧ 0 ≤ p ∧ 0 ≤ t ∧ ∃ o, ls = o.map e ∧ sp = .inr (p.toNat, t.toNat, o)) ∨ (r = 0 ∧ 1 ≤ ft ∧ sp = .inl ft.toNat)
section HVK
variable {e : hv_tok → Int} {sp sp' : hv_R} {r ft p t : Int} {ls : List Int}
theorem hv_K_1 (h : hv_K e sp r ft p t ls) (z : 1 ≤ r) : ft = 0 ∧ 0 ≤ p ∧ 0 ≤ t ∧ ∃ o, ls = o.map e ∧ sp = .inr (p.toNat, t.toNat, o) := by
  rcases h with ⟨_, w⟩ | ⟨a, _⟩
  · exact w
  · exfalso; omega
theorem hv_K_0 (h : hv_K e sp r ft p t ls) (z : r ≤ 0) : 1 ≤ ft ∧ sp = .inl ft.toNat := by
  rcases h with ⟨a, _⟩ | ⟨_, w⟩
  · exfalso; omega
  · exact w
theorem hv_K_b (h : hv_K e sp r ft p t ls) : r = 0 ∨ r = 1 := by
  rcases h with ⟨a, _⟩ | ⟨a, _⟩
  · exact Or.inr a
  · exact Or.inl a
theorem hv_K_c (h : hv_K e sp r ft p t ls) (z : sp' = sp) : hv_K e sp' r ft p t ls := z ▸ h
theorem hv_K_f {x : Nat} (hr : r = 0) (hf : ft = (x : Int)) (hx : 1 ≤ x) (h : sp = .inl x) : hv_K e sp r ft p t ls := Or.inr ⟨hr, by omega, by rw [h, hf, Int.toNat_natCast]⟩
theorem hv_K_t {x y : Nat} {o : List hv_tok} (hr : r = 1) (hf : ft = 0) (hp : p = (x : Int)) (ht : t = (y : Int)) (hl : ls = o.map e) (h : sp = .inr (x, y, o)) : hv_K e sp r ft p t ls := Or.inl ⟨hr, hf, by omega, by omega, o, hl, by rw [h, hp, ht, Int.toNat_natCast, Int.toNat_natCast]⟩
end HVK
section HVT
variable {T : Nat → Int32} {n p t u D : Nat} {o o1 : List hv_tok} {p1 t1 : Nat} {w : Int} {s : Nat} {a b : Bool} {x : Nat}
theorem hv_term_1 (h : ¬ (3 ≤ hv_wd T n p ∧ hv_wd T n p ≤ 10)) : hv_term T n p t o = .inl (1 + 8 * p) := if_neg h
theorem hv_term_2 (h : 3 ≤ hv_wd T n p ∧ hv_wd T n p ≤ 10) (ht : 20 ≤ t) : hv_term T n p t o = .inl (5 + 8 * p) := by
  unfold hv_term; rw [if_pos h, if_pos ht]
theorem hv_term_3 (h : 3 ≤ hv_wd T n p ∧ hv_wd T n p ≤ 10) (ht : t < 20) (hs : (hv_sg T n (hv_sk T n (hv_we T n p))).2 = 0) : hv_term T n p t o = .inl (1 + 8 * hv_sk T n (hv_we T n p)) := by
  unfold hv_term hv_lf; rw [if_pos h, if_neg (by omega), if_pos hs]
theorem hv_term_o (h : 3 ≤ hv_wd T n p ∧ hv_wd T n p ≤ 10) (ht : t < 20) (hs : (hv_sg T n (hv_sk T n (hv_we T n p))).2 ≠ 0) (hu : u = hv_sk T n (hv_sk T n (hv_we T n p) + (hv_sg T n (hv_sk T n (hv_we T n p))).2)) : hv_term T n p t o = hv_rt T n (hv_wd T n p) (hv_sg T n (hv_sk T n (hv_we T n p))).1 u t o := by
  subst hu
  unfold hv_term hv_lf; rw [if_pos h, if_neg (by omega), if_neg hs]
theorem hv_rt_1 (h : ¬ (3 ≤ hv_wd T n u ∧ hv_wd T n u ≤ 10)) (hd : u < n → hv_dg T u = false) : hv_rt T n w s u t o = .inl (1 + 8 * u) := by
  unfold hv_rt; rw [if_neg h, if_neg (fun z => by rw [hd z.1] at z; exact absurd z.2 (by decide))]
theorem hv_rt_2 (h : 3 ≤ hv_wd T n u ∧ hv_wd T n u ≤ 10) : hv_rt T n w s u t o = .inr (hv_we T n u, t + 1, (w - 2, s, 10000 + (hv_wd T n u - 3)) :: o) := by
  unfold hv_rt; rw [if_pos h]
theorem hv_dg_w (hd : hv_dg T u = true) : hv_wd T n u = -1 := hv_wd_n (fun _ => by
  simp only [hv_dg, decide_eq_true_eq] at hd
  show decide _ = false
  exact decide_eq_false (fun z => by omega))
theorem hv_rt_3 (hn : u < n) (hd : hv_dg T u = true) (h4 : 4 < hv_de T n u - u) : hv_rt T n w s u t o = .inl (2 + 8 * u) := by
  unfold hv_rt; rw [if_neg (by rw [hv_dg_w hd]; omega), if_pos ⟨hn, hd⟩, if_neg (by omega)]
theorem hv_rt_4 (hn : u < n) (hd : hv_dg T u = true) (h4 : hv_de T n u - u ≤ 4) : hv_rt T n w s u t o = .inr (hv_de T n u, t + 1, (w - 2, s, hv_dv T u (hv_de T n u - u)) :: o) := by
  unfold hv_rt; rw [if_neg (by rw [hv_dg_w hd]; omega), if_pos ⟨hn, hd⟩, if_pos h4]
theorem hv_scd_b {g : Nat × Nat} : 0 ≤ hv_scd g ∧ hv_scd g ≤ 6 ∧ (hv_scd g = 0 ↔ g.2 = 0) := by
  unfold hv_scd
  by_cases z : g.2 = 0
  · rw [if_pos z]; exact ⟨by omega, by omega, by simp [z]⟩
  · rw [if_neg z]
    split <;> exact ⟨by omega, by omega, by omega⟩
theorem hv_scd_1 {g : Nat × Nat} (h : g.2 ≠ 0) : hv_scd (g.1, 1) = hv_scd g := by
  unfold hv_scd
  rw [if_neg h]
  rfl
theorem hv_cc_w {g : Nat × Nat} {l r v : Int} (h : g.2 ≠ 0) (hl : w = 3 + l) (h0 : 0 ≤ l) (hr : 0 ≤ r) (hv : v = l + 8 * hv_scd g + 64 + 128 * r) : v = hv_cc (w - 2, g.1, 10000 + r) := by
  unfold hv_cc
  dsimp only
  rw [if_neg (by omega), if_pos (by omega), hv_scd_1 h]
  omega
theorem hv_cc_n {g : Nat × Nat} {l r v : Int} (h : g.2 ≠ 0) (hl : w = 3 + l) (h0 : 0 ≤ l) (hr : r ≤ 9999) (hv : v = l + 8 * hv_scd g + 128 * r) : v = hv_cc (w - 2, g.1, r) := by
  unfold hv_cc
  dsimp only
  rw [if_neg (by omega), if_neg (by omega), hv_scd_1 h]
  omega
theorem hv_one_g (h : hv_one T n D p t o = .inr (p1, t1, o1)) (ht : t ≤ 20) : p < p1 ∧ p1 ≤ n ∧ t ≤ t1 ∧ t1 ≤ 20 ∧ 3 * o1.length + 3 + p + t ≤ 3 * o.length + p1 + t1 := by
  have g := hv_one_b _ _ _ _ _ h
  unfold hv_G at g
  dsimp only at g
  exact ⟨g.1, g.2.1, g.2.2.1, by omega, g.2.2.2.2⟩
theorem hv_LE_g (h : hv_LE T n D false false p t o = .inr (p1, t1, o1)) (ht : t ≤ 20) : p < p1 ∧ p1 ≤ n ∧ t ≤ t1 ∧ t1 ≤ 20 ∧ 3 * o1.length + 3 + p + t ≤ 3 * o.length + p1 + t1 := by
  have g := hv_LE_b h
  have wf : hv_w1 false = 0 := rfl
  rw [wf] at g
  have g4 := g.2.2.2.1
  dsimp only at g4
  exact ⟨g.1, g.2.1, g.2.2.1, by omega, by have := g.2.2.2.2.1; dsimp only at this; omega⟩
theorem hv_one_t (h1 : hv_wd T n (hv_sk T n p) ≠ 2) (h2 : ¬ (hv_sk T n p < n ∧ (T (hv_sk T n p)).toInt = 40)) : hv_one T n D p t o = hv_term T n (hv_sk T n p) t o := by
  cases D with
  | zero => unfold hv_one; rw [if_neg h1, if_neg h2]
  | succ D => unfold hv_one; rw [if_neg h1, if_neg h2]
theorem hv_one_d (h : hv_wd T n (hv_sk T n p) = 2 ∨ (hv_sk T n p < n ∧ (T (hv_sk T n p)).toInt = 40)) : hv_one T n 0 p t o = .inl (4 + 8 * hv_sk T n p) := by
  unfold hv_one
  rcases h with h | h
  · rw [if_pos h]
  · rw [if_pos h]
    split <;> rfl
theorem hv_one_n0 (h1 : hv_wd T n (hv_sk T n p) = 2) (hr : hv_one T n D (hv_sk T n p + 3) t o = .inl x) : hv_one T n (D + 1) p t o = .inl x := by
  rw [hv_one, if_pos h1, hr]; rfl
theorem hv_one_n1 (h1 : hv_wd T n (hv_sk T n p) = 2) (hr : hv_one T n D (hv_sk T n p + 3) t o = .inr (p1, t1, o1)) : hv_one T n (D + 1) p t o = .inr (p1, t1, (0, 2, 0) :: o1) := by
  rw [hv_one, if_pos h1, hr]; rfl
theorem hv_one_p0 (h1 : hv_wd T n (hv_sk T n p) ≠ 2) (h2 : hv_sk T n p < n ∧ (T (hv_sk T n p)).toInt = 40) (hr : hv_LE T n D false false (hv_sk T n p + 1) t o = .inl x) : hv_one T n (D + 1) p t o = .inl x := by
  unfold hv_LE at hr
  rw [hv_one, if_neg h1, if_pos h2, hr]; rfl
theorem hv_one_p1 (h1 : hv_wd T n (hv_sk T n p) ≠ 2) (h2 : hv_sk T n p < n ∧ (T (hv_sk T n p)).toInt = 40) (hr : hv_LE T n D false false (hv_sk T n p + 1) t o = .inr (p1, t1, o1)) (hc : hv_sk T n p1 < n ∧ (T (hv_sk T n p1)).toInt = 41) : hv_one T n (D + 1) p t o = .inr (hv_sk T n p1 + 1, t1, o1) := by
  unfold hv_LE at hr
  rw [hv_one, if_neg h1, if_pos h2, hr, hv_bd_r]
  exact if_pos hc
theorem hv_one_p2 (h1 : hv_wd T n (hv_sk T n p) ≠ 2) (h2 : hv_sk T n p < n ∧ (T (hv_sk T n p)).toInt = 40) (hr : hv_LE T n D false false (hv_sk T n p + 1) t o = .inr (p1, t1, o1)) (hc : ¬ (hv_sk T n p1 < n ∧ (T (hv_sk T n p1)).toInt = 41)) : hv_one T n (D + 1) p t o = .inl (1 + 8 * hv_sk T n p1) := by
  unfold hv_LE at hr
  rw [hv_one, if_neg h1, if_pos h2, hr, hv_bd_r]
  exact if_neg hc
theorem hv_LE_f (hr : hv_one T n D p t o = .inl x) : hv_LE T n D a b p t o = .inl x := by
  rw [hv_LE_t, hr]; rfl
theorem hv_LE_1 (hr : hv_one T n D p t o = .inr (p1, t1, o1)) (h : hv_wd T n (hv_sk T n p1) = 1) : hv_LE T n D a b p t o = hv_LE T n D true b (hv_sk T n p1 + 3) t1 (hv_j a 1 o1) := by
  rw [hv_LE_t, hr, hv_bd_r]
  exact if_pos h
theorem hv_LE_0 (hr : hv_one T n D p t o = .inr (p1, t1, o1)) (h1 : hv_wd T n (hv_sk T n p1) ≠ 1) (h : hv_wd T n (hv_sk T n p1) = 0) : hv_LE T n D a b p t o = hv_LE T n D false true (hv_sk T n p1 + 2) t1 (hv_j b 0 (hv_j a 1 o1)) := by
  rw [hv_LE_t, hr, hv_bd_r]
  exact (if_neg h1).trans (if_pos h)
theorem hv_LE_e (hr : hv_one T n D p t o = .inr (p1, t1, o1)) (h1 : hv_wd T n (hv_sk T n p1) ≠ 1) (h : hv_wd T n (hv_sk T n p1) ≠ 0) : hv_LE T n D a b p t o = .inr (hv_sk T n p1, t1, hv_j b 0 (hv_j a 1 o1)) := by
  rw [hv_LE_t, hr, hv_bd_r]
  exact (if_neg h1).trans (if_neg h)
end HVT
end
section
/-! WHAT WAS TOLD: bits -/
theorem hv_sh1 : ∀ k, k < 32 → ((1 : Int32) <<< ((Int32.ofNat k) &&& 31)).toBitVec = BitVec.twoPow 32 k := by decide +kernel
theorem hv_sh1i {i b : Int32} (h0 : 0 ≤ i.toInt) (h1 : i.toInt ≤ 31) (eb : b = (1 : Int32) <<< (i &&& 31)) : b.toBitVec = BitVec.twoPow 32 i.toInt.toNat := by
  have e : i = Int32.ofNat i.toInt.toNat := Int32.toInt_inj.mp (by rw [Int32.toInt_ofNat_of_lt (by omega)]; omega)
  rw [eb]
  have h := hv_sh1 i.toInt.toNat (by omega)
  rw [← e] at h
  exact h
theorem hv_b_and {x i b c : Int32} (h0 : 0 ≤ i.toInt) (h1 : i.toInt ≤ 31) (eb : b = (1 : Int32) <<< (i &&& 31)) (ec : c = x &&& b) : c.toInt ≠ 0 ↔ x.toBitVec.getLsbD i.toInt.toNat = true := by
  have hb := hv_sh1i h0 h1 eb
  have hc : c.toBitVec = x.toBitVec &&& BitVec.twoPow 32 i.toInt.toNat := by rw [ec, ← hb]; rfl
  rw [BitVec.and_twoPow] at hc
  constructor
  · intro hn
    cases hg : x.toBitVec.getLsbD i.toInt.toNat with
    | true => rfl
    | false =>
      rw [hg] at hc
      exact absurd (show c.toInt = 0 by show c.toBitVec.toInt = 0; rw [hc]; rfl) hn
  · intro hg hz
    rw [hg, if_pos rfl] at hc
    have hz2 : c.toBitVec = 0#32 := BitVec.eq_of_toInt_eq hz
    have h3 : (BitVec.twoPow 32 i.toInt.toNat).getLsbD i.toInt.toNat = false := by rw [← hc, hz2]; exact BitVec.getLsbD_zero
    rw [BitVec.getLsbD_twoPow, decide_eq_true (show i.toInt.toNat < 32 by omega), decide_eq_true rfl] at h3
    cases h3
theorem hv_b_or {x i b c : Int32} (h0 : 0 ≤ i.toInt) (h1 : i.toInt ≤ 31) (eb : b = (1 : Int32) <<< (i &&& 31)) (ec : c = x ||| b) (j : Nat) : c.toBitVec.getLsbD j = (x.toBitVec.getLsbD j || decide (i.toInt.toNat = j)) := by
  have hb := hv_sh1i h0 h1 eb
  have hc : c.toBitVec = x.toBitVec ||| BitVec.twoPow 32 i.toInt.toNat := by rw [ec, ← hb]; rfl
  rw [hc, BitVec.getLsbD_or, BitVec.getLsbD_twoPow]
  have : decide (i.toInt.toNat < 32) = true := decide_eq_true (by omega)
  rw [this, Bool.true_and]
/-- what was told, as the class has it, and as the reference has it -/
def hv_sC (x : Int32) : Nat → Bool := fun k => if k < 14 then x.toBitVec.getLsbD (k + 1) else false
def hv_rx (k : Nat) : Nat := if k = 13 then 20 else k
def hv_sR (x : Int32) : Nat → Bool := fun k => if k < 14 then x.toBitVec.getLsbD (hv_rx k) else false
theorem hv_sC_u {x i b c : Int32} (h0 : 1 ≤ i.toInt) (h1 : i.toInt ≤ 14) (eb : b = (1 : Int32) <<< (i &&& 31)) (ec : c = x ||| b) : hv_sC c = hv_ub (hv_sC x) (i.toInt - 1).toNat := by
  funext j
  unfold hv_sC hv_ub
  dsimp only
  by_cases hj : j < 14
  · rw [if_pos hj, if_pos hj, hv_b_or (by omega) (by omega) eb ec]
    by_cases e : j = (i.toInt - 1).toNat
    · rw [if_pos e, decide_eq_true (by omega), Bool.or_true]
    · rw [if_neg e, decide_eq_false (by omega), Bool.or_false]
  · rw [if_neg hj, if_neg hj, if_neg (by omega)]
theorem hv_sC_a {x i : Int32} (h0 : 1 ≤ i.toInt) (h1 : i.toInt ≤ 14) : hv_sC x (i.toInt - 1).toNat = x.toBitVec.getLsbD i.toInt.toNat := by
  unfold hv_sC
  rw [if_pos (by omega), show (i.toInt - 1).toNat + 1 = i.toInt.toNat by omega]
theorem hv_sC_0 : hv_sC 0 = fun _ => false := by
  funext j
  unfold hv_sC
  split
  · exact BitVec.getLsbD_zero
  · rfl
theorem hv_sR_0 : hv_sR 0 = fun _ => false := by
  funext j
  unfold hv_sR
  split
  · exact BitVec.getLsbD_zero
  · rfl
theorem hv_sR_u {x i b c : Int32} (k : Nat) (hk : k < 14) (hi : i.toInt = (hv_rx k : Int)) (eb : b = (1 : Int32) <<< (i &&& 31)) (ec : c = x ||| b) : hv_sR c = hv_ub (hv_sR x) k := by
  have hr : hv_rx k ≤ 20 := by unfold hv_rx; split <;> omega
  funext j
  unfold hv_sR hv_ub
  dsimp only
  by_cases hj : j < 14
  · rw [if_pos hj, if_pos hj, hv_b_or (by omega) (by omega) eb ec, hi, Int.toNat_natCast]
    by_cases e : j = k
    · rw [if_pos e, e, decide_eq_true rfl, Bool.or_true]
    · rw [if_neg e, decide_eq_false (by unfold hv_rx; split <;> split <;> omega), Bool.or_false]
  · rw [if_neg hj, if_neg hj, if_neg (by omega)]
/-- a bit, shifted down -/
theorem hv_b_sh {x i d c : Int32} (h0 : 0 ≤ i.toInt) (h1 : i.toInt ≤ 20) (ed : d = x >>> (i &&& 31)) (ec : c = d &&& 1) : c.toInt = 1 ↔ x.toBitVec.getLsbD i.toInt.toNat = true := by
  have ei : i = Int32.ofNat i.toInt.toNat := Int32.toInt_inj.mp (by rw [Int32.toInt_ofNat_of_lt (by omega)]; omega)
  have hs : ∀ k, k < 21 → ((Int32.ofNat k) &&& 31).toBitVec.smod 32 = BitVec.ofNat 32 k := by decide +kernel
  have hk : ∀ k, k < 21 → (BitVec.ofNat 32 k).toNat = k := by decide +kernel
  have hd : d.toBitVec = x.toBitVec.sshiftRight i.toInt.toNat := by
    rw [ed]
    show x.toBitVec.sshiftRight ((i &&& 31).toBitVec.smod 32).toNat = _
    have h2 := hs i.toInt.toNat (by omega)
    rw [← ei] at h2
    rw [h2, hk _ (by omega)]
  have hc : c.toBitVec = BitVec.setWidth 32 (BitVec.ofBool (x.toBitVec.getLsbD i.toInt.toNat)) := by
    have h3 : c.toBitVec = d.toBitVec &&& 1#32 := by rw [ec]; rfl
    rw [h3, BitVec.and_one_eq_setWidth_ofBool_getLsbD, hd, BitVec.getLsbD_sshiftRight]
    congr 2
    simp
    unfold Int32.toNatClampNeg
    omega
  have hv : c.toInt = c.toBitVec.toInt := rfl
  rw [hv, hc]
  cases x.toBitVec.getLsbD i.toInt.toNat with
  | true => exact ⟨fun _ => rfl, fun _ => by decide⟩
  | false => exact ⟨fun z => absurd z (by decide), fun z => by cases z⟩
/-! NUMBERS OF CLAUSES -/
def hv_rC (f : Nat → Int32) : Nat → Int := fun k => if k < 13 then (f (k + 1)).toInt else 0
def hv_rR (f : Nat → Int32) : Nat → Int := fun k => if k < 13 then (f k).toInt else 0
theorem hv_rC_u {f f1 : Nat → Int32} {i v : Int32} (h0 : 1 ≤ i.toInt) (h1 : i.toInt ≤ 13) (e : f1 = hx_up f i.toNatClampNeg v) : hv_rC f1 = hv_ud (hv_rC f) (i.toInt - 1).toNat v.toInt := by
  funext j
  unfold hv_rC hv_ud
  by_cases z : j = (i.toInt - 1).toNat
  · rw [if_pos (by omega), if_pos z, e, show j + 1 = i.toNatClampNeg by unfold Int32.toNatClampNeg; omega, hx_up_at]
  · rw [if_neg z, e, hx_up_ne (by unfold Int32.toNatClampNeg; omega)]
theorem hv_rR_u {f f1 : Nat → Int32} {i v : Int32} (h0 : 0 ≤ i.toInt) (h1 : i.toInt ≤ 12) (e : f1 = hx_up f i.toNatClampNeg v) : hv_rR f1 = hv_ud (hv_rR f) i.toInt.toNat v.toInt := by
  funext j
  unfold hv_rR hv_ud
  by_cases z : j = i.toInt.toNat
  · rw [if_pos (by omega), if_pos z, e, show j = i.toNatClampNeg by unfold Int32.toNatClampNeg; omega, hx_up_at]
  · rw [if_neg z, e, hx_up_ne (by unfold Int32.toNatClampNeg; omega)]
theorem hv_ltv : ∀ k, 1 ≤ k → k < 14 → ∀ x : Int32, Value.int x = P_lt k → x.toInt = hv_lo (k - 1) := by
  intro k h1 h2 x h
  rcases (show k = 1 ∨ k = 2 ∨ k = 3 ∨ k = 4 ∨ k = 5 ∨ k = 6 ∨ k = 7 ∨ k = 8 ∨ k = 9 ∨ k = 10 ∨ k = 11 ∨ k = 12 ∨ k = 13 by omega) with z | z | z | z | z | z | z | z | z | z | z | z | z <;> subst z <;> (have h3 := Value.int.inj h; rw [h3]; decide)
theorem hv_mtv : ∀ k, 1 ≤ k → k < 14 → ∀ x : Int32, Value.int x = P_mt k → x.toInt = hv_hi (k - 1) := by
  intro k h1 h2 x h
  rcases (show k = 1 ∨ k = 2 ∨ k = 3 ∨ k = 4 ∨ k = 5 ∨ k = 6 ∨ k = 7 ∨ k = 8 ∨ k = 9 ∨ k = 10 ∨ k = 11 ∨ k = 12 ∨ k = 13 by omega) with z | z | z | z | z | z | z | z | z | z | z | z | z <;> subst z <;> (have h3 := Value.int.inj h; rw [h3]; decide)
theorem hv_lo_b (k : Nat) : 0 ≤ hv_lo k := by unfold hv_lo; split <;> omega
section HVN
variable {T : Nat → Int32} {n p q : Nat} {lo hi : Int} {sn : Nat → Bool} {rd : Nat → Int} {o o1 : List hv_tok} {x k : Nat} {a b : Nat × Int} {p1 t1 : Nat}
theorem hv_num_1 (h : hv_sk T n p < n → hv_dg T (hv_sk T n p) = false) : hv_num T n p lo hi = .inl (1 + 8 * hv_sk T n p) := if_neg (fun z => by rw [h z.1] at z; exact absurd z.2 (by decide))
theorem hv_num_2 (h : hv_sk T n p < n ∧ hv_dg T (hv_sk T n p) = true) (h2 : ¬ (hv_de T n (hv_sk T n p) - hv_sk T n p ≤ 4 ∧ lo ≤ hv_dv T (hv_sk T n p) (hv_de T n (hv_sk T n p) - hv_sk T n p) ∧ hv_dv T (hv_sk T n p) (hv_de T n (hv_sk T n p) - hv_sk T n p) ≤ hi)) : hv_num T n p lo hi = .inl (2 + 8 * hv_sk T n p) := (if_pos h).trans (if_neg h2)
theorem hv_num_3 (h : hv_sk T n p < n ∧ hv_dg T (hv_sk T n p) = true) (h2 : hv_de T n (hv_sk T n p) - hv_sk T n p ≤ 4) (h3 : lo ≤ hv_dv T (hv_sk T n p) (hv_de T n (hv_sk T n p) - hv_sk T n p)) (h4 : hv_dv T (hv_sk T n p) (hv_de T n (hv_sk T n p) - hv_sk T n p) ≤ hi) : hv_num T n p lo hi = .inr (hv_de T n (hv_sk T n p), hv_dv T (hv_sk T n p) (hv_de T n (hv_sk T n p) - hv_sk T n p)) := (if_pos h).trans (if_pos ⟨h2, h3, h4⟩)
theorem hv_co_1 (h : ¬ (21 ≤ hv_wd T n q ∧ hv_wd T n q ≤ 24)) : hv_co T n q sn rd o = .inl (1 + 8 * q) := if_neg h
theorem hv_co_2 (h : 21 ≤ hv_wd T n q ∧ hv_wd T n q ≤ 24) (hs : sn (hv_wd T n q - 12).toNat = true) : hv_co T n q sn rd o = .inl (3 + 8 * q) := (if_pos h).trans (if_pos hs)
theorem hv_co_3 (h : 21 ≤ hv_wd T n q ∧ hv_wd T n q ≤ 24) (hs : sn (hv_wd T n q - 12).toNat = false) (hn : hv_num T n (hv_we T n q) 0 999 = .inl x) : hv_co T n q sn rd o = .inl x := by
  refine (if_pos h).trans ((if_neg (by rw [hs]; decide)).trans ?_)
  rw [hn]; rfl
theorem hv_co_4 (h : 21 ≤ hv_wd T n q ∧ hv_wd T n q ≤ 24) (hs : sn (hv_wd T n q - 12).toNat = false) (hn : hv_num T n (hv_we T n q) 0 999 = .inr a) : hv_co T n q sn rd o = .inr (a.1, hv_ub sn (hv_wd T n q - 12).toNat, hv_ud rd (hv_wd T n q - 12).toNat a.2, o) := by
  refine (if_pos h).trans ((if_neg (by rw [hs]; decide)).trans ?_)
  rw [hn]; rfl
theorem hv_cl_1 (h : ¬ (11 ≤ hv_wd T n (hv_sk T n p) ∧ hv_wd T n (hv_sk T n p) ≤ 20)) : hv_cl T n p sn rd o = .inl (1 + 8 * hv_sk T n p) := if_neg h
theorem hv_cl_c (h : hv_wd T n (hv_sk T n p) = 19) : hv_cl T n p sn rd o = hv_co T n (hv_sk T n (hv_we T n (hv_sk T n p))) sn rd o := by
  unfold hv_cl; rw [if_pos (by omega), if_neg (by omega), if_pos h]
theorem hv_cl_p1 (h : hv_wd T n (hv_sk T n p) = 20) (hs : sn 13 = true) : hv_cl T n p sn rd o = .inl (3 + 8 * hv_sk T n p) := by
  unfold hv_cl; rw [if_pos (by omega), if_pos h, if_pos hs]
theorem hv_cl_p2 (h : hv_wd T n (hv_sk T n p) = 20) (hs : sn 13 = false) (he : hv_LE T n 8 false false (hv_we T n (hv_sk T n p)) 0 [] = .inl x) : hv_cl T n p sn rd o = .inl x := by
  unfold hv_cl; rw [if_pos (by omega), if_pos h, if_neg (by rw [hs]; decide), he]; rfl
theorem hv_cl_p3 (h : hv_wd T n (hv_sk T n p) = 20) (hs : sn 13 = false) (he : hv_LE T n 8 false false (hv_we T n (hv_sk T n p)) 0 [] = .inr (p1, t1, o1)) : hv_cl T n p sn rd o = .inr (p1, hv_ub sn 13, rd, o1) := by
  unfold hv_cl; rw [if_pos (by omega), if_pos h, if_neg (by rw [hs]; decide), he]; rfl
theorem hv_cl_k (h : 11 ≤ hv_wd T n (hv_sk T n p) ∧ hv_wd T n (hv_sk T n p) ≤ 18) (hk : k = hv_kk (hv_wd T n (hv_sk T n p))) : hv_cl T n p sn rd o = hv_ck T n (hv_sk T n p) k sn rd o := by
  subst hk
  unfold hv_cl; rw [if_pos (by omega), if_neg (by omega), if_neg (by omega)]
theorem hv_ck_1 (hs : sn k = true) : hv_ck T n p k sn rd o = .inl (3 + 8 * p) := if_pos hs
theorem hv_ck_2 (hs : sn k = false) (hn : hv_num T n (hv_we T n p) (hv_lo k) (hv_hi k) = .inl x) : hv_ck T n p k sn rd o = .inl x := by
  refine (if_neg (by rw [hs]; decide)).trans ?_
  rw [hn]; rfl
theorem hv_ck_3 (hs : sn k = false) (hn : hv_num T n (hv_we T n p) (hv_lo k) (hv_hi k) = .inr a) (h5 : k ≠ 5) : hv_ck T n p k sn rd o = .inr (a.1, hv_ub sn k, hv_ud rd k a.2, o) := by
  refine (if_neg (by rw [hs]; decide)).trans ?_
  rw [hn, hv_bd_r]
  exact if_neg h5
theorem hv_ck_4 (hs : sn 5 = false) (hn : hv_num T n (hv_we T n p) (hv_lo 5) (hv_hi 5) = .inr a) (hm : hv_num T n a.1 1 30 = .inl x) : hv_ck T n p 5 sn rd o = .inl x := by
  refine (if_neg (by rw [hs]; decide)).trans ?_
  rw [hn, hv_bd_r]
  refine (if_pos rfl).trans ?_
  rw [hm]; rfl
theorem hv_ck_5 (hs : sn 5 = false) (hn : hv_num T n (hv_we T n p) (hv_lo 5) (hv_hi 5) = .inr a) (hm : hv_num T n a.1 1 30 = .inr b) : hv_ck T n p 5 sn rd o = .inr (b.1, hv_ub sn 5, hv_ud (hv_ud rd 5 a.2) 6 b.2, o) := by
  refine (if_neg (by rw [hs]; decide)).trans ?_
  rw [hn, hv_bd_r]
  refine (if_pos rfl).trans ?_
  rw [hm]; rfl
theorem hv_AL_1 {s : hv_st} (h : hv_cl T n s.1 s.2.1 s.2.2.1 s.2.2.2 = .inl x) : hv_AL T n s = .inl x := by
  rw [hv_AL_t, h]; rfl
theorem hv_AL_2 {s q : hv_st} (h : hv_cl T n s.1 s.2.1 s.2.2.1 s.2.2.2 = .inr q) (hn : n ≤ hv_sk T n q.1) : hv_AL T n s = .inr (hv_sk T n q.1, q.2) := by
  rw [hv_AL_t, h, hv_bd_r]; exact if_neg (by omega)
theorem hv_AL_3 {s q : hv_st} (h : hv_cl T n s.1 s.2.1 s.2.2.1 s.2.2.2 = .inr q) (hn : hv_sk T n q.1 < n) (h5 : (T (hv_sk T n q.1)).toInt ≠ 59) : hv_AL T n s = .inl (1 + 8 * hv_sk T n q.1) := by
  rw [hv_AL_t, h, hv_bd_r]; exact (if_pos hn).trans (if_neg h5)
theorem hv_AL_4 {s q : hv_st} (h : hv_cl T n s.1 s.2.1 s.2.2.1 s.2.2.2 = .inr q) (hn : hv_sk T n q.1 < n) (h5 : (T (hv_sk T n q.1)).toInt = 59) : hv_AL T n s = hv_AL T n (hv_sk T n q.1 + 1, q.2) := by
  rw [hv_AL_t (s := s), h, hv_bd_r]; exact (if_pos hn).trans (if_pos h5)
end HVN
/-- what a method answers of a CLAUSE -/
def hv_CK (e : hv_tok → Int) (sp : Nat ⊕ hv_st) (r ft p : Int) (sn : Nat → Bool) (rd : Nat → Int) (ls : List Int) : Prop := (r = 1 ∧ ft = 0 ∧ 0 ≤ p ∧ ∃ o, ls = o.map e ∧ sp = .inr (p.toNat, sn, rd, o)) ∨ (r = 0 ∧ 1 ≤ ft ∧ sp = .inl ft.toNat)
section HVCK
variable {e : hv_tok → Int} {sp sp' : Nat ⊕ hv_st} {r ft p : Int} {sn : Nat → Bool} {rd : Nat → Int} {ls : List Int}
theorem hv_CK_1 (h : hv_CK e sp r ft p sn rd ls) (z : 1 ≤ r) : ft = 0 ∧ 0 ≤ p ∧ ∃ o, ls = o.map e ∧ sp = .inr (p.toNat, sn, rd, o) := by
  rcases h with ⟨_, w⟩ | ⟨a, _⟩
  · exact w
  · exfalso; omega
theorem hv_CK_0 (h : hv_CK e sp r ft p sn rd ls) (z : r ≤ 0) : 1 ≤ ft ∧ sp = .inl ft.toNat := by
  rcases h with ⟨a, _⟩ | ⟨_, w⟩
  · exfalso; omega
  · exact w
theorem hv_CK_b (h : hv_CK e sp r ft p sn rd ls) : r = 0 ∨ r = 1 := by
  rcases h with ⟨a, _⟩ | ⟨a, _⟩
  · exact Or.inr a
  · exact Or.inl a
theorem hv_CK_c (h : hv_CK e sp r ft p sn rd ls) (z : sp' = sp) : hv_CK e sp' r ft p sn rd ls := z ▸ h
theorem hv_CK_f {x : Nat} (hr : r = 0) (hf : ft = (x : Int)) (hx : 1 ≤ x) (h : sp = .inl x) : hv_CK e sp r ft p sn rd ls := Or.inr ⟨hr, by omega, by rw [h, hf, Int.toNat_natCast]⟩
theorem hv_CK_t {x : Nat} {sn' : Nat → Bool} {rd' : Nat → Int} {o : List hv_tok} (hr : r = 1) (hf : ft = 0) (hp : p = (x : Int)) (hs : sn = sn') (hd : rd = rd') (hl : ls = o.map e) (h : sp = .inr (x, sn', rd', o)) : hv_CK e sp r ft p sn rd ls := Or.inl ⟨hr, hf, by omega, o, hl, by rw [h, hp, hs, hd, Int.toNat_natCast]⟩
end HVCK
/-- what a method answers of a NUMBER that it keeps -/
def hv_N (sp : Nat ⊕ (Nat × Int)) (r ft ft0 p : Int) (d d1 : Nat → Int32) (i : Nat) : Prop := (r = 1 ∧ ft = ft0 ∧ ∃ v : Int32, sp = .inr (p.toNat, v.toInt) ∧ d1 = hx_up d i v) ∨ (r = 0 ∧ 1 ≤ ft ∧ sp = .inl ft.toNat)
section HVNN
variable {sp : Nat ⊕ (Nat × Int)} {r ft ft0 p : Int} {d d1 : Nat → Int32} {i : Nat}
theorem hv_N_1 (h : hv_N sp r ft ft0 p d d1 i) (z : 1 ≤ r) : ft = ft0 ∧ ∃ v : Int32, sp = .inr (p.toNat, v.toInt) ∧ d1 = hx_up d i v := by
  rcases h with ⟨_, w⟩ | ⟨a, _⟩
  · exact w
  · exfalso; omega
theorem hv_N_b (h : hv_N sp r ft ft0 p d d1 i) : r = 0 ∨ r = 1 := by
  rcases h with ⟨a, _⟩ | ⟨a, _⟩
  · exact Or.inr a
  · exact Or.inl a
theorem hv_N_0 (h : hv_N sp r ft ft0 p d d1 i) (z : r ≤ 0) : 1 ≤ ft ∧ sp = .inl ft.toNat := by
  rcases h with ⟨a, _⟩ | ⟨_, w⟩
  · exfalso; omega
  · exact w
end HVNN
theorem hv_lo9 {k : Nat} (h : 8 ≤ k) : hv_lo k = 0 := by unfold hv_lo; rw [if_pos (by omega)]
theorem hv_hi9 {k : Nat} (h : 9 ≤ k) : hv_hi k = 999 := match k, h with
  | _ + 9, _ => rfl
theorem hv_ub_at {f : Nat → Bool} {k : Nat} : hv_ub f k k = true := if_pos rfl
theorem hv_ub_ne {f : Nat → Bool} {k j : Nat} (h : j ≠ k) : hv_ub f k j = f j := if_neg h
theorem hv_kk_r {w r : Int} (h1 : 1 ≤ r) (h2 : r ≤ 9) (h7 : r ≠ 7) (e : w = (if r ≤ 6 then 10 + r else 9 + r)) : hv_kk w = (r - 1).toNat := by
  unfold hv_kk
  by_cases z : r ≤ 6
  · rw [if_pos z] at e
    rw [if_pos (by omega)]; omega
  · rw [if_neg z] at e
    rw [if_neg (by omega)]; omega
/-- what stands at the head of the clauses' loop -/
def hv_AI (e : hv_tok → Int) (T : Nat → Int32) (n : Nat) (sp : Nat ⊕ hv_st) (g ft p t i : Int) (sn : Nat → Bool) (rd : Nat → Int) (ls : List Int) : Prop :=
  (g = 1 ∧ ft = 0 ∧ 0 ≤ p ∧ p ≤ n ∧ i ≤ p ∧ (0 ≤ t ∧ t ≤ 20) ∧ (sn 13 = false → t = 0) ∧ ∃ o, ls = o.map e ∧ sp = hv_AL T n (p.toNat, sn, rd, o)) ∨ (g = 0 ∧ ft = 0 ∧ ∃ x sn' o, ls = o.map e ∧ sp = .inr (x, sn', rd, o)) ∨ (g = 0 ∧ 1 ≤ ft ∧ sp = .inl ft.toNat)
/-- what is answered of a whole text -/
def hv_AR (e : hv_tok → Int) (sp : Nat ⊕ hv_st) (r : Int) (rd : Nat → Int) (ls : List Int) : Prop := (r = 0 ∧ ∃ x sn o, ls = o.map e ∧ sp = .inr (x, sn, rd, o)) ∨ (1 ≤ r ∧ sp = .inl r.toNat)
theorem hv_AI_e {e : hv_tok → Int} {T : Nat → Int32} {n : Nat} {sp : Nat ⊕ hv_st} {g ft p t i : Int} {sn : Nat → Bool} {rd : Nat → Int} {ls : List Int} (h : hv_AI e T n sp g ft p t i sn rd ls) (hg : g = 0 ∨ n < i) : hv_AR e sp ft rd ls := by
  obtain h1 | ⟨_, h2, x, sn', o, h0, h3⟩ | ⟨_, h2, h3⟩ := h
  · exfalso; omega
  · exact Or.inl ⟨h2, x, sn', o, h0, h3⟩
  · exact Or.inr ⟨h2, h3⟩
theorem hv_AI_g {e : hv_tok → Int} {T : Nat → Int32} {n : Nat} {sp : Nat ⊕ hv_st} {g ft p t i : Int} {sn : Nat → Bool} {rd : Nat → Int} {ls : List Int} (h : hv_AI e T n sp g ft p t i sn rd ls) (hg : 1 ≤ g) : ft = 0 ∧ 0 ≤ p ∧ p ≤ n ∧ i ≤ p ∧ (0 ≤ t ∧ t ≤ 20) ∧ (sn 13 = false → t = 0) ∧ ∃ o, ls = o.map e ∧ sp = hv_AL T n (p.toNat, sn, rd, o) := by
  obtain ⟨_, h1⟩ | ⟨z, _⟩ | ⟨z, _⟩ := h
  · exact h1
  · exfalso; omega
  · exfalso; omega
end
section
set_option maxHeartbeats 4000000 in
set_option maxRecDepth 100000 in
theorem t_J1_charAt_v (l : Launch) (dC : Nat → ClassId) (dI : Nat → Nat → Nat) (dA : Nat → ClassId) (L : List Nat) (h : hx_h) (sz : Nat) (b0 : hx_z) (js : Nat) (i1 : Int32) (hT : hx_T T_tb L h) (hjs : js < 6) (hi1 : 0 ≤ i1.toInt ∧ i1.toInt < (Int32.ofNat (P_ln.getD js 0)).toInt) : Met l yJ1_charAt_3b067 (Cond.code yJ1_charAt_3b067 cJ1_charAt_3b067 2 (some .char) :: hx_all) ({ frames := 2, cells := 0, slots := 0, locals := 43 }) (va_Pc [.ref (b0.2.2.2.2 js), .int i1] (hx_BX T_tb (P_ty dA) (dC, dI) vwCl L h sz b0)) (va_Qi (fun (r : Int32) (u : List Nat × hx_h) => (narrow .char (.int r) = .int r ∧ r = (P_by.getD js []).getD i1.toNatClampNeg 0) ∧ hx_T T_tb u.1 u.2 ∧ hx_S T_tb [] L h u.1 u.2) (hx_E T_tb (P_ty dA) (dC, dI) vwCl (hx_A L sz)) (hx_A L sz)) 0 0 (hx_A L sz) := by
  refine hx_metX (lv := [(0, .ref (b0.2.2.2.2 js)), (1, .int i1)]) (by decide +kernel) rfl (Nat.le_of_ble_eq_true rfl) rfl ?_
  intro p e s m below meth c hx hb hml hr hlk hts0 hown hin hsz hW hZ ls hl
  have hts : ∀ w ∈ hx_all, w.before _ s = true := fun w hw => hts0 w (List.mem_cons_of_mem _ hw)
  have hown : s.vm.findClass "java/lang/StringLatin1" = some m.cls := hown
  have hM : hx_S T_tb [] L h L h := hx_S.rf
  obtain ⟨zLT, zLA, zMT, zMA, zCS, zSF, zVS, zVR⟩ := hZ.2.2.2.2.2.2
  refine lv_iload_n hx hb dJ1_charAt_3b067_0 rfl (lv_at hl 1 rfl) ?_
  refine lv_aload_n hx hb dJ1_charAt_3b067_1 rfl (lv_at hl 0 rfl) ?_
  refine va_tlen hx hb (zVS.1 js hjs).2.2.2 hW.2.2.2.1 rfl dJ1_charAt_3b067_2 ?_
  refine lv_topi (fun xl_1 exl_1 => ?_)
  have lxl_1 := hx_ln js hjs; rw [← exl_1] at lxl_1
  have kxl_1 : (Int32.ofNat (P_ln.getD js 0)).toInt = xl_1.toInt := ?o0
  case o0 => rw [exl_1]
  refine hx_gov (hx_runSX (As := [.int i1, .int xl_1]) (rest := []) ⟨hx, hb, hml, hown, hts⟩ hW (t_J0_checkIndex_df160 l dC dI dA L h s.heap.size b0 i1 xl_1 hT ⟨?o1, ?o2⟩) hZ (va_cwS 2 hts (hx_gS kw_499 kw_497 kw_498 kw_104) rfl rfl rfl (by decide +kernel) ⟨Nat.le_of_ble_eq_true rfl, Nat.le_of_ble_eq_true rfl⟩) rfl hl.1 rfl (Nat.le_of_ble_eq_true rfl) dJ1_charAt_3b067_3 ⟨Nat.le_of_ble_eq_true rfl, Nat.le_of_ble_eq_true rfl⟩) hW (fun L_2 h_3 H locs p_5 hW => ?_)
  case o1 => omega
  case o2 => omega
  obtain ⟨hT, hs⟩ := p_5
  replace hT : hx_T T_tb L_2 h_3 := hT
  replace hs : hx_S T_tb [] L h L_2 h_3 := hs
  replace hM := hM.tr (hs.mono ?o3)
  case o3 => decide
  refine lv_aload_n hx hb dJ1_charAt_3b067_6 rfl (lv_at hl 0 rfl) ?_
  refine lv_iload_n hx hb dJ1_charAt_3b067_7 rfl (lv_at hl 1 rfl) ?_
  refine va_tb hx hb (zVS.1 js hjs).2.2.2 hW.2.2.2.1 (vp_in_iff.mpr ⟨?o4, ?o5⟩) rfl dJ1_charAt_3b067_8 ?_
  case o4 => omega
  case o5 => omega
  refine lv_topi (fun x_7 ex_7 => ?_)
  refine lv_sipush (v := 255) hx hb dJ1_charAt_3b067_9 ?o6 ?_
  case o6 => decide
  refine lv_iand hx hb dJ1_charAt_3b067_12 ?_
  refine lv_topi (fun x_8 ex_8 => ?_)
  have zx_8 : 0 ≤ x_8.toInt ∧ x_8.toInt ≤ 255 := ?o7
  case o7 =>
    rw [ex_8]
    refine hx_andR ?o8 ?o9
    case o8 => decide
    case o9 => decide
  refine lv_i2c hx hb dJ1_charAt_3b067_13 rfl ?_
  refine lv_topi (fun x_9 ex_9 => ?_)
  exact hx_retz hx hb hr (by rw [ex_9]; exact hx_narc _) hlk hW ⟨⟨(by rw [ex_9]; exact hx_narc _), (by rw [ex_9, ex_8, ex_7]; exact hv_chr js hjs _ (by have h9 := hx_ln js hjs; unfold Int32.toNatClampNeg; omega))⟩, hT, hM⟩ dJ1_charAt_3b067_14


set_option maxHeartbeats 4000000 in
set_option maxRecDepth 100000 in
theorem t_J0_charAt_v (l : Launch) (dC : Nat → ClassId) (dI : Nat → Nat → Nat) (dA : Nat → ClassId) (L : List Nat) (h : hx_h) (sz : Nat) (b0 : hx_z) (js : Nat) (i1 : Int32) (hT : hx_T T_tb L h) (hjs : js < 6) (hi1 : 0 ≤ i1.toInt ∧ i1.toInt < (Int32.ofNat (P_ln.getD js 0)).toInt) : Met l yJ0_charAt_5068e (Cond.code yJ0_charAt_5068e cJ0_charAt_5068e 2 (some .char) :: hx_all) ({ frames := 3, cells := 0, slots := 0, locals := 64 }) (va_Pc [.ref (b0.2.2.2.1 js), .int i1] (hx_BX T_tb (P_ty dA) (dC, dI) vwCl L h sz b0)) (va_Qi (fun (r : Int32) (u : List Nat × hx_h) => (r = (P_by.getD js []).getD i1.toNatClampNeg 0) ∧ hx_T T_tb u.1 u.2 ∧ hx_S T_tb [] L h u.1 u.2) (hx_E T_tb (P_ty dA) (dC, dI) vwCl (hx_A L sz)) (hx_A L sz)) 0 0 (hx_A L sz) := by
  refine hx_metX (lv := [(0, .ref (b0.2.2.2.1 js)), (1, .int i1)]) (by decide +kernel) rfl (Nat.le_of_ble_eq_true rfl) rfl ?_
  intro p e s m below meth c hx hb hml hr hlk hts0 hown hin hsz hW hZ ls hl
  have hts : ∀ w ∈ hx_all, w.before _ s = true := fun w hw => hts0 w (List.mem_cons_of_mem _ hw)
  have hown : s.vm.findClass "java/lang/String" = some m.cls := hown
  have hM : hx_S T_tb [] L h L h := hx_S.rf
  obtain ⟨zLT, zLA, zMT, zMA, zCS, zSF, zVS, zVR⟩ := hZ.2.2.2.2.2.2
  refine lv_aload_n hx hb dJ0_charAt_5068e_0 rfl (lv_at hl 0 rfl) ?_
  refine hx_goi (hx_runVS (As := []) (rest := []) ⟨hx, hb, hml, hown, hts⟩ hW hZ (i := js) hjs (t_J0_isLatin1_aae02 l dC dI dA L h s.heap.size b0 js hT hjs) (cwV 0 hts (hx_gV kw_493 kw_490 kw_491 kw_492 kw_104) rfl rfl rfl (by decide +kernel) ⟨Nat.le_of_ble_eq_true rfl, Nat.le_of_ble_eq_true rfl⟩) rfl hl.1 rfl (Nat.le_of_ble_eq_true rfl) dJ0_charAt_5068e_1 ⟨Nat.le_of_ble_eq_true rfl, Nat.le_of_ble_eq_true rfl⟩) hW (fun r_3 L_1 h_2 H locs p_4 hW => ?_)
  obtain ⟨hr_5, hT, hs⟩ := p_4
  replace hT : hx_T T_tb L_1 h_2 := hT
  replace hs : hx_S T_tb [] L h L_1 h_2 := hs
  replace hM := hM.tr (hs.mono ?o0)
  case o0 => decide
  obtain rfl : r_3 = 1 := hr_5
  refine hb_if_eq (zx := 1) (tgt := 16) hx hb ?o1 dJ0_charAt_5068e_4 ?o2 (fun c_6 => absurd c_6 ?o3) (fun c_6 => ?_)
  case o1 => decide
  case o2 => decide
  case o3 => decide
  refine lv_aload_n hx hb dJ0_charAt_5068e_7 rfl (lv_at hl 0 rfl) ?_
  refine vk_getf hx hb (zVS.1 js hjs).2.2.1 hW.2.2.2.1 hown (hts _ kw_1754) (fun _ h9 => h9) dJ0_charAt_5068e_8 ?_
  refine lv_iload_n hx hb dJ0_charAt_5068e_11 rfl (lv_at hl 1 rfl) ?_
  refine hx_goi (hx_runSX (As := [.ref (b0.2.2.2.2 js), .int i1]) (rest := []) ⟨hx, hb, hml, hown, hts⟩ hW (t_J1_charAt_v l dC dI dA L_1 h_2 H.size b0 js i1 hT hjs hi1) hZ (va_cwS 2 hts (hx_gS kw_496 kw_494 kw_495 kw_105) rfl rfl rfl (by decide +kernel) ⟨Nat.le_of_ble_eq_true rfl, Nat.le_of_ble_eq_true rfl⟩) rfl hl.1 rfl (Nat.le_of_ble_eq_true rfl) dJ0_charAt_5068e_12 ⟨Nat.le_of_ble_eq_true rfl, Nat.le_of_ble_eq_true rfl⟩) hW (fun r_9 L_7 h_8 H locs p_10 hW => ?_)
  obtain ⟨hr_11, hT, hs⟩ := p_10
  replace hT : hx_T T_tb L_7 h_8 := hT
  replace hs : hx_S T_tb [] L_1 h_2 L_7 h_8 := hs
  replace hM := hM.tr (hs.mono ?o4)
  case o4 => decide
  exact hx_retz hx hb hr hr_11.1 hlk hW ⟨hr_11.2, hT, hM⟩ dJ0_charAt_5068e_15
end
section
set_option maxHeartbeats 4000000 in
set_option maxRecDepth 100000 in
theorem t_X6_skipBlanks_v (l : Launch) (dC : Nat → ClassId) (dI : Nat → Nat → Nat) (dA : Nat → ClassId) (L : List Nat) (h : hx_h) (sz : Nat) (x : Nat) (hT : hx_T T_tb L h) (gx : hx_g L h x 6) (qt : Nat) (gqt : hx_g L h qt 42) (f_x_0 : h.2.2 x 0 = some qt) (tf : Nat → Int32) (af_qt : h.2.1 qt = tf) (at0 : Int32) (f_x_2 : h.2.1 x 2 = at0) (ln0 : Int32) (f_x_1 : h.2.1 x 1 = ln0) (hA : at0.toInt ≤ ln0.toInt) : Met l yX6_skipBlanks (Cond.code yX6_skipBlanks cX6_skipBlanks 1 none :: hx_all) ({ frames := 0, cells := 0, slots := 0, locals := 0 }) (va_Pc [.ref x] (hx_B T_tb (P_ty dA) (dC, dI) vwCl L h sz)) (va_Qv (fun (u : List Nat × hx_h) => (∃ (at1 : Int32), u.2.2.1 x 2 = at1 ∧ (at1.toInt = ((hv_sk tf ln0.toInt.toNat at0.toInt.toNat : Nat) : Int) ∧ at0.toInt ≤ at1.toInt ∧ at1.toInt ≤ ln0.toInt)) ∧ hx_T T_tb u.1 u.2 ∧ hx_S T_tb [(6, 2)] L h u.1 u.2) (hx_E T_tb (P_ty dA) (dC, dI) vwCl (hx_A L sz)) (hx_A L sz)) 0 0 (hx_A L sz) := by
  refine hx_met (lv := [(0, .ref x)]) (by decide +kernel) rfl (Nat.le_of_ble_eq_true rfl) rfl ?_
  intro p e s m below meth c hx hb hml hr hlk hts0 hown hin hsz hW ls hl
  have hts : ∀ w ∈ hx_all, w.before _ s = true := fun w hw => hts0 w (List.mem_cons_of_mem _ hw)
  have hown : s.vm.findClass "SmallCourt$Reader" = some m.cls := hown
  have hM : hx_S T_tb [(6, 2)] L h L h := hx_S.rf
  have b_at0 := hT.gi gx tt_6 (k := 2) rfl
  rw [f_x_2] at b_at0
  have b_at0 : 0 ≤ at0.toInt ∧ at0.toInt ≤ 402 := b_at0
  have b_ln0 := hT.gi gx tt_6 (k := 1) rfl
  rw [f_x_1] at b_ln0
  have b_ln0 : 0 ≤ ln0.toInt ∧ ln0.toInt ≤ 400 := b_ln0
  have loop0 : ∀ (n0 : Nat) (fw0_x_2 : Int32) (H : Heap) (locs : List Loc) (hL1 : List Nat) (hl1 : hx_h), 0 ≤ fw0_x_2.toInt → fw0_x_2.toInt ≤ 402 → (hv_sk tf ln0.toInt.toNat at0.toInt.toNat = hv_sk tf ln0.toInt.toNat (fw0_x_2.toInt).toNat) → (at0.toInt ≤ fw0_x_2.toInt) → (fw0_x_2.toInt ≤ ln0.toInt) → ∀ (ls : Array Slot), 402 - fw0_x_2.toInt < (n0 : Int) → hx_W T_tb (P_ty dA) (dC, dI) vwCl (hx_A L sz) s.heap hL1 hl1 s H locs → hx_T T_tb hL1 hl1 → hx_S T_tb [(6, 2)] L h hL1 hl1 → hl1.2.1 x 2 = fw0_x_2 → lv_has ls 1 [(0, .ref x)] → W p l e ({ frames := 0, cells := 0, slots := 0, locals := 0 }) s m ([.ref x] : List Value).toArray below meth c H locs 0 0 (MQ below (va_Qv (fun (u : List Nat × hx_h) => (∃ (at1 : Int32), u.2.2.1 x 2 = at1 ∧ (at1.toInt = ((hv_sk tf ln0.toInt.toNat at0.toInt.toNat : Nat) : Int) ∧ at0.toInt ≤ at1.toInt ∧ at1.toInt ≤ ln0.toInt)) ∧ hx_T T_tb u.1 u.2 ∧ hx_S T_tb [(6, 2)] L h u.1 u.2) (hx_E T_tb (P_ty dA) (dC, dI) vwCl (hx_A L sz)) (hx_A L sz)) ([.ref x] : List Value).toArray s 0 0 (hx_A L sz)) (F0 m 0 ls []) := by
    intro n0
    induction n0 with
    | zero => intro fw0_x_2 H locs hL1 hl1 blfw0_x_2 bufw0_x_2 vi0_0 vi0_1 vi0_2 ls hn0; exfalso; omega
    | succ n0 ih0 =>
      intro fw0_x_2 H locs hL1 hl1 blfw0_x_2 bufw0_x_2 vi0_0 vi0_1 vi0_2 ls hn0 hW hT hM ffw0_x_2  hl
      refine lv_aload_n hx hb dX6_skipBlanks_0 rfl (lv_at hl 0 rfl) ?_
      refine hk_geti hx hb hts hC_6 hown hW (gx.S hM) tt_6 2 ?o0 rfl kw_127 ⟨rfl, rfl, rfl⟩ ffw0_x_2 dX6_skipBlanks_1 ?_
      case o0 => decide
      refine lv_aload_n hx hb dX6_skipBlanks_4 rfl (lv_at hl 0 rfl) ?_
      refine hk_geti hx hb hts hC_6 hown hW (gx.S hM) tt_6 1 ?o1 rfl kw_126 ⟨rfl, rfl, rfl⟩ ((hM.o gx trivial rfl).1.trans f_x_1) dX6_skipBlanks_5 ?_
      case o1 => decide
      refine hb_icmp_ge (zx := fw0_x_2.toInt) (zy := ln0.toInt) (tgt := 38) hx hb rfl rfl dX6_skipBlanks_8 ?o2 (fun c_1 => ?_) (fun c_1 => ?_)
      case o2 => decide
      · skip
        refine hx_retv hx hb hr hlk hW ⟨⟨fw0_x_2, ffw0_x_2, ⟨(by rw [vi0_0]; exact (hv_sn_o (by omega) (fun z9 => by exfalso; omega)).symm), ?o3, ?o4⟩⟩, hT, hM⟩ dX6_skipBlanks_38
        case o3 => omega
        case o4 => omega
      · skip
        refine lv_aload_n hx hb dX6_skipBlanks_11 rfl (lv_at hl 0 rfl) ?_
        refine hk_getr hx hb hts hC_6 hown hW (gx.S hM) tt_6 0 ?o5 rfl kw_125 ⟨rfl, rfl, rfl⟩ ((hM.o gx trivial rfl).2.trans f_x_0) dX6_skipBlanks_12 ?_
        case o5 => decide
        refine lv_aload_n hx hb dX6_skipBlanks_15 rfl (lv_at hl 0 rfl) ?_
        refine hk_geti hx hb hts hC_6 hown hW (gx.S hM) tt_6 2 ?o6 rfl kw_127 ⟨rfl, rfl, rfl⟩ ffw0_x_2 dX6_skipBlanks_16 ?_
        case o6 => decide
        refine hx_bald hx hb hW hT (gqt.S hM) tt_42 rfl ⟨?o7, ?o8⟩ dX6_skipBlanks_19 (fun x_2 ex_2 lx_2 ux_2 => ?_)
        case o7 => omega
        case o8 => omega
        have ax_2 : x_2 = tf fw0_x_2.toNatClampNeg := ex_2.trans (congrFun (hx_afS hM gqt rfl af_qt) _)
        refine lv_bipush (v := 32) hx hb dX6_skipBlanks_20 ?o9 ?_
        case o9 => decide
        refine hb_icmp_ne (zx := x_2.toInt) (zy := 32) (tgt := 38) hx hb rfl ?o10 dX6_skipBlanks_22 ?o11 (fun c_3 => ?_) (fun c_3 => ?_)
        case o10 => decide
        case o11 => decide
        · skip
          refine hx_retv hx hb hr hlk hW ⟨⟨fw0_x_2, ffw0_x_2, ⟨(by rw [vi0_0]; exact (hv_sn_o (by omega) (fun z9 => hv_bl_f ax_2 (by omega))).symm), ?o12, ?o13⟩⟩, hT, hM⟩ dX6_skipBlanks_38
          case o12 => omega
          case o13 => omega
        · skip
          refine lv_aload_n hx hb dX6_skipBlanks_25 rfl (lv_at hl 0 rfl) ?_
          refine lv_dup hx hb dX6_skipBlanks_26 rfl ?_
          refine hk_geti hx hb hts hC_6 hown hW (gx.S hM) tt_6 2 ?o14 rfl kw_127 ⟨rfl, rfl, rfl⟩ ffw0_x_2 dX6_skipBlanks_27 ?_
          case o14 => decide
          refine lv_iconst (v := 1) hx hb dX6_skipBlanks_30 ?o15 ?_
          case o15 => decide
          refine lv_iadd hx hb dX6_skipBlanks_31 ?_
          have rg_4 := i32_r fw0_x_2
          refine lv_topi (fun x_5 ex_5 => ?_)
          have zx_5 : x_5.toInt = fw0_x_2.toInt + 1 := ?o16
          case o16 =>
            rw [ex_5]
            refine i32_add rfl ?o17 ?o18 ?o19
            case o17 => decide
            case o18 => omega
            case o19 => omega
          refine hx_puti hx hb hts hC_6 hown hW hT (hx_S.rf (M := [(6, 2)])) (gx.S hM) tt_6 2 ?o20 rfl kw_127 ⟨rfl, rfl, rfl⟩ rfl (x := x_5) ⟨?o21, ?o22⟩ rfl rfl rfl (List.mem_singleton.mpr rfl) dX6_skipBlanks_32 (fun H locs h_6 eh_6 hW hT hs => ?_)
          case o20 => decide
          case o21 => omega
          case o22 => omega
          replace ex_2 := ex_2.trans (hs.a (gqt.S hM) rfl _).1.symm
          replace hM := hM.tr (hs.mono ?o23)
          case o23 => decide
          have f_7 : h_6.2.1 x 2 = x_5 := ?o24
          case o24 =>
            rw [eh_6]
            exact hx_pi_at _ _ _ _
          refine lv_goto (tgt := 0) hx hb dX6_skipBlanks_35 ?o25 ?_
          case o25 => decide
          refine ih0 x_5 _ _ hL1 h_6 ?o26 ?o27 (vi0_0.trans (hv_sn_i ?o28 ?o29 (hv_bl_t ax_2 ?o30) zx_5)) ?o31 ?o32 ls ?o33 hW hT hM f_7  (lv_sub hl [0] rfl)
          case o26 => omega
          case o27 => omega
          case o28 => omega
          case o29 => omega
          case o30 => omega
          case o31 => omega
          case o32 => omega
          case o33 => omega
  refine loop0 403 at0 _ _ L h ?o34 ?o35 rfl ?o36 ?o37 ls ?o38 hW hT hM f_x_2  hl
  case o34 => omega
  case o35 => omega
  case o36 => omega
  case o37 => omega
  case o38 => omega


set_option maxHeartbeats 4000000 in
set_option maxRecDepth 100000 in
theorem t_X6_wordEnd_v (l : Launch) (dC : Nat → ClassId) (dI : Nat → Nat → Nat) (dA : Nat → ClassId) (L : List Nat) (h : hx_h) (sz : Nat) (x : Nat) (hT : hx_T T_tb L h) (gx : hx_g L h x 6) (qt : Nat) (gqt : hx_g L h qt 42) (f_x_0 : h.2.2 x 0 = some qt) (tf : Nat → Int32) (af_qt : h.2.1 qt = tf) (at0 : Int32) (f_x_2 : h.2.1 x 2 = at0) (ln0 : Int32) (f_x_1 : h.2.1 x 1 = ln0) (hA : at0.toInt ≤ ln0.toInt) : Met l yX6_wordEnd (Cond.code yX6_wordEnd cX6_wordEnd 2 (some .int) :: hx_all) ({ frames := 0, cells := 0, slots := 0, locals := 0 }) (va_Pc [.ref x] (hx_B T_tb (P_ty dA) (dC, dI) vwCl L h sz)) (va_Qi (fun (r : Int32) (u : List Nat × hx_h) => (r.toInt = ((hv_we tf ln0.toInt.toNat at0.toInt.toNat : Nat) : Int) ∧ at0.toInt ≤ r.toInt ∧ r.toInt ≤ ln0.toInt) ∧ hx_T T_tb u.1 u.2 ∧ hx_S T_tb [] L h u.1 u.2) (hx_E T_tb (P_ty dA) (dC, dI) vwCl (hx_A L sz)) (hx_A L sz)) 0 0 (hx_A L sz) := by
  refine hx_met (lv := [(0, .ref x)]) (by decide +kernel) rfl (Nat.le_of_ble_eq_true rfl) rfl ?_
  intro p e s m below meth c hx hb hml hr hlk hts0 hown hin hsz hW ls hl
  have hts : ∀ w ∈ hx_all, w.before _ s = true := fun w hw => hts0 w (List.mem_cons_of_mem _ hw)
  have hown : s.vm.findClass "SmallCourt$Reader" = some m.cls := hown
  have hM : hx_S T_tb [] L h L h := hx_S.rf
  have b_at0 := hT.gi gx tt_6 (k := 2) rfl
  rw [f_x_2] at b_at0
  have b_at0 : 0 ≤ at0.toInt ∧ at0.toInt ≤ 402 := b_at0
  have b_ln0 := hT.gi gx tt_6 (k := 1) rfl
  rw [f_x_1] at b_ln0
  have b_ln0 : 0 ≤ ln0.toInt ∧ ln0.toInt ≤ 400 := b_ln0
  refine lv_aload_n hx hb dX6_wordEnd_0 rfl (lv_at hl 0 rfl) ?_
  refine hk_geti hx hb hts hC_6 hown hW (gx.S hM) tt_6 2 ?o0 rfl kw_127 ⟨rfl, rfl, rfl⟩ ((hM.o gx trivial rfl).1.trans f_x_2) dX6_wordEnd_1 ?_
  case o0 => decide
  refine lv_istore_n (lv' := [(1, .int at0), (0, .ref x)]) hx hb dX6_wordEnd_4 rfl hl ?o1 rfl (fun ls hl => ?_)
  case o1 => decide
  have loop5 : ∀ (n5 : Nat) (iv5_1 : Int32) (H : Heap) (locs : List Loc) (hL1 : List Nat) (hl1 : hx_h), 0 ≤ iv5_1.toInt → iv5_1.toInt ≤ 402 → (hv_we tf ln0.toInt.toNat at0.toInt.toNat = hv_we tf ln0.toInt.toNat (iv5_1.toInt).toNat) → (at0.toInt ≤ iv5_1.toInt) → (iv5_1.toInt ≤ ln0.toInt) → ∀ (ls : Array Slot), 402 - iv5_1.toInt < (n5 : Int) → hx_W T_tb (P_ty dA) (dC, dI) vwCl (hx_A L sz) s.heap hL1 hl1 s H locs → hx_T T_tb hL1 hl1 → hx_S T_tb [] L h hL1 hl1 → lv_has ls 2 [(1, .int iv5_1), (0, .ref x)] → W p l e ({ frames := 0, cells := 0, slots := 0, locals := 0 }) s m ([.ref x] : List Value).toArray below meth c H locs 0 0 (MQ below (va_Qi (fun (r : Int32) (u : List Nat × hx_h) => (r.toInt = ((hv_we tf ln0.toInt.toNat at0.toInt.toNat : Nat) : Int) ∧ at0.toInt ≤ r.toInt ∧ r.toInt ≤ ln0.toInt) ∧ hx_T T_tb u.1 u.2 ∧ hx_S T_tb [] L h u.1 u.2) (hx_E T_tb (P_ty dA) (dC, dI) vwCl (hx_A L sz)) (hx_A L sz)) ([.ref x] : List Value).toArray s 0 0 (hx_A L sz)) (F0 m 5 ls []) := by
    intro n5
    induction n5 with
    | zero => intro iv5_1 H locs hL1 hl1 bliv5_1 buiv5_1 vi5_0 vi5_1 vi5_2 ls hn5; exfalso; omega
    | succ n5 ih5 =>
      intro iv5_1 H locs hL1 hl1 bliv5_1 buiv5_1 vi5_0 vi5_1 vi5_2 ls hn5 hW hT hM   hl
      refine lv_iload_n hx hb dX6_wordEnd_5 rfl (lv_at hl 0 rfl) ?_
      refine lv_aload_n hx hb dX6_wordEnd_6 rfl (lv_at hl 1 rfl) ?_
      refine hk_geti hx hb hts hC_6 hown hW (gx.S hM) tt_6 1 ?o2 rfl kw_126 ⟨rfl, rfl, rfl⟩ ((hM.o gx trivial rfl).1.trans f_x_1) dX6_wordEnd_7 ?_
      case o2 => decide
      refine hb_icmp_ge (zx := iv5_1.toInt) (zy := ln0.toInt) (tgt := 41) hx hb rfl rfl dX6_wordEnd_10 ?o3 (fun c_1 => ?_) (fun c_1 => ?_)
      case o3 => decide
      · skip
        refine lv_iload_n hx hb dX6_wordEnd_41 rfl (lv_at hl 0 rfl) ?_
        refine hx_reti hx hb hr hlk hW ⟨⟨(by rw [vi5_0]; exact (hv_sn_o (by omega) (fun z9 => by exfalso; omega)).symm), ?o4, ?o5⟩, hT, hM⟩ dX6_wordEnd_42
        case o4 => omega
        case o5 => omega
      · skip
        refine lv_aload_n hx hb dX6_wordEnd_13 rfl (lv_at hl 1 rfl) ?_
        refine hk_getr hx hb hts hC_6 hown hW (gx.S hM) tt_6 0 ?o6 rfl kw_125 ⟨rfl, rfl, rfl⟩ ((hM.o gx trivial rfl).2.trans f_x_0) dX6_wordEnd_14 ?_
        case o6 => decide
        refine lv_iload_n hx hb dX6_wordEnd_17 rfl (lv_at hl 0 rfl) ?_
        refine hx_bald hx hb hW hT (gqt.S hM) tt_42 rfl ⟨?o7, ?o8⟩ dX6_wordEnd_18 (fun x_2 ex_2 lx_2 ux_2 => ?_)
        case o7 => omega
        case o8 => omega
        have ax_2 : x_2 = tf iv5_1.toNatClampNeg := ex_2.trans (congrFun (hx_afS hM gqt rfl af_qt) _)
        refine lv_bipush (v := 97) hx hb dX6_wordEnd_19 ?o9 ?_
        case o9 => decide
        refine hb_icmp_lt (zx := x_2.toInt) (zy := 97) (tgt := 41) hx hb rfl ?o10 dX6_wordEnd_21 ?o11 (fun c_3 => ?_) (fun c_3 => ?_)
        case o10 => decide
        case o11 => decide
        · skip
          refine lv_iload_n hx hb dX6_wordEnd_41 rfl (lv_at hl 0 rfl) ?_
          refine hx_reti hx hb hr hlk hW ⟨⟨(by rw [vi5_0]; exact (hv_sn_o (by omega) (fun z9 => hv_lt_f ax_2 (by omega))).symm), ?o12, ?o13⟩, hT, hM⟩ dX6_wordEnd_42
          case o12 => omega
          case o13 => omega
        · skip
          refine lv_aload_n hx hb dX6_wordEnd_24 rfl (lv_at hl 1 rfl) ?_
          refine hk_getr hx hb hts hC_6 hown hW (gx.S hM) tt_6 0 ?o14 rfl kw_125 ⟨rfl, rfl, rfl⟩ ((hM.o gx trivial rfl).2.trans f_x_0) dX6_wordEnd_25 ?_
          case o14 => decide
          refine lv_iload_n hx hb dX6_wordEnd_28 rfl (lv_at hl 0 rfl) ?_
          refine hx_bald hx hb hW hT (gqt.S hM) tt_42 rfl ⟨?o15, ?o16⟩ dX6_wordEnd_29 (fun x_4 ex_4 lx_4 ux_4 => ?_)
          case o15 => omega
          case o16 => omega
          have ax_4 : x_4 = tf iv5_1.toNatClampNeg := ex_4.trans (congrFun (hx_afS hM gqt rfl af_qt) _)
          obtain rfl : x_2 = x_4 := ex_2.trans ex_4.symm
          refine lv_bipush (v := 122) hx hb dX6_wordEnd_30 ?o17 ?_
          case o17 => decide
          refine hb_icmp_gt (zx := x_2.toInt) (zy := 122) (tgt := 41) hx hb rfl ?o18 dX6_wordEnd_32 ?o19 (fun c_5 => ?_) (fun c_5 => ?_)
          case o18 => decide
          case o19 => decide
          · skip
            refine lv_iload_n hx hb dX6_wordEnd_41 rfl (lv_at hl 0 rfl) ?_
            refine hx_reti hx hb hr hlk hW ⟨⟨(by rw [vi5_0]; exact (hv_sn_o (by omega) (fun z9 => hv_lt_f ax_2 (by omega))).symm), ?o20, ?o21⟩, hT, hM⟩ dX6_wordEnd_42
            case o20 => omega
            case o21 => omega
          · skip
            obtain ⟨x_6, ex_6⟩ : ∃ y : Int32, y = iv5_1 + Int32.ofInt 1 := ⟨_, rfl⟩
            have rg_7 := i32_r iv5_1
            have zx_6 : x_6.toInt = iv5_1.toInt + (1) := ?o22
            case o22 =>
              rw [ex_6]
              refine i32_add rfl ?o23 ?o24 ?o25
              case o23 => decide
              case o24 => omega
              case o25 => omega
            refine lv_iinc (v := x_6) (lv' := [(1, .int x_6), (0, .ref x)]) hx hb dX6_wordEnd_35 hl (k := 0) rfl ex_6.symm ?o26 rfl (fun ls hl => ?_)
            case o26 => decide
            refine lv_goto (tgt := 5) hx hb dX6_wordEnd_38 ?o27 ?_
            case o27 => decide
            refine ih5 x_6 _ _ hL1 hl1 ?o28 ?o29 (vi5_0.trans (hv_sn_i ?o30 ?o31 (hv_lt_t ax_2 ?o32 ?o33) zx_6)) ?o34 ?o35 ls ?o36 hW hT hM   (lv_sub hl [0, 1] rfl)
            case o28 => omega
            case o29 => omega
            case o30 => omega
            case o31 => omega
            case o32 => omega
            case o33 => omega
            case o34 => omega
            case o35 => omega
            case o36 => omega
  refine loop5 403 at0 _ _ L h ?o37 ?o38 rfl ?o39 ?o40 ls ?o41 hW hT hM   hl
  case o37 => omega
  case o38 => omega
  case o39 => omega
  case o40 => omega
  case o41 => omega


set_option maxHeartbeats 4000000 in
set_option maxRecDepth 100000 in
theorem t_X6_isDigit_v (l : Launch) (dC : Nat → ClassId) (dI : Nat → Nat → Nat) (dA : Nat → ClassId) (L : List Nat) (h : hx_h) (sz : Nat) (x : Nat) (i1 : Int32) (hT : hx_T T_tb L h) (gx : hx_g L h x 6) (qt : Nat) (gqt : hx_g L h qt 42) (f_x_0 : h.2.2 x 0 = some qt) (tf : Nat → Int32) (af_qt : h.2.1 qt = tf) (ln0 : Int32) (f_x_1 : h.2.1 x 1 = ln0) (hi1 : 0 ≤ i1.toInt) : Met l yX6_isDigit (Cond.code yX6_isDigit cX6_isDigit 2 (some .boolean) :: hx_all) ({ frames := 0, cells := 0, slots := 0, locals := 0 }) (va_Pc [.ref x, .int i1] (hx_B T_tb (P_ty dA) (dC, dI) vwCl L h sz)) (va_Qi (fun (r : Int32) (u : List Nat × hx_h) => ((r.toInt = 1 ∧ i1.toInt < ln0.toInt ∧ hv_dg tf i1.toInt.toNat = true) ∨ (r.toInt = 0 ∧ (i1.toInt < ln0.toInt → hv_dg tf i1.toInt.toNat = false))) ∧ hx_T T_tb u.1 u.2 ∧ hx_S T_tb [] L h u.1 u.2) (hx_E T_tb (P_ty dA) (dC, dI) vwCl (hx_A L sz)) (hx_A L sz)) 0 0 (hx_A L sz) := by
  refine hx_met (lv := [(0, .ref x), (1, .int i1)]) (by decide +kernel) rfl (Nat.le_of_ble_eq_true rfl) rfl ?_
  intro p e s m below meth c hx hb hml hr hlk hts0 hown hin hsz hW ls hl
  have hts : ∀ w ∈ hx_all, w.before _ s = true := fun w hw => hts0 w (List.mem_cons_of_mem _ hw)
  have hown : s.vm.findClass "SmallCourt$Reader" = some m.cls := hown
  have hM : hx_S T_tb [] L h L h := hx_S.rf
  have b_ln0 := hT.gi gx tt_6 (k := 1) rfl
  rw [f_x_1] at b_ln0
  have b_ln0 : 0 ≤ ln0.toInt ∧ ln0.toInt ≤ 400 := b_ln0
  refine lv_iload_n hx hb dX6_isDigit_0 rfl (lv_at hl 1 rfl) ?_
  refine lv_aload_n hx hb dX6_isDigit_1 rfl (lv_at hl 0 rfl) ?_
  refine hk_geti hx hb hts hC_6 hown hW (gx.S hM) tt_6 1 ?o0 rfl kw_126 ⟨rfl, rfl, rfl⟩ ((hM.o gx trivial rfl).1.trans f_x_1) dX6_isDigit_2 ?_
  case o0 => decide
  refine hb_icmp_ge (zx := i1.toInt) (zy := ln0.toInt) (tgt := 34) hx hb rfl rfl dX6_isDigit_5 ?o1 (fun c_1 => ?_) (fun c_1 => ?_)
  case o1 => decide
  · skip
    refine lv_iconst (v := 0) hx hb dX6_isDigit_34 ?o2 ?_
    case o2 => decide
    refine hx_retz hx hb hr rfl hlk hW ⟨(Or.inr ⟨?o3, fun z9 => ?o4⟩), hT, hM⟩ dX6_isDigit_35
    case o3 => decide
    case o4 =>
      exfalso
      omega
  · skip
    refine lv_aload_n hx hb dX6_isDigit_8 rfl (lv_at hl 0 rfl) ?_
    refine hk_getr hx hb hts hC_6 hown hW (gx.S hM) tt_6 0 ?o5 rfl kw_125 ⟨rfl, rfl, rfl⟩ ((hM.o gx trivial rfl).2.trans f_x_0) dX6_isDigit_9 ?_
    case o5 => decide
    refine lv_iload_n hx hb dX6_isDigit_12 rfl (lv_at hl 1 rfl) ?_
    refine hx_bald hx hb hW hT (gqt.S hM) tt_42 rfl ⟨?o6, ?o7⟩ dX6_isDigit_13 (fun x_2 ex_2 lx_2 ux_2 => ?_)
    case o6 => omega
    case o7 => omega
    have ax_2 : x_2 = tf i1.toNatClampNeg := ex_2.trans (congrFun (hx_afS hM gqt rfl af_qt) _)
    refine lv_bipush (v := 48) hx hb dX6_isDigit_14 ?o8 ?_
    case o8 => decide
    refine hb_icmp_lt (zx := x_2.toInt) (zy := 48) (tgt := 34) hx hb rfl ?o9 dX6_isDigit_16 ?o10 (fun c_3 => ?_) (fun c_3 => ?_)
    case o9 => decide
    case o10 => decide
    · skip
      refine lv_iconst (v := 0) hx hb dX6_isDigit_34 ?o11 ?_
      case o11 => decide
      refine hx_retz hx hb hr rfl hlk hW ⟨(Or.inr ⟨?o12, fun _ => hv_dg_f ax_2 ?o13⟩), hT, hM⟩ dX6_isDigit_35
      case o12 => decide
      case o13 => omega
    · skip
      refine lv_aload_n hx hb dX6_isDigit_19 rfl (lv_at hl 0 rfl) ?_
      refine hk_getr hx hb hts hC_6 hown hW (gx.S hM) tt_6 0 ?o14 rfl kw_125 ⟨rfl, rfl, rfl⟩ ((hM.o gx trivial rfl).2.trans f_x_0) dX6_isDigit_20 ?_
      case o14 => decide
      refine lv_iload_n hx hb dX6_isDigit_23 rfl (lv_at hl 1 rfl) ?_
      refine hx_bald hx hb hW hT (gqt.S hM) tt_42 rfl ⟨?o15, ?o16⟩ dX6_isDigit_24 (fun x_4 ex_4 lx_4 ux_4 => ?_)
      case o15 => omega
      case o16 => omega
      have ax_4 : x_4 = tf i1.toNatClampNeg := ex_4.trans (congrFun (hx_afS hM gqt rfl af_qt) _)
      obtain rfl : x_2 = x_4 := ex_2.trans ex_4.symm
      refine lv_bipush (v := 57) hx hb dX6_isDigit_25 ?o17 ?_
      case o17 => decide
      refine hb_icmp_gt (zx := x_2.toInt) (zy := 57) (tgt := 34) hx hb rfl ?o18 dX6_isDigit_27 ?o19 (fun c_5 => ?_) (fun c_5 => ?_)
      case o18 => decide
      case o19 => decide
      · skip
        refine lv_iconst (v := 0) hx hb dX6_isDigit_34 ?o20 ?_
        case o20 => decide
        refine hx_retz hx hb hr rfl hlk hW ⟨(Or.inr ⟨?o21, fun _ => hv_dg_f ax_2 ?o22⟩), hT, hM⟩ dX6_isDigit_35
        case o21 => decide
        case o22 => omega
      · skip
        refine lv_iconst (v := 1) hx hb dX6_isDigit_30 ?o23 ?_
        case o23 => decide
        refine lv_goto (tgt := 35) hx hb dX6_isDigit_31 ?o24 ?_
        case o24 => decide
        refine hx_retz hx hb hr rfl hlk hW ⟨(Or.inl ⟨?o25, ?o26, hv_dg_t ax_2 ?o27 ?o28⟩), hT, hM⟩ dX6_isDigit_35
        case o25 => decide
        case o26 => omega
        case o27 => omega
        case o28 => omega


set_option maxHeartbeats 4000000 in
set_option maxRecDepth 100000 in
theorem t_X6_isByte_v (l : Launch) (dC : Nat → ClassId) (dI : Nat → Nat → Nat) (dA : Nat → ClassId) (L : List Nat) (h : hx_h) (sz : Nat) (x : Nat) (i1 : Int32) (hT : hx_T T_tb L h) (gx : hx_g L h x 6) (qt : Nat) (gqt : hx_g L h qt 42) (f_x_0 : h.2.2 x 0 = some qt) (tf : Nat → Int32) (af_qt : h.2.1 qt = tf) (at0 : Int32) (f_x_2 : h.2.1 x 2 = at0) (ln0 : Int32) (f_x_1 : h.2.1 x 1 = ln0) : Met l yX6_isByte (Cond.code yX6_isByte cX6_isByte 2 (some .boolean) :: hx_all) ({ frames := 0, cells := 0, slots := 0, locals := 0 }) (va_Pc [.ref x, .int i1] (hx_B T_tb (P_ty dA) (dC, dI) vwCl L h sz)) (va_Qi (fun (r : Int32) (u : List Nat × hx_h) => ((r.toInt = 1 ∧ at0.toInt < ln0.toInt ∧ (tf at0.toInt.toNat).toInt = i1.toInt) ∨ (r.toInt = 0 ∧ ¬ (at0.toInt < ln0.toInt ∧ (tf at0.toInt.toNat).toInt = i1.toInt))) ∧ hx_T T_tb u.1 u.2 ∧ hx_S T_tb [] L h u.1 u.2) (hx_E T_tb (P_ty dA) (dC, dI) vwCl (hx_A L sz)) (hx_A L sz)) 0 0 (hx_A L sz) := by
  refine hx_met (lv := [(0, .ref x), (1, .int i1)]) (by decide +kernel) rfl (Nat.le_of_ble_eq_true rfl) rfl ?_
  intro p e s m below meth c hx hb hml hr hlk hts0 hown hin hsz hW ls hl
  have hts : ∀ w ∈ hx_all, w.before _ s = true := fun w hw => hts0 w (List.mem_cons_of_mem _ hw)
  have hown : s.vm.findClass "SmallCourt$Reader" = some m.cls := hown
  have hM : hx_S T_tb [] L h L h := hx_S.rf
  have b_at0 := hT.gi gx tt_6 (k := 2) rfl
  rw [f_x_2] at b_at0
  have b_at0 : 0 ≤ at0.toInt ∧ at0.toInt ≤ 402 := b_at0
  have b_ln0 := hT.gi gx tt_6 (k := 1) rfl
  rw [f_x_1] at b_ln0
  have b_ln0 : 0 ≤ ln0.toInt ∧ ln0.toInt ≤ 400 := b_ln0
  refine lv_aload_n hx hb dX6_isByte_0 rfl (lv_at hl 0 rfl) ?_
  refine hk_geti hx hb hts hC_6 hown hW (gx.S hM) tt_6 2 ?o0 rfl kw_127 ⟨rfl, rfl, rfl⟩ ((hM.o gx trivial rfl).1.trans f_x_2) dX6_isByte_1 ?_
  case o0 => decide
  refine lv_aload_n hx hb dX6_isByte_4 rfl (lv_at hl 0 rfl) ?_
  refine hk_geti hx hb hts hC_6 hown hW (gx.S hM) tt_6 1 ?o1 rfl kw_126 ⟨rfl, rfl, rfl⟩ ((hM.o gx trivial rfl).1.trans f_x_1) dX6_isByte_5 ?_
  case o1 => decide
  refine hb_icmp_ge (zx := at0.toInt) (zy := ln0.toInt) (tgt := 28) hx hb rfl rfl dX6_isByte_8 ?o2 (fun c_1 => ?_) (fun c_1 => ?_)
  case o2 => decide
  · skip
    refine lv_iconst (v := 0) hx hb dX6_isByte_28 ?o3 ?_
    case o3 => decide
    refine hx_retz hx hb hr rfl hlk hW ⟨(Or.inr ⟨?o4, fun hc => by have h9 := hc.1; omega⟩), hT, hM⟩ dX6_isByte_29
    case o4 => decide
  · skip
    refine lv_aload_n hx hb dX6_isByte_11 rfl (lv_at hl 0 rfl) ?_
    refine hk_getr hx hb hts hC_6 hown hW (gx.S hM) tt_6 0 ?o5 rfl kw_125 ⟨rfl, rfl, rfl⟩ ((hM.o gx trivial rfl).2.trans f_x_0) dX6_isByte_12 ?_
    case o5 => decide
    refine lv_aload_n hx hb dX6_isByte_15 rfl (lv_at hl 0 rfl) ?_
    refine hk_geti hx hb hts hC_6 hown hW (gx.S hM) tt_6 2 ?o6 rfl kw_127 ⟨rfl, rfl, rfl⟩ ((hM.o gx trivial rfl).1.trans f_x_2) dX6_isByte_16 ?_
    case o6 => decide
    refine hx_bald hx hb hW hT (gqt.S hM) tt_42 rfl ⟨?o7, ?o8⟩ dX6_isByte_19 (fun x_2 ex_2 lx_2 ux_2 => ?_)
    case o7 => omega
    case o8 => omega
    have ax_2 : x_2 = tf at0.toNatClampNeg := ex_2.trans (congrFun (hx_afS hM gqt rfl af_qt) _)
    refine lv_iload_n hx hb dX6_isByte_20 rfl (lv_at hl 1 rfl) ?_
    refine hb_icmp_ne (zx := x_2.toInt) (zy := i1.toInt) (tgt := 28) hx hb rfl rfl dX6_isByte_21 ?o9 (fun c_3 => ?_) (fun c_3 => ?_)
    case o9 => decide
    · skip
      refine lv_iconst (v := 0) hx hb dX6_isByte_28 ?o10 ?_
      case o10 => decide
      refine hx_retz hx hb hr rfl hlk hW ⟨(Or.inr ⟨?o11, fun hc => by have h9 : (tf at0.toNatClampNeg).toInt = i1.toInt := hc.2; rw [← ax_2] at h9; omega⟩), hT, hM⟩ dX6_isByte_29
      case o11 => decide
    · skip
      refine lv_iconst (v := 1) hx hb dX6_isByte_24 ?o12 ?_
      case o12 => decide
      refine lv_goto (tgt := 29) hx hb dX6_isByte_25 ?o13 ?_
      case o13 => decide
      refine hx_retz hx hb hr rfl hlk hW ⟨(Or.inl ⟨?o14, ?o15, (by show (tf at0.toNatClampNeg).toInt = i1.toInt; rw [← ax_2]; omega)⟩), hT, hM⟩ dX6_isByte_29
      case o14 => decide
      case o15 => omega


set_option maxHeartbeats 4000000 in
set_option maxRecDepth 100000 in
theorem t_X6_isSlot_v (l : Launch) (dC : Nat → ClassId) (dI : Nat → Nat → Nat) (dA : Nat → ClassId) (L : List Nat) (h : hx_h) (sz : Nat) (b0 : hx_z) (x : Nat) (js : Nat) (i2 : Int32) (i3 : Int32) (hT : hx_T T_tb L h) (gx : hx_g L h x 6) (hjs : js < 6) (qt : Nat) (gqt : hx_g L h qt 42) (f_x_0 : h.2.2 x 0 = some qt) (tf : Nat → Int32) (af_qt : h.2.1 qt = tf) (at0 : Int32) (f_x_2 : h.2.1 x 2 = at0) (ln0 : Int32) (f_x_1 : h.2.1 x 1 = ln0) (hi2 : 0 ≤ i2.toInt ∧ i2.toInt ≤ 96) (hi3 : at0.toInt < i3.toInt ∧ i3.toInt ≤ 400) : Met l yX6_isSlot (Cond.code yX6_isSlot cX6_isSlot 6 (some .boolean) :: hx_all) ({ frames := 4, cells := 0, slots := 0, locals := 85 }) (va_Pc [.ref x, .ref (b0.2.2.2.1 js), .int i2, .int i3] (hx_BX T_tb (P_ty dA) (dC, dI) vwCl L h sz b0)) (va_Qi (fun (r : Int32) (u : List Nat × hx_h) => ((r.toInt = 1 ∧ hv_sl tf js i2.toInt.toNat at0.toInt.toNat i3.toInt.toNat) ∨ (r.toInt = 0 ∧ ¬ hv_sl tf js i2.toInt.toNat at0.toInt.toNat i3.toInt.toNat)) ∧ hx_T T_tb u.1 u.2 ∧ hx_S T_tb [] L h u.1 u.2) (hx_E T_tb (P_ty dA) (dC, dI) vwCl (hx_A L sz)) (hx_A L sz)) 0 0 (hx_A L sz) := by
  refine hx_metX (lv := [(0, .ref x), (1, .ref (b0.2.2.2.1 js)), (2, .int i2), (3, .int i3)]) (by decide +kernel) rfl (Nat.le_of_ble_eq_true rfl) rfl ?_
  intro p e s m below meth c hx hb hml hr hlk hts0 hown hin hsz hW hZ ls hl
  have hts : ∀ w ∈ hx_all, w.before _ s = true := fun w hw => hts0 w (List.mem_cons_of_mem _ hw)
  have hown : s.vm.findClass "SmallCourt$Reader" = some m.cls := hown
  have hM : hx_S T_tb [] L h L h := hx_S.rf
  obtain ⟨zLT, zLA, zMT, zMA, zCS, zSF, zVS, zVR⟩ := hZ.2.2.2.2.2.2
  have b_at0 := hT.gi gx tt_6 (k := 2) rfl
  rw [f_x_2] at b_at0
  have b_at0 : 0 ≤ at0.toInt ∧ at0.toInt ≤ 402 := b_at0
  have b_ln0 := hT.gi gx tt_6 (k := 1) rfl
  rw [f_x_1] at b_ln0
  have b_ln0 : 0 ≤ ln0.toInt ∧ ln0.toInt ≤ 400 := b_ln0
  refine lv_iload_n hx hb dX6_isSlot_0 rfl (lv_at hl 3 rfl) ?_
  refine lv_aload_n hx hb dX6_isSlot_1 rfl (lv_at hl 0 rfl) ?_
  refine hk_geti hx hb hts hC_6 hown hW (gx.S hM) tt_6 2 ?o0 rfl kw_127 ⟨rfl, rfl, rfl⟩ ((hM.o gx trivial rfl).1.trans f_x_2) dX6_isSlot_2 ?_
  case o0 => decide
  refine lv_isub hx hb dX6_isSlot_5 ?_
  have rg_1 := i32_r i3
  have rg_2 := i32_r at0
  refine lv_topi (fun x_3 ex_3 => ?_)
  have zx_3 : x_3.toInt = i3.toInt - at0.toInt := ?o1
  case o1 =>
    rw [ex_3]
    refine i32_sub rfl rfl ?o2 ?o3
    case o2 => omega
    case o3 => omega
  refine lv_bipush (v := 8) hx hb dX6_isSlot_6 ?o4 ?_
  case o4 => decide
  refine hb_icmp_le (zx := x_3.toInt) (zy := 8) (tgt := 13) hx hb rfl ?o5 dX6_isSlot_8 ?o6 (fun c_4 => ?_) (fun c_4 => ?_)
  case o5 => decide
  case o6 => decide
  · skip
    refine lv_iconst (v := 0) hx hb dX6_isSlot_13 ?o7 ?_
    case o7 => decide
    refine lv_istore (lv' := [(4, .int (0 : Int32)), (0, .ref x), (1, .ref (b0.2.2.2.1 js)), (2, .int i2), (3, .int i3)]) hx hb dX6_isSlot_14 hl ?o8 rfl (fun ls hl => ?_)
    case o8 => decide
    have loop16 : ∀ (n16 : Nat) (iv16_4 : Int32) (H : Heap) (locs : List Loc) (hL1 : List Nat) (hl1 : hx_h), 0 ≤ iv16_4.toInt → iv16_4.toInt ≤ 8 → (∀ i : Nat, (i : Int) < iv16_4.toInt → hv_c1 tf js i2.toInt.toNat at0.toInt.toNat i3.toInt.toNat i) → ∀ (ls : Array Slot), 8 - iv16_4.toInt < (n16 : Int) → hx_W T_tb (P_ty dA) (dC, dI) vwCl (hx_A L sz) s.heap hL1 hl1 s H locs → hx_T T_tb hL1 hl1 → hx_S T_tb [] L h hL1 hl1 → lv_has ls 6 [(4, .int iv16_4), (0, .ref x), (1, .ref (b0.2.2.2.1 js)), (2, .int i2), (3, .int i3)] → W p l e ({ frames := 4, cells := 0, slots := 0, locals := 85 }) s m ([.ref x, .ref (b0.2.2.2.1 js), .int i2, .int i3] : List Value).toArray below meth c H locs 0 0 (MQ below (va_Qi (fun (r : Int32) (u : List Nat × hx_h) => ((r.toInt = 1 ∧ hv_sl tf js i2.toInt.toNat at0.toInt.toNat i3.toInt.toNat) ∨ (r.toInt = 0 ∧ ¬ hv_sl tf js i2.toInt.toNat at0.toInt.toNat i3.toInt.toNat)) ∧ hx_T T_tb u.1 u.2 ∧ hx_S T_tb [] L h u.1 u.2) (hx_E T_tb (P_ty dA) (dC, dI) vwCl (hx_A L sz)) (hx_A L sz)) ([.ref x, .ref (b0.2.2.2.1 js), .int i2, .int i3] : List Value).toArray s 0 0 (hx_A L sz)) (F0 m 16 ls []) := by
      intro n16
      induction n16 with
      | zero => intro iv16_4 H locs hL1 hl1 bliv16_4 buiv16_4 vi16_0 ls hn16; exfalso; omega
      | succ n16 ih16 =>
        intro iv16_4 H locs hL1 hl1 bliv16_4 buiv16_4 vi16_0 ls hn16 hW hT hM   hl
        refine lv_iload hx hb dX6_isSlot_16 (lv_at hl 0 rfl) ?_
        refine lv_bipush (v := 8) hx hb dX6_isSlot_18 ?o9 ?_
        case o9 => decide
        refine hb_icmp_ge (zx := iv16_4.toInt) (zy := 8) (tgt := 85) hx hb rfl ?o10 dX6_isSlot_20 ?o11 (fun c_5 => ?_) (fun c_5 => ?_)
        case o10 => decide
        case o11 => decide
        · skip
          refine lv_iconst (v := 1) hx hb dX6_isSlot_85 ?o12 ?_
          case o12 => decide
          refine hx_retz hx hb hr rfl hlk hW ⟨(Or.inl ⟨?o13, hv_sl_e ?o14 vi16_0 ?o15⟩), hT, hM⟩ dX6_isSlot_86
          case o13 => decide
          case o14 => omega
          case o15 => omega
        · skip
          refine lv_iload_n hx hb dX6_isSlot_23 rfl (lv_at hl 3 rfl) ?_
          refine lv_iload hx hb dX6_isSlot_24 (lv_at hl 0 rfl) ?_
          refine lv_iadd hx hb dX6_isSlot_26 ?_
          have rg_6 := i32_r i2
          have rg_7 := i32_r iv16_4
          refine lv_topi (fun x_8 ex_8 => ?_)
          have zx_8 : x_8.toInt = i2.toInt + iv16_4.toInt := ?o16
          case o16 =>
            rw [ex_8]
            refine i32_add rfl rfl ?o17 ?o18
            case o17 => omega
            case o18 => omega
          refine lv_aload_n hx hb dX6_isSlot_27 rfl (lv_at hl 2 rfl) ?_
          refine hx_goi (hx_runVS (As := []) (rest := [.int x_8]) ⟨hx, hb, hml, hown, hts⟩ hW hZ (i := js) hjs (t_J0_length_8abf5 l dC dI dA hL1 hl1 H.size b0 js hT hjs) (cwV 0 hts (hx_gV kw_475 kw_472 kw_473 kw_474 kw_104) rfl rfl rfl (by decide +kernel) ⟨Nat.le_of_ble_eq_true rfl, Nat.le_of_ble_eq_true rfl⟩) rfl hl.1 rfl (Nat.le_of_ble_eq_true rfl) dX6_isSlot_28 ⟨Nat.le_of_ble_eq_true rfl, Nat.le_of_ble_eq_true rfl⟩) hW (fun r_11 L_9 h_10 H locs p_12 hW => ?_)
          obtain ⟨hr_13, hT, hs⟩ := p_12
          replace hT : hx_T T_tb L_9 h_10 := hT
          replace hs : hx_S T_tb [] hL1 hl1 L_9 h_10 := hs
          replace hM := hM.tr (hs.mono ?o19)
          case o19 => decide
          have lr_11 := hx_ln js hjs; rw [← hr_13] at lr_11
          have kr_11 : (Int32.ofNat (P_ln.getD js 0)).toInt = r_11.toInt := ?o20
          case o20 => rw [hr_13]
          refine hb_icmp_ge (zx := x_8.toInt) (zy := r_11.toInt) (tgt := 85) hx hb rfl rfl dX6_isSlot_31 ?o21 (fun c_14 => ?_) (fun c_14 => ?_)
          case o21 => decide
          · skip
            refine lv_iconst (v := 1) hx hb dX6_isSlot_85 ?o22 ?_
            case o22 => decide
            refine hx_retz hx hb hr rfl hlk hW ⟨(Or.inl ⟨?o23, hv_sl_e ?o24 vi16_0 ?o25⟩), hT, hM⟩ dX6_isSlot_86
            case o23 => decide
            case o24 => omega
            case o25 => omega
          · skip
            refine lv_aload_n hx hb dX6_isSlot_34 rfl (lv_at hl 1 rfl) ?_
            refine hk_geti hx hb hts hC_6 hown hW (gx.S hM) tt_6 2 ?o26 rfl kw_127 ⟨rfl, rfl, rfl⟩ ((hM.o gx trivial rfl).1.trans f_x_2) dX6_isSlot_35 ?_
            case o26 => decide
            refine lv_iload hx hb dX6_isSlot_38 (lv_at hl 0 rfl) ?_
            refine lv_iadd hx hb dX6_isSlot_40 ?_
            refine lv_topi (fun x_15 ex_15 => ?_)
            have zx_15 : x_15.toInt = at0.toInt + iv16_4.toInt := ?o27
            case o27 =>
              rw [ex_15]
              refine i32_add rfl rfl ?o28 ?o29
              case o28 => omega
              case o29 => omega
            refine lv_iload_n hx hb dX6_isSlot_41 rfl (lv_at hl 4 rfl) ?_
            refine hb_icmp_ge (zx := x_15.toInt) (zy := i3.toInt) (tgt := 60) hx hb rfl rfl dX6_isSlot_42 ?o30 (fun c_16 => ?_) (fun c_16 => ?_)
            case o30 => decide
            · skip
              refine lv_bipush (v := 32) hx hb dX6_isSlot_60 ?o31 ?_
              case o31 => decide
              refine lv_istore (lv' := [(5, .int (32 : Int32)), (4, .int iv16_4), (0, .ref x), (1, .ref (b0.2.2.2.1 js)), (2, .int i2), (3, .int i3)]) hx hb dX6_isSlot_62 hl ?o32 rfl (fun ls hl => ?_)
              case o32 => decide
              refine lv_aload_n hx hb dX6_isSlot_64 rfl (lv_at hl 3 rfl) ?_
              refine lv_iload_n hx hb dX6_isSlot_65 rfl (lv_at hl 4 rfl) ?_
              refine lv_iload hx hb dX6_isSlot_66 (lv_at hl 1 rfl) ?_
              refine lv_iadd hx hb dX6_isSlot_68 ?_
              refine lv_topi (fun x_17 ex_17 => ?_)
              have zx_17 : x_17.toInt = i2.toInt + iv16_4.toInt := ?o33
              case o33 =>
                rw [ex_17]
                refine i32_add rfl rfl ?o34 ?o35
                case o34 => omega
                case o35 => omega
              obtain rfl : x_8 = x_17 := ex_8.trans ex_17.symm
              refine hx_goi (hx_runVS (As := [.int x_8]) (rest := []) ⟨hx, hb, hml, hown, hts⟩ hW hZ (i := js) hjs (t_J0_charAt_v l dC dI dA L_9 h_10 H.size b0 js x_8 hT hjs (by rw [← hr_13]; exact ⟨by omega, by omega⟩)) (cwV 1 hts (hx_gV kw_489 kw_486 kw_487 kw_488 kw_104) rfl rfl rfl (by decide +kernel) ⟨Nat.le_of_ble_eq_true rfl, Nat.le_of_ble_eq_true rfl⟩) rfl hl.1 rfl (Nat.le_of_ble_eq_true rfl) dX6_isSlot_69 ⟨Nat.le_of_ble_eq_true rfl, Nat.le_of_ble_eq_true rfl⟩) hW (fun r_20 L_18 h_19 H locs p_21 hW => ?_)
              obtain ⟨hr_22, hT, hs⟩ := p_21
              replace hT : hx_T T_tb L_18 h_19 := hT
              replace hs : hx_S T_tb [] L_9 h_10 L_18 h_19 := hs
              replace hM := hM.tr (hs.mono ?o36)
              case o36 => decide
              refine lv_iload hx hb dX6_isSlot_72 (lv_at hl 0 rfl) ?_
              refine hb_icmp_eq (zx := r_20.toInt) (zy := 32) (tgt := 79) hx hb rfl ?o37 dX6_isSlot_74 ?o38 (fun c_23 => ?_) (fun c_23 => ?_)
              case o37 => decide
              case o38 => decide
              · skip
                obtain ⟨x_24, ex_24⟩ : ∃ y : Int32, y = iv16_4 + Int32.ofInt 1 := ⟨_, rfl⟩
                have zx_24 : x_24.toInt = iv16_4.toInt + (1) := ?o39
                case o39 =>
                  rw [ex_24]
                  refine i32_add rfl ?o40 ?o41 ?o42
                  case o40 => decide
                  case o41 => omega
                  case o42 => omega
                refine lv_iinc (v := x_24) (lv' := [(4, .int x_24), (5, .int (32 : Int32)), (0, .ref x), (1, .ref (b0.2.2.2.1 js)), (2, .int i2), (3, .int i3)]) hx hb dX6_isSlot_79 hl (k := 1) rfl ex_24.symm ?o43 rfl (fun ls hl => ?_)
                case o43 => decide
                refine lv_goto (tgt := 16) hx hb dX6_isSlot_82 ?o44 ?_
                case o44 => decide
                refine ih16 x_24 _ _ L_18 h_19 ?o45 ?o46 (hv_c1_s vi16_0 ?o47 (hv_c1_f ?o48 ?o49 ?o50 zx_8 hr_22 ?o51 ?o52) zx_24) ls ?o53 hW hT hM   (lv_sub hl [0, 2, 3, 4, 5] rfl)
                case o45 => omega
                case o46 => omega
                case o47 => omega
                case o48 => omega
                case o49 => omega
                case o50 => omega
                case o51 => omega
                case o52 => omega
                case o53 => omega
              · skip
                refine lv_iconst (v := 0) hx hb dX6_isSlot_77 ?o54 ?_
                case o54 => decide
                refine hx_retz hx hb hr rfl hlk hW ⟨(Or.inr ⟨?o55, fun hc => absurd (hc.2 iv16_4.toInt.toNat ?o56) (hv_c1_nf ?o57 ?o58 ?o59 zx_8 hr_22 ?o60 ?o61 ?o62)⟩), hT, hM⟩ dX6_isSlot_78
                case o55 => decide
                case o56 => omega
                case o57 => omega
                case o58 => omega
                case o59 => omega
                case o60 => omega
                case o61 => omega
                case o62 => omega
            · skip
              refine lv_aload_n hx hb dX6_isSlot_45 rfl (lv_at hl 1 rfl) ?_
              refine hk_getr hx hb hts hC_6 hown hW (gx.S hM) tt_6 0 ?o63 rfl kw_125 ⟨rfl, rfl, rfl⟩ ((hM.o gx trivial rfl).2.trans f_x_0) dX6_isSlot_46 ?_
              case o63 => decide
              refine lv_aload_n hx hb dX6_isSlot_49 rfl (lv_at hl 1 rfl) ?_
              refine hk_geti hx hb hts hC_6 hown hW (gx.S hM) tt_6 2 ?o64 rfl kw_127 ⟨rfl, rfl, rfl⟩ ((hM.o gx trivial rfl).1.trans f_x_2) dX6_isSlot_50 ?_
              case o64 => decide
              refine lv_iload hx hb dX6_isSlot_53 (lv_at hl 0 rfl) ?_
              refine lv_iadd hx hb dX6_isSlot_55 ?_
              refine lv_topi (fun x_25 ex_25 => ?_)
              have zx_25 : x_25.toInt = at0.toInt + iv16_4.toInt := ?o65
              case o65 =>
                rw [ex_25]
                refine i32_add rfl rfl ?o66 ?o67
                case o66 => omega
                case o67 => omega
              obtain rfl : x_15 = x_25 := ex_15.trans ex_25.symm
              refine hx_bald hx hb hW hT (gqt.S hM) tt_42 rfl ⟨?o68, ?o69⟩ dX6_isSlot_56 (fun x_26 ex_26 lx_26 ux_26 => ?_)
              case o68 => omega
              case o69 => omega
              have ax_26 : x_26 = tf x_15.toNatClampNeg := ex_26.trans (congrFun (hx_afS hM gqt rfl af_qt) _)
              refine lv_goto (tgt := 62) hx hb dX6_isSlot_57 ?o70 ?_
              case o70 => decide
              refine lv_istore (lv' := [(5, .int x_26), (4, .int iv16_4), (0, .ref x), (1, .ref (b0.2.2.2.1 js)), (2, .int i2), (3, .int i3)]) hx hb dX6_isSlot_62 hl ?o71 rfl (fun ls hl => ?_)
              case o71 => decide
              refine lv_aload_n hx hb dX6_isSlot_64 rfl (lv_at hl 3 rfl) ?_
              refine lv_iload_n hx hb dX6_isSlot_65 rfl (lv_at hl 4 rfl) ?_
              refine lv_iload hx hb dX6_isSlot_66 (lv_at hl 1 rfl) ?_
              refine lv_iadd hx hb dX6_isSlot_68 ?_
              refine lv_topi (fun x_27 ex_27 => ?_)
              have zx_27 : x_27.toInt = i2.toInt + iv16_4.toInt := ?o72
              case o72 =>
                rw [ex_27]
                refine i32_add rfl rfl ?o73 ?o74
                case o73 => omega
                case o74 => omega
              obtain rfl : x_8 = x_27 := ex_8.trans ex_27.symm
              refine hx_goi (hx_runVS (As := [.int x_8]) (rest := []) ⟨hx, hb, hml, hown, hts⟩ hW hZ (i := js) hjs (t_J0_charAt_v l dC dI dA L_9 h_10 H.size b0 js x_8 hT hjs (by rw [← hr_13]; exact ⟨by omega, by omega⟩)) (cwV 1 hts (hx_gV kw_489 kw_486 kw_487 kw_488 kw_104) rfl rfl rfl (by decide +kernel) ⟨Nat.le_of_ble_eq_true rfl, Nat.le_of_ble_eq_true rfl⟩) rfl hl.1 rfl (Nat.le_of_ble_eq_true rfl) dX6_isSlot_69 ⟨Nat.le_of_ble_eq_true rfl, Nat.le_of_ble_eq_true rfl⟩) hW (fun r_30 L_28 h_29 H locs p_31 hW => ?_)
              obtain ⟨hr_32, hT, hs⟩ := p_31
              replace hT : hx_T T_tb L_28 h_29 := hT
              replace hs : hx_S T_tb [] L_9 h_10 L_28 h_29 := hs
              replace ex_26 := ex_26.trans (hs.a (gqt.S hM) rfl _).1.symm
              replace hM := hM.tr (hs.mono ?o75)
              case o75 => decide
              refine lv_iload hx hb dX6_isSlot_72 (lv_at hl 0 rfl) ?_
              refine hb_icmp_eq (zx := r_30.toInt) (zy := x_26.toInt) (tgt := 79) hx hb rfl rfl dX6_isSlot_74 ?o76 (fun c_33 => ?_) (fun c_33 => ?_)
              case o76 => decide
              · skip
                obtain ⟨x_34, ex_34⟩ : ∃ y : Int32, y = iv16_4 + Int32.ofInt 1 := ⟨_, rfl⟩
                have zx_34 : x_34.toInt = iv16_4.toInt + (1) := ?o77
                case o77 =>
                  rw [ex_34]
                  refine i32_add rfl ?o78 ?o79 ?o80
                  case o78 => decide
                  case o79 => omega
                  case o80 => omega
                refine lv_iinc (v := x_34) (lv' := [(4, .int x_34), (5, .int x_26), (0, .ref x), (1, .ref (b0.2.2.2.1 js)), (2, .int i2), (3, .int i3)]) hx hb dX6_isSlot_79 hl (k := 1) rfl ex_34.symm ?o81 rfl (fun ls hl => ?_)
                case o81 => decide
                refine lv_goto (tgt := 16) hx hb dX6_isSlot_82 ?o82 ?_
                case o82 => decide
                refine ih16 x_34 _ _ L_28 h_29 ?o83 ?o84 (hv_c1_s vi16_0 ?o85 (hv_c1_t ?o86 ?o87 ?o88 zx_8 zx_15 hr_32 ax_26 ?o89 ?o90) zx_34) ls ?o91 hW hT hM   (lv_sub hl [0, 2, 3, 4, 5] rfl)
                case o83 => omega
                case o84 => omega
                case o85 => omega
                case o86 => omega
                case o87 => omega
                case o88 => omega
                case o89 => omega
                case o90 => omega
                case o91 => omega
              · skip
                refine lv_iconst (v := 0) hx hb dX6_isSlot_77 ?o92 ?_
                case o92 => decide
                refine hx_retz hx hb hr rfl hlk hW ⟨(Or.inr ⟨?o93, fun hc => absurd (hc.2 iv16_4.toInt.toNat ?o94) (hv_c1_nt ?o95 ?o96 ?o97 zx_8 zx_15 hr_32 ax_26 ?o98 ?o99 ?o100)⟩), hT, hM⟩ dX6_isSlot_78
                case o93 => decide
                case o94 => omega
                case o95 => omega
                case o96 => omega
                case o97 => omega
                case o98 => omega
                case o99 => omega
                case o100 => omega
    have zk_0 : (0 : Int32).toInt = 0 := ?o101
    case o101 => decide
    refine loop16 9 (0 : Int32) _ _ L h ?o102 ?o103 (fun i hi => ?o104) ls ?o105 hW hT hM   hl
    case o102 => decide
    case o103 => decide
    case o104 =>
      exfalso
      omega
    case o105 => omega
  · skip
    refine lv_iconst (v := 0) hx hb dX6_isSlot_11 ?o106 ?_
    case o106 => decide
    refine hx_retz hx hb hr rfl hlk hW ⟨(Or.inr ⟨?o107, fun hc => by have h9 := hc.1; omega⟩), hT, hM⟩ dX6_isSlot_12
    case o107 => decide


set_option maxHeartbeats 4000000 in
set_option maxRecDepth 100000 in
theorem t_X6_readWord_v (l : Launch) (dC : Nat → ClassId) (dI : Nat → Nat → Nat) (dA : Nat → ClassId) (L : List Nat) (h : hx_h) (sz : Nat) (b0 : hx_z) (x : Nat) (js : Nat) (hT : hx_T T_tb L h) (gx : hx_g L h x 6) (hjs : js < 6) (qt : Nat) (gqt : hx_g L h qt 42) (f_x_0 : h.2.2 x 0 = some qt) (tf : Nat → Int32) (af_qt : h.2.1 qt = tf) (at0 : Int32) (f_x_2 : h.2.1 x 2 = at0) (ln0 : Int32) (f_x_1 : h.2.1 x 1 = ln0) (hA : at0.toInt ≤ ln0.toInt) : Met l yX6_readWord (Cond.code yX6_readWord cX6_readWord 4 (some .int) :: hx_all) ({ frames := 5, cells := 0, slots := 0, locals := 110 }) (va_Pc [.ref x, .ref (b0.2.2.2.1 js)] (hx_BX T_tb (P_ty dA) (dC, dI) vwCl L h sz b0)) (va_Qi (fun (r : Int32) (u : List Nat × hx_h) => (∃ (at1 : Int32), u.2.2.1 x 2 = at1 ∧ (((r.toInt = -1 ∧ at1.toInt = ((hv_sk tf ln0.toInt.toNat at0.toInt.toNat : Nat) : Int)) ∨ (0 ≤ r.toInt ∧ at1.toInt = ((hv_we tf ln0.toInt.toNat (hv_sk tf ln0.toInt.toNat at0.toInt.toNat) : Nat) : Int))) ∧ hv_RW tf ln0.toInt.toNat js r.toInt (hv_sk tf ln0.toInt.toNat at0.toInt.toNat) ∧ at0.toInt ≤ at1.toInt ∧ at1.toInt ≤ ln0.toInt)) ∧ hx_T T_tb u.1 u.2 ∧ hx_S T_tb [(6, 2)] L h u.1 u.2) (hx_E T_tb (P_ty dA) (dC, dI) vwCl (hx_A L sz)) (hx_A L sz)) 0 0 (hx_A L sz) := by
  refine hx_metX (lv := [(0, .ref x), (1, .ref (b0.2.2.2.1 js))]) (by decide +kernel) rfl (Nat.le_of_ble_eq_true rfl) rfl ?_
  intro p e s m below meth c hx hb hml hr hlk hts0 hown hin hsz hW hZ ls hl
  have hts : ∀ w ∈ hx_all, w.before _ s = true := fun w hw => hts0 w (List.mem_cons_of_mem _ hw)
  have hown : s.vm.findClass "SmallCourt$Reader" = some m.cls := hown
  have hM : hx_S T_tb [(6, 2)] L h L h := hx_S.rf
  obtain ⟨zLT, zLA, zMT, zMA, zCS, zSF, zVS, zVR⟩ := hZ.2.2.2.2.2.2
  have b_at0 := hT.gi gx tt_6 (k := 2) rfl
  rw [f_x_2] at b_at0
  have b_at0 : 0 ≤ at0.toInt ∧ at0.toInt ≤ 402 := b_at0
  have b_ln0 := hT.gi gx tt_6 (k := 1) rfl
  rw [f_x_1] at b_ln0
  have b_ln0 : 0 ≤ ln0.toInt ∧ ln0.toInt ≤ 400 := b_ln0
  refine lv_aload_n hx hb dX6_readWord_0 rfl (lv_at hl 0 rfl) ?_
  refine hx_gov (hx_runV (As := []) (rest := []) ⟨hx, hb, hml, hown, hts⟩ hW (gx.S hM) tt_6 (T := TX6) (N := 7) rfl (t_X6_skipBlanks_v l dC dI dA L h s.heap.size x hT (gx.S hM) qt (gqt.S hM) ((hM.o gx trivial rfl).2.trans f_x_0) tf (hx_afS hM gqt rfl af_qt) at0 f_x_2 ln0 ((hM.o gx trivial rfl).1.trans f_x_1) ?o0) (cwV 0 hts (hx_gV kw_458 kw_455 kw_457 kw_1 kw_95) rfl rfl rfl (by decide +kernel) ⟨Nat.le_of_ble_eq_true rfl, Nat.le_of_ble_eq_true rfl⟩) rfl hl.1 rfl (Nat.le_of_ble_eq_true rfl) dX6_readWord_1 ⟨Nat.le_of_ble_eq_true rfl, Nat.le_of_ble_eq_true rfl⟩) hW (fun L_1 h_2 H locs p_4 hW => ?_)
  case o0 => omega
  obtain ⟨⟨w_6, fw_6, hr_5⟩, hT, hs⟩ := p_4
  replace hT : hx_T T_tb L_1 h_2 := hT
  replace hs : hx_S T_tb [(6, 2)] L h L_1 h_2 := hs
  replace hM := hM.tr (hs.mono ?o1)
  case o1 => decide
  have fw_6 : h_2.2.1 x 2 = w_6 := fw_6
  have bw_6 := hT.gi (gx.S hM) tt_6 (k := 2) rfl
  rw [fw_6] at bw_6
  have bw_6 : 0 ≤ w_6.toInt ∧ w_6.toInt ≤ 402 := bw_6
  have ek_7 : w_6.toInt.toNat = hv_sk tf ln0.toInt.toNat at0.toInt.toNat := ?o2
  case o2 => omega
  refine lv_aload_n hx hb dX6_readWord_4 rfl (lv_at hl 0 rfl) ?_
  refine hx_goi (hx_runV (As := []) (rest := []) ⟨hx, hb, hml, hown, hts⟩ hW (gx.S hM) tt_6 (T := TX6) (N := 7) rfl (t_X6_wordEnd_v l dC dI dA L_1 h_2 H.size x hT (gx.S hM) qt (gqt.S hM) ((hM.o gx trivial rfl).2.trans f_x_0) tf (hx_afS hM gqt rfl af_qt) w_6 fw_6 ln0 ((hM.o gx trivial rfl).1.trans f_x_1) ?o3) (cwV 0 hts (hx_gV kw_471 kw_468 kw_470 kw_4 kw_95) rfl rfl rfl (by decide +kernel) ⟨Nat.le_of_ble_eq_true rfl, Nat.le_of_ble_eq_true rfl⟩) rfl hl.1 rfl (Nat.le_of_ble_eq_true rfl) dX6_readWord_5 ⟨Nat.le_of_ble_eq_true rfl, Nat.le_of_ble_eq_true rfl⟩) hW (fun r_10 L_8 h_9 H locs p_11 hW => ?_)
  case o3 => omega
  obtain ⟨hr_12, hT, hs⟩ := p_11
  replace hT : hx_T T_tb L_8 h_9 := hT
  replace hs : hx_S T_tb [] L_1 h_2 L_8 h_9 := hs
  replace fw_6 := (hs.o (gx.S hM) trivial rfl).1.trans fw_6
  replace hM := hM.tr (hs.mono ?o4)
  case o4 => decide
  have ew_13 : r_10.toInt.toNat = hv_we tf ln0.toInt.toNat w_6.toInt.toNat := ?o5
  case o5 => omega
  refine lv_istore_n (lv' := [(2, .int r_10), (0, .ref x), (1, .ref (b0.2.2.2.1 js))]) hx hb dX6_readWord_8 rfl hl ?o6 rfl (fun ls hl => ?_)
  case o6 => decide
  refine lv_iconst (v := 0) hx hb dX6_readWord_9 ?o7 ?_
  case o7 => decide
  refine lv_istore_n (lv' := [(3, .int (0 : Int32)), (2, .int r_10), (0, .ref x), (1, .ref (b0.2.2.2.1 js))]) hx hb dX6_readWord_10 rfl hl ?o8 rfl (fun ls hl => ?_)
  case o8 => decide
  have loop11 : ∀ (n11 : Nat) (iv11_3 : Int32) (H : Heap) (locs : List Loc) (hL1 : List Nat) (hl1 : hx_h), 0 ≤ iv11_3.toInt → iv11_3.toInt ≤ 96 → (∀ k : Nat, 8 * (k : Int) + 8 ≤ iv11_3.toInt → ¬ hv_sl tf js (8 * k) (w_6.toInt).toNat (r_10.toInt).toNat) → (iv11_3.toInt % 8 = 0) → ∀ (ls : Array Slot), 96 - iv11_3.toInt < (n11 : Int) → hx_W T_tb (P_ty dA) (dC, dI) vwCl (hx_A L sz) s.heap hL1 hl1 s H locs → hx_T T_tb hL1 hl1 → hx_S T_tb [(6, 2)] L h hL1 hl1 → hl1.2.1 x 2 = w_6 → lv_has ls 4 [(3, .int iv11_3), (2, .int r_10), (0, .ref x), (1, .ref (b0.2.2.2.1 js))] → W p l e ({ frames := 5, cells := 0, slots := 0, locals := 110 }) s m ([.ref x, .ref (b0.2.2.2.1 js)] : List Value).toArray below meth c H locs 0 0 (MQ below (va_Qi (fun (r : Int32) (u : List Nat × hx_h) => (∃ (at1 : Int32), u.2.2.1 x 2 = at1 ∧ (((r.toInt = -1 ∧ at1.toInt = ((hv_sk tf ln0.toInt.toNat at0.toInt.toNat : Nat) : Int)) ∨ (0 ≤ r.toInt ∧ at1.toInt = ((hv_we tf ln0.toInt.toNat (hv_sk tf ln0.toInt.toNat at0.toInt.toNat) : Nat) : Int))) ∧ hv_RW tf ln0.toInt.toNat js r.toInt (hv_sk tf ln0.toInt.toNat at0.toInt.toNat) ∧ at0.toInt ≤ at1.toInt ∧ at1.toInt ≤ ln0.toInt)) ∧ hx_T T_tb u.1 u.2 ∧ hx_S T_tb [(6, 2)] L h u.1 u.2) (hx_E T_tb (P_ty dA) (dC, dI) vwCl (hx_A L sz)) (hx_A L sz)) ([.ref x, .ref (b0.2.2.2.1 js)] : List Value).toArray s 0 0 (hx_A L sz)) (F0 m 11 ls []) := by
    intro n11
    induction n11 with
    | zero => intro iv11_3 H locs hL1 hl1 bliv11_3 buiv11_3 vi11_0 vi11_1 ls hn11; exfalso; omega
    | succ n11 ih11 =>
      intro iv11_3 H locs hL1 hl1 bliv11_3 buiv11_3 vi11_0 vi11_1 ls hn11 hW hT hM fw_6  hl
      refine lv_iload_n hx hb dX6_readWord_11 rfl (lv_at hl 1 rfl) ?_
      refine lv_aload_n hx hb dX6_readWord_12 rfl (lv_at hl 2 rfl) ?_
      refine hk_geti hx hb hts hC_6 hown hW (gx.S hM) tt_6 2 ?o9 rfl kw_127 ⟨rfl, rfl, rfl⟩ fw_6 dX6_readWord_13 ?_
      case o9 => decide
      refine hb_icmp_le (zx := r_10.toInt) (zy := w_6.toInt) (tgt := 56) hx hb rfl rfl dX6_readWord_16 ?o10 (fun c_14 => ?_) (fun c_14 => ?_)
      case o10 => decide
      · skip
        refine lv_iconst (v := -1) hx hb dX6_readWord_56 ?o11 ?_
        case o11 => decide
        exact hx_reti hx hb hr hlk hW ⟨⟨w_6, fw_6, ⟨Or.inl ⟨by decide, by omega⟩, (Or.inl ⟨by decide, fun k hk9 hlt => by rw [← ek_7, ← ew_13] at hlt; rw [← ek_7, ← ew_13]; first | (exfalso; omega) | exact vi11_0 k (by omega)⟩), by omega, by omega⟩⟩, hT, hM⟩ dX6_readWord_57
      · skip
        refine lv_iload_n hx hb dX6_readWord_19 rfl (lv_at hl 0 rfl) ?_
        refine lv_bipush (v := 8) hx hb dX6_readWord_20 ?o12 ?_
        case o12 => decide
        refine lv_iadd hx hb dX6_readWord_22 ?_
        have rg_15 := i32_r iv11_3
        refine lv_topi (fun x_16 ex_16 => ?_)
        have zx_16 : x_16.toInt = iv11_3.toInt + 8 := ?o13
        case o13 =>
          rw [ex_16]
          refine i32_add rfl ?o14 ?o15 ?o16
          case o14 => decide
          case o15 => omega
          case o16 => omega
        refine lv_aload_n hx hb dX6_readWord_23 rfl (lv_at hl 3 rfl) ?_
        refine hx_goi (hx_runVS (As := []) (rest := [.int x_16]) ⟨hx, hb, hml, hown, hts⟩ hW hZ (i := js) hjs (t_J0_length_8abf5 l dC dI dA hL1 hl1 H.size b0 js hT hjs) (cwV 0 hts (hx_gV kw_475 kw_472 kw_473 kw_474 kw_104) rfl rfl rfl (by decide +kernel) ⟨Nat.le_of_ble_eq_true rfl, Nat.le_of_ble_eq_true rfl⟩) rfl hl.1 rfl (Nat.le_of_ble_eq_true rfl) dX6_readWord_24 ⟨Nat.le_of_ble_eq_true rfl, Nat.le_of_ble_eq_true rfl⟩) hW (fun r_19 L_17 h_18 H locs p_20 hW => ?_)
        obtain ⟨hr_21, hT, hs⟩ := p_20
        replace hT : hx_T T_tb L_17 h_18 := hT
        replace hs : hx_S T_tb [] hL1 hl1 L_17 h_18 := hs
        replace fw_6 := (hs.o (gx.S hM) trivial rfl).1.trans fw_6
        replace hM := hM.tr (hs.mono ?o17)
        case o17 => decide
        have lr_19 := hx_ln js hjs; rw [← hr_21] at lr_19
        have kr_19 : (Int32.ofNat (P_ln.getD js 0)).toInt = r_19.toInt := ?o18
        case o18 => rw [hr_21]
        refine hb_icmp_gt (zx := x_16.toInt) (zy := r_19.toInt) (tgt := 56) hx hb rfl rfl dX6_readWord_27 ?o19 (fun c_22 => ?_) (fun c_22 => ?_)
        case o19 => decide
        · skip
          refine lv_iconst (v := -1) hx hb dX6_readWord_56 ?o20 ?_
          case o20 => decide
          exact hx_reti hx hb hr hlk hW ⟨⟨w_6, fw_6, ⟨Or.inl ⟨by decide, by omega⟩, (Or.inl ⟨by decide, fun k hk9 hlt => by rw [← ek_7, ← ew_13] at hlt; rw [← ek_7, ← ew_13]; first | (exfalso; omega) | exact vi11_0 k (by omega)⟩), by omega, by omega⟩⟩, hT, hM⟩ dX6_readWord_57
        · skip
          refine lv_aload_n hx hb dX6_readWord_30 rfl (lv_at hl 2 rfl) ?_
          refine lv_aload_n hx hb dX6_readWord_31 rfl (lv_at hl 3 rfl) ?_
          refine lv_iload_n hx hb dX6_readWord_32 rfl (lv_at hl 0 rfl) ?_
          refine lv_iload_n hx hb dX6_readWord_33 rfl (lv_at hl 1 rfl) ?_
          refine hx_goi (hx_runVX (As := [.ref (b0.2.2.2.1 js), .int iv11_3, .int r_10]) (rest := []) ⟨hx, hb, hml, hown, hts⟩ hW (gx.S hM) tt_6 (T := TX6) (N := 7) rfl (t_X6_isSlot_v l dC dI dA L_17 h_18 H.size b0 x js iv11_3 r_10 hT (gx.S hM) hjs qt (gqt.S hM) ((hM.o gx trivial rfl).2.trans f_x_0) tf (hx_afS hM gqt rfl af_qt) w_6 fw_6 ln0 ((hM.o gx trivial rfl).1.trans f_x_1) ⟨?o21, ?o22⟩ ⟨?o23, ?o24⟩) hZ (cwV 3 hts (hx_gV kw_485 kw_482 kw_484 kw_5 kw_95) rfl rfl rfl (by decide +kernel) ⟨Nat.le_of_ble_eq_true rfl, Nat.le_of_ble_eq_true rfl⟩) rfl hl.1 rfl (Nat.le_of_ble_eq_true rfl) dX6_readWord_34 ⟨Nat.le_of_ble_eq_true rfl, Nat.le_of_ble_eq_true rfl⟩) hW (fun r_25 L_23 h_24 H locs p_26 hW => ?_)
          case o21 => omega
          case o22 => omega
          case o23 => omega
          case o24 => omega
          obtain ⟨hr_27, hT, hs⟩ := p_26
          replace hT : hx_T T_tb L_23 h_24 := hT
          replace hs : hx_S T_tb [] L_17 h_18 L_23 h_24 := hs
          replace fw_6 := (hs.o (gx.S hM) trivial rfl).1.trans fw_6
          replace hM := hM.tr (hs.mono ?o25)
          case o25 => decide
          refine hb_if_eq (zx := r_25.toInt) (tgt := 50) hx hb rfl dX6_readWord_37 ?o26 (fun c_28 => ?_) (fun c_28 => ?_)
          case o26 => decide
          · skip
            obtain ⟨x_29, ex_29⟩ : ∃ y : Int32, y = iv11_3 + Int32.ofInt 8 := ⟨_, rfl⟩
            have zx_29 : x_29.toInt = iv11_3.toInt + (8) := ?o27
            case o27 =>
              rw [ex_29]
              refine i32_add rfl ?o28 ?o29 ?o30
              case o28 => decide
              case o29 => omega
              case o30 => omega
            refine lv_iinc (v := x_29) (lv' := [(3, .int x_29), (2, .int r_10), (0, .ref x), (1, .ref (b0.2.2.2.1 js))]) hx hb dX6_readWord_50 hl (k := 0) rfl ex_29.symm ?o31 rfl (fun ls hl => ?_)
            case o31 => decide
            refine lv_goto (tgt := 11) hx hb dX6_readWord_53 ?o32 ?_
            case o32 => decide
            refine ih11 x_29 _ _ L_23 h_24 ?o33 ?o34 (hv_rw_s (C := fun s => hv_sl tf js s w_6.toInt.toNat r_10.toInt.toNat) vi11_0 ?o35 ?o36 (by rcases hr_27 with z | z; (exfalso; omega); exact z.2) zx_29) ?o37 ls ?o38 hW hT hM fw_6  (lv_sub hl [0, 1, 2, 3] rfl)
            case o33 => omega
            case o34 => omega
            case o35 => omega
            case o36 => omega
            case o37 => omega
            case o38 => omega
          · skip
            refine lv_aload_n hx hb dX6_readWord_40 rfl (lv_at hl 2 rfl) ?_
            refine lv_iload_n hx hb dX6_readWord_41 rfl (lv_at hl 1 rfl) ?_
            refine hx_puti hx hb hts hC_6 hown hW hT (hx_S.rf (M := [(6, 2)])) (gx.S hM) tt_6 2 ?o39 rfl kw_127 ⟨rfl, rfl, rfl⟩ rfl (x := r_10) ⟨?o40, ?o41⟩ rfl rfl rfl (List.mem_singleton.mpr rfl) dX6_readWord_42 (fun H locs h_30 eh_30 hW hT hs => ?_)
            case o39 => decide
            case o40 => omega
            case o41 => omega
            replace hM := hM.tr (hs.mono ?o42)
            case o42 => decide
            have f_31 : h_30.2.1 x 2 = r_10 := ?o43
            case o43 =>
              rw [eh_30]
              exact hx_pi_at _ _ _ _
            refine lv_iload_n hx hb dX6_readWord_45 rfl (lv_at hl 0 rfl) ?_
            refine lv_bipush (v := 8) hx hb dX6_readWord_46 ?o44 ?_
            case o44 => decide
            refine lv_idiv hx hb dX6_readWord_48 ?o45 ?_
            case o45 => decide
            refine lv_topi (fun x_32 ex_32 => ?_)
            have zx_32 : x_32.toInt = iv11_3.toInt / 8 := ?o46
            case o46 =>
              rw [ex_32, hx_dv (by omega) (by decide)]
              rfl
            refine hx_reti hx hb hr hlk hW ⟨⟨r_10, f_31, ⟨Or.inr ⟨?o47, (by rw [← ek_7]; omega)⟩, (Or.inr ⟨?o48, ?o49, (by rw [← ek_7, ← ew_13]; omega), (by rw [← ek_7, ← ew_13, show 8 * x_32.toInt.toNat = iv11_3.toInt.toNat by omega]; exact (by rcases hr_27 with z | z; exact z.2; exfalso; omega))⟩), ?o50, ?o51⟩⟩, hT, hM⟩ dX6_readWord_49
            case o47 => omega
            case o48 => omega
            case o49 => omega
            case o50 => omega
            case o51 => omega
  have zk_0 : (0 : Int32).toInt = 0 := ?o52
  case o52 => decide
  refine loop11 97 (0 : Int32) _ _ L_8 h_9 ?o53 ?o54 (fun k hk => ?o55) ?o56 ls ?o57 hW hT hM fw_6  hl
  case o53 => decide
  case o54 => decide
  case o55 =>
    exfalso
    omega
  case o56 => omega
  case o57 => omega


set_option maxHeartbeats 4000000 in
set_option maxRecDepth 100000 in
theorem t_X6_isNextWord_v (l : Launch) (dC : Nat → ClassId) (dI : Nat → Nat → Nat) (dA : Nat → ClassId) (L : List Nat) (h : hx_h) (sz : Nat) (b0 : hx_z) (x : Nat) (js : Nat) (hT : hx_T T_tb L h) (gx : hx_g L h x 6) (hjs : js < 6) (qt : Nat) (gqt : hx_g L h qt 42) (f_x_0 : h.2.2 x 0 = some qt) (tf : Nat → Int32) (af_qt : h.2.1 qt = tf) (at0 : Int32) (f_x_2 : h.2.1 x 2 = at0) (ln0 : Int32) (f_x_1 : h.2.1 x 1 = ln0) (hA : at0.toInt ≤ ln0.toInt) : Met l yX6_isNextWord (Cond.code yX6_isNextWord cX6_isNextWord 3 (some .boolean) :: hx_all) ({ frames := 5, cells := 0, slots := 0, locals := 110 }) (va_Pc [.ref x, .ref (b0.2.2.2.1 js)] (hx_BX T_tb (P_ty dA) (dC, dI) vwCl L h sz b0)) (va_Qi (fun (r : Int32) (u : List Nat × hx_h) => (∃ (at1 : Int32), u.2.2.1 x 2 = at1 ∧ (at1.toInt = ((hv_sk tf ln0.toInt.toNat at0.toInt.toNat : Nat) : Int) ∧ hv_NW tf ln0.toInt.toNat js r.toInt (hv_sk tf ln0.toInt.toNat at0.toInt.toNat) ∧ at0.toInt ≤ at1.toInt ∧ at1.toInt ≤ ln0.toInt)) ∧ hx_T T_tb u.1 u.2 ∧ hx_S T_tb [(6, 2)] L h u.1 u.2) (hx_E T_tb (P_ty dA) (dC, dI) vwCl (hx_A L sz)) (hx_A L sz)) 0 0 (hx_A L sz) := by
  refine hx_metX (lv := [(0, .ref x), (1, .ref (b0.2.2.2.1 js))]) (by decide +kernel) rfl (Nat.le_of_ble_eq_true rfl) rfl ?_
  intro p e s m below meth c hx hb hml hr hlk hts0 hown hin hsz hW hZ ls hl
  have hts : ∀ w ∈ hx_all, w.before _ s = true := fun w hw => hts0 w (List.mem_cons_of_mem _ hw)
  have hown : s.vm.findClass "SmallCourt$Reader" = some m.cls := hown
  have hM : hx_S T_tb [(6, 2)] L h L h := hx_S.rf
  obtain ⟨zLT, zLA, zMT, zMA, zCS, zSF, zVS, zVR⟩ := hZ.2.2.2.2.2.2
  have b_at0 := hT.gi gx tt_6 (k := 2) rfl
  rw [f_x_2] at b_at0
  have b_at0 : 0 ≤ at0.toInt ∧ at0.toInt ≤ 402 := b_at0
  have b_ln0 := hT.gi gx tt_6 (k := 1) rfl
  rw [f_x_1] at b_ln0
  have b_ln0 : 0 ≤ ln0.toInt ∧ ln0.toInt ≤ 400 := b_ln0
  refine lv_aload_n hx hb dX6_isNextWord_0 rfl (lv_at hl 0 rfl) ?_
  refine hx_gov (hx_runV (As := []) (rest := []) ⟨hx, hb, hml, hown, hts⟩ hW (gx.S hM) tt_6 (T := TX6) (N := 7) rfl (t_X6_skipBlanks_v l dC dI dA L h s.heap.size x hT (gx.S hM) qt (gqt.S hM) ((hM.o gx trivial rfl).2.trans f_x_0) tf (hx_afS hM gqt rfl af_qt) at0 f_x_2 ln0 ((hM.o gx trivial rfl).1.trans f_x_1) ?o0) (cwV 0 hts (hx_gV kw_458 kw_455 kw_457 kw_1 kw_95) rfl rfl rfl (by decide +kernel) ⟨Nat.le_of_ble_eq_true rfl, Nat.le_of_ble_eq_true rfl⟩) rfl hl.1 rfl (Nat.le_of_ble_eq_true rfl) dX6_isNextWord_1 ⟨Nat.le_of_ble_eq_true rfl, Nat.le_of_ble_eq_true rfl⟩) hW (fun L_1 h_2 H locs p_4 hW => ?_)
  case o0 => omega
  obtain ⟨⟨w_6, fw_6, hr_5⟩, hT, hs⟩ := p_4
  replace hT : hx_T T_tb L_1 h_2 := hT
  replace hs : hx_S T_tb [(6, 2)] L h L_1 h_2 := hs
  replace hM := hM.tr (hs.mono ?o1)
  case o1 => decide
  have fw_6 : h_2.2.1 x 2 = w_6 := fw_6
  have bw_6 := hT.gi (gx.S hM) tt_6 (k := 2) rfl
  rw [fw_6] at bw_6
  have bw_6 : 0 ≤ w_6.toInt ∧ w_6.toInt ≤ 402 := bw_6
  have ek_7 : w_6.toInt.toNat = hv_sk tf ln0.toInt.toNat at0.toInt.toNat := ?o2
  case o2 => omega
  refine lv_aload_n hx hb dX6_isNextWord_4 rfl (lv_at hl 0 rfl) ?_
  refine hx_goi (hx_runV (As := []) (rest := []) ⟨hx, hb, hml, hown, hts⟩ hW (gx.S hM) tt_6 (T := TX6) (N := 7) rfl (t_X6_wordEnd_v l dC dI dA L_1 h_2 H.size x hT (gx.S hM) qt (gqt.S hM) ((hM.o gx trivial rfl).2.trans f_x_0) tf (hx_afS hM gqt rfl af_qt) w_6 fw_6 ln0 ((hM.o gx trivial rfl).1.trans f_x_1) ?o3) (cwV 0 hts (hx_gV kw_471 kw_468 kw_470 kw_4 kw_95) rfl rfl rfl (by decide +kernel) ⟨Nat.le_of_ble_eq_true rfl, Nat.le_of_ble_eq_true rfl⟩) rfl hl.1 rfl (Nat.le_of_ble_eq_true rfl) dX6_isNextWord_5 ⟨Nat.le_of_ble_eq_true rfl, Nat.le_of_ble_eq_true rfl⟩) hW (fun r_10 L_8 h_9 H locs p_11 hW => ?_)
  case o3 => omega
  obtain ⟨hr_12, hT, hs⟩ := p_11
  replace hT : hx_T T_tb L_8 h_9 := hT
  replace hs : hx_S T_tb [] L_1 h_2 L_8 h_9 := hs
  replace fw_6 := (hs.o (gx.S hM) trivial rfl).1.trans fw_6
  replace hM := hM.tr (hs.mono ?o4)
  case o4 => decide
  have ew_13 : r_10.toInt.toNat = hv_we tf ln0.toInt.toNat w_6.toInt.toNat := ?o5
  case o5 => omega
  refine lv_istore_n (lv' := [(2, .int r_10), (0, .ref x), (1, .ref (b0.2.2.2.1 js))]) hx hb dX6_isNextWord_8 rfl hl ?o6 rfl (fun ls hl => ?_)
  case o6 => decide
  refine lv_iload_n hx hb dX6_isNextWord_9 rfl (lv_at hl 0 rfl) ?_
  refine lv_aload_n hx hb dX6_isNextWord_10 rfl (lv_at hl 1 rfl) ?_
  refine hk_geti hx hb hts hC_6 hown hW (gx.S hM) tt_6 2 ?o7 rfl kw_127 ⟨rfl, rfl, rfl⟩ fw_6 dX6_isNextWord_11 ?_
  case o7 => decide
  refine hb_icmp_le (zx := r_10.toInt) (zy := w_6.toInt) (tgt := 31) hx hb rfl rfl dX6_isNextWord_14 ?o8 (fun c_14 => ?_) (fun c_14 => ?_)
  case o8 => decide
  · skip
    refine lv_iconst (v := 0) hx hb dX6_isNextWord_31 ?o9 ?_
    case o9 => decide
    refine hx_retz hx hb hr rfl hlk hW ⟨⟨w_6, fw_6, ⟨?o10, (Or.inr ⟨?o11, fun hlt => by rw [← ek_7, ← ew_13] at hlt; exfalso; omega⟩), ?o12, ?o13⟩⟩, hT, hM⟩ dX6_isNextWord_32
    case o10 => omega
    case o11 => decide
    case o12 => omega
    case o13 => omega
  · skip
    refine lv_aload_n hx hb dX6_isNextWord_17 rfl (lv_at hl 1 rfl) ?_
    refine lv_aload_n hx hb dX6_isNextWord_18 rfl (lv_at hl 2 rfl) ?_
    refine lv_iconst (v := 0) hx hb dX6_isNextWord_19 ?o14 ?_
    case o14 => decide
    refine lv_iload_n hx hb dX6_isNextWord_20 rfl (lv_at hl 0 rfl) ?_
    have zc_0 : (0 : Int32).toInt = 0 := ?o15
    case o15 => decide
    refine hx_goi (hx_runVX (As := [.ref (b0.2.2.2.1 js), .int (0 : Int32), .int r_10]) (rest := []) ⟨hx, hb, hml, hown, hts⟩ hW (gx.S hM) tt_6 (T := TX6) (N := 7) rfl (t_X6_isSlot_v l dC dI dA L_8 h_9 H.size b0 x js (0 : Int32) r_10 hT (gx.S hM) hjs qt (gqt.S hM) ((hM.o gx trivial rfl).2.trans f_x_0) tf (hx_afS hM gqt rfl af_qt) w_6 fw_6 ln0 ((hM.o gx trivial rfl).1.trans f_x_1) ?o16 ⟨?o17, ?o18⟩) hZ (cwV 3 hts (hx_gV kw_485 kw_482 kw_484 kw_5 kw_95) rfl rfl rfl (by decide +kernel) ⟨Nat.le_of_ble_eq_true rfl, Nat.le_of_ble_eq_true rfl⟩) rfl hl.1 rfl (Nat.le_of_ble_eq_true rfl) dX6_isNextWord_21 ⟨Nat.le_of_ble_eq_true rfl, Nat.le_of_ble_eq_true rfl⟩) hW (fun r_17 L_15 h_16 H locs p_18 hW => ?_)
    case o16 => decide
    case o17 => omega
    case o18 => omega
    obtain ⟨hr_19, hT, hs⟩ := p_18
    replace hT : hx_T T_tb L_15 h_16 := hT
    replace hs : hx_S T_tb [] L_8 h_9 L_15 h_16 := hs
    replace fw_6 := (hs.o (gx.S hM) trivial rfl).1.trans fw_6
    replace hM := hM.tr (hs.mono ?o19)
    case o19 => decide
    refine hb_if_eq (zx := r_17.toInt) (tgt := 31) hx hb rfl dX6_isNextWord_24 ?o20 (fun c_20 => ?_) (fun c_20 => ?_)
    case o20 => decide
    · skip
      refine lv_iconst (v := 0) hx hb dX6_isNextWord_31 ?o21 ?_
      case o21 => decide
      refine hx_retz hx hb hr rfl hlk hW ⟨⟨w_6, fw_6, ⟨?o22, (Or.inr ⟨?o23, fun hlt => by rw [← ek_7, ← ew_13]; exact (by rcases hr_19 with z | z; (exfalso; omega); exact z.2)⟩), ?o24, ?o25⟩⟩, hT, hM⟩ dX6_isNextWord_32
      case o22 => omega
      case o23 => decide
      case o24 => omega
      case o25 => omega
    · skip
      refine lv_iconst (v := 1) hx hb dX6_isNextWord_27 ?o26 ?_
      case o26 => decide
      refine lv_goto (tgt := 32) hx hb dX6_isNextWord_28 ?o27 ?_
      case o27 => decide
      refine hx_retz hx hb hr rfl hlk hW ⟨⟨w_6, fw_6, ⟨?o28, (Or.inl ⟨?o29, (by rw [← ek_7, ← ew_13]; omega), (by rw [← ek_7, ← ew_13]; exact (by rcases hr_19 with z | z; exact z.2; exfalso; omega))⟩), ?o30, ?o31⟩⟩, hT, hM⟩ dX6_isNextWord_32
      case o28 => omega
      case o29 => decide
      case o30 => omega
      case o31 => omega


set_option maxHeartbeats 4000000 in
set_option maxRecDepth 100000 in
theorem t_X6_readNumber_v (l : Launch) (dC : Nat → ClassId) (dI : Nat → Nat → Nat) (dA : Nat → ClassId) (L : List Nat) (h : hx_h) (sz : Nat) (x : Nat) (hT : hx_T T_tb L h) (gx : hx_g L h x 6) (qt : Nat) (gqt : hx_g L h qt 42) (f_x_0 : h.2.2 x 0 = some qt) (tf : Nat → Int32) (af_qt : h.2.1 qt = tf) (at0 : Int32) (f_x_2 : h.2.1 x 2 = at0) (ln0 : Int32) (f_x_1 : h.2.1 x 1 = ln0) (hA : at0.toInt ≤ ln0.toInt) : Met l yX6_readNumber (Cond.code yX6_readNumber cX6_readNumber 3 (some .int) :: hx_all) ({ frames := 1, cells := 0, slots := 0, locals := 21 }) (va_Pc [.ref x] (hx_B T_tb (P_ty dA) (dC, dI) vwCl L h sz)) (va_Qi (fun (r : Int32) (u : List Nat × hx_h) => (∃ (at1 : Int32), u.2.2.1 x 2 = at1 ∧ (at1.toInt = ((hv_de tf ln0.toInt.toNat at0.toInt.toNat : Nat) : Int) ∧ ((at1.toInt - at0.toInt ≤ 4 ∧ 0 ≤ r.toInt ∧ r.toInt = hv_dv tf at0.toInt.toNat (hv_de tf ln0.toInt.toNat at0.toInt.toNat - at0.toInt.toNat)) ∨ (4 < at1.toInt - at0.toInt ∧ r.toInt = -1)) ∧ (-1 ≤ r.toInt ∧ r.toInt ≤ 9999) ∧ at0.toInt ≤ at1.toInt ∧ at1.toInt ≤ ln0.toInt)) ∧ hx_T T_tb u.1 u.2 ∧ hx_S T_tb [(6, 2)] L h u.1 u.2) (hx_E T_tb (P_ty dA) (dC, dI) vwCl (hx_A L sz)) (hx_A L sz)) 0 0 (hx_A L sz) := by
  refine hx_met (lv := [(0, .ref x)]) (by decide +kernel) rfl (Nat.le_of_ble_eq_true rfl) rfl ?_
  intro p e s m below meth c hx hb hml hr hlk hts0 hown hin hsz hW ls hl
  have hts : ∀ w ∈ hx_all, w.before _ s = true := fun w hw => hts0 w (List.mem_cons_of_mem _ hw)
  have hown : s.vm.findClass "SmallCourt$Reader" = some m.cls := hown
  have hM : hx_S T_tb [(6, 2)] L h L h := hx_S.rf
  have b_at0 := hT.gi gx tt_6 (k := 2) rfl
  rw [f_x_2] at b_at0
  have b_at0 : 0 ≤ at0.toInt ∧ at0.toInt ≤ 402 := b_at0
  have b_ln0 := hT.gi gx tt_6 (k := 1) rfl
  rw [f_x_1] at b_ln0
  have b_ln0 : 0 ≤ ln0.toInt ∧ ln0.toInt ≤ 400 := b_ln0
  refine lv_aload_n hx hb dX6_readNumber_0 rfl (lv_at hl 0 rfl) ?_
  refine hk_geti hx hb hts hC_6 hown hW (gx.S hM) tt_6 2 ?o0 rfl kw_127 ⟨rfl, rfl, rfl⟩ f_x_2 dX6_readNumber_1 ?_
  case o0 => decide
  refine lv_istore_n (lv' := [(1, .int at0), (0, .ref x)]) hx hb dX6_readNumber_4 rfl hl ?o1 rfl (fun ls hl => ?_)
  case o1 => decide
  refine lv_iconst (v := 0) hx hb dX6_readNumber_5 ?o2 ?_
  case o2 => decide
  refine lv_istore_n (lv' := [(2, .int (0 : Int32)), (1, .int at0), (0, .ref x)]) hx hb dX6_readNumber_6 rfl hl ?o3 rfl (fun ls hl => ?_)
  case o3 => decide
  have loop7 : ∀ (n7 : Nat) (iv7_2 fw7_x_2 : Int32) (H : Heap) (locs : List Loc) (hL1 : List Nat) (hl1 : hx_h), 0 ≤ iv7_2.toInt → iv7_2.toInt ≤ 9999 → 0 ≤ fw7_x_2.toInt → fw7_x_2.toInt ≤ 402 → (hv_de tf ln0.toInt.toNat at0.toInt.toNat = hv_de tf ln0.toInt.toNat (fw7_x_2.toInt).toNat) → (iv7_2.toInt = hv_dv tf at0.toInt.toNat (min (fw7_x_2.toInt - at0.toInt).toNat 4)) → (at0.toInt ≤ fw7_x_2.toInt) → (fw7_x_2.toInt ≤ ln0.toInt) → ((fw7_x_2.toInt - at0.toInt = 0 ∧ iv7_2.toInt = 0) ∨ (fw7_x_2.toInt - at0.toInt = 1 ∧ iv7_2.toInt ≤ 9) ∨ (fw7_x_2.toInt - at0.toInt = 2 ∧ iv7_2.toInt ≤ 99) ∨ (fw7_x_2.toInt - at0.toInt = 3 ∧ iv7_2.toInt ≤ 999) ∨ 4 ≤ fw7_x_2.toInt - at0.toInt) → ∀ (ls : Array Slot), 402 - fw7_x_2.toInt < (n7 : Int) → hx_W T_tb (P_ty dA) (dC, dI) vwCl (hx_A L sz) s.heap hL1 hl1 s H locs → hx_T T_tb hL1 hl1 → hx_S T_tb [(6, 2)] L h hL1 hl1 → hl1.2.1 x 2 = fw7_x_2 → lv_has ls 3 [(2, .int iv7_2), (1, .int at0), (0, .ref x)] → W p l e ({ frames := 1, cells := 0, slots := 0, locals := 21 }) s m ([.ref x] : List Value).toArray below meth c H locs 0 0 (MQ below (va_Qi (fun (r : Int32) (u : List Nat × hx_h) => (∃ (at1 : Int32), u.2.2.1 x 2 = at1 ∧ (at1.toInt = ((hv_de tf ln0.toInt.toNat at0.toInt.toNat : Nat) : Int) ∧ ((at1.toInt - at0.toInt ≤ 4 ∧ 0 ≤ r.toInt ∧ r.toInt = hv_dv tf at0.toInt.toNat (hv_de tf ln0.toInt.toNat at0.toInt.toNat - at0.toInt.toNat)) ∨ (4 < at1.toInt - at0.toInt ∧ r.toInt = -1)) ∧ (-1 ≤ r.toInt ∧ r.toInt ≤ 9999) ∧ at0.toInt ≤ at1.toInt ∧ at1.toInt ≤ ln0.toInt)) ∧ hx_T T_tb u.1 u.2 ∧ hx_S T_tb [(6, 2)] L h u.1 u.2) (hx_E T_tb (P_ty dA) (dC, dI) vwCl (hx_A L sz)) (hx_A L sz)) ([.ref x] : List Value).toArray s 0 0 (hx_A L sz)) (F0 m 7 ls []) := by
    intro n7
    induction n7 with
    | zero => intro iv7_2 fw7_x_2 H locs hL1 hl1 bliv7_2 buiv7_2 blfw7_x_2 bufw7_x_2 vi7_0 vi7_1 vi7_2 vi7_3 vi7_4 ls hn7; exfalso; omega
    | succ n7 ih7 =>
      intro iv7_2 fw7_x_2 H locs hL1 hl1 bliv7_2 buiv7_2 blfw7_x_2 bufw7_x_2 vi7_0 vi7_1 vi7_2 vi7_3 vi7_4 ls hn7 hW hT hM ffw7_x_2  hl
      refine lv_aload_n hx hb dX6_readNumber_7 rfl (lv_at hl 2 rfl) ?_
      refine hk_geti hx hb hts hC_6 hown hW (gx.S hM) tt_6 2 ?o4 rfl kw_127 ⟨rfl, rfl, rfl⟩ ffw7_x_2 dX6_readNumber_8 ?_
      case o4 => decide
      refine lv_aload_n hx hb dX6_readNumber_11 rfl (lv_at hl 2 rfl) ?_
      refine hk_geti hx hb hts hC_6 hown hW (gx.S hM) tt_6 1 ?o5 rfl kw_126 ⟨rfl, rfl, rfl⟩ ((hM.o gx trivial rfl).1.trans f_x_1) dX6_readNumber_12 ?_
      case o5 => decide
      refine hb_icmp_ge (zx := fw7_x_2.toInt) (zy := ln0.toInt) (tgt := 70) hx hb rfl rfl dX6_readNumber_15 ?o6 (fun c_1 => ?_) (fun c_1 => ?_)
      case o6 => decide
      · skip
        have hde : ((hv_de tf ln0.toInt.toNat at0.toInt.toNat : Nat) : Int) = fw7_x_2.toInt := ?o7
        case o7 =>
          rw [vi7_0]
          refine hv_sn_o ?o8 (fun z9 => ?o9)
          case o8 => omega
          case o9 =>
            exfalso
            omega
        refine lv_aload_n hx hb dX6_readNumber_70 rfl (lv_at hl 2 rfl) ?_
        refine hk_geti hx hb hts hC_6 hown hW (gx.S hM) tt_6 2 ?o10 rfl kw_127 ⟨rfl, rfl, rfl⟩ ffw7_x_2 dX6_readNumber_71 ?_
        case o10 => decide
        refine lv_iload_n hx hb dX6_readNumber_74 rfl (lv_at hl 1 rfl) ?_
        refine lv_isub hx hb dX6_readNumber_75 ?_
        have rg_2 := i32_r fw7_x_2
        have rg_3 := i32_r at0
        refine lv_topi (fun x_4 ex_4 => ?_)
        have zx_4 : x_4.toInt = fw7_x_2.toInt - at0.toInt := ?o11
        case o11 =>
          rw [ex_4]
          refine i32_sub rfl rfl ?o12 ?o13
          case o12 => omega
          case o13 => omega
        refine lv_iconst (v := 4) hx hb dX6_readNumber_76 ?o14 ?_
        case o14 => decide
        refine hb_icmp_le (zx := x_4.toInt) (zy := 4) (tgt := 84) hx hb rfl ?o15 dX6_readNumber_77 ?o16 (fun c_5 => ?_) (fun c_5 => ?_)
        case o15 => decide
        case o16 => decide
        · skip
          refine lv_iload_n hx hb dX6_readNumber_84 rfl (lv_at hl 0 rfl) ?_
          refine hx_reti hx hb hr hlk hW ⟨⟨fw7_x_2, ffw7_x_2, ⟨?o17, Or.inl ⟨?o18, ?o19, (by rw [vi7_1]; congr 1; omega)⟩, ⟨?o20, ?o21⟩, ?o22, ?o23⟩⟩, hT, hM⟩ dX6_readNumber_85
          case o17 => omega
          case o18 => omega
          case o19 => omega
          case o20 => omega
          case o21 => omega
          case o22 => omega
          case o23 => omega
        · skip
          refine lv_iconst (v := -1) hx hb dX6_readNumber_80 ?o24 ?_
          case o24 => decide
          refine lv_goto (tgt := 85) hx hb dX6_readNumber_81 ?o25 ?_
          case o25 => decide
          refine hx_reti hx hb hr hlk hW ⟨⟨fw7_x_2, ffw7_x_2, ⟨?o26, Or.inr ⟨?o27, ?o28⟩, ⟨?o29, ?o30⟩, ?o31, ?o32⟩⟩, hT, hM⟩ dX6_readNumber_85
          case o26 => omega
          case o27 => omega
          case o28 => decide
          case o29 => decide
          case o30 => decide
          case o31 => omega
          case o32 => omega
      · skip
        refine lv_aload_n hx hb dX6_readNumber_18 rfl (lv_at hl 2 rfl) ?_
        refine lv_aload_n hx hb dX6_readNumber_19 rfl (lv_at hl 2 rfl) ?_
        refine hk_geti hx hb hts hC_6 hown hW (gx.S hM) tt_6 2 ?o33 rfl kw_127 ⟨rfl, rfl, rfl⟩ ffw7_x_2 dX6_readNumber_20 ?_
        case o33 => decide
        refine hx_goi (hx_runV (As := [.int fw7_x_2]) (rest := []) ⟨hx, hb, hml, hown, hts⟩ hW (gx.S hM) tt_6 (T := TX6) (N := 7) rfl (t_X6_isDigit_v l dC dI dA hL1 hl1 H.size x fw7_x_2 hT (gx.S hM) qt (gqt.S hM) ((hM.o gx trivial rfl).2.trans f_x_0) tf (hx_afS hM gqt rfl af_qt) ln0 ((hM.o gx trivial rfl).1.trans f_x_1) ?o34) (cwV 1 hts (hx_gV kw_544 kw_541 kw_543 kw_10 kw_95) rfl rfl rfl (by decide +kernel) ⟨Nat.le_of_ble_eq_true rfl, Nat.le_of_ble_eq_true rfl⟩) rfl hl.1 rfl (Nat.le_of_ble_eq_true rfl) dX6_readNumber_23 ⟨Nat.le_of_ble_eq_true rfl, Nat.le_of_ble_eq_true rfl⟩) hW (fun r_8 L_6 h_7 H locs p_9 hW => ?_)
        case o34 => omega
        obtain ⟨hr_10, hT, hs⟩ := p_9
        replace hT : hx_T T_tb L_6 h_7 := hT
        replace hs : hx_S T_tb [] hL1 hl1 L_6 h_7 := hs
        replace ffw7_x_2 := (hs.o (gx.S hM) trivial rfl).1.trans ffw7_x_2
        replace hM := hM.tr (hs.mono ?o35)
        case o35 => decide
        refine hb_if_eq (zx := r_8.toInt) (tgt := 70) hx hb rfl dX6_readNumber_26 ?o36 (fun c_11 => ?_) (fun c_11 => ?_)
        case o36 => decide
        · skip
          have hde : ((hv_de tf ln0.toInt.toNat at0.toInt.toNat : Nat) : Int) = fw7_x_2.toInt := ?o37
          case o37 =>
            rw [vi7_0]
            refine hv_sn_o ?o38 (fun z9 => by rcases hr_10 with z | z; (exfalso; omega); exact z.2 z9)
            case o38 => omega
          refine lv_aload_n hx hb dX6_readNumber_70 rfl (lv_at hl 2 rfl) ?_
          refine hk_geti hx hb hts hC_6 hown hW (gx.S hM) tt_6 2 ?o39 rfl kw_127 ⟨rfl, rfl, rfl⟩ ffw7_x_2 dX6_readNumber_71 ?_
          case o39 => decide
          refine lv_iload_n hx hb dX6_readNumber_74 rfl (lv_at hl 1 rfl) ?_
          refine lv_isub hx hb dX6_readNumber_75 ?_
          have rg_12 := i32_r fw7_x_2
          have rg_13 := i32_r at0
          refine lv_topi (fun x_14 ex_14 => ?_)
          have zx_14 : x_14.toInt = fw7_x_2.toInt - at0.toInt := ?o40
          case o40 =>
            rw [ex_14]
            refine i32_sub rfl rfl ?o41 ?o42
            case o41 => omega
            case o42 => omega
          refine lv_iconst (v := 4) hx hb dX6_readNumber_76 ?o43 ?_
          case o43 => decide
          refine hb_icmp_le (zx := x_14.toInt) (zy := 4) (tgt := 84) hx hb rfl ?o44 dX6_readNumber_77 ?o45 (fun c_15 => ?_) (fun c_15 => ?_)
          case o44 => decide
          case o45 => decide
          · skip
            refine lv_iload_n hx hb dX6_readNumber_84 rfl (lv_at hl 0 rfl) ?_
            refine hx_reti hx hb hr hlk hW ⟨⟨fw7_x_2, ffw7_x_2, ⟨?o46, Or.inl ⟨?o47, ?o48, (by rw [vi7_1]; congr 1; omega)⟩, ⟨?o49, ?o50⟩, ?o51, ?o52⟩⟩, hT, hM⟩ dX6_readNumber_85
            case o46 => omega
            case o47 => omega
            case o48 => omega
            case o49 => omega
            case o50 => omega
            case o51 => omega
            case o52 => omega
          · skip
            refine lv_iconst (v := -1) hx hb dX6_readNumber_80 ?o53 ?_
            case o53 => decide
            refine lv_goto (tgt := 85) hx hb dX6_readNumber_81 ?o54 ?_
            case o54 => decide
            refine hx_reti hx hb hr hlk hW ⟨⟨fw7_x_2, ffw7_x_2, ⟨?o55, Or.inr ⟨?o56, ?o57⟩, ⟨?o58, ?o59⟩, ?o60, ?o61⟩⟩, hT, hM⟩ dX6_readNumber_85
            case o55 => omega
            case o56 => omega
            case o57 => decide
            case o58 => decide
            case o59 => decide
            case o60 => omega
            case o61 => omega
        · skip
          refine lv_aload_n hx hb dX6_readNumber_29 rfl (lv_at hl 2 rfl) ?_
          refine hk_geti hx hb hts hC_6 hown hW (gx.S hM) tt_6 2 ?o62 rfl kw_127 ⟨rfl, rfl, rfl⟩ ffw7_x_2 dX6_readNumber_30 ?_
          case o62 => decide
          refine lv_iload_n hx hb dX6_readNumber_33 rfl (lv_at hl 1 rfl) ?_
          refine lv_isub hx hb dX6_readNumber_34 ?_
          have rg_16 := i32_r fw7_x_2
          have rg_17 := i32_r at0
          refine lv_topi (fun x_18 ex_18 => ?_)
          have zx_18 : x_18.toInt = fw7_x_2.toInt - at0.toInt := ?o63
          case o63 =>
            rw [ex_18]
            refine i32_sub rfl rfl ?o64 ?o65
            case o64 => omega
            case o65 => omega
          refine lv_iconst (v := 4) hx hb dX6_readNumber_35 ?o66 ?_
          case o66 => decide
          refine hb_icmp_ge (zx := x_18.toInt) (zy := 4) (tgt := 57) hx hb rfl ?o67 dX6_readNumber_36 ?o68 (fun c_19 => ?_) (fun c_19 => ?_)
          case o67 => decide
          case o68 => decide
          · skip
            refine lv_aload_n hx hb dX6_readNumber_57 rfl (lv_at hl 2 rfl) ?_
            refine lv_dup hx hb dX6_readNumber_58 rfl ?_
            refine hk_geti hx hb hts hC_6 hown hW (gx.S hM) tt_6 2 ?o69 rfl kw_127 ⟨rfl, rfl, rfl⟩ ffw7_x_2 dX6_readNumber_59 ?_
            case o69 => decide
            refine lv_iconst (v := 1) hx hb dX6_readNumber_62 ?o70 ?_
            case o70 => decide
            refine lv_iadd hx hb dX6_readNumber_63 ?_
            refine lv_topi (fun x_20 ex_20 => ?_)
            have zx_20 : x_20.toInt = fw7_x_2.toInt + 1 := ?o71
            case o71 =>
              rw [ex_20]
              refine i32_add rfl ?o72 ?o73 ?o74
              case o72 => decide
              case o73 => omega
              case o74 => omega
            refine hx_puti hx hb hts hC_6 hown hW hT (hx_S.rf (M := [(6, 2)])) (gx.S hM) tt_6 2 ?o75 rfl kw_127 ⟨rfl, rfl, rfl⟩ rfl (x := x_20) ⟨?o76, ?o77⟩ rfl rfl rfl (List.mem_singleton.mpr rfl) dX6_readNumber_64 (fun H locs h_21 eh_21 hW hT hs => ?_)
            case o75 => decide
            case o76 => omega
            case o77 => omega
            replace hM := hM.tr (hs.mono ?o78)
            case o78 => decide
            have f_22 : h_21.2.1 x 2 = x_20 := ?o79
            case o79 =>
              rw [eh_21]
              exact hx_pi_at _ _ _ _
            refine lv_goto (tgt := 7) hx hb dX6_readNumber_67 ?o80 ?_
            case o80 => decide
            refine ih7 iv7_2 x_20 _ _ L_6 h_21 ?o81 ?o82 ?o83 ?o84 (vi7_0.trans (hv_sn_i ?o85 ?o86 (by rcases hr_10 with z | z; exact z.2.2; exfalso; omega) zx_20)) (hv_dv_k vi7_1 ?o87 zx_20) ?o88 ?o89 ?o90 ls ?o91 hW hT hM f_22  (lv_sub hl [0, 1, 2] rfl)
            case o81 => omega
            case o82 => omega
            case o83 => omega
            case o84 => omega
            case o85 => omega
            case o86 => omega
            case o87 => omega
            case o88 => omega
            case o89 => omega
            case o90 => omega
            case o91 => omega
          · skip
            refine lv_iload_n hx hb dX6_readNumber_39 rfl (lv_at hl 0 rfl) ?_
            refine lv_bipush (v := 10) hx hb dX6_readNumber_40 ?o92 ?_
            case o92 => decide
            refine lv_imul hx hb dX6_readNumber_42 ?_
            refine lv_topi (fun x_23 ex_23 => ?_)
            have zx_23 : x_23.toInt = iv7_2.toInt * 10 := ?o93
            case o93 =>
              rw [ex_23]
              refine i32_mul rfl ?o94 rfl ?o95 ?o96
              case o94 => decide
              case o95 => omega
              case o96 => omega
            refine lv_aload_n hx hb dX6_readNumber_43 rfl (lv_at hl 2 rfl) ?_
            refine hk_getr hx hb hts hC_6 hown hW (gx.S hM) tt_6 0 ?o97 rfl kw_125 ⟨rfl, rfl, rfl⟩ ((hM.o gx trivial rfl).2.trans f_x_0) dX6_readNumber_44 ?_
            case o97 => decide
            refine lv_aload_n hx hb dX6_readNumber_47 rfl (lv_at hl 2 rfl) ?_
            refine hk_geti hx hb hts hC_6 hown hW (gx.S hM) tt_6 2 ?o98 rfl kw_127 ⟨rfl, rfl, rfl⟩ ffw7_x_2 dX6_readNumber_48 ?_
            case o98 => decide
            refine hx_bald hx hb hW hT (gqt.S hM) tt_42 rfl ⟨?o99, ?o100⟩ dX6_readNumber_51 (fun x_24 ex_24 lx_24 ux_24 => ?_)
            case o99 => omega
            case o100 => omega
            have ax_24 : x_24 = tf fw7_x_2.toNatClampNeg := ex_24.trans (congrFun (hx_afS hM gqt rfl af_qt) _)
            have hyd := hv_dg_u (by rcases hr_10 with z | z; exact z.2.2; exfalso; omega) ax_24
            refine lv_iadd hx hb dX6_readNumber_52 ?_
            have rg_25 := i32_r x_23
            have rg_26 := i32_r x_24
            refine lv_topi (fun x_27 ex_27 => ?_)
            have zx_27 : x_27.toInt = x_23.toInt + x_24.toInt := ?o101
            case o101 =>
              rw [ex_27]
              refine i32_add rfl rfl ?o102 ?o103
              case o102 => omega
              case o103 => omega
            refine lv_bipush (v := 48) hx hb dX6_readNumber_53 ?o104 ?_
            case o104 => decide
            refine lv_isub hx hb dX6_readNumber_55 ?_
            have rg_28 := i32_r x_27
            refine lv_topi (fun x_29 ex_29 => ?_)
            have zx_29 : x_29.toInt = x_27.toInt - 48 := ?o105
            case o105 =>
              rw [ex_29]
              refine i32_sub rfl ?o106 ?o107 ?o108
              case o106 => decide
              case o107 => omega
              case o108 => omega
            refine lv_istore_n (lv' := [(2, .int x_29), (1, .int at0), (0, .ref x)]) hx hb dX6_readNumber_56 rfl hl ?o109 rfl (fun ls hl => ?_)
            case o109 => decide
            refine lv_aload_n hx hb dX6_readNumber_57 rfl (lv_at hl 2 rfl) ?_
            refine lv_dup hx hb dX6_readNumber_58 rfl ?_
            refine hk_geti hx hb hts hC_6 hown hW (gx.S hM) tt_6 2 ?o110 rfl kw_127 ⟨rfl, rfl, rfl⟩ ffw7_x_2 dX6_readNumber_59 ?_
            case o110 => decide
            refine lv_iconst (v := 1) hx hb dX6_readNumber_62 ?o111 ?_
            case o111 => decide
            refine lv_iadd hx hb dX6_readNumber_63 ?_
            refine lv_topi (fun x_30 ex_30 => ?_)
            have zx_30 : x_30.toInt = fw7_x_2.toInt + 1 := ?o112
            case o112 =>
              rw [ex_30]
              refine i32_add rfl ?o113 ?o114 ?o115
              case o113 => decide
              case o114 => omega
              case o115 => omega
            refine hx_puti hx hb hts hC_6 hown hW hT (hx_S.rf (M := [(6, 2)])) (gx.S hM) tt_6 2 ?o116 rfl kw_127 ⟨rfl, rfl, rfl⟩ rfl (x := x_30) ⟨?o117, ?o118⟩ rfl rfl rfl (List.mem_singleton.mpr rfl) dX6_readNumber_64 (fun H locs h_31 eh_31 hW hT hs => ?_)
            case o116 => decide
            case o117 => omega
            case o118 => omega
            replace ex_24 := ex_24.trans (hs.a (gqt.S hM) rfl _).1.symm
            replace hM := hM.tr (hs.mono ?o119)
            case o119 => decide
            have f_32 : h_31.2.1 x 2 = x_30 := ?o120
            case o120 =>
              rw [eh_31]
              exact hx_pi_at _ _ _ _
            refine lv_goto (tgt := 7) hx hb dX6_readNumber_67 ?o121 ?_
            case o121 => decide
            refine ih7 x_29 x_30 _ _ L_6 h_31 ?o122 ?o123 ?o124 ?o125 (vi7_0.trans (hv_sn_i ?o126 ?o127 (by rcases hr_10 with z | z; exact z.2.2; exfalso; omega) zx_30)) (hv_dv_s vi7_1 ?o128 ?o129 ?o130 ax_24 ?o131 zx_30) ?o132 ?o133 ?o134 ls ?o135 hW hT hM f_32  (lv_sub hl [0, 1, 2] rfl)
            case o122 => omega
            case o123 => omega
            case o124 => omega
            case o125 => omega
            case o126 => omega
            case o127 => omega
            case o128 => omega
            case o129 => omega
            case o130 => omega
            case o131 => omega
            case o132 => omega
            case o133 => omega
            case o134 => omega
            case o135 => omega
  have zk_0 : (0 : Int32).toInt = 0 := ?o136
  case o136 => decide
  refine loop7 403 (0 : Int32) at0 _ _ L h ?o137 ?o138 ?o139 ?o140 rfl (by rw [zk_0, show min (at0.toInt - at0.toInt).toNat 4 = 0 by omega]; rfl) ?o141 ?o142 ?o143 ls ?o144 hW hT hM f_x_2  hl
  case o137 => decide
  case o138 => decide
  case o139 => omega
  case o140 => omega
  case o141 => omega
  case o142 => omega
  case o143 => omega
  case o144 => omega


set_option maxHeartbeats 4000000 in
set_option maxRecDepth 100000 in
theorem t_X6_readSign_v (l : Launch) (dC : Nat → ClassId) (dI : Nat → Nat → Nat) (dA : Nat → ClassId) (L : List Nat) (h : hx_h) (sz : Nat) (x : Nat) (hT : hx_T T_tb L h) (gx : hx_g L h x 6) (qt : Nat) (gqt : hx_g L h qt 42) (f_x_0 : h.2.2 x 0 = some qt) (tf : Nat → Int32) (af_qt : h.2.1 qt = tf) (at0 : Int32) (f_x_2 : h.2.1 x 2 = at0) (ln0 : Int32) (f_x_1 : h.2.1 x 1 = ln0) (hA : at0.toInt ≤ ln0.toInt) : Met l yX6_readSign (Cond.code yX6_readSign cX6_readSign 2 (some .int) :: hx_all) ({ frames := 1, cells := 0, slots := 0, locals := 21 }) (va_Pc [.ref x] (hx_B T_tb (P_ty dA) (dC, dI) vwCl L h sz)) (va_Qi (fun (r : Int32) (u : List Nat × hx_h) => (∃ (at1 : Int32), u.2.2.1 x 2 = at1 ∧ (at1.toInt = ((hv_sk tf ln0.toInt.toNat at0.toInt.toNat + (hv_sg tf ln0.toInt.toNat (hv_sk tf ln0.toInt.toNat at0.toInt.toNat)).2 : Nat) : Int) ∧ r.toInt = hv_scd (hv_sg tf ln0.toInt.toNat (hv_sk tf ln0.toInt.toNat at0.toInt.toNat)))) ∧ hx_T T_tb u.1 u.2 ∧ hx_S T_tb [(6, 2)] L h u.1 u.2) (hx_E T_tb (P_ty dA) (dC, dI) vwCl (hx_A L sz)) (hx_A L sz)) 0 0 (hx_A L sz) := by
  refine hx_met (lv := [(0, .ref x)]) (by decide +kernel) rfl (Nat.le_of_ble_eq_true rfl) rfl ?_
  intro p e s m below meth c hx hb hml hr hlk hts0 hown hin hsz hW ls hl
  have hts : ∀ w ∈ hx_all, w.before _ s = true := fun w hw => hts0 w (List.mem_cons_of_mem _ hw)
  have hown : s.vm.findClass "SmallCourt$Reader" = some m.cls := hown
  have hM : hx_S T_tb [(6, 2)] L h L h := hx_S.rf
  have b_at0 := hT.gi gx tt_6 (k := 2) rfl
  rw [f_x_2] at b_at0
  have b_at0 : 0 ≤ at0.toInt ∧ at0.toInt ≤ 402 := b_at0
  have b_ln0 := hT.gi gx tt_6 (k := 1) rfl
  rw [f_x_1] at b_ln0
  have b_ln0 : 0 ≤ ln0.toInt ∧ ln0.toInt ≤ 400 := b_ln0
  refine lv_aload_n hx hb dX6_readSign_0 rfl (lv_at hl 0 rfl) ?_
  refine hx_gov (hx_runV (As := []) (rest := []) ⟨hx, hb, hml, hown, hts⟩ hW (gx.S hM) tt_6 (T := TX6) (N := 7) rfl (t_X6_skipBlanks_v l dC dI dA L h s.heap.size x hT (gx.S hM) qt (gqt.S hM) ((hM.o gx trivial rfl).2.trans f_x_0) tf (hx_afS hM gqt rfl af_qt) at0 f_x_2 ln0 ((hM.o gx trivial rfl).1.trans f_x_1) ?o0) (cwV 0 hts (hx_gV kw_458 kw_455 kw_457 kw_1 kw_95) rfl rfl rfl (by decide +kernel) ⟨Nat.le_of_ble_eq_true rfl, Nat.le_of_ble_eq_true rfl⟩) rfl hl.1 rfl (Nat.le_of_ble_eq_true rfl) dX6_readSign_1 ⟨Nat.le_of_ble_eq_true rfl, Nat.le_of_ble_eq_true rfl⟩) hW (fun L_1 h_2 H locs p_4 hW => ?_)
  case o0 => omega
  obtain ⟨⟨w_6, fw_6, hr_5⟩, hT, hs⟩ := p_4
  replace hT : hx_T T_tb L_1 h_2 := hT
  replace hs : hx_S T_tb [(6, 2)] L h L_1 h_2 := hs
  replace hM := hM.tr (hs.mono ?o1)
  case o1 => decide
  have fw_6 : h_2.2.1 x 2 = w_6 := fw_6
  have bw_6 := hT.gi (gx.S hM) tt_6 (k := 2) rfl
  rw [fw_6] at bw_6
  have bw_6 : 0 ≤ w_6.toInt ∧ w_6.toInt ≤ 402 := bw_6
  have ek_7 : w_6.toInt.toNat = hv_sk tf ln0.toInt.toNat at0.toInt.toNat := ?o2
  case o2 => omega
  refine lv_aload_n hx hb dX6_readSign_4 rfl (lv_at hl 0 rfl) ?_
  refine lv_bipush (v := 60) hx hb dX6_readSign_5 ?o3 ?_
  case o3 => decide
  have zc_60 : (60 : Int32).toInt = 60 := ?o4
  case o4 => decide
  refine hx_goi (hx_runV (As := [.int (60 : Int32)]) (rest := []) ⟨hx, hb, hml, hown, hts⟩ hW (gx.S hM) tt_6 (T := TX6) (N := 7) rfl (t_X6_isByte_v l dC dI dA L_1 h_2 H.size x (60 : Int32) hT (gx.S hM) qt (gqt.S hM) ((hM.o gx trivial rfl).2.trans f_x_0) tf (hx_afS hM gqt rfl af_qt) w_6 fw_6 ln0 ((hM.o gx trivial rfl).1.trans f_x_1)) (cwV 1 hts (hx_gV kw_569 kw_566 kw_568 kw_15 kw_95) rfl rfl rfl (by decide +kernel) ⟨Nat.le_of_ble_eq_true rfl, Nat.le_of_ble_eq_true rfl⟩) rfl hl.1 rfl (Nat.le_of_ble_eq_true rfl) dX6_readSign_7 ⟨Nat.le_of_ble_eq_true rfl, Nat.le_of_ble_eq_true rfl⟩) hW (fun r_10 L_8 h_9 H locs p_11 hW => ?_)
  obtain ⟨hr_12, hT, hs⟩ := p_11
  replace hT : hx_T T_tb L_8 h_9 := hT
  replace hs : hx_S T_tb [] L_1 h_2 L_8 h_9 := hs
  replace fw_6 := (hs.o (gx.S hM) trivial rfl).1.trans fw_6
  replace hM := hM.tr (hs.mono ?o5)
  case o5 => decide
  refine hb_if_eq (zx := r_10.toInt) (tgt := 17) hx hb rfl dX6_readSign_10 ?o6 (fun c_13 => ?_) (fun c_13 => ?_)
  case o6 => decide
  · skip
    refine lv_aload_n hx hb dX6_readSign_17 rfl (lv_at hl 0 rfl) ?_
    refine lv_bipush (v := 62) hx hb dX6_readSign_18 ?o7 ?_
    case o7 => decide
    have zc_62 : (62 : Int32).toInt = 62 := ?o8
    case o8 => decide
    refine hx_goi (hx_runV (As := [.int (62 : Int32)]) (rest := []) ⟨hx, hb, hml, hown, hts⟩ hW (gx.S hM) tt_6 (T := TX6) (N := 7) rfl (t_X6_isByte_v l dC dI dA L_8 h_9 H.size x (62 : Int32) hT (gx.S hM) qt (gqt.S hM) ((hM.o gx trivial rfl).2.trans f_x_0) tf (hx_afS hM gqt rfl af_qt) w_6 fw_6 ln0 ((hM.o gx trivial rfl).1.trans f_x_1)) (cwV 1 hts (hx_gV kw_569 kw_566 kw_568 kw_15 kw_95) rfl rfl rfl (by decide +kernel) ⟨Nat.le_of_ble_eq_true rfl, Nat.le_of_ble_eq_true rfl⟩) rfl hl.1 rfl (Nat.le_of_ble_eq_true rfl) dX6_readSign_20 ⟨Nat.le_of_ble_eq_true rfl, Nat.le_of_ble_eq_true rfl⟩) hW (fun r_16 L_14 h_15 H locs p_17 hW => ?_)
    obtain ⟨hr_18, hT, hs⟩ := p_17
    replace hT : hx_T T_tb L_14 h_15 := hT
    replace hs : hx_S T_tb [] L_8 h_9 L_14 h_15 := hs
    replace fw_6 := (hs.o (gx.S hM) trivial rfl).1.trans fw_6
    replace hM := hM.tr (hs.mono ?o9)
    case o9 => decide
    refine hb_if_eq (zx := r_16.toInt) (tgt := 30) hx hb rfl dX6_readSign_23 ?o10 (fun c_19 => ?_) (fun c_19 => ?_)
    case o10 => decide
    · skip
      refine lv_iconst (v := 0) hx hb dX6_readSign_30 ?o11 ?_
      case o11 => decide
      refine lv_istore_n (lv' := [(1, .int (0 : Int32)), (0, .ref x)]) hx hb dX6_readSign_31 rfl hl ?o12 rfl (fun ls hl => ?_)
      case o12 => decide
      refine lv_iload_n hx hb dX6_readSign_32 rfl (lv_at hl 0 rfl) ?_
      refine hb_if_eq (zx := 0) (tgt := 46) hx hb ?o13 dX6_readSign_33 ?o14 (fun c_20 => ?_) (fun c_20 => absurd c_20 ?o15)
      case o13 => decide
      case o14 => decide
      case o15 => decide
      refine lv_aload_n hx hb dX6_readSign_46 rfl (lv_at hl 1 rfl) ?_
      refine lv_bipush (v := 61) hx hb dX6_readSign_47 ?o16 ?_
      case o16 => decide
      have zc_61 : (61 : Int32).toInt = 61 := ?o17
      case o17 => decide
      refine hx_goi (hx_runV (As := [.int (61 : Int32)]) (rest := []) ⟨hx, hb, hml, hown, hts⟩ hW (gx.S hM) tt_6 (T := TX6) (N := 7) rfl (t_X6_isByte_v l dC dI dA L_14 h_15 H.size x (61 : Int32) hT (gx.S hM) qt (gqt.S hM) ((hM.o gx trivial rfl).2.trans f_x_0) tf (hx_afS hM gqt rfl af_qt) w_6 fw_6 ln0 ((hM.o gx trivial rfl).1.trans f_x_1)) (cwV 1 hts (hx_gV kw_569 kw_566 kw_568 kw_15 kw_95) rfl rfl rfl (by decide +kernel) ⟨Nat.le_of_ble_eq_true rfl, Nat.le_of_ble_eq_true rfl⟩) rfl hl.1 rfl (Nat.le_of_ble_eq_true rfl) dX6_readSign_49 ⟨Nat.le_of_ble_eq_true rfl, Nat.le_of_ble_eq_true rfl⟩) hW (fun r_23 L_21 h_22 H locs p_24 hW => ?_)
      obtain ⟨hr_25, hT, hs⟩ := p_24
      replace hT : hx_T T_tb L_21 h_22 := hT
      replace hs : hx_S T_tb [] L_14 h_15 L_21 h_22 := hs
      replace fw_6 := (hs.o (gx.S hM) trivial rfl).1.trans fw_6
      replace hM := hM.tr (hs.mono ?o18)
      case o18 => decide
      refine hb_if_eq (zx := r_23.toInt) (tgt := 69) hx hb rfl dX6_readSign_52 ?o19 (fun c_26 => ?_) (fun c_26 => ?_)
      case o19 => decide
      · skip
        refine lv_iload_n hx hb dX6_readSign_69 rfl (lv_at hl 0 rfl) ?_
        exact hx_reti hx hb hr hlk hW ⟨⟨w_6, fw_6, ⟨(by rw [← ek_7, hv_sg_0 (by rcases hr_12 with z | z; (exfalso; omega); exact z.2) (by rcases hr_18 with z | z; (exfalso; omega); exact z.2) (by rcases hr_25 with z | z; (exfalso; omega); exact z.2) (by omega)]; show _ = ((w_6.toInt.toNat + 0 : Nat) : Int); omega), (by rw [← ek_7, hv_sg_0 (by rcases hr_12 with z | z; (exfalso; omega); exact z.2) (by rcases hr_18 with z | z; (exfalso; omega); exact z.2) (by rcases hr_25 with z | z; (exfalso; omega); exact z.2) (by omega)]; decide)⟩⟩, hT, hM⟩ dX6_readSign_70
      · skip
        refine lv_aload_n hx hb dX6_readSign_55 rfl (lv_at hl 1 rfl) ?_
        refine lv_dup hx hb dX6_readSign_56 rfl ?_
        refine hk_geti hx hb hts hC_6 hown hW (gx.S hM) tt_6 2 ?o20 rfl kw_127 ⟨rfl, rfl, rfl⟩ fw_6 dX6_readSign_57 ?_
        case o20 => decide
        refine lv_iconst (v := 1) hx hb dX6_readSign_60 ?o21 ?_
        case o21 => decide
        refine lv_iadd hx hb dX6_readSign_61 ?_
        have rg_27 := i32_r w_6
        refine lv_topi (fun x_28 ex_28 => ?_)
        have zx_28 : x_28.toInt = w_6.toInt + 1 := ?o22
        case o22 =>
          rw [ex_28]
          refine i32_add rfl ?o23 ?o24 ?o25
          case o23 => decide
          case o24 => omega
          case o25 => omega
        refine hx_puti hx hb hts hC_6 hown hW hT (hx_S.rf (M := [(6, 2)])) (gx.S hM) tt_6 2 ?o26 rfl kw_127 ⟨rfl, rfl, rfl⟩ rfl (x := x_28) ⟨?o27, ?o28⟩ rfl rfl rfl (List.mem_singleton.mpr rfl) dX6_readSign_62 (fun H locs h_29 eh_29 hW hT hs => ?_)
        case o26 => decide
        case o27 => omega
        case o28 => omega
        replace hM := hM.tr (hs.mono ?o29)
        case o29 => decide
        have f_30 : h_29.2.1 x 2 = x_28 := ?o30
        case o30 =>
          rw [eh_29]
          exact hx_pi_at _ _ _ _
        refine lv_iload_n hx hb dX6_readSign_65 rfl (lv_at hl 0 rfl) ?_
        refine lv_iconst (v := 2) hx hb dX6_readSign_66 ?o31 ?_
        case o31 => decide
        refine lv_ior hx hb dX6_readSign_67 ?_
        refine lv_topi (fun x_31 ex_31 => ?_)
        obtain rfl : x_31 = (2 : Int32) := ex_31.trans (by decide)
        refine lv_istore_n (lv' := [(1, .int (2 : Int32)), (0, .ref x)]) hx hb dX6_readSign_68 rfl hl ?o32 rfl (fun ls hl => ?_)
        case o32 => decide
        refine lv_iload_n hx hb dX6_readSign_69 rfl (lv_at hl 0 rfl) ?_
        exact hx_reti hx hb hr hlk hW ⟨⟨x_28, f_30, ⟨(by rw [← ek_7, hv_sg_2 (by rcases hr_25 with z | z; exact z.2; exfalso; omega) (by omega)]; show _ = ((w_6.toInt.toNat + 1 : Nat) : Int); omega), (by rw [← ek_7, hv_sg_2 (by rcases hr_25 with z | z; exact z.2; exfalso; omega) (by omega)]; decide)⟩⟩, hT, hM⟩ dX6_readSign_70
    · skip
      refine lv_iconst (v := 4) hx hb dX6_readSign_26 ?o33 ?_
      case o33 => decide
      refine lv_goto (tgt := 31) hx hb dX6_readSign_27 ?o34 ?_
      case o34 => decide
      refine lv_istore_n (lv' := [(1, .int (4 : Int32)), (0, .ref x)]) hx hb dX6_readSign_31 rfl hl ?o35 rfl (fun ls hl => ?_)
      case o35 => decide
      refine lv_iload_n hx hb dX6_readSign_32 rfl (lv_at hl 0 rfl) ?_
      refine hb_if_eq (zx := 4) (tgt := 46) hx hb ?o36 dX6_readSign_33 ?o37 (fun c_32 => absurd c_32 ?o38) (fun c_32 => ?_)
      case o36 => decide
      case o37 => decide
      case o38 => decide
      refine lv_aload_n hx hb dX6_readSign_36 rfl (lv_at hl 1 rfl) ?_
      refine lv_dup hx hb dX6_readSign_37 rfl ?_
      refine hk_geti hx hb hts hC_6 hown hW (gx.S hM) tt_6 2 ?o39 rfl kw_127 ⟨rfl, rfl, rfl⟩ fw_6 dX6_readSign_38 ?_
      case o39 => decide
      refine lv_iconst (v := 1) hx hb dX6_readSign_41 ?o40 ?_
      case o40 => decide
      refine lv_iadd hx hb dX6_readSign_42 ?_
      have rg_33 := i32_r w_6
      refine lv_topi (fun x_34 ex_34 => ?_)
      have zx_34 : x_34.toInt = w_6.toInt + 1 := ?o41
      case o41 =>
        rw [ex_34]
        refine i32_add rfl ?o42 ?o43 ?o44
        case o42 => decide
        case o43 => omega
        case o44 => omega
      refine hx_puti hx hb hts hC_6 hown hW hT (hx_S.rf (M := [(6, 2)])) (gx.S hM) tt_6 2 ?o45 rfl kw_127 ⟨rfl, rfl, rfl⟩ rfl (x := x_34) ⟨?o46, ?o47⟩ rfl rfl rfl (List.mem_singleton.mpr rfl) dX6_readSign_43 (fun H locs h_35 eh_35 hW hT hs => ?_)
      case o45 => decide
      case o46 => omega
      case o47 => omega
      replace hM := hM.tr (hs.mono ?o48)
      case o48 => decide
      have f_36 : h_35.2.1 x 2 = x_34 := ?o49
      case o49 =>
        rw [eh_35]
        exact hx_pi_at _ _ _ _
      refine lv_aload_n hx hb dX6_readSign_46 rfl (lv_at hl 1 rfl) ?_
      refine lv_bipush (v := 61) hx hb dX6_readSign_47 ?o50 ?_
      case o50 => decide
      have zc_61 : (61 : Int32).toInt = 61 := ?o51
      case o51 => decide
      refine hx_goi (hx_runV (As := [.int (61 : Int32)]) (rest := []) ⟨hx, hb, hml, hown, hts⟩ hW (gx.S hM) tt_6 (T := TX6) (N := 7) rfl (t_X6_isByte_v l dC dI dA L_14 h_35 H.size x (61 : Int32) hT (gx.S hM) qt (gqt.S hM) ((hM.o gx trivial rfl).2.trans f_x_0) tf (hx_afS hM gqt rfl af_qt) x_34 f_36 ln0 ((hM.o gx trivial rfl).1.trans f_x_1)) (cwV 1 hts (hx_gV kw_569 kw_566 kw_568 kw_15 kw_95) rfl rfl rfl (by decide +kernel) ⟨Nat.le_of_ble_eq_true rfl, Nat.le_of_ble_eq_true rfl⟩) rfl hl.1 rfl (Nat.le_of_ble_eq_true rfl) dX6_readSign_49 ⟨Nat.le_of_ble_eq_true rfl, Nat.le_of_ble_eq_true rfl⟩) hW (fun r_39 L_37 h_38 H locs p_40 hW => ?_)
      obtain ⟨hr_41, hT, hs⟩ := p_40
      replace hT : hx_T T_tb L_37 h_38 := hT
      replace hs : hx_S T_tb [] L_14 h_35 L_37 h_38 := hs
      replace f_36 := (hs.o (gx.S hM) trivial rfl).1.trans f_36
      replace hM := hM.tr (hs.mono ?o52)
      case o52 => decide
      refine hb_if_eq (zx := r_39.toInt) (tgt := 69) hx hb rfl dX6_readSign_52 ?o53 (fun c_42 => ?_) (fun c_42 => ?_)
      case o53 => decide
      · skip
        refine lv_iload_n hx hb dX6_readSign_69 rfl (lv_at hl 0 rfl) ?_
        exact hx_reti hx hb hr hlk hW ⟨⟨x_34, f_36, ⟨(by rw [← ek_7, hv_sg_4 (by rcases hr_18 with z | z; exact z.2; exfalso; omega) (by rcases hr_41 with z | z; (exfalso; omega); exact z.2) (by omega) zx_34]; show _ = ((w_6.toInt.toNat + 1 : Nat) : Int); omega), (by rw [← ek_7, hv_sg_4 (by rcases hr_18 with z | z; exact z.2; exfalso; omega) (by rcases hr_41 with z | z; (exfalso; omega); exact z.2) (by omega) zx_34]; decide)⟩⟩, hT, hM⟩ dX6_readSign_70
      · skip
        refine lv_aload_n hx hb dX6_readSign_55 rfl (lv_at hl 1 rfl) ?_
        refine lv_dup hx hb dX6_readSign_56 rfl ?_
        refine hk_geti hx hb hts hC_6 hown hW (gx.S hM) tt_6 2 ?o54 rfl kw_127 ⟨rfl, rfl, rfl⟩ f_36 dX6_readSign_57 ?_
        case o54 => decide
        refine lv_iconst (v := 1) hx hb dX6_readSign_60 ?o55 ?_
        case o55 => decide
        refine lv_iadd hx hb dX6_readSign_61 ?_
        have rg_43 := i32_r x_34
        refine lv_topi (fun x_44 ex_44 => ?_)
        have zx_44 : x_44.toInt = x_34.toInt + 1 := ?o56
        case o56 =>
          rw [ex_44]
          refine i32_add rfl ?o57 ?o58 ?o59
          case o57 => decide
          case o58 => omega
          case o59 => omega
        refine hx_puti hx hb hts hC_6 hown hW hT (hx_S.rf (M := [(6, 2)])) (gx.S hM) tt_6 2 ?o60 rfl kw_127 ⟨rfl, rfl, rfl⟩ rfl (x := x_44) ⟨?o61, ?o62⟩ rfl rfl rfl (List.mem_singleton.mpr rfl) dX6_readSign_62 (fun H locs h_45 eh_45 hW hT hs => ?_)
        case o60 => decide
        case o61 => omega
        case o62 => omega
        replace hM := hM.tr (hs.mono ?o63)
        case o63 => decide
        have f_46 : h_45.2.1 x 2 = x_44 := ?o64
        case o64 =>
          rw [eh_45]
          exact hx_pi_at _ _ _ _
        refine lv_iload_n hx hb dX6_readSign_65 rfl (lv_at hl 0 rfl) ?_
        refine lv_iconst (v := 2) hx hb dX6_readSign_66 ?o65 ?_
        case o65 => decide
        refine lv_ior hx hb dX6_readSign_67 ?_
        refine lv_topi (fun x_47 ex_47 => ?_)
        obtain rfl : x_47 = (6 : Int32) := ex_47.trans (by decide)
        refine lv_istore_n (lv' := [(1, .int (6 : Int32)), (0, .ref x)]) hx hb dX6_readSign_68 rfl hl ?o66 rfl (fun ls hl => ?_)
        case o66 => decide
        refine lv_iload_n hx hb dX6_readSign_69 rfl (lv_at hl 0 rfl) ?_
        exact hx_reti hx hb hr hlk hW ⟨⟨x_44, f_46, ⟨(by rw [← ek_7, hv_sg_6 (by rcases hr_18 with z | z; exact z.2; exfalso; omega) (by rcases hr_41 with z | z; exact z.2; exfalso; omega) (by omega) zx_34]; show _ = ((w_6.toInt.toNat + 2 : Nat) : Int); omega), (by rw [← ek_7, hv_sg_6 (by rcases hr_18 with z | z; exact z.2; exfalso; omega) (by rcases hr_41 with z | z; exact z.2; exfalso; omega) (by omega) zx_34]; decide)⟩⟩, hT, hM⟩ dX6_readSign_70
  · skip
    refine lv_iconst (v := 1) hx hb dX6_readSign_13 ?o67 ?_
    case o67 => decide
    refine lv_goto (tgt := 31) hx hb dX6_readSign_14 ?o68 ?_
    case o68 => decide
    refine lv_istore_n (lv' := [(1, .int (1 : Int32)), (0, .ref x)]) hx hb dX6_readSign_31 rfl hl ?o69 rfl (fun ls hl => ?_)
    case o69 => decide
    refine lv_iload_n hx hb dX6_readSign_32 rfl (lv_at hl 0 rfl) ?_
    refine hb_if_eq (zx := 1) (tgt := 46) hx hb ?o70 dX6_readSign_33 ?o71 (fun c_48 => absurd c_48 ?o72) (fun c_48 => ?_)
    case o70 => decide
    case o71 => decide
    case o72 => decide
    refine lv_aload_n hx hb dX6_readSign_36 rfl (lv_at hl 1 rfl) ?_
    refine lv_dup hx hb dX6_readSign_37 rfl ?_
    refine hk_geti hx hb hts hC_6 hown hW (gx.S hM) tt_6 2 ?o73 rfl kw_127 ⟨rfl, rfl, rfl⟩ fw_6 dX6_readSign_38 ?_
    case o73 => decide
    refine lv_iconst (v := 1) hx hb dX6_readSign_41 ?o74 ?_
    case o74 => decide
    refine lv_iadd hx hb dX6_readSign_42 ?_
    have rg_49 := i32_r w_6
    refine lv_topi (fun x_50 ex_50 => ?_)
    have zx_50 : x_50.toInt = w_6.toInt + 1 := ?o75
    case o75 =>
      rw [ex_50]
      refine i32_add rfl ?o76 ?o77 ?o78
      case o76 => decide
      case o77 => omega
      case o78 => omega
    refine hx_puti hx hb hts hC_6 hown hW hT (hx_S.rf (M := [(6, 2)])) (gx.S hM) tt_6 2 ?o79 rfl kw_127 ⟨rfl, rfl, rfl⟩ rfl (x := x_50) ⟨?o80, ?o81⟩ rfl rfl rfl (List.mem_singleton.mpr rfl) dX6_readSign_43 (fun H locs h_51 eh_51 hW hT hs => ?_)
    case o79 => decide
    case o80 => omega
    case o81 => omega
    replace hM := hM.tr (hs.mono ?o82)
    case o82 => decide
    have f_52 : h_51.2.1 x 2 = x_50 := ?o83
    case o83 =>
      rw [eh_51]
      exact hx_pi_at _ _ _ _
    refine lv_aload_n hx hb dX6_readSign_46 rfl (lv_at hl 1 rfl) ?_
    refine lv_bipush (v := 61) hx hb dX6_readSign_47 ?o84 ?_
    case o84 => decide
    have zc_61 : (61 : Int32).toInt = 61 := ?o85
    case o85 => decide
    refine hx_goi (hx_runV (As := [.int (61 : Int32)]) (rest := []) ⟨hx, hb, hml, hown, hts⟩ hW (gx.S hM) tt_6 (T := TX6) (N := 7) rfl (t_X6_isByte_v l dC dI dA L_8 h_51 H.size x (61 : Int32) hT (gx.S hM) qt (gqt.S hM) ((hM.o gx trivial rfl).2.trans f_x_0) tf (hx_afS hM gqt rfl af_qt) x_50 f_52 ln0 ((hM.o gx trivial rfl).1.trans f_x_1)) (cwV 1 hts (hx_gV kw_569 kw_566 kw_568 kw_15 kw_95) rfl rfl rfl (by decide +kernel) ⟨Nat.le_of_ble_eq_true rfl, Nat.le_of_ble_eq_true rfl⟩) rfl hl.1 rfl (Nat.le_of_ble_eq_true rfl) dX6_readSign_49 ⟨Nat.le_of_ble_eq_true rfl, Nat.le_of_ble_eq_true rfl⟩) hW (fun r_55 L_53 h_54 H locs p_56 hW => ?_)
    obtain ⟨hr_57, hT, hs⟩ := p_56
    replace hT : hx_T T_tb L_53 h_54 := hT
    replace hs : hx_S T_tb [] L_8 h_51 L_53 h_54 := hs
    replace f_52 := (hs.o (gx.S hM) trivial rfl).1.trans f_52
    replace hM := hM.tr (hs.mono ?o86)
    case o86 => decide
    refine hb_if_eq (zx := r_55.toInt) (tgt := 69) hx hb rfl dX6_readSign_52 ?o87 (fun c_58 => ?_) (fun c_58 => ?_)
    case o87 => decide
    · skip
      refine lv_iload_n hx hb dX6_readSign_69 rfl (lv_at hl 0 rfl) ?_
      exact hx_reti hx hb hr hlk hW ⟨⟨x_50, f_52, ⟨(by rw [← ek_7, hv_sg_1 (by rcases hr_12 with z | z; exact z.2; exfalso; omega) (by rcases hr_57 with z | z; (exfalso; omega); exact z.2) (by omega) zx_50]; show _ = ((w_6.toInt.toNat + 1 : Nat) : Int); omega), (by rw [← ek_7, hv_sg_1 (by rcases hr_12 with z | z; exact z.2; exfalso; omega) (by rcases hr_57 with z | z; (exfalso; omega); exact z.2) (by omega) zx_50]; decide)⟩⟩, hT, hM⟩ dX6_readSign_70
    · skip
      refine lv_aload_n hx hb dX6_readSign_55 rfl (lv_at hl 1 rfl) ?_
      refine lv_dup hx hb dX6_readSign_56 rfl ?_
      refine hk_geti hx hb hts hC_6 hown hW (gx.S hM) tt_6 2 ?o88 rfl kw_127 ⟨rfl, rfl, rfl⟩ f_52 dX6_readSign_57 ?_
      case o88 => decide
      refine lv_iconst (v := 1) hx hb dX6_readSign_60 ?o89 ?_
      case o89 => decide
      refine lv_iadd hx hb dX6_readSign_61 ?_
      have rg_59 := i32_r x_50
      refine lv_topi (fun x_60 ex_60 => ?_)
      have zx_60 : x_60.toInt = x_50.toInt + 1 := ?o90
      case o90 =>
        rw [ex_60]
        refine i32_add rfl ?o91 ?o92 ?o93
        case o91 => decide
        case o92 => omega
        case o93 => omega
      refine hx_puti hx hb hts hC_6 hown hW hT (hx_S.rf (M := [(6, 2)])) (gx.S hM) tt_6 2 ?o94 rfl kw_127 ⟨rfl, rfl, rfl⟩ rfl (x := x_60) ⟨?o95, ?o96⟩ rfl rfl rfl (List.mem_singleton.mpr rfl) dX6_readSign_62 (fun H locs h_61 eh_61 hW hT hs => ?_)
      case o94 => decide
      case o95 => omega
      case o96 => omega
      replace hM := hM.tr (hs.mono ?o97)
      case o97 => decide
      have f_62 : h_61.2.1 x 2 = x_60 := ?o98
      case o98 =>
        rw [eh_61]
        exact hx_pi_at _ _ _ _
      refine lv_iload_n hx hb dX6_readSign_65 rfl (lv_at hl 0 rfl) ?_
      refine lv_iconst (v := 2) hx hb dX6_readSign_66 ?o99 ?_
      case o99 => decide
      refine lv_ior hx hb dX6_readSign_67 ?_
      refine lv_topi (fun x_63 ex_63 => ?_)
      obtain rfl : x_63 = (3 : Int32) := ex_63.trans (by decide)
      refine lv_istore_n (lv' := [(1, .int (3 : Int32)), (0, .ref x)]) hx hb dX6_readSign_68 rfl hl ?o100 rfl (fun ls hl => ?_)
      case o100 => decide
      refine lv_iload_n hx hb dX6_readSign_69 rfl (lv_at hl 0 rfl) ?_
      exact hx_reti hx hb hr hlk hW ⟨⟨x_60, f_62, ⟨(by rw [← ek_7, hv_sg_3 (by rcases hr_12 with z | z; exact z.2; exfalso; omega) (by rcases hr_57 with z | z; exact z.2; exfalso; omega) (by omega) zx_50]; show _ = ((w_6.toInt.toNat + 2 : Nat) : Int); omega), (by rw [← ek_7, hv_sg_3 (by rcases hr_12 with z | z; exact z.2; exfalso; omega) (by rcases hr_57 with z | z; exact z.2; exfalso; omega) (by omega) zx_50]; decide)⟩⟩, hT, hM⟩ dX6_readSign_70
end
