
set_option maxHeartbeats 4000000 in
set_option maxRecDepth 100000 in
theorem t_X8_isIn_2 (l : Launch) (dC : Nat → ClassId) (dI : Nat → Nat → Nat) (dA : Nat → ClassId) (L : List Nat) (h : hx_h) (sz : Nat) (i1 : Int32) (i2 : Int32) (hT : hx_T T_tb L h)  (hi1 : 0 ≤ i1.toInt ∧ i1.toInt ≤ 7) (hi2 : 0 ≤ i2.toInt ∧ i2.toInt ≤ 255) : Met l yX8_isIn (Cond.code yX8_isIn cX8_isIn 2 (some .boolean) :: hx_all) ({ frames := 0, cells := 0, slots := 0, locals := 0 }) (va_Pc [.int i1, .int i2] (hx_B T_tb (P_ty dA) (dC, dI) vwCl L h sz)) (va_Qi (fun (r : Int32) (u : List Nat × hx_h) => ((r.toInt = 1 ∧ hx_bt i2.toInt i1.toInt = true) ∨ (r.toInt = 0 ∧ hx_bt i2.toInt i1.toInt = false)) ∧ hx_T T_tb u.1 u.2 ∧ hx_S T_tb [] L h u.1 u.2) (hx_E T_tb (P_ty dA) (dC, dI) vwCl (hx_A L sz)) (hx_A L sz)) 0 0 (hx_A L sz) := by
  refine hx_met (lv := [(0, .int i1), (1, .int i2)]) (by decide +kernel) rfl (Nat.le_of_ble_eq_true rfl) rfl ?_
  intro p e s m below meth c hx hb hml hr hlk hts0 hown hin hsz hW ls hl
  have hts : ∀ w ∈ hx_all, w.before _ s = true := fun w hw => hts0 w (List.mem_cons_of_mem _ hw)
  have hown : s.vm.findClass "SmallCourt$Walk" = some m.cls := hown
  have hM : hx_S T_tb [] L h L h := hx_S.rf
  have hbits := hx_bits (L := i2) (K := i1) (by omega) (by omega) (by omega) (by omega)
  refine lv_iload_n hx hb dX8_isIn_0 rfl (lv_at hl 1 rfl) ?_
  refine lv_iload_n hx hb dX8_isIn_1 rfl (lv_at hl 0 rfl) ?_
  refine lv_ishr hx hb dX8_isIn_2 ?_
  refine lv_topi (fun x_1 ex_1 => ?_)
  refine lv_iconst (v := 1) hx hb dX8_isIn_3 (by decide) ?_
  refine lv_iand hx hb dX8_isIn_4 ?_
  refine lv_topi (fun x_2 ex_2 => ?_)
  have zx_2 : 0 ≤ x_2.toInt ∧ x_2.toInt ≤ 1 := by rw [ex_2]; exact hx_andR (by decide) (by decide)
  refine lv_iconst (v := 1) hx hb dX8_isIn_5 (by decide) ?_
  refine hb_icmp_ne (zx := x_2.toInt) (zy := 1) (tgt := 13) hx hb rfl (by decide) dX8_isIn_6 (by decide) (fun c_3 => ?_) (fun c_3 => ?_)
  · skip
    have hbf := hx_bit_no hbits.1 ex_1 ex_2 (by omega)
    refine lv_iconst (v := 0) hx hb dX8_isIn_13 (by decide) ?_
    exact hx_retz hx hb hr rfl hlk hW ⟨(Or.inr ⟨by decide, hbf⟩), hT, hM⟩ dX8_isIn_14
  · skip
    have hbt := hx_bit_yes hbits.1 ex_1 ex_2 (by omega)
    refine lv_iconst (v := 1) hx hb dX8_isIn_9 (by decide) ?_
    refine lv_goto (tgt := 14) hx hb dX8_isIn_10 (by decide) ?_
    exact hx_retz hx hb hr rfl hlk hW ⟨(Or.inl ⟨by decide, hbt⟩), hT, hM⟩ dX8_isIn_14


set_option maxHeartbeats 4000000 in
set_option maxRecDepth 100000 in
theorem t_X8_between_2 (l : Launch) (dC : Nat → ClassId) (dI : Nat → Nat → Nat) (dA : Nat → ClassId) (L : List Nat) (h : hx_h) (sz : Nat) (v1 : Nat) (v2 : Nat) (hT : hx_T T_tb L h) (gv1 : hx_g L h v1 4) (gv2 : hx_g L h v2 4) (x1 : Int32) (f_v1_5 : h.2.1 v1 5 = x1) (y1 : Int32) (f_v1_6 : h.2.1 v1 6 = y1) (x2 : Int32) (f_v2_5 : h.2.1 v2 5 = x2) (y2 : Int32) (f_v2_6 : h.2.1 v2 6 = y2) (hb4 : (0 ≤ x1.toInt ∧ x1.toInt ≤ 99) ∧ (0 ≤ y1.toInt ∧ y1.toInt ≤ 99) ∧ (0 ≤ x2.toInt ∧ x2.toInt ≤ 99) ∧ (0 ≤ y2.toInt ∧ y2.toInt ≤ 99)) : Met l yX8_between (Cond.code yX8_between cX8_between 2 (some .int) :: hx_all) ({ frames := 1, cells := 0, slots := 0, locals := 21 }) (va_Pc [.ref v1, .ref v2] (hx_B T_tb (P_ty dA) (dC, dI) vwCl L h sz)) (va_Qi (fun (r : Int32) (u : List Nat × hx_h) => (r.toInt = hx_ab x1.toInt x2.toInt + hx_ab y1.toInt y2.toInt ∧ 0 ≤ r.toInt ∧ r.toInt ≤ 198) ∧ hx_T T_tb u.1 u.2 ∧ hx_S T_tb [] L h u.1 u.2) (hx_E T_tb (P_ty dA) (dC, dI) vwCl (hx_A L sz)) (hx_A L sz)) 0 0 (hx_A L sz) := by
  refine hx_met (lv := [(0, .ref v1), (1, .ref v2)]) (by decide +kernel) rfl (Nat.le_of_ble_eq_true rfl) rfl ?_
  intro p e s m below meth c hx hb hml hr hlk hts0 hown hin hsz hW ls hl
  have hts : ∀ w ∈ hx_all, w.before _ s = true := fun w hw => hts0 w (List.mem_cons_of_mem _ hw)
  have hown : s.vm.findClass "SmallCourt$Walk" = some m.cls := hown
  have hM : hx_S T_tb [] L h L h := hx_S.rf
  have b_x1 := hT.gi gv1 tt_4 (k := 5) rfl
  rw [f_v1_5] at b_x1
  have b_x1 : -2147483648 ≤ x1.toInt ∧ x1.toInt ≤ 2147483647 := b_x1
  have b_y1 := hT.gi gv1 tt_4 (k := 6) rfl
  rw [f_v1_6] at b_y1
  have b_y1 : -2147483648 ≤ y1.toInt ∧ y1.toInt ≤ 2147483647 := b_y1
  have b_x2 := hT.gi gv2 tt_4 (k := 5) rfl
  rw [f_v2_5] at b_x2
  have b_x2 : -2147483648 ≤ x2.toInt ∧ x2.toInt ≤ 2147483647 := b_x2
  have b_y2 := hT.gi gv2 tt_4 (k := 6) rfl
  rw [f_v2_6] at b_y2
  have b_y2 : -2147483648 ≤ y2.toInt ∧ y2.toInt ≤ 2147483647 := b_y2
  refine lv_aload_n hx hb dX8_between_0 rfl (lv_at hl 0 rfl) ?_
  refine hk_geti hx hb hts hC_4 hown hW (gv1.S hM) tt_4 5 (by decide) rfl kw_619 ⟨rfl, rfl, rfl⟩ ((hM.o gv1 trivial rfl).1.trans f_v1_5) dX8_between_1 ?_
  refine lv_aload_n hx hb dX8_between_4 rfl (lv_at hl 1 rfl) ?_
  refine hk_geti hx hb hts hC_4 hown hW (gv2.S hM) tt_4 5 (by decide) rfl kw_619 ⟨rfl, rfl, rfl⟩ ((hM.o gv2 trivial rfl).1.trans f_v2_5) dX8_between_5 ?_
  refine lv_isub hx hb dX8_between_8 ?_
  have rg_1 := i32_r x1
  have rg_2 := i32_r x2
  refine lv_topi (fun x_3 ex_3 => ?_)
  have zx_3 : x_3.toInt = x1.toInt - x2.toInt := by rw [ex_3]; exact i32_sub rfl rfl (by omega) (by omega)
  refine va_mabs hx hb (hml.trans hl.1.symm) hown (hts _ kw_1063) (hts _ kw_706) (hts _ kw_109) (hts _ kw_707) (Nat.le_of_ble_eq_true rfl) (Nat.le_of_ble_eq_true rfl) (Nat.le_of_ble_eq_true rfl) (Nat.le_of_ble_eq_true rfl) dX8_between_9 ?_
  refine lv_topi (fun x_4 ex_4 => ?_)
  have hab1 := hy_abs ex_4 (by omega) (by omega)
  refine lv_aload_n hx hb dX8_between_12 rfl (lv_at hl 0 rfl) ?_
  refine hk_geti hx hb hts hC_4 hown hW (gv1.S hM) tt_4 6 (by decide) rfl kw_621 ⟨rfl, rfl, rfl⟩ ((hM.o gv1 trivial rfl).1.trans f_v1_6) dX8_between_13 ?_
  refine lv_aload_n hx hb dX8_between_16 rfl (lv_at hl 1 rfl) ?_
  refine hk_geti hx hb hts hC_4 hown hW (gv2.S hM) tt_4 6 (by decide) rfl kw_621 ⟨rfl, rfl, rfl⟩ ((hM.o gv2 trivial rfl).1.trans f_v2_6) dX8_between_17 ?_
  refine lv_isub hx hb dX8_between_20 ?_
  have rg_5 := i32_r y1
  have rg_6 := i32_r y2
  refine lv_topi (fun x_7 ex_7 => ?_)
  have zx_7 : x_7.toInt = y1.toInt - y2.toInt := by rw [ex_7]; exact i32_sub rfl rfl (by omega) (by omega)
  refine va_mabs hx hb (hml.trans hl.1.symm) hown (hts _ kw_1063) (hts _ kw_706) (hts _ kw_109) (hts _ kw_707) (Nat.le_of_ble_eq_true rfl) (Nat.le_of_ble_eq_true rfl) (Nat.le_of_ble_eq_true rfl) (Nat.le_of_ble_eq_true rfl) dX8_between_21 ?_
  refine lv_topi (fun x_8 ex_8 => ?_)
  have hab2 := hy_abs ex_8 (by omega) (by omega)
  refine lv_iadd hx hb dX8_between_24 ?_
  have rg_9 := i32_r x_4
  have rg_10 := i32_r x_8
  refine lv_topi (fun x_11 ex_11 => ?_)
  have zx_11 : x_11.toInt = x_4.toInt + x_8.toInt := by rw [ex_11]; exact i32_add rfl rfl (by omega) (by omega)
  exact hx_reti hx hb hr hlk hW ⟨⟨by simp only [hx_ab]; (repeat' split) <;> omega, by omega, by omega⟩, hT, hM⟩ dX8_between_25


set_option maxHeartbeats 4000000 in
set_option maxRecDepth 100000 in
theorem t_X8_fromCourt_2 (l : Launch) (dC : Nat → ClassId) (dI : Nat → Nat → Nat) (dA : Nat → ClassId) (L : List Nat) (h : hx_h) (sz : Nat) (x : Nat) (i1 : Int32) (hT : hx_T T_tb L h) (gx : hx_g L h x 8) (ql : Nat) (gql : hx_g L h ql 40) (f_x_3 : h.2.2 x 3 = some ql)  (cn : Int32) (f_x_0 : h.2.1 x 0 = cn) (hi1 : 0 ≤ i1.toInt ∧ i1.toInt < cn.toInt) (cfx cfy : Nat → Int32) (hGx : hx_dc h ql 2 5 cfx cn.toInt) (hGy : hx_dc h ql 2 6 cfy cn.toInt) (hBx : ∀ k : Nat, (k : Int) < cn.toInt → 0 ≤ (cfx k).toInt ∧ (cfx k).toInt ≤ 99) (hBy : ∀ k : Nat, (k : Int) < cn.toInt → 0 ≤ (cfy k).toInt ∧ (cfy k).toInt ≤ 99) (pf_x_0 : ∀ j : Nat, (j : Int) < (h.2.1 x 0).toInt → h.2.2 ql j ≠ none) : Met l yX8_fromCourt (Cond.code yX8_fromCourt cX8_fromCourt 3 (some .int) :: hx_all) ({ frames := 1, cells := 0, slots := 0, locals := 21 }) (va_Pc [.ref x, .int i1] (hx_B T_tb (P_ty dA) (dC, dI) vwCl L h sz)) (va_Qi (fun (r : Int32) (u : List Nat × hx_h) => (r.toInt = hx_fg cfx cfy cn.toInt i1.toInt cn.toInt ∧ 0 ≤ r.toInt ∧ r.toInt ≤ 198) ∧ hx_T T_tb u.1 u.2 ∧ hx_S T_tb [] L h u.1 u.2) (hx_E T_tb (P_ty dA) (dC, dI) vwCl (hx_A L sz)) (hx_A L sz)) 0 0 (hx_A L sz) := by
  refine hx_met (lv := [(0, .ref x), (1, .int i1)]) (by decide +kernel) rfl (Nat.le_of_ble_eq_true rfl) rfl ?_
  intro p e s m below meth c hx hb hml hr hlk hts0 hown hin hsz hW ls hl
  have hts : ∀ w ∈ hx_all, w.before _ s = true := fun w hw => hts0 w (List.mem_cons_of_mem _ hw)
  have hown : s.vm.findClass "SmallCourt$Walk" = some m.cls := hown
  have hM : hx_S T_tb [] L h L h := hx_S.rf
  have b_cn := hT.gi gx tt_8 (k := 0) rfl
  rw [f_x_0] at b_cn
  have b_cn : 0 ≤ cn.toInt ∧ cn.toInt ≤ 8 := b_cn
  refine lv_aload_n hx hb dX8_fromCourt_0 rfl (lv_at hl 0 rfl) ?_
  refine hk_getr hx hb hts hC_8 hown hW (gx.S hM) tt_8 3 (by decide) rfl kw_351 ⟨rfl, rfl, rfl⟩ ((hM.o gx trivial rfl).2.trans f_x_3) dX8_fromCourt_1 ?_
  refine lv_iload_n hx hb dX8_fromCourt_4 rfl (lv_at hl 1 rfl) ?_
  refine hx_aaldN hx hb hW hT gql tt_40 (t1 := 2) rfl ⟨by omega, by omega⟩ (pf_x_0 _ (by rw [((hM.o gx trivial rfl).1.trans f_x_0)]; exact hx_tnI (by omega) (by omega))) dX8_fromCourt_5 (fun q_1 fq_1 gq_1 => ?_)
  refine hx_getn hx hb hts hC_2 hown hW hT gq_1 tt_2 2 (by decide) rfl kw_732 ⟨rfl, rfl, rfl⟩ dX8_fromCourt_6 (fun q_2 fq_2 gq_2 => ?_)
  refine lv_astore_n (lv' := [(2, .ref q_2), (0, .ref x), (1, .int i1)]) hx hb dX8_fromCourt_9 rfl hl (by decide) rfl (fun ls hl => ?_)
  refine lv_aload_n hx hb dX8_fromCourt_10 rfl (lv_at hl 0 rfl) ?_
  refine hx_geti hx hb hts hC_4 hown hW hT gq_2 tt_4 5 (by decide) rfl kw_619 ⟨rfl, rfl, rfl⟩ dX8_fromCourt_11 (fun x_3 ex_3 lx_3 ux_3 => ?_)
  have fx_3 := ex_3.symm
  have hX_4 : x_3 = cfx i1.toInt.toNat := fx_3.symm.trans (hGx i1.toNatClampNeg (by unfold Int32.toNatClampNeg; omega) _ _ fq_1 fq_2)
  have bhX_4 := hBx i1.toInt.toNat (by omega)
  rw [← hX_4] at bhX_4
  refine lv_bipush (v := 50) hx hb dX8_fromCourt_14 (by decide) ?_
  refine lv_isub hx hb dX8_fromCourt_16 ?_
  have rg_5 := i32_r x_3
  refine lv_topi (fun x_6 ex_6 => ?_)
  have zx_6 : x_6.toInt = x_3.toInt - 50 := by rw [ex_6]; exact i32_sub rfl (by decide) (by omega) (by omega)
  have hTo := hT
  refine va_mabs hx hb (hml.trans hl.1.symm) hown (hts _ kw_1063) (hts _ kw_706) (hts _ kw_109) (hts _ kw_707) (Nat.le_of_ble_eq_true rfl) (Nat.le_of_ble_eq_true rfl) (Nat.le_of_ble_eq_true rfl) (Nat.le_of_ble_eq_true rfl) dX8_fromCourt_17 ?_
  refine lv_topi (fun x_7 ex_7 => ?_)
  have hab1 := hy_abs ex_7 (by omega) (by omega)
  refine lv_aload_n hx hb dX8_fromCourt_20 rfl (lv_at hl 0 rfl) ?_
  refine hx_geti hx hb hts hC_4 hown hW hT gq_2 tt_4 6 (by decide) rfl kw_621 ⟨rfl, rfl, rfl⟩ dX8_fromCourt_21 (fun x_8 ex_8 lx_8 ux_8 => ?_)
  have fx_8 := ex_8.symm
  have hX_9 : x_8 = cfy i1.toInt.toNat := fx_8.symm.trans (hGy i1.toNatClampNeg (by unfold Int32.toNatClampNeg; omega) _ _ fq_1 fq_2)
  have bhX_9 := hBy i1.toInt.toNat (by omega)
  rw [← hX_9] at bhX_9
  refine lv_bipush (v := 50) hx hb dX8_fromCourt_24 (by decide) ?_
  refine lv_isub hx hb dX8_fromCourt_26 ?_
  have rg_10 := i32_r x_8
  refine lv_topi (fun x_11 ex_11 => ?_)
  have zx_11 : x_11.toInt = x_8.toInt - 50 := by rw [ex_11]; exact i32_sub rfl (by decide) (by omega) (by omega)
  have hTo := hT
  refine va_mabs hx hb (hml.trans hl.1.symm) hown (hts _ kw_1063) (hts _ kw_706) (hts _ kw_109) (hts _ kw_707) (Nat.le_of_ble_eq_true rfl) (Nat.le_of_ble_eq_true rfl) (Nat.le_of_ble_eq_true rfl) (Nat.le_of_ble_eq_true rfl) dX8_fromCourt_27 ?_
  refine lv_topi (fun x_12 ex_12 => ?_)
  have hab2 := hy_abs ex_12 (by omega) (by omega)
  refine lv_iadd hx hb dX8_fromCourt_30 ?_
  have rg_13 := i32_r x_7
  have rg_14 := i32_r x_12
  refine lv_topi (fun x_15 ex_15 => ?_)
  have zx_15 : x_15.toInt = x_7.toInt + x_12.toInt := by rw [ex_15]; exact i32_add rfl rfl (by omega) (by omega)
  exact hx_reti hx hb hr hlk hW ⟨⟨by unfold hx_fg; rw [hw_cg_lt (n := cn.toInt) (i := i1.toInt) (by omega) hX_4, hw_cg_n, hw_cg_lt (n := cn.toInt) (i := i1.toInt) (by omega) hX_9, hw_cg_n]; simp only [hx_ab]; (repeat' split) <;> omega, by omega, by omega⟩, hT, hM⟩ dX8_fromCourt_31


set_option maxHeartbeats 4000000 in
set_option maxRecDepth 100000 in
theorem t_X8_stepsBy_2 (l : Launch) (dC : Nat → ClassId) (dI : Nat → Nat → Nat) (dA : Nat → ClassId) (L : List Nat) (h : hx_h) (sz : Nat) (x : Nat) (i1 : Int32) (i2 : Int32) (i3 : Int32) (hT : hx_T T_tb L h) (gx : hx_g L h x 8) (ql : Nat) (gql : hx_g L h ql 40) (f_x_3 : h.2.2 x 3 = some ql) (qlf : Nat) (gqlf : hx_g L h qlf 41) (f_x_4 : h.2.2 x 4 = some qlf) (lff : Nat → Int32) (af_qlf : h.2.1 qlf = lff) (cn : Int32) (f_x_0 : h.2.1 x 0 = cn) (hi1 : 0 ≤ i1.toInt ∧ i1.toInt < 2 ^ cn.toInt.toNat) (hi2 : -1 ≤ i2.toInt ∧ i2.toInt < cn.toInt) (hi3 : 0 ≤ i3.toInt ∧ i3.toInt < cn.toInt) (cfx cfy : Nat → Int32) (hGx : hx_dc h ql 2 5 cfx cn.toInt) (hGy : hx_dc h ql 2 6 cfy cn.toInt) (hBx : ∀ k : Nat, (k : Int) < cn.toInt → 0 ≤ (cfx k).toInt ∧ (cfx k).toInt ≤ 99) (hBy : ∀ k : Nat, (k : Int) < cn.toInt → 0 ≤ (cfy k).toInt ∧ (cfy k).toInt ≤ 99) (hk : hx_bt i1.toInt i3.toInt = false) (hE : hw_E (hx_fg cfx cfy cn.toInt) (hw_HC cn.toInt lff) cn.toInt (2 ^ cn.toInt.toNat - 1 - i1.toInt) 0) (pf_x_0 : ∀ j : Nat, (j : Int) < (h.2.1 x 0).toInt → h.2.2 ql j ≠ none) : Met l yX8_stepsBy (Cond.code yX8_stepsBy cX8_stepsBy 5 (some .int) :: hx_all) ({ frames := 2, cells := 0, slots := 0, locals := 43 }) (va_Pc [.ref x, .int i1, .int i2, .int i3] (hx_B T_tb (P_ty dA) (dC, dI) vwCl L h sz)) (va_Qi (fun (r : Int32) (u : List Nat × hx_h) => (r.toInt = (hx_fg cfx cfy cn.toInt) (hw_la cn.toInt i2.toInt) i3.toInt + (hw_HC cn.toInt lff) (2 ^ cn.toInt.toNat - 1 - i1.toInt - hx_p2 i3.toInt) i3.toInt ∧ 0 ≤ r.toInt ∧ r.toInt ≤ 198 * (2 ^ cn.toInt.toNat - 1 - i1.toInt + 1)) ∧ hx_T T_tb u.1 u.2 ∧ hx_S T_tb [] L h u.1 u.2) (hx_E T_tb (P_ty dA) (dC, dI) vwCl (hx_A L sz)) (hx_A L sz)) 0 0 (hx_A L sz) := by
  refine hx_met (lv := [(0, .ref x), (1, .int i1), (2, .int i2), (3, .int i3)]) (by decide +kernel) rfl (Nat.le_of_ble_eq_true rfl) rfl ?_
  intro p e s m below meth c hx hb hml hr hlk hts0 hown hin hsz hW ls hl
  have hts : ∀ w ∈ hx_all, w.before _ s = true := fun w hw => hts0 w (List.mem_cons_of_mem _ hw)
  have hown : s.vm.findClass "SmallCourt$Walk" = some m.cls := hown
  have hM : hx_S T_tb [] L h L h := hx_S.rf
  have b_cn := hT.gi gx tt_8 (k := 0) rfl
  rw [f_x_0] at b_cn
  have b_cn : 0 ≤ cn.toInt ∧ cn.toInt ≤ 8 := b_cn
  have hpn := hx_p2n (n := cn.toInt) (by omega) (by omega)
  refine lv_iload_n hx hb dX8_stepsBy_0 rfl (lv_at hl 2 rfl) ?_
  refine lv_iconst (v := -1) hx hb dX8_stepsBy_1 (by decide) ?_
  refine hb_icmp_ne (zx := i2.toInt) (zy := (-1)) (tgt := 13) hx hb rfl (by decide) dX8_stepsBy_2 (by decide) (fun c_1 => ?_) (fun c_1 => ?_)
  · skip
    refine lv_aload_n hx hb dX8_stepsBy_13 rfl (lv_at hl 0 rfl) ?_
    refine hk_getr hx hb hts hC_8 hown hW (gx.S hM) tt_8 3 (by decide) rfl kw_351 ⟨rfl, rfl, rfl⟩ ((hM.o gx trivial rfl).2.trans f_x_3) dX8_stepsBy_14 ?_
    refine lv_iload_n hx hb dX8_stepsBy_17 rfl (lv_at hl 2 rfl) ?_
    refine hx_aaldN hx hb hW hT gql tt_40 (t1 := 2) rfl ⟨by omega, by omega⟩ (pf_x_0 _ (by rw [((hM.o gx trivial rfl).1.trans f_x_0)]; exact hx_tnI (by omega) (by omega))) dX8_stepsBy_18 (fun q_2 fq_2 gq_2 => ?_)
    refine hx_getn hx hb hts hC_2 hown hW hT gq_2 tt_2 2 (by decide) rfl kw_732 ⟨rfl, rfl, rfl⟩ dX8_stepsBy_19 (fun q_3 fq_3 gq_3 => ?_)
    refine lv_aload_n hx hb dX8_stepsBy_22 rfl (lv_at hl 0 rfl) ?_
    refine hk_getr hx hb hts hC_8 hown hW (gx.S hM) tt_8 3 (by decide) rfl kw_351 ⟨rfl, rfl, rfl⟩ ((hM.o gx trivial rfl).2.trans f_x_3) dX8_stepsBy_23 ?_
    refine lv_iload_n hx hb dX8_stepsBy_26 rfl (lv_at hl 3 rfl) ?_
    refine hx_aaldN hx hb hW hT gql tt_40 (t1 := 2) rfl ⟨by omega, by omega⟩ (pf_x_0 _ (by rw [((hM.o gx trivial rfl).1.trans f_x_0)]; exact hx_tnI (by omega) (by omega))) dX8_stepsBy_27 (fun q_4 fq_4 gq_4 => ?_)
    refine hx_getn hx hb hts hC_2 hown hW hT gq_4 tt_2 2 (by decide) rfl kw_732 ⟨rfl, rfl, rfl⟩ dX8_stepsBy_28 (fun q_5 fq_5 gq_5 => ?_)
    have hTo := hT
    obtain ⟨fv_6, efv_6⟩ : ∃ y : Int32, y = h.2.1 q_3 5 := ⟨_, rfl⟩
    have bfv_6 := hT.gi gq_3 tt_4 (k := 5) rfl
    rw [← efv_6] at bfv_6
    have bfv_6 : -2147483648 ≤ fv_6.toInt ∧ fv_6.toInt ≤ 2147483647 := bfv_6
    have ffv_6 := efv_6.symm
    obtain ⟨fv_7, efv_7⟩ : ∃ y : Int32, y = h.2.1 q_3 6 := ⟨_, rfl⟩
    have bfv_7 := hT.gi gq_3 tt_4 (k := 6) rfl
    rw [← efv_7] at bfv_7
    have bfv_7 : -2147483648 ≤ fv_7.toInt ∧ fv_7.toInt ≤ 2147483647 := bfv_7
    have ffv_7 := efv_7.symm
    obtain ⟨fv_8, efv_8⟩ : ∃ y : Int32, y = h.2.1 q_5 5 := ⟨_, rfl⟩
    have bfv_8 := hT.gi gq_5 tt_4 (k := 5) rfl
    rw [← efv_8] at bfv_8
    have bfv_8 : -2147483648 ≤ fv_8.toInt ∧ fv_8.toInt ≤ 2147483647 := bfv_8
    have ffv_8 := efv_8.symm
    obtain ⟨fv_9, efv_9⟩ : ∃ y : Int32, y = h.2.1 q_5 6 := ⟨_, rfl⟩
    have bfv_9 := hT.gi gq_5 tt_4 (k := 6) rfl
    rw [← efv_9] at bfv_9
    have bfv_9 : -2147483648 ≤ fv_9.toInt ∧ fv_9.toInt ≤ 2147483647 := bfv_9
    have ffv_9 := efv_9.symm
    have hX_10 : fv_6 = cfx i2.toInt.toNat := ffv_6.symm.trans (hGx i2.toNatClampNeg (by unfold Int32.toNatClampNeg; omega) _ _ fq_2 fq_3)
    have bhX_10 := hBx i2.toInt.toNat (by omega)
    rw [← hX_10] at bhX_10
    have hX_11 : fv_8 = cfx i3.toInt.toNat := ffv_8.symm.trans (hGx i3.toNatClampNeg (by unfold Int32.toNatClampNeg; omega) _ _ fq_4 fq_5)
    have bhX_11 := hBx i3.toInt.toNat (by omega)
    rw [← hX_11] at bhX_11
    have hX_12 : fv_7 = cfy i2.toInt.toNat := ffv_7.symm.trans (hGy i2.toNatClampNeg (by unfold Int32.toNatClampNeg; omega) _ _ fq_2 fq_3)
    have bhX_12 := hBy i2.toInt.toNat (by omega)
    rw [← hX_12] at bhX_12
    have hX_13 : fv_9 = cfy i3.toInt.toNat := ffv_9.symm.trans (hGy i3.toNatClampNeg (by unfold Int32.toNatClampNeg; omega) _ _ fq_4 fq_5)
    have bhX_13 := hBy i3.toInt.toNat (by omega)
    rw [← hX_13] at bhX_13
    refine hx_goi (hx_runS (As := [.ref q_3, .ref q_5]) (rest := []) ⟨hx, hb, hml, hown, hts⟩ hW (t_X8_between_2 l dC dI dA L h s.heap.size q_3 q_5 hT gq_3 gq_5 fv_6 ffv_6 fv_7 ffv_7 fv_8 ffv_8 fv_9 ffv_9 ⟨⟨by omega, by omega⟩, ⟨by omega, by omega⟩, ⟨by omega, by omega⟩, ⟨by omega, by omega⟩⟩) (va_cwS 2 hts (hx_gS kw_1075 kw_1073 kw_1074 kw_102) rfl rfl rfl (by decide +kernel) ⟨Nat.le_of_ble_eq_true rfl, Nat.le_of_ble_eq_true rfl⟩) rfl hl.1 rfl (Nat.le_of_ble_eq_true rfl) dX8_stepsBy_31 ⟨Nat.le_of_ble_eq_true rfl, Nat.le_of_ble_eq_true rfl⟩) hW (fun r_16 L_14 h_15 H locs p_17 hW => ?_)
    obtain ⟨hr_18, hT, hs⟩ := p_17
    replace hT : hx_T T_tb L_14 h_15 := hT
    replace hs : hx_S T_tb [] L h L_14 h_15 := hs
    replace fq_3 := (hs.o gq_2 trivial rfl).2.trans fq_3
    replace fq_5 := (hs.o gq_4 trivial rfl).2.trans fq_5
    replace ffv_6 := (hs.o gq_3 trivial rfl).1.trans ffv_6
    replace ffv_7 := (hs.o gq_3 trivial rfl).1.trans ffv_7
    replace ffv_8 := (hs.o gq_5 trivial rfl).1.trans ffv_8
    replace ffv_9 := (hs.o gq_5 trivial rfl).1.trans ffv_9
    replace pf_x_0 : ∀ j : Nat, (j : Int) < (h_15.2.1 x 0).toInt → h_15.2.2 ql j ≠ none := by
      intro j hj; rw [(hs.o (gx.S hM) trivial rfl).1] at hj; rw [(hs.a gql rfl j).2]; exact pf_x_0 j hj
    replace hGx : hx_dc h_15 ql 2 5 cfx cn.toInt := hx_dc_S hs hTo gql tt_40 tt_2 rfl tt_4 rfl rfl rfl (by omega) hGx
    replace hGy : hx_dc h_15 ql 2 6 cfy cn.toInt := hx_dc_S hs hTo gql tt_40 tt_2 rfl tt_4 rfl rfl rfl (by omega) hGy
    replace fq_2 := (hs.a gql rfl _).2.trans fq_2
    replace fq_4 := (hs.a gql rfl _).2.trans fq_4
    replace hM := hM.tr (hs.mono (by decide))
    replace gql := gql.S hs
    replace gq_2 := gq_2.S hs
    replace gq_3 := gq_3.S hs
    replace gq_4 := gq_4.S hs
    replace gq_5 := gq_5.S hs
    have hF : r_16.toInt = (hx_fg cfx cfy cn.toInt) (hw_la cn.toInt i2.toInt) i3.toInt := by rw [hw_la2 (by omega)]; unfold hx_fg; rw [hw_cg_lt (n := cn.toInt) (i := i2.toInt) (by omega) hX_10, hw_cg_lt (n := cn.toInt) (i := i3.toInt) (by omega) hX_11, hw_cg_lt (n := cn.toInt) (i := i2.toInt) (by omega) hX_12, hw_cg_lt (n := cn.toInt) (i := i3.toInt) (by omega) hX_13]; exact hr_18.1
    refine lv_istore (lv' := [(4, .int r_16), (0, .ref x), (1, .int i1), (2, .int i2), (3, .int i3)]) hx hb dX8_stepsBy_34 hl (by decide) rfl (fun ls hl => ?_)
    refine lv_iload hx hb dX8_stepsBy_36 (lv_at hl 0 rfl) ?_
    refine lv_aload_n hx hb dX8_stepsBy_38 rfl (lv_at hl 1 rfl) ?_
    refine hk_getr hx hb hts hC_8 hown hW (gx.S hM) tt_8 4 (by decide) rfl kw_352 ⟨rfl, rfl, rfl⟩ ((hM.o gx trivial rfl).2.trans f_x_4) dX8_stepsBy_39 ?_
    refine lv_iload_n hx hb dX8_stepsBy_42 rfl (lv_at hl 2 rfl) ?_
    refine lv_iconst (v := 1) hx hb dX8_stepsBy_43 (by decide) ?_
    refine lv_iload_n hx hb dX8_stepsBy_44 rfl (lv_at hl 4 rfl) ?_
    refine lv_ishl hx hb dX8_stepsBy_45 ?_
    refine lv_topi (fun x_19 ex_19 => ?_)
    have zx_19 : 1 ≤ x_19.toInt ∧ x_19.toInt ≤ 128 := by rw [ex_19]; exact hx_shl7 (by omega) (by omega)
    refine lv_ior hx hb dX8_stepsBy_46 ?_
    refine lv_topi (fun x_20 ex_20 => ?_)
    have zx_20 : 0 ≤ x_20.toInt ∧ x_20.toInt ≤ 255 := by rw [ex_20]; exact hx_or8 (by omega) (by omega) (by omega) (by omega)
    have hlw := hw_lk (n := cn.toInt) (B := i1) (K := i3) (by omega) (by omega) (by omega) (by omega) (by omega) (by omega) hk hE
    rw [← ex_19, ← ex_20] at hlw
    have hlw1 := hlw.1; have hlw2 := hlw.2.1; have hlw3 := hlw.2.2.1
    refine lv_bipush (v := 8) hx hb dX8_stepsBy_47 (by decide) ?_
    refine lv_imul hx hb dX8_stepsBy_49 ?_
    refine lv_topi (fun x_21 ex_21 => ?_)
    have zx_21 : x_21.toInt = x_20.toInt * 8 := by rw [ex_21]; exact i32_mul rfl (by decide) rfl (by omega) (by omega)
    refine lv_iload_n hx hb dX8_stepsBy_50 rfl (lv_at hl 4 rfl) ?_
    refine lv_iadd hx hb dX8_stepsBy_51 ?_
    have rg_22 := i32_r x_21
    have rg_23 := i32_r i3
    refine lv_topi (fun x_24 ex_24 => ?_)
    have zx_24 : x_24.toInt = x_21.toInt + i3.toInt := by rw [ex_24]; exact i32_add rfl rfl (by omega) (by omega)
    refine hx_iald hx hb hW hT (gqlf.S hM) tt_41 rfl ⟨by omega, by omega⟩ dX8_stepsBy_52 (fun x_25 ex_25 lx_25 ux_25 => ?_)
    have ax_25 : x_25 = lff x_24.toNatClampNeg := ex_25.trans (congrFun (hx_afS hM gqlf rfl af_qlf) _)
    have hv : x_25.toInt = hw_HC cn.toInt lff (2 ^ cn.toInt.toNat - 1 - i1.toInt - hx_p2 i3.toInt) i3.toInt := hw_HCv ax_25 (by unfold Int32.toNatClampNeg; omega)
    have hv1 := hlw.2.2.2.2.1; have hv2 := hlw.2.2.2.2.2; rw [← hv] at hv1 hv2
    refine lv_iadd hx hb dX8_stepsBy_53 ?_
    have rg_26 := i32_r r_16
    have rg_27 := i32_r x_25
    refine lv_topi (fun x_28 ex_28 => ?_)
    have zx_28 : x_28.toInt = r_16.toInt + x_25.toInt := by rw [ex_28]; exact i32_add rfl rfl (by omega) (by omega)
    exact hx_reti hx hb hr hlk hW ⟨⟨by rw [← hv, ← hF]; omega, by omega, by omega⟩, hT, hM⟩ dX8_stepsBy_54
  · skip
    refine lv_aload_n hx hb dX8_stepsBy_5 rfl (lv_at hl 0 rfl) ?_
    refine lv_iload_n hx hb dX8_stepsBy_6 rfl (lv_at hl 3 rfl) ?_
    have hTo := hT
    refine hx_goi (hx_runV (As := [.int i3]) (rest := []) ⟨hx, hb, hml, hown, hts⟩ hW (gx.S hM) tt_8 (T := TX8) (N := 5) rfl (t_X8_fromCourt_2 l dC dI dA L h s.heap.size x i3 hT (gx.S hM) ql gql ((hM.o gx trivial rfl).2.trans f_x_3) cn ((hM.o gx trivial rfl).1.trans f_x_0) ⟨by omega, by omega⟩ cfx cfy hGx hGy hBx hBy pf_x_0) (cwV 1 hts (hx_gV kw_1062 kw_1059 kw_1061 kw_42 kw_102) rfl rfl rfl (by decide +kernel) ⟨Nat.le_of_ble_eq_true rfl, Nat.le_of_ble_eq_true rfl⟩) rfl hl.1 rfl (Nat.le_of_ble_eq_true rfl) dX8_stepsBy_7 ⟨Nat.le_of_ble_eq_true rfl, Nat.le_of_ble_eq_true rfl⟩) hW (fun r_31 L_29 h_30 H locs p_32 hW => ?_)
    obtain ⟨hr_33, hT, hs⟩ := p_32
    replace hT : hx_T T_tb L_29 h_30 := hT
    replace hs : hx_S T_tb [] L h L_29 h_30 := hs
    replace pf_x_0 : ∀ j : Nat, (j : Int) < (h_30.2.1 x 0).toInt → h_30.2.2 ql j ≠ none := by
      intro j hj; rw [(hs.o (gx.S hM) trivial rfl).1] at hj; rw [(hs.a gql rfl j).2]; exact pf_x_0 j hj
    replace hGx : hx_dc h_30 ql 2 5 cfx cn.toInt := hx_dc_S hs hTo gql tt_40 tt_2 rfl tt_4 rfl rfl rfl (by omega) hGx
    replace hGy : hx_dc h_30 ql 2 6 cfy cn.toInt := hx_dc_S hs hTo gql tt_40 tt_2 rfl tt_4 rfl rfl rfl (by omega) hGy
    replace hM := hM.tr (hs.mono (by decide))
    replace gql := gql.S hs
    refine lv_goto (tgt := 34) hx hb dX8_stepsBy_10 (by decide) ?_
    have hF : r_31.toInt = (hx_fg cfx cfy cn.toInt) (hw_la cn.toInt i2.toInt) i3.toInt := by rw [hw_la1 (by omega), hw_fg_s]; exact hr_33.1
    refine lv_istore (lv' := [(4, .int r_31), (0, .ref x), (1, .int i1), (2, .int i2), (3, .int i3)]) hx hb dX8_stepsBy_34 hl (by decide) rfl (fun ls hl => ?_)
    refine lv_iload hx hb dX8_stepsBy_36 (lv_at hl 0 rfl) ?_
    refine lv_aload_n hx hb dX8_stepsBy_38 rfl (lv_at hl 1 rfl) ?_
    refine hk_getr hx hb hts hC_8 hown hW (gx.S hM) tt_8 4 (by decide) rfl kw_352 ⟨rfl, rfl, rfl⟩ ((hM.o gx trivial rfl).2.trans f_x_4) dX8_stepsBy_39 ?_
    refine lv_iload_n hx hb dX8_stepsBy_42 rfl (lv_at hl 2 rfl) ?_
    refine lv_iconst (v := 1) hx hb dX8_stepsBy_43 (by decide) ?_
    refine lv_iload_n hx hb dX8_stepsBy_44 rfl (lv_at hl 4 rfl) ?_
    refine lv_ishl hx hb dX8_stepsBy_45 ?_
    refine lv_topi (fun x_34 ex_34 => ?_)
    have zx_34 : 1 ≤ x_34.toInt ∧ x_34.toInt ≤ 128 := by rw [ex_34]; exact hx_shl7 (by omega) (by omega)
    refine lv_ior hx hb dX8_stepsBy_46 ?_
    refine lv_topi (fun x_35 ex_35 => ?_)
    have zx_35 : 0 ≤ x_35.toInt ∧ x_35.toInt ≤ 255 := by rw [ex_35]; exact hx_or8 (by omega) (by omega) (by omega) (by omega)
    have hlw := hw_lk (n := cn.toInt) (B := i1) (K := i3) (by omega) (by omega) (by omega) (by omega) (by omega) (by omega) hk hE
    rw [← ex_34, ← ex_35] at hlw
    have hlw1 := hlw.1; have hlw2 := hlw.2.1; have hlw3 := hlw.2.2.1
    refine lv_bipush (v := 8) hx hb dX8_stepsBy_47 (by decide) ?_
    refine lv_imul hx hb dX8_stepsBy_49 ?_
    refine lv_topi (fun x_36 ex_36 => ?_)
    have zx_36 : x_36.toInt = x_35.toInt * 8 := by rw [ex_36]; exact i32_mul rfl (by decide) rfl (by omega) (by omega)
    refine lv_iload_n hx hb dX8_stepsBy_50 rfl (lv_at hl 4 rfl) ?_
    refine lv_iadd hx hb dX8_stepsBy_51 ?_
    have rg_37 := i32_r x_36
    have rg_38 := i32_r i3
    refine lv_topi (fun x_39 ex_39 => ?_)
    have zx_39 : x_39.toInt = x_36.toInt + i3.toInt := by rw [ex_39]; exact i32_add rfl rfl (by omega) (by omega)
    refine hx_iald hx hb hW hT (gqlf.S hM) tt_41 rfl ⟨by omega, by omega⟩ dX8_stepsBy_52 (fun x_40 ex_40 lx_40 ux_40 => ?_)
    have ax_40 : x_40 = lff x_39.toNatClampNeg := ex_40.trans (congrFun (hx_afS hM gqlf rfl af_qlf) _)
    have hv : x_40.toInt = hw_HC cn.toInt lff (2 ^ cn.toInt.toNat - 1 - i1.toInt - hx_p2 i3.toInt) i3.toInt := hw_HCv ax_40 (by unfold Int32.toNatClampNeg; omega)
    have hv1 := hlw.2.2.2.2.1; have hv2 := hlw.2.2.2.2.2; rw [← hv] at hv1 hv2
    refine lv_iadd hx hb dX8_stepsBy_53 ?_
    have rg_41 := i32_r r_31
    have rg_42 := i32_r x_40
    refine lv_topi (fun x_43 ex_43 => ?_)
    have zx_43 : x_43.toInt = r_31.toInt + x_40.toInt := by rw [ex_43]; exact i32_add rfl rfl (by omega) (by omega)
    exact hx_reti hx hb hr hlk hW ⟨⟨by rw [← hv, ← hF]; omega, by omega, by omega⟩, hT, hM⟩ dX8_stepsBy_54


set_option maxHeartbeats 4000000 in
set_option maxRecDepth 100000 in
theorem t_X8_leastOn_2 (l : Launch) (dC : Nat → ClassId) (dI : Nat → Nat → Nat) (dA : Nat → ClassId) (L : List Nat) (h : hx_h) (sz : Nat) (x : Nat) (i1 : Int32) (i2 : Int32) (hT : hx_T T_tb L h) (gx : hx_g L h x 8) (ql : Nat) (gql : hx_g L h ql 40) (f_x_3 : h.2.2 x 3 = some ql) (qlf : Nat) (gqlf : hx_g L h qlf 41) (f_x_4 : h.2.2 x 4 = some qlf) (lff : Nat → Int32) (af_qlf : h.2.1 qlf = lff) (cn : Int32) (f_x_0 : h.2.1 x 0 = cn) (hi1 : 0 ≤ i1.toInt ∧ i1.toInt < 2 ^ cn.toInt.toNat - 1) (hi2 : -1 ≤ i2.toInt ∧ i2.toInt < cn.toInt) (cfx cfy : Nat → Int32) (hGx : hx_dc h ql 2 5 cfx cn.toInt) (hGy : hx_dc h ql 2 6 cfy cn.toInt) (hBx : ∀ k : Nat, (k : Int) < cn.toInt → 0 ≤ (cfx k).toInt ∧ (cfx k).toInt ≤ 99) (hBy : ∀ k : Nat, (k : Int) < cn.toInt → 0 ≤ (cfy k).toInt ∧ (cfy k).toInt ≤ 99) (hE : hw_E (hx_fg cfx cfy cn.toInt) (hw_HC cn.toInt lff) cn.toInt (2 ^ cn.toInt.toNat - 1 - i1.toInt) 0) (pf_x_0 : ∀ j : Nat, (j : Int) < (h.2.1 x 0).toInt → h.2.2 ql j ≠ none) : Met l yX8_leastOn (Cond.code yX8_leastOn cX8_leastOn 5 (some .int) :: hx_all) ({ frames := 3, cells := 0, slots := 0, locals := 67 }) (va_Pc [.ref x, .int i1, .int i2] (hx_B T_tb (P_ty dA) (dC, dI) vwCl L h sz)) (va_Qi (fun (r : Int32) (u : List Nat × hx_h) => (hx_mn (hx_fg cfx cfy cn.toInt) (hw_HC cn.toInt lff) cn.toInt (2 ^ cn.toInt.toNat - 1 - i1.toInt) (hw_la cn.toInt i2.toInt) r.toInt ∧ 0 ≤ r.toInt ∧ r.toInt ≤ 198 * (2 ^ cn.toInt.toNat - 1 - i1.toInt + 1)) ∧ hx_T T_tb u.1 u.2 ∧ hx_S T_tb [] L h u.1 u.2) (hx_E T_tb (P_ty dA) (dC, dI) vwCl (hx_A L sz)) (hx_A L sz)) 0 0 (hx_A L sz) := by
  refine hx_met (lv := [(0, .ref x), (1, .int i1), (2, .int i2)]) (by decide +kernel) rfl (Nat.le_of_ble_eq_true rfl) rfl ?_
  intro p e s m below meth c hx hb hml hr hlk hts0 hown hin hsz hW ls hl
  have hts : ∀ w ∈ hx_all, w.before _ s = true := fun w hw => hts0 w (List.mem_cons_of_mem _ hw)
  have hown : s.vm.findClass "SmallCourt$Walk" = some m.cls := hown
  have hM : hx_S T_tb [] L h L h := hx_S.rf
  have b_cn := hT.gi gx tt_8 (k := 0) rfl
  rw [f_x_0] at b_cn
  have b_cn : 0 ≤ cn.toInt ∧ cn.toInt ≤ 8 := b_cn
  have hpn := hx_p2n (n := cn.toInt) (by omega) (by omega)
  refine lv_ldc (v := 1000000000) hx hb hown (hts _ kw_1068) dX8_leastOn_0 ?_
  refine lv_istore_n (lv' := [(3, .int (1000000000 : Int32)), (0, .ref x), (1, .int i1), (2, .int i2)]) hx hb dX8_leastOn_2 rfl hl (by decide) rfl (fun ls hl => ?_)
  refine lv_iconst (v := 0) hx hb dX8_leastOn_3 (by decide) ?_
  refine lv_istore (lv' := [(4, .int (0 : Int32)), (3, .int (1000000000 : Int32)), (0, .ref x), (1, .int i1), (2, .int i2)]) hx hb dX8_leastOn_4 hl (by decide) rfl (fun ls hl => ?_)
  have loop6 : ∀ (n6 : Nat) (iv6_3 iv6_4 : Int32) (H : Heap) (locs : List Loc) (hL1 : List Nat) (hl1 : hx_h), -2147483648 ≤ iv6_3.toInt → iv6_3.toInt ≤ 2147483647 → 0 ≤ iv6_4.toInt → iv6_4.toInt ≤ 8 → (hw_bs (hx_fg cfx cfy cn.toInt) (hw_HC cn.toInt lff) (2 ^ cn.toInt.toNat - 1 - i1.toInt) (hw_la cn.toInt i2.toInt) iv6_4.toInt iv6_3.toInt) → (iv6_4.toInt ≤ cn.toInt) → ∀ (ls : Array Slot), 8 - iv6_4.toInt < (n6 : Int) → hx_W T_tb (P_ty dA) (dC, dI) vwCl (hx_A L sz) s.heap hL1 hl1 s H locs → hx_T T_tb hL1 hl1 → hx_S T_tb [] L h hL1 hl1 → hx_g hL1 hl1 ql 40 → (∀ j : Nat, (j : Int) < (hl1.2.1 x 0).toInt → hl1.2.2 ql j ≠ none) → hx_dc hl1 ql 2 5 cfx cn.toInt → hx_dc hl1 ql 2 6 cfy cn.toInt → lv_has ls 5 [(4, .int iv6_4), (3, .int iv6_3), (0, .ref x), (1, .int i1), (2, .int i2)] → W p l e ({ frames := 3, cells := 0, slots := 0, locals := 67 }) s m ([.ref x, .int i1, .int i2] : List Value).toArray below meth c H locs 0 0 (MQ below (va_Qi (fun (r : Int32) (u : List Nat × hx_h) => (hx_mn (hx_fg cfx cfy cn.toInt) (hw_HC cn.toInt lff) cn.toInt (2 ^ cn.toInt.toNat - 1 - i1.toInt) (hw_la cn.toInt i2.toInt) r.toInt ∧ 0 ≤ r.toInt ∧ r.toInt ≤ 198 * (2 ^ cn.toInt.toNat - 1 - i1.toInt + 1)) ∧ hx_T T_tb u.1 u.2 ∧ hx_S T_tb [] L h u.1 u.2) (hx_E T_tb (P_ty dA) (dC, dI) vwCl (hx_A L sz)) (hx_A L sz)) ([.ref x, .int i1, .int i2] : List Value).toArray s 0 0 (hx_A L sz)) (F0 m 6 ls []) := by
    intro n6
    induction n6 with
    | zero => intro iv6_3 iv6_4 H locs hL1 hl1 bliv6_3 buiv6_3 bliv6_4 buiv6_4 vi6_0 vi6_1 ls hn6; exfalso; omega
    | succ n6 ih6 =>
      intro iv6_3 iv6_4 H locs hL1 hl1 bliv6_3 buiv6_3 bliv6_4 buiv6_4 vi6_0 vi6_1 ls hn6 hW hT hM  gql pf_x_0 hGx hGy hl
      refine lv_iload hx hb dX8_leastOn_6 (lv_at hl 0 rfl) ?_
      refine lv_aload_n hx hb dX8_leastOn_8 rfl (lv_at hl 2 rfl) ?_
      refine hk_geti hx hb hts hC_8 hown hW (gx.S hM) tt_8 0 (by decide) rfl kw_345 ⟨rfl, rfl, rfl⟩ ((hM.o gx trivial rfl).1.trans f_x_0) dX8_leastOn_9 ?_
      refine hb_icmp_ge (zx := iv6_4.toInt) (zy := cn.toInt) (tgt := 43) hx hb rfl rfl dX8_leastOn_12 (by decide) (fun c_1 => ?_) (fun c_1 => ?_)
      · skip
        refine lv_iload_n hx hb dX8_leastOn_43 rfl (lv_at hl 1 rfl) ?_
        have hkn : iv6_4.toInt = cn.toInt := by omega
        have hfin := vi6_0
        rw [hkn] at hfin
        exact hx_reti hx hb hr hlk hW ⟨(hw_bs_mn (by omega) (by omega) hfin (by omega) (by omega)), hT, hM⟩ dX8_leastOn_44
      · skip
        refine lv_iload hx hb dX8_leastOn_15 (lv_at hl 0 rfl) ?_
        refine lv_iload_n hx hb dX8_leastOn_17 rfl (lv_at hl 3 rfl) ?_
        have hTo := hT
        refine hx_goi (hx_runS (As := [.int iv6_4, .int i1]) (rest := []) ⟨hx, hb, hml, hown, hts⟩ hW (t_X8_isIn_2 l dC dI dA hL1 hl1 H.size iv6_4 i1 hT ⟨by omega, by omega⟩ ⟨by omega, by omega⟩) (va_cwS 2 hts (hx_gS kw_1058 kw_1056 kw_1057 kw_102) rfl rfl rfl (by decide +kernel) ⟨Nat.le_of_ble_eq_true rfl, Nat.le_of_ble_eq_true rfl⟩) rfl hl.1 rfl (Nat.le_of_ble_eq_true rfl) dX8_leastOn_18 ⟨Nat.le_of_ble_eq_true rfl, Nat.le_of_ble_eq_true rfl⟩) hW (fun r_4 L_2 h_3 H locs p_5 hW => ?_)
        obtain ⟨hr_6, hT, hs⟩ := p_5
        replace hT : hx_T T_tb L_2 h_3 := hT
        replace hs : hx_S T_tb [] hL1 hl1 L_2 h_3 := hs
        replace pf_x_0 : ∀ j : Nat, (j : Int) < (h_3.2.1 x 0).toInt → h_3.2.2 ql j ≠ none := by
          intro j hj; rw [(hs.o (gx.S hM) trivial rfl).1] at hj; rw [(hs.a gql rfl j).2]; exact pf_x_0 j hj
        replace hGx : hx_dc h_3 ql 2 5 cfx cn.toInt := hx_dc_S hs hTo gql tt_40 tt_2 rfl tt_4 rfl rfl rfl (by omega) hGx
        replace hGy : hx_dc h_3 ql 2 6 cfy cn.toInt := hx_dc_S hs hTo gql tt_40 tt_2 rfl tt_4 rfl rfl rfl (by omega) hGy
        replace hM := hM.tr (hs.mono (by decide))
        replace gql := gql.S hs
        refine hb_if_ne (zx := r_4.toInt) (tgt := 37) hx hb rfl dX8_leastOn_21 (by decide) (fun c_7 => ?_) (fun c_7 => ?_)
        · skip
          have hib : hx_bt i1.toInt iv6_4.toInt = true := by rcases hr_6 with z | z; exact z.2; exfalso; omega
          have hbl := hw_bf2 (n := cn.toInt) (by omega) (by omega) (by omega) (by omega) (by omega) (by omega) hib
          obtain ⟨x_8, ex_8⟩ : ∃ y : Int32, y = iv6_4 + Int32.ofInt 1 := ⟨_, rfl⟩
          have rg_9 := i32_r iv6_4
          have zx_8 : x_8.toInt = iv6_4.toInt + (1) := by rw [ex_8]; exact i32_add rfl (by decide) (by omega) (by omega)
          refine lv_iinc (v := x_8) (lv' := [(4, .int x_8), (3, .int iv6_3), (0, .ref x), (1, .int i1), (2, .int i2)]) hx hb dX8_leastOn_37 hl (k := 0) rfl ex_8.symm (by decide) rfl (fun ls hl => ?_)
          refine lv_goto (tgt := 6) hx hb dX8_leastOn_40 (by decide) ?_
          exact ih6 iv6_3 x_8 _ _ L_2 h_3 (i32_r _).1 (i32_r _).2 (by omega) (by omega) (hw_bs_no vi6_0 hbl zx_8) (by omega) ls (by omega) hW hT hM  gql pf_x_0 hGx hGy (lv_sub hl [0, 1, 2, 3, 4] rfl)
        · skip
          have hnb : hx_bt i1.toInt iv6_4.toInt = false := by rcases hr_6 with z | z; exfalso; omega; exact z.2
          have hbl := hw_bt2 (n := cn.toInt) (by omega) (by omega) (by omega) (by omega) (by omega) (by omega) hnb
          refine lv_iload_n hx hb dX8_leastOn_24 rfl (lv_at hl 1 rfl) ?_
          refine lv_aload_n hx hb dX8_leastOn_25 rfl (lv_at hl 2 rfl) ?_
          refine lv_iload_n hx hb dX8_leastOn_26 rfl (lv_at hl 3 rfl) ?_
          refine lv_iload_n hx hb dX8_leastOn_27 rfl (lv_at hl 4 rfl) ?_
          refine lv_iload hx hb dX8_leastOn_28 (lv_at hl 0 rfl) ?_
          have hTo := hT
          refine hx_goi (hx_runV (As := [.int i1, .int i2, .int iv6_4]) (rest := [.int iv6_3]) ⟨hx, hb, hml, hown, hts⟩ hW (gx.S hM) tt_8 (T := TX8) (N := 5) rfl (t_X8_stepsBy_2 l dC dI dA L_2 h_3 H.size x i1 i2 iv6_4 hT (gx.S hM) ql gql ((hM.o gx trivial rfl).2.trans f_x_3) qlf (gqlf.S hM) ((hM.o gx trivial rfl).2.trans f_x_4) lff (hx_afS hM gqlf rfl af_qlf) cn ((hM.o gx trivial rfl).1.trans f_x_0) ⟨by omega, by omega⟩ ⟨by omega, by omega⟩ ⟨by omega, by omega⟩ cfx cfy hGx hGy hBx hBy hnb hE pf_x_0) (cwV 3 hts (hx_gV kw_1072 kw_1069 kw_1071 kw_44 kw_102) rfl rfl rfl (by decide +kernel) ⟨Nat.le_of_ble_eq_true rfl, Nat.le_of_ble_eq_true rfl⟩) rfl hl.1 rfl (Nat.le_of_ble_eq_true rfl) dX8_leastOn_30 ⟨Nat.le_of_ble_eq_true rfl, Nat.le_of_ble_eq_true rfl⟩) hW (fun r_12 L_10 h_11 H locs p_13 hW => ?_)
          obtain ⟨hr_14, hT, hs⟩ := p_13
          replace hT : hx_T T_tb L_10 h_11 := hT
          replace hs : hx_S T_tb [] L_2 h_3 L_10 h_11 := hs
          replace pf_x_0 : ∀ j : Nat, (j : Int) < (h_11.2.1 x 0).toInt → h_11.2.2 ql j ≠ none := by
            intro j hj; rw [(hs.o (gx.S hM) trivial rfl).1] at hj; rw [(hs.a gql rfl j).2]; exact pf_x_0 j hj
          replace hGx : hx_dc h_11 ql 2 5 cfx cn.toInt := hx_dc_S hs hTo gql tt_40 tt_2 rfl tt_4 rfl rfl rfl (by omega) hGx
          replace hGy : hx_dc h_11 ql 2 6 cfy cn.toInt := hx_dc_S hs hTo gql tt_40 tt_2 rfl tt_4 rfl rfl rfl (by omega) hGy
          replace hM := hM.tr (hs.mono (by decide))
          replace gql := gql.S hs
          have hTo := hT
          refine va_mmin hx hb (hml.trans hl.1.symm) hown (hts _ kw_1076) (hts _ kw_917) (hts _ kw_109) (hts _ kw_918) (Nat.le_of_ble_eq_true rfl) (Nat.le_of_ble_eq_true rfl) (Nat.le_of_ble_eq_true rfl) (Nat.le_of_ble_eq_true rfl) dX8_leastOn_33 ?_
          refine lv_topi (fun x_15 ex_15 => ?_)
          have hmin := hw_min ex_15
          refine lv_istore_n (lv' := [(3, .int x_15), (4, .int iv6_4), (0, .ref x), (1, .int i1), (2, .int i2)]) hx hb dX8_leastOn_36 rfl hl (by decide) rfl (fun ls hl => ?_)
          obtain ⟨x_16, ex_16⟩ : ∃ y : Int32, y = iv6_4 + Int32.ofInt 1 := ⟨_, rfl⟩
          have rg_17 := i32_r iv6_4
          have zx_16 : x_16.toInt = iv6_4.toInt + (1) := by rw [ex_16]; exact i32_add rfl (by decide) (by omega) (by omega)
          refine lv_iinc (v := x_16) (lv' := [(4, .int x_16), (3, .int x_15), (0, .ref x), (1, .int i1), (2, .int i2)]) hx hb dX8_leastOn_37 hl (k := 1) rfl ex_16.symm (by decide) rfl (fun ls hl => ?_)
          refine lv_goto (tgt := 6) hx hb dX8_leastOn_40 (by decide) ?_
          exact ih6 x_15 x_16 _ _ L_10 h_11 (i32_r _).1 (i32_r _).2 (by omega) (by omega) (hw_bs_yes vi6_0 hbl (by omega) (by omega) hr_14.1 (by omega) (by omega) hmin zx_16) (by omega) ls (by omega) hW hT hM  gql pf_x_0 hGx hGy (lv_sub hl [0, 1, 2, 3, 4] rfl)
  have zk_1000000000 : (1000000000 : Int32).toInt = 1000000000 := by decide
  have zk_0 : (0 : Int32).toInt = 0 := by decide
  exact loop6 9 (1000000000 : Int32) (0 : Int32) _ _ L h (by decide) (by decide) (by decide) (by decide) hw_bs_0 (by omega) ls (by omega) hW hT hM  gql pf_x_0 hGx hGy hl


set_option maxHeartbeats 4000000 in
set_option maxRecDepth 100000 in
theorem t_X8_firstOnWay_2 (l : Launch) (dC : Nat → ClassId) (dI : Nat → Nat → Nat) (dA : Nat → ClassId) (L : List Nat) (h : hx_h) (sz : Nat) (x : Nat) (i1 : Int32) (i2 : Int32) (i3 : Int32) (hT : hx_T T_tb L h) (gx : hx_g L h x 8) (ql : Nat) (gql : hx_g L h ql 40) (f_x_3 : h.2.2 x 3 = some ql) (qlf : Nat) (gqlf : hx_g L h qlf 41) (f_x_4 : h.2.2 x 4 = some qlf) (lff : Nat → Int32) (af_qlf : h.2.1 qlf = lff) (cn : Int32) (f_x_0 : h.2.1 x 0 = cn) (hi1 : 0 ≤ i1.toInt ∧ i1.toInt < 2 ^ cn.toInt.toNat) (hi2 : -1 ≤ i2.toInt ∧ i2.toInt < cn.toInt) (cfx cfy : Nat → Int32) (hGx : hx_dc h ql 2 5 cfx cn.toInt) (hGy : hx_dc h ql 2 6 cfy cn.toInt) (hBx : ∀ k : Nat, (k : Int) < cn.toInt → 0 ≤ (cfx k).toInt ∧ (cfx k).toInt ≤ 99) (hBy : ∀ k : Nat, (k : Int) < cn.toInt → 0 ≤ (cfy k).toInt ∧ (cfy k).toInt ≤ 99) (hE : hw_E (hx_fg cfx cfy cn.toInt) (hw_HC cn.toInt lff) cn.toInt (2 ^ cn.toInt.toNat - 1 - i1.toInt) 0) (hex : ∃ k : Int, 0 ≤ k ∧ k < cn.toInt ∧ hx_bt (2 ^ cn.toInt.toNat - 1 - i1.toInt) k = true ∧ (hx_fg cfx cfy cn.toInt) (hw_la cn.toInt i2.toInt) k + (hw_HC cn.toInt lff) (2 ^ cn.toInt.toNat - 1 - i1.toInt - hx_p2 k) k = i3.toInt) (pf_x_0 : ∀ j : Nat, (j : Int) < (h.2.1 x 0).toInt → h.2.2 ql j ≠ none) : Met l yX8_firstOnWay (Cond.code yX8_firstOnWay cX8_firstOnWay 5 (some .int) :: hx_all) ({ frames := 3, cells := 0, slots := 0, locals := 67 }) (va_Pc [.ref x, .int i1, .int i2, .int i3] (hx_B T_tb (P_ty dA) (dC, dI) vwCl L h sz)) (va_Qi (fun (r : Int32) (u : List Nat × hx_h) => (0 ≤ r.toInt ∧ r.toInt < cn.toInt ∧ hx_bt (2 ^ cn.toInt.toNat - 1 - i1.toInt) r.toInt = true ∧ (hx_fg cfx cfy cn.toInt) (hw_la cn.toInt i2.toInt) r.toInt + (hw_HC cn.toInt lff) (2 ^ cn.toInt.toNat - 1 - i1.toInt - hx_p2 r.toInt) r.toInt = i3.toInt ∧ ∀ k' : Int, 0 ≤ k' → k' < r.toInt → hx_bt (2 ^ cn.toInt.toNat - 1 - i1.toInt) k' = true → (hx_fg cfx cfy cn.toInt) (hw_la cn.toInt i2.toInt) k' + (hw_HC cn.toInt lff) (2 ^ cn.toInt.toNat - 1 - i1.toInt - hx_p2 k') k' ≠ i3.toInt) ∧ hx_T T_tb u.1 u.2 ∧ hx_S T_tb [] L h u.1 u.2) (hx_E T_tb (P_ty dA) (dC, dI) vwCl (hx_A L sz)) (hx_A L sz)) 0 0 (hx_A L sz) := by
  refine hx_met (lv := [(0, .ref x), (1, .int i1), (2, .int i2), (3, .int i3)]) (by decide +kernel) rfl (Nat.le_of_ble_eq_true rfl) rfl ?_
  intro p e s m below meth c hx hb hml hr hlk hts0 hown hin hsz hW ls hl
  have hts : ∀ w ∈ hx_all, w.before _ s = true := fun w hw => hts0 w (List.mem_cons_of_mem _ hw)
  have hown : s.vm.findClass "SmallCourt$Walk" = some m.cls := hown
  have hM : hx_S T_tb [] L h L h := hx_S.rf
  have b_cn := hT.gi gx tt_8 (k := 0) rfl
  rw [f_x_0] at b_cn
  have b_cn : 0 ≤ cn.toInt ∧ cn.toInt ≤ 8 := b_cn
  have hpn := hx_p2n (n := cn.toInt) (by omega) (by omega)
  refine lv_iconst (v := 0) hx hb dX8_firstOnWay_0 (by decide) ?_
  refine lv_istore (lv' := [(4, .int (0 : Int32)), (0, .ref x), (1, .int i1), (2, .int i2), (3, .int i3)]) hx hb dX8_firstOnWay_1 hl (by decide) rfl (fun ls hl => ?_)
  have loop3 : ∀ (n3 : Nat) (iv3_4 : Int32) (H : Heap) (locs : List Loc) (hL1 : List Nat) (hl1 : hx_h), 0 ≤ iv3_4.toInt → iv3_4.toInt ≤ 8 → (∀ k' : Int, 0 ≤ k' → k' < iv3_4.toInt → hx_bt (2 ^ cn.toInt.toNat - 1 - i1.toInt) k' = true → (hx_fg cfx cfy cn.toInt) (hw_la cn.toInt i2.toInt) k' + (hw_HC cn.toInt lff) (2 ^ cn.toInt.toNat - 1 - i1.toInt - hx_p2 k') k' ≠ i3.toInt) → (iv3_4.toInt ≤ cn.toInt) → ∀ (ls : Array Slot), 8 - iv3_4.toInt < (n3 : Int) → hx_W T_tb (P_ty dA) (dC, dI) vwCl (hx_A L sz) s.heap hL1 hl1 s H locs → hx_T T_tb hL1 hl1 → hx_S T_tb [] L h hL1 hl1 → hx_g hL1 hl1 ql 40 → (∀ j : Nat, (j : Int) < (hl1.2.1 x 0).toInt → hl1.2.2 ql j ≠ none) → hx_dc hl1 ql 2 5 cfx cn.toInt → hx_dc hl1 ql 2 6 cfy cn.toInt → lv_has ls 5 [(4, .int iv3_4), (0, .ref x), (1, .int i1), (2, .int i2), (3, .int i3)] → W p l e ({ frames := 3, cells := 0, slots := 0, locals := 67 }) s m ([.ref x, .int i1, .int i2, .int i3] : List Value).toArray below meth c H locs 0 0 (MQ below (va_Qi (fun (r : Int32) (u : List Nat × hx_h) => (0 ≤ r.toInt ∧ r.toInt < cn.toInt ∧ hx_bt (2 ^ cn.toInt.toNat - 1 - i1.toInt) r.toInt = true ∧ (hx_fg cfx cfy cn.toInt) (hw_la cn.toInt i2.toInt) r.toInt + (hw_HC cn.toInt lff) (2 ^ cn.toInt.toNat - 1 - i1.toInt - hx_p2 r.toInt) r.toInt = i3.toInt ∧ ∀ k' : Int, 0 ≤ k' → k' < r.toInt → hx_bt (2 ^ cn.toInt.toNat - 1 - i1.toInt) k' = true → (hx_fg cfx cfy cn.toInt) (hw_la cn.toInt i2.toInt) k' + (hw_HC cn.toInt lff) (2 ^ cn.toInt.toNat - 1 - i1.toInt - hx_p2 k') k' ≠ i3.toInt) ∧ hx_T T_tb u.1 u.2 ∧ hx_S T_tb [] L h u.1 u.2) (hx_E T_tb (P_ty dA) (dC, dI) vwCl (hx_A L sz)) (hx_A L sz)) ([.ref x, .int i1, .int i2, .int i3] : List Value).toArray s 0 0 (hx_A L sz)) (F0 m 3 ls []) := by
    intro n3
    induction n3 with
    | zero => intro iv3_4 H locs hL1 hl1 bliv3_4 buiv3_4 vi3_0 vi3_1 ls hn3; exfalso; omega
    | succ n3 ih3 =>
      intro iv3_4 H locs hL1 hl1 bliv3_4 buiv3_4 vi3_0 vi3_1 ls hn3 hW hT hM  gql pf_x_0 hGx hGy hl
      refine lv_iload hx hb dX8_firstOnWay_3 (lv_at hl 0 rfl) ?_
      refine lv_aload_n hx hb dX8_firstOnWay_5 rfl (lv_at hl 1 rfl) ?_
      refine hk_geti hx hb hts hC_8 hown hW (gx.S hM) tt_8 0 (by decide) rfl kw_345 ⟨rfl, rfl, rfl⟩ ((hM.o gx trivial rfl).1.trans f_x_0) dX8_firstOnWay_6 ?_
      refine hb_icmp_ge (zx := iv3_4.toInt) (zy := cn.toInt) (tgt := 42) hx hb rfl rfl dX8_firstOnWay_9 (by decide) (fun c_1 => ?_) (fun c_1 => ?_)
      · skip
        refine lv_iconst (v := 0) hx hb dX8_firstOnWay_42 (by decide) ?_
        exact hx_reti hx hb hr hlk hW ⟨(by exfalso; obtain ⟨k, k0, k1, kb, ke⟩ := hex; exact vi3_0 k k0 (by omega) kb ke), hT, hM⟩ dX8_firstOnWay_43
      · skip
        refine lv_iload hx hb dX8_firstOnWay_12 (lv_at hl 0 rfl) ?_
        refine lv_iload_n hx hb dX8_firstOnWay_14 rfl (lv_at hl 2 rfl) ?_
        have hTo := hT
        refine hx_goi (hx_runS (As := [.int iv3_4, .int i1]) (rest := []) ⟨hx, hb, hml, hown, hts⟩ hW (t_X8_isIn_2 l dC dI dA hL1 hl1 H.size iv3_4 i1 hT ⟨by omega, by omega⟩ ⟨by omega, by omega⟩) (va_cwS 2 hts (hx_gS kw_1058 kw_1056 kw_1057 kw_102) rfl rfl rfl (by decide +kernel) ⟨Nat.le_of_ble_eq_true rfl, Nat.le_of_ble_eq_true rfl⟩) rfl hl.1 rfl (Nat.le_of_ble_eq_true rfl) dX8_firstOnWay_15 ⟨Nat.le_of_ble_eq_true rfl, Nat.le_of_ble_eq_true rfl⟩) hW (fun r_4 L_2 h_3 H locs p_5 hW => ?_)
        obtain ⟨hr_6, hT, hs⟩ := p_5
        replace hT : hx_T T_tb L_2 h_3 := hT
        replace hs : hx_S T_tb [] hL1 hl1 L_2 h_3 := hs
        replace pf_x_0 : ∀ j : Nat, (j : Int) < (h_3.2.1 x 0).toInt → h_3.2.2 ql j ≠ none := by
          intro j hj; rw [(hs.o (gx.S hM) trivial rfl).1] at hj; rw [(hs.a gql rfl j).2]; exact pf_x_0 j hj
        replace hGx : hx_dc h_3 ql 2 5 cfx cn.toInt := hx_dc_S hs hTo gql tt_40 tt_2 rfl tt_4 rfl rfl rfl (by omega) hGx
        replace hGy : hx_dc h_3 ql 2 6 cfy cn.toInt := hx_dc_S hs hTo gql tt_40 tt_2 rfl tt_4 rfl rfl rfl (by omega) hGy
        replace hM := hM.tr (hs.mono (by decide))
        replace gql := gql.S hs
        refine hb_if_ne (zx := r_4.toInt) (tgt := 36) hx hb rfl dX8_firstOnWay_18 (by decide) (fun c_7 => ?_) (fun c_7 => ?_)
        · skip
          have hib : hx_bt i1.toInt iv3_4.toInt = true := by rcases hr_6 with z | z; exact z.2; exfalso; omega
          have hbl := hw_bf2 (n := cn.toInt) (by omega) (by omega) (by omega) (by omega) (by omega) (by omega) hib
          obtain ⟨x_8, ex_8⟩ : ∃ y : Int32, y = iv3_4 + Int32.ofInt 1 := ⟨_, rfl⟩
          have rg_9 := i32_r iv3_4
          have zx_8 : x_8.toInt = iv3_4.toInt + (1) := by rw [ex_8]; exact i32_add rfl (by decide) (by omega) (by omega)
          refine lv_iinc (v := x_8) (lv' := [(4, .int x_8), (0, .ref x), (1, .int i1), (2, .int i2), (3, .int i3)]) hx hb dX8_firstOnWay_36 hl (k := 0) rfl ex_8.symm (by decide) rfl (fun ls hl => ?_)
          refine lv_goto (tgt := 3) hx hb dX8_firstOnWay_39 (by decide) ?_
          exact ih3 x_8 _ _ L_2 h_3 (by omega) (by omega) (fun k' h0 h1 hb => by rcases (show k' < iv3_4.toInt ∨ k' = iv3_4.toInt by omega) with z | z; exact vi3_0 k' h0 z hb; subst z; rw [hbl] at hb; cases hb) (by omega) ls (by omega) hW hT hM  gql pf_x_0 hGx hGy (lv_sub hl [0, 1, 2, 3, 4] rfl)
        · skip
          have hnb : hx_bt i1.toInt iv3_4.toInt = false := by rcases hr_6 with z | z; exfalso; omega; exact z.2
          have hbl := hw_bt2 (n := cn.toInt) (by omega) (by omega) (by omega) (by omega) (by omega) (by omega) hnb
          refine lv_aload_n hx hb dX8_firstOnWay_21 rfl (lv_at hl 1 rfl) ?_
          refine lv_iload_n hx hb dX8_firstOnWay_22 rfl (lv_at hl 2 rfl) ?_
          refine lv_iload_n hx hb dX8_firstOnWay_23 rfl (lv_at hl 3 rfl) ?_
          refine lv_iload hx hb dX8_firstOnWay_24 (lv_at hl 0 rfl) ?_
          have hTo := hT
          refine hx_goi (hx_runV (As := [.int i1, .int i2, .int iv3_4]) (rest := []) ⟨hx, hb, hml, hown, hts⟩ hW (gx.S hM) tt_8 (T := TX8) (N := 5) rfl (t_X8_stepsBy_2 l dC dI dA L_2 h_3 H.size x i1 i2 iv3_4 hT (gx.S hM) ql gql ((hM.o gx trivial rfl).2.trans f_x_3) qlf (gqlf.S hM) ((hM.o gx trivial rfl).2.trans f_x_4) lff (hx_afS hM gqlf rfl af_qlf) cn ((hM.o gx trivial rfl).1.trans f_x_0) ⟨by omega, by omega⟩ ⟨by omega, by omega⟩ ⟨by omega, by omega⟩ cfx cfy hGx hGy hBx hBy hnb hE pf_x_0) (cwV 3 hts (hx_gV kw_1072 kw_1069 kw_1071 kw_44 kw_102) rfl rfl rfl (by decide +kernel) ⟨Nat.le_of_ble_eq_true rfl, Nat.le_of_ble_eq_true rfl⟩) rfl hl.1 rfl (Nat.le_of_ble_eq_true rfl) dX8_firstOnWay_26 ⟨Nat.le_of_ble_eq_true rfl, Nat.le_of_ble_eq_true rfl⟩) hW (fun r_12 L_10 h_11 H locs p_13 hW => ?_)
          obtain ⟨hr_14, hT, hs⟩ := p_13
          replace hT : hx_T T_tb L_10 h_11 := hT
          replace hs : hx_S T_tb [] L_2 h_3 L_10 h_11 := hs
          replace pf_x_0 : ∀ j : Nat, (j : Int) < (h_11.2.1 x 0).toInt → h_11.2.2 ql j ≠ none := by
            intro j hj; rw [(hs.o (gx.S hM) trivial rfl).1] at hj; rw [(hs.a gql rfl j).2]; exact pf_x_0 j hj
          replace hGx : hx_dc h_11 ql 2 5 cfx cn.toInt := hx_dc_S hs hTo gql tt_40 tt_2 rfl tt_4 rfl rfl rfl (by omega) hGx
          replace hGy : hx_dc h_11 ql 2 6 cfy cn.toInt := hx_dc_S hs hTo gql tt_40 tt_2 rfl tt_4 rfl rfl rfl (by omega) hGy
          replace hM := hM.tr (hs.mono (by decide))
          replace gql := gql.S hs
          refine lv_iload_n hx hb dX8_firstOnWay_29 rfl (lv_at hl 4 rfl) ?_
          refine hb_icmp_ne (zx := r_12.toInt) (zy := i3.toInt) (tgt := 36) hx hb rfl rfl dX8_firstOnWay_30 (by decide) (fun c_15 => ?_) (fun c_15 => ?_)
          · skip
            obtain ⟨x_16, ex_16⟩ : ∃ y : Int32, y = iv3_4 + Int32.ofInt 1 := ⟨_, rfl⟩
            have rg_17 := i32_r iv3_4
            have zx_16 : x_16.toInt = iv3_4.toInt + (1) := by rw [ex_16]; exact i32_add rfl (by decide) (by omega) (by omega)
            refine lv_iinc (v := x_16) (lv' := [(4, .int x_16), (0, .ref x), (1, .int i1), (2, .int i2), (3, .int i3)]) hx hb dX8_firstOnWay_36 hl (k := 0) rfl ex_16.symm (by decide) rfl (fun ls hl => ?_)
            refine lv_goto (tgt := 3) hx hb dX8_firstOnWay_39 (by decide) ?_
            exact ih3 x_16 _ _ L_10 h_11 (by omega) (by omega) (fun k' h0 h1 hb => by rcases (show k' < iv3_4.toInt ∨ k' = iv3_4.toInt by omega) with z | z; exact vi3_0 k' h0 z hb; subst z; rw [← hr_14.1]; omega) (by omega) ls (by omega) hW hT hM  gql pf_x_0 hGx hGy (lv_sub hl [0, 1, 2, 3, 4] rfl)
          · skip
            refine lv_iload hx hb dX8_firstOnWay_33 (lv_at hl 0 rfl) ?_
            exact hx_reti hx hb hr hlk hW ⟨⟨by omega, by omega, hbl, by rw [← hr_14.1]; omega, vi3_0⟩, hT, hM⟩ dX8_firstOnWay_35
  have zk_0 : (0 : Int32).toInt = 0 := by decide
  exact loop3 9 (0 : Int32) _ _ L h (by decide) (by decide) (fun k' h0 h1 => absurd h1 (by omega)) (by omega) ls (by omega) hW hT hM  gql pf_x_0 hGx hGy hl


set_option maxHeartbeats 4000000 in
set_option maxRecDepth 100000 in
theorem t_X8_retrace_2 (l : Launch) (dC : Nat → ClassId) (dI : Nat → Nat → Nat) (dA : Nat → ClassId) (L : List Nat) (h : hx_h) (sz : Nat) (x : Nat) (i1 : Int32) (hT : hx_T T_tb L h) (gx : hx_g L h x 8) (ql : Nat) (gql : hx_g L h ql 40) (f_x_3 : h.2.2 x 3 = some ql) (qlf : Nat) (gqlf : hx_g L h qlf 41) (f_x_4 : h.2.2 x 4 = some qlf) (qlt : Nat) (gqlt : hx_g L h qlt 39) (f_x_2 : h.2.2 x 2 = some qlt) (lff : Nat → Int32) (af_qlf : h.2.1 qlf = lff) (ltf : Nat → Int32) (af_qlt : h.2.1 qlt = ltf) (cn : Int32) (f_x_0 : h.2.1 x 0 = cn) (lf : Nat → Int32) (cl_ql_0 : hx_col 8 h ql 0 = lf) (cfx cfy : Nat → Int32) (hGx : hx_dc h ql 2 5 cfx cn.toInt) (hGy : hx_dc h ql 2 6 cfy cn.toInt) (hBx : ∀ k : Nat, (k : Int) < cn.toInt → 0 ≤ (cfx k).toInt ∧ (cfx k).toInt ≤ 99) (hBy : ∀ k : Nat, (k : Int) < cn.toInt → 0 ≤ (cfy k).toInt ∧ (cfy k).toInt ≤ 99) (hE : hw_E (hx_fg cfx cfy cn.toInt) (hw_HC cn.toInt lff) cn.toInt (2 ^ cn.toInt.toNat - 1) 0) (hm : hx_mn (hx_fg cfx cfy cn.toInt) (hw_HC cn.toInt lff) cn.toInt (2 ^ cn.toInt.toNat - 1) cn.toInt i1.toInt) (pf_x_0 : ∀ j : Nat, (j : Int) < (h.2.1 x 0).toInt → h.2.2 ql j ≠ none) : Met l yX8_retrace (Cond.code yX8_retrace cX8_retrace 7 none :: hx_all) ({ frames := 4, cells := 0, slots := 0, locals := 91 }) (va_Pc [.ref x, .int i1] (hx_B T_tb (P_ty dA) (dC, dI) vwCl L h sz)) (va_Qv (fun (u : List Nat × hx_h) => (∃ (lt1 : Nat → Int32), u.2.2.1 qlt = lt1 ∧ (∃ l a d : Int, hx_wj (hx_fg cfx cfy cn.toInt) (hw_HC cn.toInt lff) cn.toInt i1.toInt lf lt1 cn.toInt l a d)) ∧ hx_T T_tb u.1 u.2 ∧ hx_S T_tb [(39, 0)] L h u.1 u.2) (hx_E T_tb (P_ty dA) (dC, dI) vwCl (hx_A L sz)) (hx_A L sz)) 0 0 (hx_A L sz) := by
  refine hx_met (lv := [(0, .ref x), (1, .int i1)]) (by decide +kernel) rfl (Nat.le_of_ble_eq_true rfl) rfl ?_
  intro p e s m below meth c hx hb hml hr hlk hts0 hown hin hsz hW ls hl
  have hts : ∀ w ∈ hx_all, w.before _ s = true := fun w hw => hts0 w (List.mem_cons_of_mem _ hw)
  have hown : s.vm.findClass "SmallCourt$Walk" = some m.cls := hown
  have hM : hx_S T_tb [(39, 0)] L h L h := hx_S.rf
  have b_cn := hT.gi gx tt_8 (k := 0) rfl
  rw [f_x_0] at b_cn
  have b_cn : 0 ≤ cn.toInt ∧ cn.toInt ≤ 8 := b_cn
  have hpn := hx_p2n (n := cn.toInt) (by omega) (by omega)
  refine lv_iconst (v := 0) hx hb dX8_retrace_0 (by decide) ?_
  refine lv_istore_n (lv' := [(2, .int (0 : Int32)), (0, .ref x), (1, .int i1)]) hx hb dX8_retrace_1 rfl hl (by decide) rfl (fun ls hl => ?_)
  refine lv_iconst (v := -1) hx hb dX8_retrace_2 (by decide) ?_
  refine lv_istore_n (lv' := [(3, .int (-1 : Int32)), (2, .int (0 : Int32)), (0, .ref x), (1, .int i1)]) hx hb dX8_retrace_3 rfl hl (by decide) rfl (fun ls hl => ?_)
  refine lv_iload_n hx hb dX8_retrace_4 rfl (lv_at hl 3 rfl) ?_
  refine lv_istore (lv' := [(4, .int i1), (3, .int (-1 : Int32)), (2, .int (0 : Int32)), (0, .ref x), (1, .int i1)]) hx hb dX8_retrace_5 hl (by decide) rfl (fun ls hl => ?_)
  refine lv_iconst (v := 0) hx hb dX8_retrace_7 (by decide) ?_
  refine lv_istore (lv' := [(5, .int (0 : Int32)), (4, .int i1), (3, .int (-1 : Int32)), (2, .int (0 : Int32)), (0, .ref x), (1, .int i1)]) hx hb dX8_retrace_8 hl (by decide) rfl (fun ls hl => ?_)
  have loop10 : ∀ (n10 : Nat) (iv10_2 iv10_3 iv10_4 iv10_5 : Int32) (ia10_qlt : Nat → Int32) (H : Heap) (locs : List Loc) (hL1 : List Nat) (hl1 : hx_h), 0 ≤ iv10_2.toInt → iv10_2.toInt ≤ 255 → -1 ≤ iv10_3.toInt → iv10_3.toInt ≤ 7 → -2147483648 ≤ iv10_4.toInt → iv10_4.toInt ≤ 2147483647 → 0 ≤ iv10_5.toInt → iv10_5.toInt ≤ 8 → (hx_pc (2 ^ cn.toInt.toNat - 1 - iv10_2.toInt) = cn.toInt - iv10_5.toInt) → (hx_mn (hx_fg cfx cfy cn.toInt) (hw_HC cn.toInt lff) cn.toInt (2 ^ cn.toInt.toNat - 1 - iv10_2.toInt) (hw_la cn.toInt iv10_3.toInt) iv10_4.toInt) → (hx_wj (hx_fg cfx cfy cn.toInt) (hw_HC cn.toInt lff) cn.toInt i1.toInt lf ia10_qlt iv10_5.toInt (2 ^ cn.toInt.toNat - 1 - iv10_2.toInt) (hw_la cn.toInt iv10_3.toInt) iv10_4.toInt) → (iv10_3.toInt < cn.toInt) → (iv10_2.toInt < 2 ^ cn.toInt.toNat) → (iv10_5.toInt ≤ cn.toInt) → ∀ (ls : Array Slot), 8 - iv10_5.toInt < (n10 : Int) → hx_W T_tb (P_ty dA) (dC, dI) vwCl (hx_A L sz) s.heap hL1 hl1 s H locs → hx_T T_tb hL1 hl1 → hx_S T_tb [(39, 0)] L h hL1 hl1 → hx_g hL1 hl1 ql 40 → (∀ j : Nat, (j : Int) < (hl1.2.1 x 0).toInt → hl1.2.2 ql j ≠ none) → hl1.2.1 qlt = ia10_qlt → hx_col 8 hl1 ql 0 = lf → hx_dc hl1 ql 2 5 cfx cn.toInt → hx_dc hl1 ql 2 6 cfy cn.toInt → lv_has ls 7 [(5, .int iv10_5), (4, .int iv10_4), (3, .int iv10_3), (2, .int iv10_2), (0, .ref x), (1, .int i1)] → W p l e ({ frames := 4, cells := 0, slots := 0, locals := 91 }) s m ([.ref x, .int i1] : List Value).toArray below meth c H locs 0 0 (MQ below (va_Qv (fun (u : List Nat × hx_h) => (∃ (lt1 : Nat → Int32), u.2.2.1 qlt = lt1 ∧ (∃ l a d : Int, hx_wj (hx_fg cfx cfy cn.toInt) (hw_HC cn.toInt lff) cn.toInt i1.toInt lf lt1 cn.toInt l a d)) ∧ hx_T T_tb u.1 u.2 ∧ hx_S T_tb [(39, 0)] L h u.1 u.2) (hx_E T_tb (P_ty dA) (dC, dI) vwCl (hx_A L sz)) (hx_A L sz)) ([.ref x, .int i1] : List Value).toArray s 0 0 (hx_A L sz)) (F0 m 10 ls []) := by
    intro n10
    induction n10 with
    | zero => intro iv10_2 iv10_3 iv10_4 iv10_5 ia10_qlt H locs hL1 hl1 bliv10_2 buiv10_2 bliv10_3 buiv10_3 bliv10_4 buiv10_4 bliv10_5 buiv10_5 vi10_0 vi10_1 vi10_2 vi10_3 vi10_4 vi10_5 ls hn10; exfalso; omega
    | succ n10 ih10 =>
      intro iv10_2 iv10_3 iv10_4 iv10_5 ia10_qlt H locs hL1 hl1 bliv10_2 buiv10_2 bliv10_3 buiv10_3 bliv10_4 buiv10_4 bliv10_5 buiv10_5 vi10_0 vi10_1 vi10_2 vi10_3 vi10_4 vi10_5 ls hn10 hW hT hM  gql pf_x_0 nia10_qlt cl_ql_0 hGx hGy hl
      refine lv_iload hx hb dX8_retrace_10 (lv_at hl 0 rfl) ?_
      refine lv_aload_n hx hb dX8_retrace_12 rfl (lv_at hl 4 rfl) ?_
      refine hk_geti hx hb hts hC_8 hown hW (gx.S hM) tt_8 0 (by decide) rfl kw_345 ⟨rfl, rfl, rfl⟩ ((hM.o gx trivial rfl).1.trans f_x_0) dX8_retrace_13 ?_
      refine hb_icmp_ge (zx := iv10_5.toInt) (zy := cn.toInt) (tgt := 75) hx hb rfl rfl dX8_retrace_16 (by decide) (fun c_1 => ?_) (fun c_1 => ?_)
      · skip
        exact hx_retv hx hb hr hlk hW ⟨⟨ia10_qlt, nia10_qlt, ⟨_, _, _, hx_wj_j vi10_2 (by omega)⟩⟩, hT, hM⟩ dX8_retrace_75
      · skip
        have hlz : 2 ^ cn.toInt.toNat - 1 - iv10_2.toInt ≠ 0 := fun z => by have w := vi10_0; rw [z, hx_pc_0] at w; omega
        have hex := vi10_1.2.1 hlz
        obtain ⟨kx, kx0, kx1, kxb, kxe⟩ := hex
        have hex := (⟨kx, kx0, kx1, kxb, kxe.symm⟩ : ∃ k : Int, 0 ≤ k ∧ k < cn.toInt ∧ hx_bt (2 ^ cn.toInt.toNat - 1 - iv10_2.toInt) k = true ∧ (hx_fg cfx cfy cn.toInt) (hw_la cn.toInt iv10_3.toInt) k + (hw_HC cn.toInt lff) (2 ^ cn.toInt.toNat - 1 - iv10_2.toInt - hx_p2 k) k = iv10_4.toInt)
        refine lv_aload_n hx hb dX8_retrace_19 rfl (lv_at hl 4 rfl) ?_
        refine lv_iload_n hx hb dX8_retrace_20 rfl (lv_at hl 3 rfl) ?_
        refine lv_iload_n hx hb dX8_retrace_21 rfl (lv_at hl 2 rfl) ?_
        refine lv_iload hx hb dX8_retrace_22 (lv_at hl 1 rfl) ?_
        have hTo := hT
        refine hx_goi (hx_runV (As := [.int iv10_2, .int iv10_3, .int iv10_4]) (rest := []) ⟨hx, hb, hml, hown, hts⟩ hW (gx.S hM) tt_8 (T := TX8) (N := 5) rfl (t_X8_firstOnWay_2 l dC dI dA hL1 hl1 H.size x iv10_2 iv10_3 iv10_4 hT (gx.S hM) ql gql ((hM.o gx trivial rfl).2.trans f_x_3) qlf (gqlf.S hM) ((hM.o gx trivial rfl).2.trans f_x_4) lff (hx_afS hM gqlf rfl af_qlf) cn ((hM.o gx trivial rfl).1.trans f_x_0) ⟨by omega, by omega⟩ ⟨by omega, by omega⟩ cfx cfy hGx hGy hBx hBy (hw_E_le hE (by omega)) hex pf_x_0) (cwV 3 hts (hx_gV kw_1084 kw_1081 kw_1083 kw_46 kw_102) rfl rfl rfl (by decide +kernel) ⟨Nat.le_of_ble_eq_true rfl, Nat.le_of_ble_eq_true rfl⟩) rfl hl.1 rfl (Nat.le_of_ble_eq_true rfl) dX8_retrace_24 ⟨Nat.le_of_ble_eq_true rfl, Nat.le_of_ble_eq_true rfl⟩) hW (fun r_4 L_2 h_3 H locs p_5 hW => ?_)
        obtain ⟨hr_6, hT, hs⟩ := p_5
        replace hT : hx_T T_tb L_2 h_3 := hT
        replace hs : hx_S T_tb [] hL1 hl1 L_2 h_3 := hs
        replace pf_x_0 : ∀ j : Nat, (j : Int) < (h_3.2.1 x 0).toInt → h_3.2.2 ql j ≠ none := by
          intro j hj; rw [(hs.o (gx.S hM) trivial rfl).1] at hj; rw [(hs.a gql rfl j).2]; exact pf_x_0 j hj
        replace cl_ql_0 : hx_col 8 h_3 ql 0 = lf := (hx_col_S hs hTo gql tt_40 tt_2 rfl rfl).trans cl_ql_0
        replace hGx : hx_dc h_3 ql 2 5 cfx cn.toInt := hx_dc_S hs hTo gql tt_40 tt_2 rfl tt_4 rfl rfl rfl (by omega) hGx
        replace hGy : hx_dc h_3 ql 2 6 cfy cn.toInt := hx_dc_S hs hTo gql tt_40 tt_2 rfl tt_4 rfl rfl rfl (by omega) hGy
        replace nia10_qlt : h_3.2.1 qlt = ia10_qlt := (funext fun j => (hs.a (gqlt.S hM) rfl j).1).trans nia10_qlt
        replace hM := hM.tr (hs.mono (by decide))
        replace gql := gql.S hs
        have hn0 := hr_6.1; have hn1 := hr_6.2.1; have hnt := hr_6.2.2.1
        have hnf := hw_bf (n := cn.toInt) (by omega) (by omega) (by omega) (by omega) hn0 hn1 hnt
        have hsd := hx_sub_d (n := cn.toInt) (by omega) (by omega) (by omega) (by omega) hn0 hn1 hnt
        refine lv_istore (lv' := [(6, .int r_4), (5, .int iv10_5), (4, .int iv10_4), (3, .int iv10_3), (2, .int iv10_2), (0, .ref x), (1, .int i1)]) hx hb dX8_retrace_27 hl (by decide) rfl (fun ls hl => ?_)
        refine lv_aload_n hx hb dX8_retrace_29 rfl (lv_at hl 5 rfl) ?_
        refine hk_getr hx hb hts hC_8 hown hW (gx.S hM) tt_8 2 (by decide) rfl kw_349 ⟨rfl, rfl, rfl⟩ ((hM.o gx trivial rfl).2.trans f_x_2) dX8_retrace_30 ?_
        refine lv_iload hx hb dX8_retrace_33 (lv_at hl 1 rfl) ?_
        refine lv_aload_n hx hb dX8_retrace_35 rfl (lv_at hl 5 rfl) ?_
        refine hk_getr hx hb hts hC_8 hown hW (gx.S hM) tt_8 3 (by decide) rfl kw_351 ⟨rfl, rfl, rfl⟩ ((hM.o gx trivial rfl).2.trans f_x_3) dX8_retrace_36 ?_
        refine lv_iload hx hb dX8_retrace_39 (lv_at hl 0 rfl) ?_
        refine hx_aaldN hx hb hW hT gql tt_40 (t1 := 2) rfl ⟨by omega, by omega⟩ (pf_x_0 _ (by rw [((hM.o gx trivial rfl).1.trans f_x_0)]; exact hx_tnI (by omega) (by omega))) dX8_retrace_41 (fun q_7 fq_7 gq_7 => ?_)
        refine hx_geti hx hb hts hC_2 hown hW hT gq_7 tt_2 0 (by decide) rfl kw_723 ⟨rfl, rfl, rfl⟩ dX8_retrace_42 (fun x_8 ex_8 lx_8 ux_8 => ?_)
        have fx_8 := ex_8.symm
        have cx_8 : x_8 = lf r_4.toNatClampNeg := by rw [ex_8, ← cl_ql_0]; exact (hx_col_at fq_7 (by unfold Int32.toNatClampNeg; omega)).symm
        have hTo := hT
        have nia10_qltO := nia10_qlt
        have hTo := hT
        refine hx_iast hx hb hW hT (hx_S.rf (M := [(39, 0)])) (gqlt.S hM) tt_39 rfl ⟨by omega, by omega⟩ rfl (i32_r _) (List.mem_singleton.mpr rfl) dX8_retrace_45 (fun H locs h_9 eh_9 hW hT hs => ?_)
        replace fx_8 := (hs.o gq_7 trivial rfl).1.trans fx_8
        replace pf_x_0 : ∀ j : Nat, (j : Int) < (h_9.2.1 x 0).toInt → h_9.2.2 ql j ≠ none := by
          intro j hj; rw [(hs.o (gx.S hM) trivial rfl).1] at hj; rw [(hs.a gql rfl j).2]; exact pf_x_0 j hj
        replace cl_ql_0 : hx_col 8 h_9 ql 0 = lf := (hx_col_S hs hTo gql tt_40 tt_2 rfl rfl).trans cl_ql_0
        replace hGx : hx_dc h_9 ql 2 5 cfx cn.toInt := hx_dc_S hs hTo gql tt_40 tt_2 rfl tt_4 rfl rfl rfl (by omega) hGx
        replace hGy : hx_dc h_9 ql 2 6 cfy cn.toInt := hx_dc_S hs hTo gql tt_40 tt_2 rfl tt_4 rfl rfl rfl (by omega) hGy
        replace fq_7 := (hs.a gql rfl _).2.trans fq_7
        replace hM := hM.tr (hs.mono (by decide))
        replace gql := gql.S hs
        replace gq_7 := gq_7.S hs
        obtain ⟨fa_10, dfa_10⟩ : ∃ g : Nat → Int32, g = hx_up ia10_qlt iv10_5.toNatClampNeg x_8 := ⟨_, rfl⟩
        have nfa_10 : h_9.2.1 qlt = fa_10 := by rw [eh_9, dfa_10, ← nia10_qltO]; exact hx_pi_fun _ _ _ _
        refine lv_iload_n hx hb dX8_retrace_46 rfl (lv_at hl 4 rfl) ?_
        refine lv_iconst (v := 1) hx hb dX8_retrace_47 (by decide) ?_
        refine lv_iload hx hb dX8_retrace_48 (lv_at hl 0 rfl) ?_
        refine lv_ishl hx hb dX8_retrace_50 ?_
        refine lv_topi (fun x_11 ex_11 => ?_)
        have zx_11 : 1 ≤ x_11.toInt ∧ x_11.toInt ≤ 128 := by rw [ex_11]; exact hx_shl7 (by omega) (by omega)
        refine lv_ior hx hb dX8_retrace_51 ?_
        refine lv_topi (fun x_12 ex_12 => ?_)
        have zx_12 : 0 ≤ x_12.toInt ∧ x_12.toInt ≤ 255 := by rw [ex_12]; exact hx_or8 (by omega) (by omega) (by omega) (by omega)
        have hlw := hw_lk (n := cn.toInt) (B := iv10_2) (K := r_4) (by omega) (by omega) (by omega) (by omega) (by omega) (by omega) hnf (hw_E_le hE (by omega))
        rw [← ex_11, ← ex_12] at hlw
        have hlw1 := hlw.1; have hlw2 := hlw.2.1; have hlw3 := hlw.2.2.1
        refine lv_istore_n (lv' := [(2, .int x_12), (6, .int r_4), (5, .int iv10_5), (4, .int iv10_4), (3, .int iv10_3), (0, .ref x), (1, .int i1)]) hx hb dX8_retrace_52 rfl hl (by decide) rfl (fun ls hl => ?_)
        refine lv_iload hx hb dX8_retrace_53 (lv_at hl 1 rfl) ?_
        refine lv_istore_n (lv' := [(3, .int r_4), (2, .int x_12), (6, .int r_4), (5, .int iv10_5), (4, .int iv10_4), (0, .ref x), (1, .int i1)]) hx hb dX8_retrace_55 rfl hl (by decide) rfl (fun ls hl => ?_)
        refine lv_aload_n hx hb dX8_retrace_56 rfl (lv_at hl 5 rfl) ?_
        refine hk_getr hx hb hts hC_8 hown hW (gx.S hM) tt_8 4 (by decide) rfl kw_352 ⟨rfl, rfl, rfl⟩ ((hM.o gx trivial rfl).2.trans f_x_4) dX8_retrace_57 ?_
        refine lv_iload_n hx hb dX8_retrace_60 rfl (lv_at hl 1 rfl) ?_
        refine lv_bipush (v := 8) hx hb dX8_retrace_61 (by decide) ?_
        refine lv_imul hx hb dX8_retrace_63 ?_
        refine lv_topi (fun x_13 ex_13 => ?_)
        have zx_13 : x_13.toInt = x_12.toInt * 8 := by rw [ex_13]; exact i32_mul rfl (by decide) rfl (by omega) (by omega)
        refine lv_iload_n hx hb dX8_retrace_64 rfl (lv_at hl 0 rfl) ?_
        refine lv_iadd hx hb dX8_retrace_65 ?_
        have rg_14 := i32_r x_13
        have rg_15 := i32_r r_4
        refine lv_topi (fun x_16 ex_16 => ?_)
        have zx_16 : x_16.toInt = x_13.toInt + r_4.toInt := by rw [ex_16]; exact i32_add rfl rfl (by omega) (by omega)
        refine hx_iald hx hb hW hT (gqlf.S hM) tt_41 rfl ⟨by omega, by omega⟩ dX8_retrace_66 (fun x_17 ex_17 lx_17 ux_17 => ?_)
        have ax_17 : x_17 = lff x_16.toNatClampNeg := ex_17.trans (congrFun (hx_afS hM gqlf rfl af_qlf) _)
        have hv : x_17.toInt = hw_HC cn.toInt lff (2 ^ cn.toInt.toNat - 1 - iv10_2.toInt - hx_p2 r_4.toInt) r_4.toInt := hw_HCv ax_17 (by unfold Int32.toNatClampNeg; omega)
        have hv1 := hlw.2.2.2.2.1; have hv2 := hlw.2.2.2.2.2; rw [← hv] at hv1 hv2
        refine lv_istore (lv' := [(4, .int x_17), (3, .int r_4), (2, .int x_12), (6, .int r_4), (5, .int iv10_5), (0, .ref x), (1, .int i1)]) hx hb dX8_retrace_67 hl (by decide) rfl (fun ls hl => ?_)
        obtain ⟨x_18, ex_18⟩ : ∃ y : Int32, y = iv10_5 + Int32.ofInt 1 := ⟨_, rfl⟩
        have rg_19 := i32_r iv10_5
        have zx_18 : x_18.toInt = iv10_5.toInt + (1) := by rw [ex_18]; exact i32_add rfl (by decide) (by omega) (by omega)
        refine lv_iinc (v := x_18) (lv' := [(5, .int x_18), (4, .int x_17), (3, .int r_4), (2, .int x_12), (6, .int r_4), (0, .ref x), (1, .int i1)]) hx hb dX8_retrace_69 hl (k := 4) rfl ex_18.symm (by decide) rfl (fun ls hl => ?_)
        refine lv_goto (tgt := 10) hx hb dX8_retrace_72 (by decide) ?_
        exact ih10 x_12 r_4 x_17 x_18 fa_10 _ _ L_2 h_9 (by omega) (by omega) (by omega) (by omega) (i32_r _).1 (i32_r _).2 (by omega) (by omega) (by rw [show 2 ^ cn.toInt.toNat - 1 - x_12.toInt = 2 ^ cn.toInt.toNat - 1 - iv10_2.toInt - hx_p2 r_4.toInt by omega, hw_pc (by omega) (by omega) hn0 (by omega) hnt]; omega) (hw_mn_c (by rw [hv]; exact (hE.1 _ _ hsd.1 (by omega) hn0 hn1 hsd.2.2.2).2.2) (by omega) (hw_la2 (by omega)).symm) (by rw [hw_la2 (n := cn.toInt) (i := r_4.toInt) (by omega)]; exact hx_wj_s vi10_2 (by omega) ⟨hn0, hn1, hnt, hr_6.2.2.2.1, hr_6.2.2.2.2, by omega, by rw [show 2 ^ cn.toInt.toNat - 1 - x_12.toInt = 2 ^ cn.toInt.toNat - 1 - iv10_2.toInt - hx_p2 r_4.toInt by omega]; exact hv⟩ dfa_10 (by unfold Int32.toNatClampNeg; omega) cx_8 (by omega)) (by omega) (by omega) (by omega) ls (by omega) hW hT hM  gql pf_x_0 nfa_10 cl_ql_0 hGx hGy (lv_sub hl [0, 1, 2, 3, 5, 6] rfl)
  have zk_0 : (0 : Int32).toInt = 0 := by decide
  have zk_m1 : (-1 : Int32).toInt = -1 := by decide
  have zk_0 : (0 : Int32).toInt = 0 := by decide
  exact loop10 9 (0 : Int32) (-1 : Int32) i1 (0 : Int32) ltf _ _ L h (by decide) (by decide) (by decide) (by decide) (i32_r _).1 (i32_r _).2 (by decide) (by decide) (by have w := hx_pc_all (n := cn.toInt) (by omega) (by omega); rw [show 2 ^ cn.toInt.toNat - 1 - (0 : Int32).toInt = 2 ^ cn.toInt.toNat - 1 by omega]; omega) (hw_mn_c hm (by omega) (hw_la1 (by omega)).symm) (hx_wj_i (by omega) (by omega) (hw_la1 (by omega)) rfl) (by omega) (by omega) (by omega) ls (by omega) hW hT hM  gql pf_x_0 af_qlt cl_ql_0 hGx hGy hl


set_option maxHeartbeats 4000000 in
set_option maxRecDepth 100000 in
theorem t_X8_walkList_2 (l : Launch) (dC : Nat → ClassId) (dI : Nat → Nat → Nat) (dA : Nat → ClassId) (L : List Nat) (h : hx_h) (sz : Nat) (x : Nat) (hT : hx_T T_tb L h) (gx : hx_g L h x 8) (ql : Nat) (gql : hx_g L h ql 40) (f_x_3 : h.2.2 x 3 = some ql) (qlf : Nat) (gqlf : hx_g L h qlf 41) (f_x_4 : h.2.2 x 4 = some qlf) (qlt : Nat) (gqlt : hx_g L h qlt 39) (f_x_2 : h.2.2 x 2 = some qlt) (lff : Nat → Int32) (af_qlf : h.2.1 qlf = lff) (ltf : Nat → Int32) (af_qlt : h.2.1 qlt = ltf) (cn : Int32) (f_x_0 : h.2.1 x 0 = cn) (lf : Nat → Int32) (cl_ql_0 : hx_col 8 h ql 0 = lf) (cfx cfy : Nat → Int32) (hGx : hx_dc h ql 2 5 cfx cn.toInt) (hGy : hx_dc h ql 2 6 cfy cn.toInt) (hBx : ∀ k : Nat, (k : Int) < cn.toInt → 0 ≤ (cfx k).toInt ∧ (cfx k).toInt ≤ 99) (hBy : ∀ k : Nat, (k : Int) < cn.toInt → 0 ≤ (cfy k).toInt ∧ (cfy k).toInt ≤ 99) (pf_x_0 : ∀ j : Nat, (j : Int) < (h.2.1 x 0).toInt → h.2.2 ql j ≠ none) : Met l yX8_walkList (Cond.code yX8_walkList cX8_walkList 4 (some .int) :: hx_all) ({ frames := 5, cells := 0, slots := 0, locals := 117 }) (va_Pc [.ref x] (hx_B T_tb (P_ty dA) (dC, dI) vwCl L h sz)) (va_Qi (fun (r : Int32) (u : List Nat × hx_h) => (∃ (n1 : Int32) (wm1 : Int32) (lt1 : Nat → Int32), u.2.2.1 x 0 = n1 ∧ u.2.2.1 x 1 = wm1 ∧ u.2.2.1 qlt = lt1 ∧ (n1.toInt = 0 ∧ wm1.toInt = cn.toInt ∧ hx_WA (hx_fg cfx cfy cn.toInt) cn.toInt lf lt1 r.toInt)) ∧ hx_T T_tb u.1 u.2 ∧ hx_S T_tb [(8, 0), (8, 1), (39, 0), (41, 0)] L h u.1 u.2) (hx_E T_tb (P_ty dA) (dC, dI) vwCl (hx_A L sz)) (hx_A L sz)) 0 0 (hx_A L sz) := by
  refine hx_met (lv := [(0, .ref x)]) (by decide +kernel) rfl (Nat.le_of_ble_eq_true rfl) rfl ?_
  intro p e s m below meth c hx hb hml hr hlk hts0 hown hin hsz hW ls hl
  have hts : ∀ w ∈ hx_all, w.before _ s = true := fun w hw => hts0 w (List.mem_cons_of_mem _ hw)
  have hown : s.vm.findClass "SmallCourt$Walk" = some m.cls := hown
  have hM : hx_S T_tb [(8, 0), (8, 1), (39, 0), (41, 0)] L h L h := hx_S.rf
  have b_cn := hT.gi gx tt_8 (k := 0) rfl
  rw [f_x_0] at b_cn
  have b_cn : 0 ≤ cn.toInt ∧ cn.toInt ≤ 8 := b_cn
  have hpn := hx_p2n (n := cn.toInt) (by omega) (by omega)
  refine lv_iconst (v := 1) hx hb dX8_walkList_0 (by decide) ?_
  refine lv_aload_n hx hb dX8_walkList_1 rfl (lv_at hl 0 rfl) ?_
  refine hk_geti hx hb hts hC_8 hown hW (gx.S hM) tt_8 0 (by decide) rfl kw_345 ⟨rfl, rfl, rfl⟩ f_x_0 dX8_walkList_2 ?_
  refine lv_ishl hx hb dX8_walkList_5 ?_
  refine lv_topi (fun x_1 ex_1 => ?_)
  have zx_1 : 1 ≤ x_1.toInt ∧ x_1.toInt ≤ 256 := by rw [ex_1]; exact hx_shl8 (by omega) (by omega)
  have hsets : x_1.toInt = 2 ^ cn.toInt.toNat := by rw [ex_1]; exact hx_sh2 (by omega) (by omega)
  refine lv_iconst (v := 1) hx hb dX8_walkList_6 (by decide) ?_
  refine lv_isub hx hb dX8_walkList_7 ?_
  have rg_2 := i32_r x_1
  refine lv_topi (fun x_3 ex_3 => ?_)
  have zx_3 : x_3.toInt = x_1.toInt - 1 := by rw [ex_3]; exact i32_sub rfl (by decide) (by omega) (by omega)
  refine lv_istore_n (lv' := [(1, .int x_3), (0, .ref x)]) hx hb dX8_walkList_8 rfl hl (by decide) rfl (fun ls hl => ?_)
  refine lv_iload_n hx hb dX8_walkList_9 rfl (lv_at hl 0 rfl) ?_
  refine lv_istore_n (lv' := [(2, .int x_3), (1, .int x_3), (0, .ref x)]) hx hb dX8_walkList_10 rfl hl (by decide) rfl (fun ls hl => ?_)
  have loop11 : ∀ (n11 : Nat) (iv11_2 : Int32) (ia11_qlf : Nat → Int32) (H : Heap) (locs : List Loc) (hL1 : List Nat) (hl1 : hx_h), 0 ≤ iv11_2.toInt → iv11_2.toInt ≤ 255 → (hw_E (hx_fg cfx cfy cn.toInt) (hw_HC cn.toInt ia11_qlf) cn.toInt (2 ^ cn.toInt.toNat - 1 - iv11_2.toInt) 0) → (iv11_2.toInt ≤ x_3.toInt) → ∀ (ls : Array Slot), iv11_2.toInt < (n11 : Int) → hx_W T_tb (P_ty dA) (dC, dI) vwCl (hx_A L sz) s.heap hL1 hl1 s H locs → hx_T T_tb hL1 hl1 → hx_S T_tb [(8, 0), (8, 1), (39, 0), (41, 0)] L h hL1 hl1 → hl1.2.1 x 0 = cn → hx_g hL1 hl1 ql 40 → (∀ j : Nat, (j : Int) < (hl1.2.1 x 0).toInt → hl1.2.2 ql j ≠ none) → hl1.2.1 qlf = ia11_qlf → hl1.2.1 qlt = ltf → hx_col 8 hl1 ql 0 = lf → hx_dc hl1 ql 2 5 cfx cn.toInt → hx_dc hl1 ql 2 6 cfy cn.toInt → lv_has ls 4 [(2, .int iv11_2), (1, .int x_3), (0, .ref x)] → W p l e ({ frames := 5, cells := 0, slots := 0, locals := 117 }) s m ([.ref x] : List Value).toArray below meth c H locs 0 0 (MQ below (va_Qi (fun (r : Int32) (u : List Nat × hx_h) => (∃ (n1 : Int32) (wm1 : Int32) (lt1 : Nat → Int32), u.2.2.1 x 0 = n1 ∧ u.2.2.1 x 1 = wm1 ∧ u.2.2.1 qlt = lt1 ∧ (n1.toInt = 0 ∧ wm1.toInt = cn.toInt ∧ hx_WA (hx_fg cfx cfy cn.toInt) cn.toInt lf lt1 r.toInt)) ∧ hx_T T_tb u.1 u.2 ∧ hx_S T_tb [(8, 0), (8, 1), (39, 0), (41, 0)] L h u.1 u.2) (hx_E T_tb (P_ty dA) (dC, dI) vwCl (hx_A L sz)) (hx_A L sz)) ([.ref x] : List Value).toArray s 0 0 (hx_A L sz)) (F0 m 11 ls []) := by
    intro n11
    induction n11 with
    | zero => intro iv11_2 ia11_qlf H locs hL1 hl1 bliv11_2 buiv11_2 vi11_0 vi11_1 ls hn11; exfalso; omega
    | succ n11 ih11 =>
      intro iv11_2 ia11_qlf H locs hL1 hl1 bliv11_2 buiv11_2 vi11_0 vi11_1 ls hn11 hW hT hM f_x_0 gql pf_x_0 nia11_qlf af_qlt cl_ql_0 hGx hGy hl
      refine lv_iload_n hx hb dX8_walkList_11 rfl (lv_at hl 0 rfl) ?_
      refine hb_if_le (zx := iv11_2.toInt) (tgt := 75) hx hb rfl dX8_walkList_12 (by decide) (fun c_4 => ?_) (fun c_4 => ?_)
      · skip
        have hEf : hw_E (hx_fg cfx cfy cn.toInt) (hw_HC cn.toInt ia11_qlf) cn.toInt (2 ^ cn.toInt.toNat - 1) 0 := hw_E_l vi11_0 (by omega)
        refine lv_aload_n hx hb dX8_walkList_75 rfl (lv_at hl 2 rfl) ?_
        refine hk_geti hx hb hts hC_8 hown hW (gx.S hM) tt_8 0 (by decide) rfl kw_345 ⟨rfl, rfl, rfl⟩ f_x_0 dX8_walkList_76 ?_
        refine hb_if_ne (zx := cn.toInt) (tgt := 86) hx hb rfl dX8_walkList_79 (by decide) (fun c_5 => ?_) (fun c_5 => ?_)
        · skip
          have hp1 := hw_p2n1 (n := cn.toInt) (by omega) (by omega)
          refine lv_aload_n hx hb dX8_walkList_86 rfl (lv_at hl 2 rfl) ?_
          refine lv_iconst (v := 0) hx hb dX8_walkList_87 (by decide) ?_
          refine lv_iconst (v := -1) hx hb dX8_walkList_88 (by decide) ?_
          have hTo := hT
          have zc_m1 : (-1 : Int32).toInt = -1 := by decide
          have zc_0 : (0 : Int32).toInt = 0 := by decide
          refine hx_goi (hx_runV (As := [.int (0 : Int32), .int (-1 : Int32)]) (rest := []) ⟨hx, hb, hml, hown, hts⟩ hW (gx.S hM) tt_8 (T := TX8) (N := 5) rfl (t_X8_leastOn_2 l dC dI dA hL1 hl1 H.size x (0 : Int32) (-1 : Int32) hT (gx.S hM) ql gql ((hM.o gx trivial rfl).2.trans f_x_3) qlf (gqlf.S hM) ((hM.o gx trivial rfl).2.trans f_x_4) ia11_qlf nia11_qlf cn f_x_0 ⟨by omega, by omega⟩ ⟨by omega, by omega⟩ cfx cfy hGx hGy hBx hBy (hw_E_l (hw_E_w vi11_0) (by omega)) pf_x_0) (cwV 2 hts (hx_gV kw_1067 kw_1064 kw_1066 kw_43 kw_102) rfl rfl rfl (by decide +kernel) ⟨Nat.le_of_ble_eq_true rfl, Nat.le_of_ble_eq_true rfl⟩) rfl hl.1 rfl (Nat.le_of_ble_eq_true rfl) dX8_walkList_89 ⟨Nat.le_of_ble_eq_true rfl, Nat.le_of_ble_eq_true rfl⟩) hW (fun r_8 L_6 h_7 H locs p_9 hW => ?_)
          obtain ⟨hr_10, hT, hs⟩ := p_9
          replace hT : hx_T T_tb L_6 h_7 := hT
          replace hs : hx_S T_tb [] hL1 hl1 L_6 h_7 := hs
          replace f_x_0 := (hs.o (gx.S hM) trivial rfl).1.trans f_x_0
          replace pf_x_0 : ∀ j : Nat, (j : Int) < (h_7.2.1 x 0).toInt → h_7.2.2 ql j ≠ none := by
            intro j hj; rw [(hs.o (gx.S hM) trivial rfl).1] at hj; rw [(hs.a gql rfl j).2]; exact pf_x_0 j hj
          replace cl_ql_0 : hx_col 8 h_7 ql 0 = lf := (hx_col_S hs hTo gql tt_40 tt_2 rfl rfl).trans cl_ql_0
          replace hGx : hx_dc h_7 ql 2 5 cfx cn.toInt := hx_dc_S hs hTo gql tt_40 tt_2 rfl tt_4 rfl rfl rfl (by omega) hGx
          replace hGy : hx_dc h_7 ql 2 6 cfy cn.toInt := hx_dc_S hs hTo gql tt_40 tt_2 rfl tt_4 rfl rfl rfl (by omega) hGy
          replace af_qlt : h_7.2.1 qlt = ltf := (funext fun j => (hs.a (gqlt.S hM) rfl j).1).trans af_qlt
          replace nia11_qlf : h_7.2.1 qlf = ia11_qlf := (funext fun j => (hs.a (gqlf.S hM) rfl j).1).trans nia11_qlf
          replace hM := hM.tr (hs.mono (by decide))
          replace gql := gql.S hs
          have hmf := hw_mn_c (l1 := 2 ^ cn.toInt.toNat - 1) (i1 := cn.toInt) hr_10.1 (by omega) (hw_la1 (by omega))
          refine lv_istore_n (lv' := [(2, .int r_8), (1, .int x_3), (0, .ref x)]) hx hb dX8_walkList_92 rfl hl (by decide) rfl (fun ls hl => ?_)
          refine lv_aload_n hx hb dX8_walkList_93 rfl (lv_at hl 2 rfl) ?_
          refine lv_iload_n hx hb dX8_walkList_94 rfl (lv_at hl 0 rfl) ?_
          have hTo := hT
          refine hx_gov (hx_runV (As := [.int r_8]) (rest := []) ⟨hx, hb, hml, hown, hts⟩ hW (gx.S hM) tt_8 (T := TX8) (N := 5) rfl (t_X8_retrace_2 l dC dI dA L_6 h_7 H.size x r_8 hT (gx.S hM) ql gql ((hM.o gx trivial rfl).2.trans f_x_3) qlf (gqlf.S hM) ((hM.o gx trivial rfl).2.trans f_x_4) qlt (gqlt.S hM) ((hM.o gx trivial rfl).2.trans f_x_2) ia11_qlf nia11_qlf ltf af_qlt cn f_x_0 lf cl_ql_0 cfx cfy hGx hGy hBx hBy hEf hmf pf_x_0) (cwV 1 hts (hx_gV kw_1080 kw_1077 kw_1079 kw_45 kw_102) rfl rfl rfl (by decide +kernel) ⟨Nat.le_of_ble_eq_true rfl, Nat.le_of_ble_eq_true rfl⟩) rfl hl.1 rfl (Nat.le_of_ble_eq_true rfl) dX8_walkList_95 ⟨Nat.le_of_ble_eq_true rfl, Nat.le_of_ble_eq_true rfl⟩) hW (fun L_11 h_12 H locs p_14 hW => ?_)
          obtain ⟨⟨w_16, fw_16, hr_15⟩, hT, hs⟩ := p_14
          replace hT : hx_T T_tb L_11 h_12 := hT
          replace hs : hx_S T_tb [(39, 0)] L_6 h_7 L_11 h_12 := hs
          replace f_x_0 := (hs.o (gx.S hM) trivial rfl).1.trans f_x_0
          replace pf_x_0 : ∀ j : Nat, (j : Int) < (h_12.2.1 x 0).toInt → h_12.2.2 ql j ≠ none := by
            intro j hj; rw [(hs.o (gx.S hM) trivial rfl).1] at hj; rw [(hs.a gql rfl j).2]; exact pf_x_0 j hj
          replace cl_ql_0 : hx_col 8 h_12 ql 0 = lf := (hx_col_S hs hTo gql tt_40 tt_2 rfl rfl).trans cl_ql_0
          replace hGx : hx_dc h_12 ql 2 5 cfx cn.toInt := hx_dc_S hs hTo gql tt_40 tt_2 rfl tt_4 rfl rfl rfl (by omega) hGx
          replace hGy : hx_dc h_12 ql 2 6 cfy cn.toInt := hx_dc_S hs hTo gql tt_40 tt_2 rfl tt_4 rfl rfl rfl (by omega) hGy
          replace nia11_qlf : h_12.2.1 qlf = ia11_qlf := (funext fun j => (hs.a (gqlf.S hM) rfl j).1).trans nia11_qlf
          replace hM := hM.tr (hs.mono (by decide))
          replace gql := gql.S hs
          have fw_16 : h_12.2.1 qlt = w_16 := fw_16
          refine lv_aload_n hx hb dX8_walkList_98 rfl (lv_at hl 2 rfl) ?_
          refine lv_aload_n hx hb dX8_walkList_99 rfl (lv_at hl 2 rfl) ?_
          refine hk_geti hx hb hts hC_8 hown hW (gx.S hM) tt_8 0 (by decide) rfl kw_345 ⟨rfl, rfl, rfl⟩ f_x_0 dX8_walkList_100 ?_
          have hTo := hT
          refine hx_puti hx hb hts hC_8 hown hW hT (hx_S.rf (M := [(8, 1)])) (gx.S hM) tt_8 1 (by decide) rfl kw_347 ⟨rfl, rfl, rfl⟩ rfl (x := cn) ⟨by omega, by omega⟩ rfl rfl rfl (List.mem_singleton.mpr rfl) dX8_walkList_103 (fun H locs h_17 eh_17 hW hT hs => ?_)
          replace f_x_0 := (hs.o (gx.S hM) trivial rfl).1.trans f_x_0
          replace pf_x_0 : ∀ j : Nat, (j : Int) < (h_17.2.1 x 0).toInt → h_17.2.2 ql j ≠ none := by
            intro j hj; rw [(hs.o (gx.S hM) trivial rfl).1] at hj; rw [(hs.a gql rfl j).2]; exact pf_x_0 j hj
          replace cl_ql_0 : hx_col 8 h_17 ql 0 = lf := (hx_col_S hs hTo gql tt_40 tt_2 rfl rfl).trans cl_ql_0
          replace hGx : hx_dc h_17 ql 2 5 cfx cn.toInt := hx_dc_S hs hTo gql tt_40 tt_2 rfl tt_4 rfl rfl rfl (by omega) hGx
          replace hGy : hx_dc h_17 ql 2 6 cfy cn.toInt := hx_dc_S hs hTo gql tt_40 tt_2 rfl tt_4 rfl rfl rfl (by omega) hGy
          replace nia11_qlf : h_17.2.1 qlf = ia11_qlf := (funext fun j => (hs.a (gqlf.S hM) rfl j).1).trans nia11_qlf
          replace fw_16 : h_17.2.1 qlt = w_16 := (funext fun j => (hs.a (gqlt.S hM) rfl j).1).trans fw_16
          replace hM := hM.tr (hs.mono (by decide))
          replace gql := gql.S hs
          have f_18 : h_17.2.1 x 1 = cn := by rw [eh_17]; exact hx_pi_at _ _ _ _
          refine lv_aload_n hx hb dX8_walkList_106 rfl (lv_at hl 2 rfl) ?_
          refine lv_iconst (v := 0) hx hb dX8_walkList_107 (by decide) ?_
          have hTo := hT
          refine hx_puti hx hb hts hC_8 hown hW hT (hx_S.rf (M := [(8, 0)])) (gx.S hM) tt_8 0 (by decide) rfl kw_345 ⟨rfl, rfl, rfl⟩ rfl (x := (0 : Int32)) (by decide) rfl rfl rfl (List.mem_singleton.mpr rfl) dX8_walkList_108 (fun H locs h_19 eh_19 hW hT hs => ?_)
          replace f_18 := (hs.o (gx.S hM) trivial rfl).1.trans f_18
          replace cl_ql_0 : hx_col 8 h_19 ql 0 = lf := (hx_col_S hs hTo gql tt_40 tt_2 rfl rfl).trans cl_ql_0
          replace hGx : hx_dc h_19 ql 2 5 cfx cn.toInt := hx_dc_S hs hTo gql tt_40 tt_2 rfl tt_4 rfl rfl rfl (by omega) hGx
          replace hGy : hx_dc h_19 ql 2 6 cfy cn.toInt := hx_dc_S hs hTo gql tt_40 tt_2 rfl tt_4 rfl rfl rfl (by omega) hGy
          replace nia11_qlf : h_19.2.1 qlf = ia11_qlf := (funext fun j => (hs.a (gqlf.S hM) rfl j).1).trans nia11_qlf
          replace fw_16 : h_19.2.1 qlt = w_16 := (funext fun j => (hs.a (gqlt.S hM) rfl j).1).trans fw_16
          replace hM := hM.tr (hs.mono (by decide))
          replace gql := gql.S hs
          have f_20 : h_19.2.1 x 0 = (0 : Int32) := by rw [eh_19]; exact hx_pi_at _ _ _ _
          refine lv_iload_n hx hb dX8_walkList_111 rfl (lv_at hl 0 rfl) ?_
          have zo_0 : (0 : Int32).toInt = 0 := by decide
          exact hx_reti hx hb hr hlk hW ⟨⟨(0 : Int32), cn, w_16, f_20, f_18, fw_16, ⟨by decide, rfl, (hw_HC cn.toInt ia11_qlf), hw_E_WT (by omega) (by omega) hEf, hmf, hr_15⟩⟩, hT, hM⟩ dX8_walkList_112
        · skip
          refine lv_iconst (v := 0) hx hb dX8_walkList_82 (by decide) ?_
          refine lv_goto (tgt := 92) hx hb dX8_walkList_83 (by decide) ?_
          have hmf := hw_mn_00 (gx := cfx) (gy := cfy) (H := (hw_HC cn.toInt ia11_qlf)) (n := cn.toInt) (V := (0 : Int32).toInt) (by omega) (by decide)
          refine lv_istore_n (lv' := [(2, .int (0 : Int32)), (1, .int x_3), (0, .ref x)]) hx hb dX8_walkList_92 rfl hl (by decide) rfl (fun ls hl => ?_)
          refine lv_aload_n hx hb dX8_walkList_93 rfl (lv_at hl 2 rfl) ?_
          refine lv_iload_n hx hb dX8_walkList_94 rfl (lv_at hl 0 rfl) ?_
          have hTo := hT
          have zc_0 : (0 : Int32).toInt = 0 := by decide
          refine hx_gov (hx_runV (As := [.int (0 : Int32)]) (rest := []) ⟨hx, hb, hml, hown, hts⟩ hW (gx.S hM) tt_8 (T := TX8) (N := 5) rfl (t_X8_retrace_2 l dC dI dA hL1 hl1 H.size x (0 : Int32) hT (gx.S hM) ql gql ((hM.o gx trivial rfl).2.trans f_x_3) qlf (gqlf.S hM) ((hM.o gx trivial rfl).2.trans f_x_4) qlt (gqlt.S hM) ((hM.o gx trivial rfl).2.trans f_x_2) ia11_qlf nia11_qlf ltf af_qlt cn f_x_0 lf cl_ql_0 cfx cfy hGx hGy hBx hBy hEf hmf pf_x_0) (cwV 1 hts (hx_gV kw_1080 kw_1077 kw_1079 kw_45 kw_102) rfl rfl rfl (by decide +kernel) ⟨Nat.le_of_ble_eq_true rfl, Nat.le_of_ble_eq_true rfl⟩) rfl hl.1 rfl (Nat.le_of_ble_eq_true rfl) dX8_walkList_95 ⟨Nat.le_of_ble_eq_true rfl, Nat.le_of_ble_eq_true rfl⟩) hW (fun L_21 h_22 H locs p_24 hW => ?_)
          obtain ⟨⟨w_26, fw_26, hr_25⟩, hT, hs⟩ := p_24
          replace hT : hx_T T_tb L_21 h_22 := hT
          replace hs : hx_S T_tb [(39, 0)] hL1 hl1 L_21 h_22 := hs
          replace f_x_0 := (hs.o (gx.S hM) trivial rfl).1.trans f_x_0
          replace pf_x_0 : ∀ j : Nat, (j : Int) < (h_22.2.1 x 0).toInt → h_22.2.2 ql j ≠ none := by
            intro j hj; rw [(hs.o (gx.S hM) trivial rfl).1] at hj; rw [(hs.a gql rfl j).2]; exact pf_x_0 j hj
          replace cl_ql_0 : hx_col 8 h_22 ql 0 = lf := (hx_col_S hs hTo gql tt_40 tt_2 rfl rfl).trans cl_ql_0
          replace hGx : hx_dc h_22 ql 2 5 cfx cn.toInt := hx_dc_S hs hTo gql tt_40 tt_2 rfl tt_4 rfl rfl rfl (by omega) hGx
          replace hGy : hx_dc h_22 ql 2 6 cfy cn.toInt := hx_dc_S hs hTo gql tt_40 tt_2 rfl tt_4 rfl rfl rfl (by omega) hGy
          replace nia11_qlf : h_22.2.1 qlf = ia11_qlf := (funext fun j => (hs.a (gqlf.S hM) rfl j).1).trans nia11_qlf
          replace hM := hM.tr (hs.mono (by decide))
          replace gql := gql.S hs
          have fw_26 : h_22.2.1 qlt = w_26 := fw_26
          refine lv_aload_n hx hb dX8_walkList_98 rfl (lv_at hl 2 rfl) ?_
          refine lv_aload_n hx hb dX8_walkList_99 rfl (lv_at hl 2 rfl) ?_
          refine hk_geti hx hb hts hC_8 hown hW (gx.S hM) tt_8 0 (by decide) rfl kw_345 ⟨rfl, rfl, rfl⟩ f_x_0 dX8_walkList_100 ?_
          have hTo := hT
          refine hx_puti hx hb hts hC_8 hown hW hT (hx_S.rf (M := [(8, 1)])) (gx.S hM) tt_8 1 (by decide) rfl kw_347 ⟨rfl, rfl, rfl⟩ rfl (x := cn) ⟨by omega, by omega⟩ rfl rfl rfl (List.mem_singleton.mpr rfl) dX8_walkList_103 (fun H locs h_27 eh_27 hW hT hs => ?_)
          replace f_x_0 := (hs.o (gx.S hM) trivial rfl).1.trans f_x_0
          replace pf_x_0 : ∀ j : Nat, (j : Int) < (h_27.2.1 x 0).toInt → h_27.2.2 ql j ≠ none := by
            intro j hj; rw [(hs.o (gx.S hM) trivial rfl).1] at hj; rw [(hs.a gql rfl j).2]; exact pf_x_0 j hj
          replace cl_ql_0 : hx_col 8 h_27 ql 0 = lf := (hx_col_S hs hTo gql tt_40 tt_2 rfl rfl).trans cl_ql_0
          replace hGx : hx_dc h_27 ql 2 5 cfx cn.toInt := hx_dc_S hs hTo gql tt_40 tt_2 rfl tt_4 rfl rfl rfl (by omega) hGx
          replace hGy : hx_dc h_27 ql 2 6 cfy cn.toInt := hx_dc_S hs hTo gql tt_40 tt_2 rfl tt_4 rfl rfl rfl (by omega) hGy
          replace nia11_qlf : h_27.2.1 qlf = ia11_qlf := (funext fun j => (hs.a (gqlf.S hM) rfl j).1).trans nia11_qlf
          replace fw_26 : h_27.2.1 qlt = w_26 := (funext fun j => (hs.a (gqlt.S hM) rfl j).1).trans fw_26
          replace hM := hM.tr (hs.mono (by decide))
          replace gql := gql.S hs
          have f_28 : h_27.2.1 x 1 = cn := by rw [eh_27]; exact hx_pi_at _ _ _ _
          refine lv_aload_n hx hb dX8_walkList_106 rfl (lv_at hl 2 rfl) ?_
          refine lv_iconst (v := 0) hx hb dX8_walkList_107 (by decide) ?_
          have hTo := hT
          refine hx_puti hx hb hts hC_8 hown hW hT (hx_S.rf (M := [(8, 0)])) (gx.S hM) tt_8 0 (by decide) rfl kw_345 ⟨rfl, rfl, rfl⟩ rfl (x := (0 : Int32)) (by decide) rfl rfl rfl (List.mem_singleton.mpr rfl) dX8_walkList_108 (fun H locs h_29 eh_29 hW hT hs => ?_)
          replace f_28 := (hs.o (gx.S hM) trivial rfl).1.trans f_28
          replace cl_ql_0 : hx_col 8 h_29 ql 0 = lf := (hx_col_S hs hTo gql tt_40 tt_2 rfl rfl).trans cl_ql_0
          replace hGx : hx_dc h_29 ql 2 5 cfx cn.toInt := hx_dc_S hs hTo gql tt_40 tt_2 rfl tt_4 rfl rfl rfl (by omega) hGx
          replace hGy : hx_dc h_29 ql 2 6 cfy cn.toInt := hx_dc_S hs hTo gql tt_40 tt_2 rfl tt_4 rfl rfl rfl (by omega) hGy
          replace nia11_qlf : h_29.2.1 qlf = ia11_qlf := (funext fun j => (hs.a (gqlf.S hM) rfl j).1).trans nia11_qlf
          replace fw_26 : h_29.2.1 qlt = w_26 := (funext fun j => (hs.a (gqlt.S hM) rfl j).1).trans fw_26
          replace hM := hM.tr (hs.mono (by decide))
          replace gql := gql.S hs
          have f_30 : h_29.2.1 x 0 = (0 : Int32) := by rw [eh_29]; exact hx_pi_at _ _ _ _
          refine lv_iload_n hx hb dX8_walkList_111 rfl (lv_at hl 0 rfl) ?_
          have zo_0 : (0 : Int32).toInt = 0 := by decide
          exact hx_reti hx hb hr hlk hW ⟨⟨(0 : Int32), cn, w_26, f_30, f_28, fw_26, ⟨by decide, rfl, (hw_HC cn.toInt ia11_qlf), hw_E_WT (by omega) (by omega) hEf, hmf, hr_25⟩⟩, hT, hM⟩ dX8_walkList_112
      · skip
        refine lv_iconst (v := 0) hx hb dX8_walkList_15 (by decide) ?_
        refine lv_istore_n (lv' := [(3, .int (0 : Int32)), (2, .int iv11_2), (1, .int x_3), (0, .ref x)]) hx hb dX8_walkList_16 rfl hl (by decide) rfl (fun ls hl => ?_)
        have loop17 : ∀ (n17 : Nat) (iv17_3 : Int32) (ia17_qlf : Nat → Int32) (H : Heap) (locs : List Loc) (hL1 : List Nat) (hl1 : hx_h), 0 ≤ iv17_3.toInt → iv17_3.toInt ≤ 8 → (hw_E (hx_fg cfx cfy cn.toInt) (hw_HC cn.toInt ia17_qlf) cn.toInt (2 ^ cn.toInt.toNat - 1 - iv11_2.toInt) iv17_3.toInt) → ∀ (ls : Array Slot), 8 - iv17_3.toInt < (n17 : Int) → hx_W T_tb (P_ty dA) (dC, dI) vwCl (hx_A L sz) s.heap hL1 hl1 s H locs → hx_T T_tb hL1 hl1 → hx_S T_tb [(8, 0), (8, 1), (39, 0), (41, 0)] L h hL1 hl1 → hl1.2.1 x 0 = cn → hx_g hL1 hl1 ql 40 → (∀ j : Nat, (j : Int) < (hl1.2.1 x 0).toInt → hl1.2.2 ql j ≠ none) → hl1.2.1 qlf = ia17_qlf → hl1.2.1 qlt = ltf → hx_col 8 hl1 ql 0 = lf → hx_dc hl1 ql 2 5 cfx cn.toInt → hx_dc hl1 ql 2 6 cfy cn.toInt → lv_has ls 4 [(3, .int iv17_3), (2, .int iv11_2), (1, .int x_3), (0, .ref x)] → W p l e ({ frames := 5, cells := 0, slots := 0, locals := 117 }) s m ([.ref x] : List Value).toArray below meth c H locs 0 0 (MQ below (va_Qi (fun (r : Int32) (u : List Nat × hx_h) => (∃ (n1 : Int32) (wm1 : Int32) (lt1 : Nat → Int32), u.2.2.1 x 0 = n1 ∧ u.2.2.1 x 1 = wm1 ∧ u.2.2.1 qlt = lt1 ∧ (n1.toInt = 0 ∧ wm1.toInt = cn.toInt ∧ hx_WA (hx_fg cfx cfy cn.toInt) cn.toInt lf lt1 r.toInt)) ∧ hx_T T_tb u.1 u.2 ∧ hx_S T_tb [(8, 0), (8, 1), (39, 0), (41, 0)] L h u.1 u.2) (hx_E T_tb (P_ty dA) (dC, dI) vwCl (hx_A L sz)) (hx_A L sz)) ([.ref x] : List Value).toArray s 0 0 (hx_A L sz)) (F0 m 17 ls []) := by
          intro n17
          induction n17 with
          | zero => intro iv17_3 ia17_qlf H locs hL1 hl1 bliv17_3 buiv17_3 vi17_0 ls hn17; exfalso; omega
          | succ n17 ih17 =>
            intro iv17_3 ia17_qlf H locs hL1 hl1 bliv17_3 buiv17_3 vi17_0 ls hn17 hW hT hM f_x_0 gql pf_x_0 nia17_qlf af_qlt cl_ql_0 hGx hGy hl
            refine lv_iload_n hx hb dX8_walkList_17 rfl (lv_at hl 0 rfl) ?_
            refine lv_aload_n hx hb dX8_walkList_18 rfl (lv_at hl 3 rfl) ?_
            refine hk_geti hx hb hts hC_8 hown hW (gx.S hM) tt_8 0 (by decide) rfl kw_345 ⟨rfl, rfl, rfl⟩ f_x_0 dX8_walkList_19 ?_
            refine hb_icmp_ge (zx := iv17_3.toInt) (zy := cn.toInt) (tgt := 69) hx hb rfl rfl dX8_walkList_22 (by decide) (fun c_31 => ?_) (fun c_31 => ?_)
            · skip
              obtain ⟨x_32, ex_32⟩ : ∃ y : Int32, y = iv11_2 + Int32.ofInt (-1) := ⟨_, rfl⟩
              have rg_33 := i32_r iv11_2
              have zx_32 : x_32.toInt = iv11_2.toInt + (-1) := by rw [ex_32]; exact i32_add rfl (by decide) (by omega) (by omega)
              refine lv_iinc (v := x_32) (lv' := [(2, .int x_32), (3, .int iv17_3), (1, .int x_3), (0, .ref x)]) hx hb dX8_walkList_69 hl (k := 1) rfl ex_32.symm (by decide) rfl (fun ls hl => ?_)
              refine lv_goto (tgt := 11) hx hb dX8_walkList_72 (by decide) ?_
              exact ih11 x_32 ia17_qlf _ _ hL1 hl1 (by omega) (by omega) (hw_E_row vi17_0 (by omega) (by omega)) (by omega) ls (by omega) hW hT hM f_x_0 gql pf_x_0 nia17_qlf af_qlt cl_ql_0 hGx hGy (lv_sub hl [0, 2, 3] rfl)
            · skip
              refine lv_iload_n hx hb dX8_walkList_25 rfl (lv_at hl 0 rfl) ?_
              refine lv_iload_n hx hb dX8_walkList_26 rfl (lv_at hl 1 rfl) ?_
              have hTo := hT
              refine hx_goi (hx_runS (As := [.int iv17_3, .int iv11_2]) (rest := []) ⟨hx, hb, hml, hown, hts⟩ hW (t_X8_isIn_2 l dC dI dA hL1 hl1 H.size iv17_3 iv11_2 hT ⟨by omega, by omega⟩ ⟨by omega, by omega⟩) (va_cwS 2 hts (hx_gS kw_1058 kw_1056 kw_1057 kw_102) rfl rfl rfl (by decide +kernel) ⟨Nat.le_of_ble_eq_true rfl, Nat.le_of_ble_eq_true rfl⟩) rfl hl.1 rfl (Nat.le_of_ble_eq_true rfl) dX8_walkList_27 ⟨Nat.le_of_ble_eq_true rfl, Nat.le_of_ble_eq_true rfl⟩) hW (fun r_36 L_34 h_35 H locs p_37 hW => ?_)
              obtain ⟨hr_38, hT, hs⟩ := p_37
              replace hT : hx_T T_tb L_34 h_35 := hT
              replace hs : hx_S T_tb [] hL1 hl1 L_34 h_35 := hs
              replace f_x_0 := (hs.o (gx.S hM) trivial rfl).1.trans f_x_0
              replace pf_x_0 : ∀ j : Nat, (j : Int) < (h_35.2.1 x 0).toInt → h_35.2.2 ql j ≠ none := by
                intro j hj; rw [(hs.o (gx.S hM) trivial rfl).1] at hj; rw [(hs.a gql rfl j).2]; exact pf_x_0 j hj
              replace cl_ql_0 : hx_col 8 h_35 ql 0 = lf := (hx_col_S hs hTo gql tt_40 tt_2 rfl rfl).trans cl_ql_0
              replace hGx : hx_dc h_35 ql 2 5 cfx cn.toInt := hx_dc_S hs hTo gql tt_40 tt_2 rfl tt_4 rfl rfl rfl (by omega) hGx
              replace hGy : hx_dc h_35 ql 2 6 cfy cn.toInt := hx_dc_S hs hTo gql tt_40 tt_2 rfl tt_4 rfl rfl rfl (by omega) hGy
              replace af_qlt : h_35.2.1 qlt = ltf := (funext fun j => (hs.a (gqlt.S hM) rfl j).1).trans af_qlt
              replace nia17_qlf : h_35.2.1 qlf = ia17_qlf := (funext fun j => (hs.a (gqlf.S hM) rfl j).1).trans nia17_qlf
              replace hM := hM.tr (hs.mono (by decide))
              replace gql := gql.S hs
              refine hb_if_eq (zx := r_36.toInt) (tgt := 63) hx hb rfl dX8_walkList_30 (by decide) (fun c_39 => ?_) (fun c_39 => ?_)
              · skip
                have hnb : hx_bt iv11_2.toInt iv17_3.toInt = false := by rcases hr_38 with z | z; exfalso; omega; exact z.2
                have hbl := hw_bt2 (n := cn.toInt) (by omega) (by omega) (by omega) (by omega) (by omega) (by omega) hnb
                obtain ⟨x_40, ex_40⟩ : ∃ y : Int32, y = iv17_3 + Int32.ofInt 1 := ⟨_, rfl⟩
                have rg_41 := i32_r iv17_3
                have zx_40 : x_40.toInt = iv17_3.toInt + (1) := by rw [ex_40]; exact i32_add rfl (by decide) (by omega) (by omega)
                refine lv_iinc (v := x_40) (lv' := [(3, .int x_40), (2, .int iv11_2), (1, .int x_3), (0, .ref x)]) hx hb dX8_walkList_63 hl (k := 0) rfl ex_40.symm (by decide) rfl (fun ls hl => ?_)
                refine lv_goto (tgt := 17) hx hb dX8_walkList_66 (by decide) ?_
                exact ih17 x_40 ia17_qlf _ _ L_34 h_35 (by omega) (by omega) (hw_E_skip vi17_0 hbl zx_40) ls (by omega) hW hT hM f_x_0 gql pf_x_0 nia17_qlf af_qlt cl_ql_0 hGx hGy (lv_sub hl [0, 1, 2, 3] rfl)
              · skip
                have hib : hx_bt iv11_2.toInt iv17_3.toInt = true := by rcases hr_38 with z | z; exact z.2; exfalso; omega
                have hbl := hw_bf2 (n := cn.toInt) (by omega) (by omega) (by omega) (by omega) (by omega) (by omega) hib
                refine lv_aload_n hx hb dX8_walkList_33 rfl (lv_at hl 3 rfl) ?_
                refine hk_getr hx hb hts hC_8 hown hW (gx.S hM) tt_8 4 (by decide) rfl kw_352 ⟨rfl, rfl, rfl⟩ ((hM.o gx trivial rfl).2.trans f_x_4) dX8_walkList_34 ?_
                refine lv_iload_n hx hb dX8_walkList_37 rfl (lv_at hl 1 rfl) ?_
                refine lv_bipush (v := 8) hx hb dX8_walkList_38 (by decide) ?_
                refine lv_imul hx hb dX8_walkList_40 ?_
                refine lv_topi (fun x_42 ex_42 => ?_)
                have zx_42 : x_42.toInt = iv11_2.toInt * 8 := by rw [ex_42]; exact i32_mul rfl (by decide) rfl (by omega) (by omega)
                refine lv_iload_n hx hb dX8_walkList_41 rfl (lv_at hl 0 rfl) ?_
                refine lv_iadd hx hb dX8_walkList_42 ?_
                have rg_43 := i32_r x_42
                have rg_44 := i32_r iv17_3
                refine lv_topi (fun x_45 ex_45 => ?_)
                have zx_45 : x_45.toInt = x_42.toInt + iv17_3.toInt := by rw [ex_45]; exact i32_add rfl rfl (by omega) (by omega)
                refine lv_iload_n hx hb dX8_walkList_43 rfl (lv_at hl 1 rfl) ?_
                refine lv_iload_n hx hb dX8_walkList_44 rfl (lv_at hl 2 rfl) ?_
                refine hb_icmp_ne (zx := iv11_2.toInt) (zy := x_3.toInt) (tgt := 56) hx hb rfl rfl dX8_walkList_45 (by decide) (fun c_46 => ?_) (fun c_46 => ?_)
                · skip
                  refine lv_aload_n hx hb dX8_walkList_56 rfl (lv_at hl 3 rfl) ?_
                  refine lv_iload_n hx hb dX8_walkList_57 rfl (lv_at hl 1 rfl) ?_
                  refine lv_iload_n hx hb dX8_walkList_58 rfl (lv_at hl 0 rfl) ?_
                  have hTo := hT
                  refine hx_goi (hx_runV (As := [.int iv11_2, .int iv17_3]) (rest := [.int x_45, .ref qlf]) ⟨hx, hb, hml, hown, hts⟩ hW (gx.S hM) tt_8 (T := TX8) (N := 5) rfl (t_X8_leastOn_2 l dC dI dA L_34 h_35 H.size x iv11_2 iv17_3 hT (gx.S hM) ql gql ((hM.o gx trivial rfl).2.trans f_x_3) qlf (gqlf.S hM) ((hM.o gx trivial rfl).2.trans f_x_4) ia17_qlf nia17_qlf cn f_x_0 ⟨by omega, by omega⟩ ⟨by omega, by omega⟩ cfx cfy hGx hGy hBx hBy (hw_E_l (hw_E_w vi17_0) (by omega)) pf_x_0) (cwV 2 hts (hx_gV kw_1067 kw_1064 kw_1066 kw_43 kw_102) rfl rfl rfl (by decide +kernel) ⟨Nat.le_of_ble_eq_true rfl, Nat.le_of_ble_eq_true rfl⟩) rfl hl.1 rfl (Nat.le_of_ble_eq_true rfl) dX8_walkList_59 ⟨Nat.le_of_ble_eq_true rfl, Nat.le_of_ble_eq_true rfl⟩) hW (fun r_49 L_47 h_48 H locs p_50 hW => ?_)
                  obtain ⟨hr_51, hT, hs⟩ := p_50
                  replace hT : hx_T T_tb L_47 h_48 := hT
                  replace hs : hx_S T_tb [] L_34 h_35 L_47 h_48 := hs
                  replace f_x_0 := (hs.o (gx.S hM) trivial rfl).1.trans f_x_0
                  replace pf_x_0 : ∀ j : Nat, (j : Int) < (h_48.2.1 x 0).toInt → h_48.2.2 ql j ≠ none := by
                    intro j hj; rw [(hs.o (gx.S hM) trivial rfl).1] at hj; rw [(hs.a gql rfl j).2]; exact pf_x_0 j hj
                  replace cl_ql_0 : hx_col 8 h_48 ql 0 = lf := (hx_col_S hs hTo gql tt_40 tt_2 rfl rfl).trans cl_ql_0
                  replace hGx : hx_dc h_48 ql 2 5 cfx cn.toInt := hx_dc_S hs hTo gql tt_40 tt_2 rfl tt_4 rfl rfl rfl (by omega) hGx
                  replace hGy : hx_dc h_48 ql 2 6 cfy cn.toInt := hx_dc_S hs hTo gql tt_40 tt_2 rfl tt_4 rfl rfl rfl (by omega) hGy
                  replace af_qlt : h_48.2.1 qlt = ltf := (funext fun j => (hs.a (gqlt.S hM) rfl j).1).trans af_qlt
                  replace nia17_qlf : h_48.2.1 qlf = ia17_qlf := (funext fun j => (hs.a (gqlf.S hM) rfl j).1).trans nia17_qlf
                  replace hM := hM.tr (hs.mono (by decide))
                  replace gql := gql.S hs
                  have hmc := hw_mn_c hr_51.1 rfl (hw_la2 (by omega))
                  have hTo := hT
                  have nia17_qlfO := nia17_qlf
                  have hTo := hT
                  refine hx_iast hx hb hW hT (hx_S.rf (M := [(41, 0)])) (gqlf.S hM) tt_41 rfl ⟨by omega, by omega⟩ rfl (i32_r _) (List.mem_singleton.mpr rfl) dX8_walkList_62 (fun H locs h_52 eh_52 hW hT hs => ?_)
                  replace f_x_0 := (hs.o (gx.S hM) trivial rfl).1.trans f_x_0
                  replace pf_x_0 : ∀ j : Nat, (j : Int) < (h_52.2.1 x 0).toInt → h_52.2.2 ql j ≠ none := by
                    intro j hj; rw [(hs.o (gx.S hM) trivial rfl).1] at hj; rw [(hs.a gql rfl j).2]; exact pf_x_0 j hj
                  replace cl_ql_0 : hx_col 8 h_52 ql 0 = lf := (hx_col_S hs hTo gql tt_40 tt_2 rfl rfl).trans cl_ql_0
                  replace hGx : hx_dc h_52 ql 2 5 cfx cn.toInt := hx_dc_S hs hTo gql tt_40 tt_2 rfl tt_4 rfl rfl rfl (by omega) hGx
                  replace hGy : hx_dc h_52 ql 2 6 cfy cn.toInt := hx_dc_S hs hTo gql tt_40 tt_2 rfl tt_4 rfl rfl rfl (by omega) hGy
                  replace af_qlt : h_52.2.1 qlt = ltf := (funext fun j => (hs.a (gqlt.S hM) rfl j).1).trans af_qlt
                  replace hM := hM.tr (hs.mono (by decide))
                  replace gql := gql.S hs
                  obtain ⟨fa_53, dfa_53⟩ : ∃ g : Nat → Int32, g = hx_up ia17_qlf x_45.toNatClampNeg r_49 := ⟨_, rfl⟩
                  have nfa_53 : h_52.2.1 qlf = fa_53 := by rw [eh_52, dfa_53, ← nia17_qlfO]; exact hx_pi_fun _ _ _ _
                  obtain ⟨x_54, ex_54⟩ : ∃ y : Int32, y = iv17_3 + Int32.ofInt 1 := ⟨_, rfl⟩
                  have zx_54 : x_54.toInt = iv17_3.toInt + (1) := by rw [ex_54]; exact i32_add rfl (by decide) (by omega) (by omega)
                  refine lv_iinc (v := x_54) (lv' := [(3, .int x_54), (2, .int iv11_2), (1, .int x_3), (0, .ref x)]) hx hb dX8_walkList_63 hl (k := 0) rfl ex_54.symm (by decide) rfl (fun ls hl => ?_)
                  refine lv_goto (tgt := 17) hx hb dX8_walkList_66 (by decide) ?_
                  exact ih17 x_54 fa_53 _ _ L_47 h_52 (by omega) (by omega) (hw_E_put vi17_0 (by omega) (by omega) (by omega) (by omega) (by omega) (by omega) (by unfold Int32.toNatClampNeg; omega) rfl dfa_53 zx_54 (by omega) (by omega) hmc) ls (by omega) hW hT hM f_x_0 gql pf_x_0 nfa_53 af_qlt cl_ql_0 hGx hGy (lv_sub hl [0, 1, 2, 3] rfl)
                · skip
                  refine lv_aload_n hx hb dX8_walkList_48 rfl (lv_at hl 3 rfl) ?_
                  refine lv_iload_n hx hb dX8_walkList_49 rfl (lv_at hl 0 rfl) ?_
                  have hTo := hT
                  refine hx_goi (hx_runV (As := [.int iv17_3]) (rest := [.int x_45, .ref qlf]) ⟨hx, hb, hml, hown, hts⟩ hW (gx.S hM) tt_8 (T := TX8) (N := 5) rfl (t_X8_fromCourt_2 l dC dI dA L_34 h_35 H.size x iv17_3 hT (gx.S hM) ql gql ((hM.o gx trivial rfl).2.trans f_x_3) cn f_x_0 ⟨by omega, by omega⟩ cfx cfy hGx hGy hBx hBy pf_x_0) (cwV 1 hts (hx_gV kw_1062 kw_1059 kw_1061 kw_42 kw_102) rfl rfl rfl (by decide +kernel) ⟨Nat.le_of_ble_eq_true rfl, Nat.le_of_ble_eq_true rfl⟩) rfl hl.1 rfl (Nat.le_of_ble_eq_true rfl) dX8_walkList_50 ⟨Nat.le_of_ble_eq_true rfl, Nat.le_of_ble_eq_true rfl⟩) hW (fun r_57 L_55 h_56 H locs p_58 hW => ?_)
                  obtain ⟨hr_59, hT, hs⟩ := p_58
                  replace hT : hx_T T_tb L_55 h_56 := hT
                  replace hs : hx_S T_tb [] L_34 h_35 L_55 h_56 := hs
                  replace f_x_0 := (hs.o (gx.S hM) trivial rfl).1.trans f_x_0
                  replace pf_x_0 : ∀ j : Nat, (j : Int) < (h_56.2.1 x 0).toInt → h_56.2.2 ql j ≠ none := by
                    intro j hj; rw [(hs.o (gx.S hM) trivial rfl).1] at hj; rw [(hs.a gql rfl j).2]; exact pf_x_0 j hj
                  replace cl_ql_0 : hx_col 8 h_56 ql 0 = lf := (hx_col_S hs hTo gql tt_40 tt_2 rfl rfl).trans cl_ql_0
                  replace hGx : hx_dc h_56 ql 2 5 cfx cn.toInt := hx_dc_S hs hTo gql tt_40 tt_2 rfl tt_4 rfl rfl rfl (by omega) hGx
                  replace hGy : hx_dc h_56 ql 2 6 cfy cn.toInt := hx_dc_S hs hTo gql tt_40 tt_2 rfl tt_4 rfl rfl rfl (by omega) hGy
                  replace af_qlt : h_56.2.1 qlt = ltf := (funext fun j => (hs.a (gqlt.S hM) rfl j).1).trans af_qlt
                  replace nia17_qlf : h_56.2.1 qlf = ia17_qlf := (funext fun j => (hs.a (gqlf.S hM) rfl j).1).trans nia17_qlf
                  replace hM := hM.tr (hs.mono (by decide))
                  replace gql := gql.S hs
                  have hl0 : 2 ^ cn.toInt.toNat - 1 - iv11_2.toInt = 0 := by omega
                  have hmc := hw_mn0 (F := (hx_fg cfx cfy cn.toInt)) (H := (hw_HC cn.toInt ia17_qlf)) (n := cn.toInt) hl0 hr_59.1
                  refine lv_goto (tgt := 62) hx hb dX8_walkList_53 (by decide) ?_
                  have hTo := hT
                  have nia17_qlfO := nia17_qlf
                  have hTo := hT
                  refine hx_iast hx hb hW hT (hx_S.rf (M := [(41, 0)])) (gqlf.S hM) tt_41 rfl ⟨by omega, by omega⟩ rfl (i32_r _) (List.mem_singleton.mpr rfl) dX8_walkList_62 (fun H locs h_60 eh_60 hW hT hs => ?_)
                  replace f_x_0 := (hs.o (gx.S hM) trivial rfl).1.trans f_x_0
                  replace pf_x_0 : ∀ j : Nat, (j : Int) < (h_60.2.1 x 0).toInt → h_60.2.2 ql j ≠ none := by
                    intro j hj; rw [(hs.o (gx.S hM) trivial rfl).1] at hj; rw [(hs.a gql rfl j).2]; exact pf_x_0 j hj
                  replace cl_ql_0 : hx_col 8 h_60 ql 0 = lf := (hx_col_S hs hTo gql tt_40 tt_2 rfl rfl).trans cl_ql_0
                  replace hGx : hx_dc h_60 ql 2 5 cfx cn.toInt := hx_dc_S hs hTo gql tt_40 tt_2 rfl tt_4 rfl rfl rfl (by omega) hGx
                  replace hGy : hx_dc h_60 ql 2 6 cfy cn.toInt := hx_dc_S hs hTo gql tt_40 tt_2 rfl tt_4 rfl rfl rfl (by omega) hGy
                  replace af_qlt : h_60.2.1 qlt = ltf := (funext fun j => (hs.a (gqlt.S hM) rfl j).1).trans af_qlt
                  replace hM := hM.tr (hs.mono (by decide))
                  replace gql := gql.S hs
                  obtain ⟨fa_61, dfa_61⟩ : ∃ g : Nat → Int32, g = hx_up ia17_qlf x_45.toNatClampNeg r_57 := ⟨_, rfl⟩
                  have nfa_61 : h_60.2.1 qlf = fa_61 := by rw [eh_60, dfa_61, ← nia17_qlfO]; exact hx_pi_fun _ _ _ _
                  obtain ⟨x_62, ex_62⟩ : ∃ y : Int32, y = iv17_3 + Int32.ofInt 1 := ⟨_, rfl⟩
                  have zx_62 : x_62.toInt = iv17_3.toInt + (1) := by rw [ex_62]; exact i32_add rfl (by decide) (by omega) (by omega)
                  refine lv_iinc (v := x_62) (lv' := [(3, .int x_62), (2, .int iv11_2), (1, .int x_3), (0, .ref x)]) hx hb dX8_walkList_63 hl (k := 0) rfl ex_62.symm (by decide) rfl (fun ls hl => ?_)
                  refine lv_goto (tgt := 17) hx hb dX8_walkList_66 (by decide) ?_
                  exact ih17 x_62 fa_61 _ _ L_55 h_60 (by omega) (by omega) (hw_E_put vi17_0 (by omega) (by omega) (by omega) (by omega) (by omega) (by omega) (by unfold Int32.toNatClampNeg; omega) rfl dfa_61 zx_62 (by omega) (by omega) hmc) ls (by omega) hW hT hM f_x_0 gql pf_x_0 nfa_61 af_qlt cl_ql_0 hGx hGy (lv_sub hl [0, 1, 2, 3] rfl)
        have zk_0 : (0 : Int32).toInt = 0 := by decide
        exact loop17 9 (0 : Int32) ia11_qlf _ _ hL1 hl1 (by decide) (by decide) vi11_0 ls (by omega) hW hT hM f_x_0 gql pf_x_0 nia11_qlf af_qlt cl_ql_0 hGx hGy hl
  exact loop11 256 x_3 lff _ _ L h (by omega) (by omega) (hw_E_l hw_E0 (by omega)) (by omega) ls (by omega) hW hT hM f_x_0 gql pf_x_0 af_qlf af_qlt cl_ql_0 hGx hGy hl


set_option maxHeartbeats 4000000 in
set_option maxRecDepth 100000 in
theorem t_X9_walk_2 (l : Launch) (dC : Nat → ClassId) (dI : Nat → Nat → Nat) (dA : Nat → ClassId) (L : List Nat) (h : hx_h) (sz : Nat) (x : Nat) (hT : hx_T T_tb L h) (gx : hx_g L h x 9) (qw : Nat) (gqw : hx_g L h qw 8) (f_x_19 : h.2.2 x 19 = some qw) (ql : Nat) (gql : hx_g L h ql 40) (f_qw_3 : h.2.2 qw 3 = some ql) (qlf : Nat) (gqlf : hx_g L h qlf 41) (f_qw_4 : h.2.2 qw 4 = some qlf) (qlt : Nat) (gqlt : hx_g L h qlt 39) (f_qw_2 : h.2.2 qw 2 = some qlt) (ltf : Nat → Int32) (af_qlt : h.2.1 qlt = ltf) (cn : Int32) (f_qw_0 : h.2.1 qw 0 = cn) (lf : Nat → Int32) (cl_ql_0 : hx_col 8 h ql 0 = lf) (cfx cfy : Nat → Int32) (hGx : hx_dc h ql 2 5 cfx cn.toInt) (hGy : hx_dc h ql 2 6 cfy cn.toInt) (hBx : ∀ k : Nat, (k : Int) < cn.toInt → 0 ≤ (cfx k).toInt ∧ (cfx k).toInt ≤ 99) (hBy : ∀ k : Nat, (k : Int) < cn.toInt → 0 ≤ (cfy k).toInt ∧ (cfy k).toInt ≤ 99) (pf_qw_0 : ∀ j : Nat, (j : Int) < (h.2.1 qw 0).toInt → h.2.2 ql j ≠ none) : Met l yX9_walk (Cond.code yX9_walk cX9_walk 1 (some .int) :: hx_all) ({ frames := 6, cells := 0, slots := 0, locals := 140 }) (va_Pc [.ref x] (hx_B T_tb (P_ty dA) (dC, dI) vwCl L h sz)) (va_Qi (fun (r : Int32) (u : List Nat × hx_h) => (∃ (n1 : Int32) (wm1 : Int32) (lt1 : Nat → Int32), u.2.2.1 qw 0 = n1 ∧ u.2.2.1 qw 1 = wm1 ∧ u.2.2.1 qlt = lt1 ∧ (n1.toInt = 0 ∧ wm1.toInt = cn.toInt ∧ hx_WA (hx_fg cfx cfy cn.toInt) cn.toInt lf lt1 r.toInt)) ∧ hx_T T_tb u.1 u.2 ∧ hx_S T_tb [(8, 0), (8, 1), (39, 0), (41, 0)] L h u.1 u.2) (hx_E T_tb (P_ty dA) (dC, dI) vwCl (hx_A L sz)) (hx_A L sz)) 0 0 (hx_A L sz) := by
  refine hx_met (lv := [(0, .ref x)]) (by decide +kernel) rfl (Nat.le_of_ble_eq_true rfl) rfl ?_
  intro p e s m below meth c hx hb hml hr hlk hts0 hown hin hsz hW ls hl
  have hts : ∀ w ∈ hx_all, w.before _ s = true := fun w hw => hts0 w (List.mem_cons_of_mem _ hw)
  have hown : s.vm.findClass "SmallCourt" = some m.cls := hown
  have hM : hx_S T_tb [(8, 0), (8, 1), (39, 0), (41, 0)] L h L h := hx_S.rf
  have b_cn := hT.gi gqw tt_8 (k := 0) rfl
  rw [f_qw_0] at b_cn
  have b_cn : 0 ≤ cn.toInt ∧ cn.toInt ≤ 8 := b_cn
  refine lv_aload_n hx hb dX9_walk_0 rfl (lv_at hl 0 rfl) ?_
  refine hk_getr hx hb hts hC_9 hown hW (gx.S hM) tt_9 19 (by decide) rfl kw_383 ⟨rfl, rfl, rfl⟩ ((hM.o gx trivial rfl).2.trans f_x_19) dX9_walk_1 ?_
  have hTo := hT
  obtain ⟨fa_1, nfa_1⟩ : ∃ g : Nat → Int32, h.2.1 qlf = g := ⟨_, rfl⟩
  refine hx_goi (hx_runV (As := []) (rest := []) ⟨hx, hb, hml, hown, hts⟩ hW (gqw.S hM) tt_8 (T := TX8) (N := 5) rfl (t_X8_walkList_2 l dC dI dA L h s.heap.size qw hT (gqw.S hM) ql gql ((hM.o gqw trivial rfl).2.trans f_qw_3) qlf (gqlf.S hM) ((hM.o gqw trivial rfl).2.trans f_qw_4) qlt (gqlt.S hM) ((hM.o gqw trivial rfl).2.trans f_qw_2) fa_1 nfa_1 ltf af_qlt cn f_qw_0 lf cl_ql_0 cfx cfy hGx hGy hBx hBy pf_qw_0) (cwV 0 hts (hx_gV kw_1055 kw_1052 kw_1053 kw_1054 kw_102) rfl rfl rfl (by decide +kernel) ⟨Nat.le_of_ble_eq_true rfl, Nat.le_of_ble_eq_true rfl⟩) rfl hl.1 rfl (Nat.le_of_ble_eq_true rfl) dX9_walk_4 ⟨Nat.le_of_ble_eq_true rfl, Nat.le_of_ble_eq_true rfl⟩) hW (fun r_4 L_2 h_3 H locs p_5 hW => ?_)
  obtain ⟨⟨w_7, w_8, w_9, fw_7, fw_8, fw_9, hr_6⟩, hT, hs⟩ := p_5
  replace hT : hx_T T_tb L_2 h_3 := hT
  replace hs : hx_S T_tb [(8, 0), (8, 1), (39, 0), (41, 0)] L h L_2 h_3 := hs
  replace cl_ql_0 : hx_col 8 h_3 ql 0 = lf := (hx_col_S hs hTo gql tt_40 tt_2 rfl rfl).trans cl_ql_0
  replace hGx : hx_dc h_3 ql 2 5 cfx cn.toInt := hx_dc_S hs hTo gql tt_40 tt_2 rfl tt_4 rfl rfl rfl (by omega) hGx
  replace hGy : hx_dc h_3 ql 2 6 cfy cn.toInt := hx_dc_S hs hTo gql tt_40 tt_2 rfl tt_4 rfl rfl rfl (by omega) hGy
  replace hM := hM.tr (hs.mono (by decide))
  replace gql := gql.S hs
  have fw_7 : h_3.2.1 qw 0 = w_7 := fw_7
  have bw_7 := hT.gi (gqw.S hM) tt_8 (k := 0) rfl
  rw [fw_7] at bw_7
  have bw_7 : 0 ≤ w_7.toInt ∧ w_7.toInt ≤ 8 := bw_7
  have fw_8 : h_3.2.1 qw 1 = w_8 := fw_8
  have bw_8 := hT.gi (gqw.S hM) tt_8 (k := 1) rfl
  rw [fw_8] at bw_8
  have bw_8 : 0 ≤ w_8.toInt ∧ w_8.toInt ≤ 8 := bw_8
  have fw_9 : h_3.2.1 qlt = w_9 := fw_9
  exact hx_reti hx hb hr hlk hW ⟨⟨w_7, w_8, w_9, fw_7, fw_8, fw_9, hr_6⟩, hT, hM⟩ dX9_walk_7


set_option maxHeartbeats 4000000 in
set_option maxRecDepth 100000 in
theorem t_X9_walked_2 (l : Launch) (dC : Nat → ClassId) (dI : Nat → Nat → Nat) (dA : Nat → ClassId) (L : List Nat) (h : hx_h) (sz : Nat) (x : Nat) (i1 : Int32) (hT : hx_T T_tb L h) (gx : hx_g L h x 9) (qw : Nat) (gqw : hx_g L h qw 8) (f_x_19 : h.2.2 x 19 = some qw) (qlt : Nat) (gqlt : hx_g L h qlt 39) (f_qw_2 : h.2.2 qw 2 = some qlt) (ltf : Nat → Int32) (af_qlt : h.2.1 qlt = ltf) (wm : Int32) (f_qw_1 : h.2.1 qw 1 = wm) : Met l yX9_walked (Cond.code yX9_walked cX9_walked 2 (some .int) :: hx_all) ({ frames := 0, cells := 0, slots := 0, locals := 0 }) (va_Pc [.ref x, .int i1] (hx_B T_tb (P_ty dA) (dC, dI) vwCl L h sz)) (va_Qi (fun (r : Int32) (u : List Nat × hx_h) => ((r.toInt = -1 ∧ ¬ (0 ≤ i1.toInt ∧ i1.toInt < wm.toInt)) ∨ ((0 ≤ i1.toInt ∧ i1.toInt < wm.toInt) ∧ r = ltf i1.toInt.toNat)) ∧ hx_T T_tb u.1 u.2 ∧ hx_S T_tb [] L h u.1 u.2) (hx_E T_tb (P_ty dA) (dC, dI) vwCl (hx_A L sz)) (hx_A L sz)) 0 0 (hx_A L sz) := by
  refine hx_met (lv := [(0, .ref x), (1, .int i1)]) (by decide +kernel) rfl (Nat.le_of_ble_eq_true rfl) rfl ?_
  intro p e s m below meth c hx hb hml hr hlk hts0 hown hin hsz hW ls hl
  have hts : ∀ w ∈ hx_all, w.before _ s = true := fun w hw => hts0 w (List.mem_cons_of_mem _ hw)
  have hown : s.vm.findClass "SmallCourt" = some m.cls := hown
  have hM : hx_S T_tb [] L h L h := hx_S.rf
  have b_wm := hT.gi gqw tt_8 (k := 1) rfl
  rw [f_qw_1] at b_wm
  have b_wm : 0 ≤ wm.toInt ∧ wm.toInt ≤ 8 := b_wm
  refine lv_iload_n hx hb dX9_walked_0 rfl (lv_at hl 1 rfl) ?_
  refine hb_if_lt (zx := i1.toInt) (tgt := 15) hx hb rfl dX9_walked_1 (by decide) (fun c_1 => ?_) (fun c_1 => ?_)
  · skip
    refine lv_iconst (v := -1) hx hb dX9_walked_15 (by decide) ?_
    refine lv_goto (tgt := 28) hx hb dX9_walked_16 (by decide) ?_
    exact hx_reti hx hb hr hlk hW ⟨(Or.inl ⟨by decide, by omega⟩), hT, hM⟩ dX9_walked_28
  · skip
    refine lv_iload_n hx hb dX9_walked_4 rfl (lv_at hl 1 rfl) ?_
    refine lv_aload_n hx hb dX9_walked_5 rfl (lv_at hl 0 rfl) ?_
    refine hk_getr hx hb hts hC_9 hown hW (gx.S hM) tt_9 19 (by decide) rfl kw_383 ⟨rfl, rfl, rfl⟩ ((hM.o gx trivial rfl).2.trans f_x_19) dX9_walked_6 ?_
    refine hk_geti hx hb hts hC_8 hown hW (gqw.S hM) tt_8 1 (by decide) rfl kw_348 ⟨rfl, rfl, rfl⟩ ((hM.o gqw trivial rfl).1.trans f_qw_1) dX9_walked_9 ?_
    refine hb_icmp_lt (zx := i1.toInt) (zy := wm.toInt) (tgt := 19) hx hb rfl rfl dX9_walked_12 (by decide) (fun c_2 => ?_) (fun c_2 => ?_)
    · skip
      refine lv_aload_n hx hb dX9_walked_19 rfl (lv_at hl 0 rfl) ?_
      refine hk_getr hx hb hts hC_9 hown hW (gx.S hM) tt_9 19 (by decide) rfl kw_383 ⟨rfl, rfl, rfl⟩ ((hM.o gx trivial rfl).2.trans f_x_19) dX9_walked_20 ?_
      refine hk_getr hx hb hts hC_8 hown hW (gqw.S hM) tt_8 2 (by decide) rfl kw_350 ⟨rfl, rfl, rfl⟩ ((hM.o gqw trivial rfl).2.trans f_qw_2) dX9_walked_23 ?_
      refine lv_iload_n hx hb dX9_walked_26 rfl (lv_at hl 1 rfl) ?_
      refine hx_iald hx hb hW hT (gqlt.S hM) tt_39 rfl ⟨by omega, by omega⟩ dX9_walked_27 (fun x_3 ex_3 lx_3 ux_3 => ?_)
      have ax_3 : x_3 = ltf i1.toNatClampNeg := ex_3.trans (congrFun (hx_afS hM gqlt rfl af_qlt) _)
      exact hx_reti hx hb hr hlk hW ⟨(Or.inr ⟨⟨by omega, by omega⟩, ax_3⟩), hT, hM⟩ dX9_walked_28
    · skip
      refine lv_iconst (v := -1) hx hb dX9_walked_15 (by decide) ?_
      refine lv_goto (tgt := 28) hx hb dX9_walked_16 (by decide) ?_
      exact hx_reti hx hb hr hlk hW ⟨(Or.inl ⟨by decide, by omega⟩), hT, hM⟩ dX9_walked_28


set_option maxHeartbeats 4000000 in
set_option maxRecDepth 100000 in
theorem t_X10_walked_2 (l : Launch) (dC : Nat → ClassId) (dI : Nat → Nat → Nat) (dA : Nat → ClassId) (L : List Nat) (h : hx_h) (sz : Nat) (x : Nat) (i1 : Int32) (hT : hx_T T_tb L h) (gx : hx_g L h x 10) (qwd : Nat) (gqwd : hx_g L h qwd 113) (f_x_93 : h.2.2 x 93 = some qwd) (wdf : Nat → Int32) (af_qwd : h.2.1 qwd = wdf) (wm : Int32) (f_x_92 : h.2.1 x 92 = wm) : Met l yX10_walked (Cond.code yX10_walked cX10_walked 2 (some .int) :: hx_all) ({ frames := 1, cells := 0, slots := 0, locals := 22 }) (va_Pc [.ref x, .int i1] (hx_B T_tb (P_ty dA) (dC, dI) vwCl L h sz)) (va_Qi (fun (r : Int32) (u : List Nat × hx_h) => ((r.toInt = -1 ∧ ¬ (0 ≤ i1.toInt ∧ i1.toInt < wm.toInt)) ∨ ((0 ≤ i1.toInt ∧ i1.toInt < wm.toInt) ∧ r = wdf i1.toInt.toNat)) ∧ hx_T T_tb u.1 u.2 ∧ hx_S T_tb [] L h u.1 u.2) (hx_E T_tb (P_ty dA) (dC, dI) vwCl (hx_A L sz)) (hx_A L sz)) 0 0 (hx_A L sz) := by
  refine hx_met (lv := [(0, .ref x), (1, .int i1)]) (by decide +kernel) rfl (Nat.le_of_ble_eq_true rfl) rfl ?_
  intro p e s m below meth c hx hb hml hr hlk hts0 hown hin hsz hW ls hl
  have hts : ∀ w ∈ hx_all, w.before _ s = true := fun w hw => hts0 w (List.mem_cons_of_mem _ hw)
  have hown : s.vm.findClass "SmallCourtModel" = some m.cls := hown
  have hM : hx_S T_tb [] L h L h := hx_S.rf
  have b_wm := hT.gi gx tt_10 (k := 92) rfl
  rw [f_x_92] at b_wm
  have b_wm : 0 ≤ wm.toInt ∧ wm.toInt ≤ 8 := b_wm
  refine lv_iload_n hx hb dX10_walked_0 rfl (lv_at hl 1 rfl) ?_
  refine lv_iconst (v := 0) hx hb dX10_walked_1 (by decide) ?_
  refine lv_aload_n hx hb dX10_walked_2 rfl (lv_at hl 0 rfl) ?_
  refine hk_geti hx hb hts hC_10 hown hW (gx.S hM) tt_10 92 (by decide) rfl kw_1235 ⟨rfl, rfl, rfl⟩ ((hM.o gx trivial rfl).1.trans f_x_92) dX10_walked_3 ?_
  refine lv_iconst (v := 1) hx hb dX10_walked_6 (by decide) ?_
  refine lv_isub hx hb dX10_walked_7 ?_
  have rg_1 := i32_r wm
  refine lv_topi (fun x_2 ex_2 => ?_)
  have zx_2 : x_2.toInt = wm.toInt - 1 := by rw [ex_2]; exact i32_sub rfl (by decide) (by omega) (by omega)
  have zc_0 : (0 : Int32).toInt = 0 := by decide
  refine hx_goi (hx_runS (As := [.int i1, .int (0 : Int32), .int x_2]) (rest := []) ⟨hx, hb, hml, hown, hts⟩ hW (t_X10_in l dC dI dA L h s.heap.size i1 (0 : Int32) x_2 hT) (va_cwS 3 hts (hx_gS kw_1445 kw_1443 kw_1444 kw_103) rfl rfl rfl (by decide +kernel) ⟨Nat.le_of_ble_eq_true rfl, Nat.le_of_ble_eq_true rfl⟩) rfl hl.1 rfl (Nat.le_of_ble_eq_true rfl) dX10_walked_8 ⟨Nat.le_of_ble_eq_true rfl, Nat.le_of_ble_eq_true rfl⟩) hW (fun r_5 L_3 h_4 H locs p_6 hW => ?_)
  obtain ⟨hr_7, hT, hs⟩ := p_6
  replace hT : hx_T T_tb L_3 h_4 := hT
  replace hs : hx_S T_tb [] L h L_3 h_4 := hs
  replace hM := hM.tr (hs.mono (by decide))
  refine hb_if_eq (zx := r_5.toInt) (tgt := 23) hx hb rfl dX10_walked_11 (by decide) (fun c_8 => ?_) (fun c_8 => ?_)
  · skip
    replace hr_7 := hr_7.resolve_right (fun z9 => absurd (c_8.symm.trans z9.1) (by decide))
    replace hr_7 := hr_7.2
    refine lv_iconst (v := -1) hx hb dX10_walked_23 (by decide) ?_
    exact hx_reti hx hb hr hlk hW ⟨(Or.inl ⟨by decide, by omega⟩), hT, hM⟩ dX10_walked_24
  · skip
    replace hr_7 := hr_7.resolve_left (fun z9 => c_8 z9.1)
    replace c_8 := hr_7.1
    replace hr_7 := hr_7.2
    refine lv_aload_n hx hb dX10_walked_14 rfl (lv_at hl 0 rfl) ?_
    refine hk_getr hx hb hts hC_10 hown hW (gx.S hM) tt_10 93 (by decide) rfl kw_1236 ⟨rfl, rfl, rfl⟩ ((hM.o gx trivial rfl).2.trans f_x_93) dX10_walked_15 ?_
    refine lv_iload_n hx hb dX10_walked_18 rfl (lv_at hl 1 rfl) ?_
    refine hx_iald hx hb hW hT (gqwd.S hM) tt_113 rfl ⟨by omega, by omega⟩ dX10_walked_19 (fun x_9 ex_9 lx_9 ux_9 => ?_)
    have ax_9 : x_9 = wdf i1.toNatClampNeg := ex_9.trans (congrFun (hx_afS hM gqwd rfl af_qwd) _)
    refine lv_goto (tgt := 24) hx hb dX10_walked_20 (by decide) ?_
    exact hx_reti hx hb hr hlk hW ⟨(Or.inr ⟨⟨by omega, by omega⟩, ax_9⟩), hT, hM⟩ dX10_walked_24
