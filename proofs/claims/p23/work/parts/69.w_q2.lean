
set_option maxHeartbeats 4000000 in
set_option maxRecDepth 100000 in
theorem t_X10_compareOf_v (l : Launch) (dC : Nat → ClassId) (dI : Nat → Nat → Nat) (dA : Nat → ClassId) (L : List Nat) (h : hx_h) (sz : Nat) (i1 : Int32) (i2 : Int32) (i3 : Int32) (hT : hx_T T_tb L h)  (hi1 : 0 ≤ i1.toInt ∧ i1.toInt ≤ 7) (hi2 : 0 ≤ i2.toInt ∧ i2.toInt ≤ 4) (hi3 : 0 ≤ i3.toInt ∧ i3.toInt ≤ 10007) : Met l yX10_compareOf (Cond.code yX10_compareOf cX10_compareOf 3 (some .int) :: hx_all) ({ frames := 0, cells := 0, slots := 0, locals := 0 }) (va_Pc [.int i1, .int i2, .int i3] (hx_B T_tb (P_ty dA) (dC, dI) vwCl L h sz)) (va_Qi (fun (r : Int32) (u : List Nat × hx_h) => (hx_okc r.toInt = true ∧ r.toInt = 1000000 * (1 + i1.toInt) + 100000 * i2.toInt + i3.toInt) ∧ hx_T T_tb u.1 u.2 ∧ hx_S T_tb [] L h u.1 u.2) (hx_E T_tb (P_ty dA) (dC, dI) vwCl (hx_A L sz)) (hx_A L sz)) 0 0 (hx_A L sz) := by
  refine hx_met (lv := [(0, .int i1), (1, .int i2), (2, .int i3)]) (by decide +kernel) rfl (Nat.le_of_ble_eq_true rfl) rfl ?_
  intro p e s m below meth c hx hb hml hr hlk hts0 hown hin hsz hW ls hl
  have hts : ∀ w ∈ hx_all, w.before _ s = true := fun w hw => hts0 w (List.mem_cons_of_mem _ hw)
  have hown : s.vm.findClass "SmallCourtModel" = some m.cls := hown
  have hM : hx_S T_tb [] L h L h := hx_S.rf
  refine lv_ldcw (v := 1000000) hx hb hown (hts _ kw_1133) dX10_compareOf_0 ?_
  refine lv_iconst (v := 1) hx hb dX10_compareOf_3 (by decide) ?_
  refine lv_iload_n hx hb dX10_compareOf_4 rfl (lv_at hl 0 rfl) ?_
  refine lv_iadd hx hb dX10_compareOf_5 ?_
  have rg_1 := i32_r i1
  refine lv_topi (fun x_2 ex_2 => ?_)
  have zx_2 : x_2.toInt = 1 + i1.toInt := by rw [ex_2]; exact i32_add (by decide) rfl (by omega) (by omega)
  refine lv_imul hx hb dX10_compareOf_6 ?_
  refine lv_topi (fun x_3 ex_3 => ?_)
  have zx_3 : x_3.toInt = 1000000 * x_2.toInt := by rw [ex_3]; exact i32_mul (by decide) rfl rfl (by omega) (by omega)
  refine lv_ldcw (v := 100000) hx hb hown (hts _ kw_1134) dX10_compareOf_7 ?_
  refine lv_iload_n hx hb dX10_compareOf_10 rfl (lv_at hl 1 rfl) ?_
  refine lv_imul hx hb dX10_compareOf_11 ?_
  refine lv_topi (fun x_4 ex_4 => ?_)
  have zx_4 : x_4.toInt = 100000 * i2.toInt := by rw [ex_4]; exact i32_mul (by decide) rfl rfl (by omega) (by omega)
  refine lv_iadd hx hb dX10_compareOf_12 ?_
  have rg_5 := i32_r x_3
  have rg_6 := i32_r x_4
  refine lv_topi (fun x_7 ex_7 => ?_)
  have zx_7 : x_7.toInt = x_3.toInt + x_4.toInt := by rw [ex_7]; exact i32_add rfl rfl (by omega) (by omega)
  refine lv_iload_n hx hb dX10_compareOf_13 rfl (lv_at hl 2 rfl) ?_
  refine lv_iadd hx hb dX10_compareOf_14 ?_
  have rg_8 := i32_r x_7
  have rg_9 := i32_r i3
  refine lv_topi (fun x_10 ex_10 => ?_)
  have zx_10 : x_10.toInt = x_7.toInt + i3.toInt := by rw [ex_10]; exact i32_add rfl rfl (by omega) (by omega)
  exact hx_reti hx hb hr hlk hW ⟨⟨(hx_okc_i (by omega) (by omega) (by omega)), by omega⟩, hT, hM⟩ dX10_compareOf_15


set_option maxHeartbeats 4000000 in
set_option maxRecDepth 100000 in
theorem t_X10_compare_v (l : Launch) (dC : Nat → ClassId) (dI : Nat → Nat → Nat) (dA : Nat → ClassId) (L : List Nat) (h : hx_h) (sz : Nat) (x : Nat) (i1 : Int32) (hT : hx_T T_tb L h) (gx : hx_g L h x 10) (qs : Nat) (gqs : hx_g L h qs 55) (f_x_15 : h.2.2 x 15 = some qs) (qo : Nat) (gqo : hx_g L h qo 56) (f_x_17 : h.2.2 x 17 = some qo) (qt : Nat) (gqt : hx_g L h qt 53) (f_x_6 : h.2.2 x 6 = some qt) (qw : Nat) (gqw : hx_g L h qw 57) (f_x_19 : h.2.2 x 19 = some qw) (sf : Nat → Int32) (af_qs : h.2.1 qs = sf) (of : Nat → Int32) (af_qo : h.2.1 qo = of) (tf : Nat → Int32) (af_qt : h.2.1 qt = tf) (wf : Nat → Int32) (af_qw : h.2.1 qw = wf) (cp0 : Int32) (f_x_16 : h.2.1 x 16 = cp0) (nx0 : Int32) (f_x_8 : h.2.1 x 8 = nx0) (st0 : Int32) (f_x_14 : h.2.1 x 14 = st0) (op0 : Int32) (f_x_18 : h.2.1 x 18 = op0) (tp0 : Int32) (f_x_7 : h.2.1 x 7 = tp0) (ws0 : Int32) (f_x_11 : h.2.1 x 11 = ws0) (ft0 : Int32) (f_x_9 : h.2.1 x 9 = ft0) (hQ : hx_QQ 0 cp0.toInt nx0.toInt st0.toInt op0.toInt sf of) (hwd : hx_wd wf) (o : List hv_tok) (hO : hv_ls sf st0.toInt.toNat = o.map hv_rc) (hF : ft0.toInt = 0) (hA : nx0.toInt ≤ tp0.toInt) (hW0 : i1.toInt = hv_wd tf tp0.toInt.toNat nx0.toInt.toNat) (hWE : ((hv_we tf tp0.toInt.toNat nx0.toInt.toNat : Nat) : Int) = nx0.toInt + ws0.toInt) : Met l yX10_compare (Cond.code yX10_compare cX10_compare 6 (some .boolean) :: hx_all) ({ frames := 2, cells := 0, slots := 0, locals := 48 }) (va_Pc [.ref x, .int i1] (hx_B T_tb (P_ty dA) (dC, dI) vwCl L h sz)) (va_Qi (fun (r : Int32) (u : List Nat × hx_h) => (∃ (cp1 : Int32) (nx1 : Int32) (st1 : Int32) (ft1 : Int32) (sf1 : Nat → Int32), u.2.2.1 x 16 = cp1 ∧ u.2.2.1 x 8 = nx1 ∧ u.2.2.1 x 14 = st1 ∧ u.2.2.1 x 9 = ft1 ∧ u.2.2.1 qs = sf1 ∧ ((r.toInt = 0 ∨ r.toInt = 1) ∧ nx0.toInt ≤ nx1.toInt ∧ (r.toInt = 1 → hx_QQ 1 cp1.toInt nx1.toInt st1.toInt op0.toInt sf1 of) ∧ hv_K hv_rc (hv_term tf tp0.toInt.toNat nx0.toInt.toNat cp0.toInt.toNat o) r.toInt ft1.toInt nx1.toInt cp1.toInt (hv_ls sf1 st1.toInt.toNat) ∧ (r.toInt = 1 → nx0.toInt < nx1.toInt ∧ nx1.toInt ≤ tp0.toInt))) ∧ hx_T T_tb u.1 u.2 ∧ hx_S T_tb [(10, 8), (10, 9), (10, 10), (10, 11), (10, 14), (10, 16), (55, 0)] L h u.1 u.2) (hx_E T_tb (P_ty dA) (dC, dI) vwCl (hx_A L sz)) (hx_A L sz)) 0 0 (hx_A L sz) := by
  refine hx_met (lv := [(0, .ref x), (1, .int i1)]) (by decide +kernel) rfl (Nat.le_of_ble_eq_true rfl) rfl ?_
  intro p e s m below meth c hx hb hml hr hlk hts0 hown hin hsz hW ls hl
  have hts : ∀ w ∈ hx_all, w.before _ s = true := fun w hw => hts0 w (List.mem_cons_of_mem _ hw)
  have hown : s.vm.findClass "SmallCourtModel" = some m.cls := hown
  have hM : hx_S T_tb [(10, 8), (10, 9), (10, 10), (10, 11), (10, 14), (10, 16), (55, 0)] L h L h := hx_S.rf
  have b_cp0 := hT.gi gx tt_10 (k := 16) rfl
  rw [f_x_16] at b_cp0
  have b_cp0 : 0 ≤ cp0.toInt ∧ cp0.toInt ≤ 20 := b_cp0
  have b_nx0 := hT.gi gx tt_10 (k := 8) rfl
  rw [f_x_8] at b_nx0
  have b_nx0 : 0 ≤ nx0.toInt ∧ nx0.toInt ≤ 402 := b_nx0
  have b_st0 := hT.gi gx tt_10 (k := 14) rfl
  rw [f_x_14] at b_st0
  have b_st0 : 0 ≤ st0.toInt ∧ st0.toInt ≤ 128 := b_st0
  have b_op0 := hT.gi gx tt_10 (k := 18) rfl
  rw [f_x_18] at b_op0
  have b_op0 : 0 ≤ op0.toInt ∧ op0.toInt ≤ 128 := b_op0
  have b_tp0 := hT.gi gx tt_10 (k := 7) rfl
  rw [f_x_7] at b_tp0
  have b_tp0 : 0 ≤ tp0.toInt ∧ tp0.toInt ≤ 400 := b_tp0
  have b_ws0 := hT.gi gx tt_10 (k := 11) rfl
  rw [f_x_11] at b_ws0
  have b_ws0 : 0 ≤ ws0.toInt ∧ ws0.toInt ≤ 400 := b_ws0
  have b_ft0 := hT.gi gx tt_10 (k := 9) rfl
  rw [f_x_9] at b_ft0
  have b_ft0 : -2147483648 ≤ ft0.toInt ∧ ft0.toInt ≤ 2147483647 := b_ft0
  refine lv_iload_n hx hb dX10_compare_0 rfl (lv_at hl 1 rfl) ?_
  refine hx_goi (hx_runS (As := [.int i1]) (rest := []) ⟨hx, hb, hml, hown, hts⟩ hW (t_X10_isFact l dC dI dA L h s.heap.size i1 hT) (va_cwS 1 hts (hx_gS kw_1499 kw_1497 kw_1498 kw_103) rfl rfl rfl (by decide +kernel) ⟨Nat.le_of_ble_eq_true rfl, Nat.le_of_ble_eq_true rfl⟩) rfl hl.1 rfl (Nat.le_of_ble_eq_true rfl) dX10_compare_1 ⟨Nat.le_of_ble_eq_true rfl, Nat.le_of_ble_eq_true rfl⟩) hW (fun r_3 L_1 h_2 H locs p_4 hW => ?_)
  obtain ⟨hr_5, hT, hs⟩ := p_4
  replace hT : hx_T T_tb L_1 h_2 := hT
  replace hs : hx_S T_tb [] L h L_1 h_2 := hs
  replace f_x_16 := (hs.o (gx.S hM) trivial rfl).1.trans f_x_16
  replace f_x_8 := (hs.o (gx.S hM) trivial rfl).1.trans f_x_8
  replace f_x_14 := (hs.o (gx.S hM) trivial rfl).1.trans f_x_14
  replace f_x_11 := (hs.o (gx.S hM) trivial rfl).1.trans f_x_11
  replace f_x_9 := (hs.o (gx.S hM) trivial rfl).1.trans f_x_9
  replace af_qs : h_2.2.1 qs = sf := (funext fun j => (hs.a (gqs.S hM) rfl j).1).trans af_qs
  replace hM := hM.tr (hs.mono (by decide))
  refine hb_if_ne (zx := r_3.toInt) (tgt := 17) hx hb rfl dX10_compare_4 (by decide) (fun c_6 => ?_) (fun c_6 => ?_)
  · skip
    replace hr_5 := hr_5.resolve_left (fun z9 => c_6 z9.1)
    replace c_6 := hr_5.1
    replace hr_5 := hr_5.2
    refine lv_aload_n hx hb dX10_compare_17 rfl (lv_at hl 0 rfl) ?_
    refine hk_geti hx hb hts hC_10 hown hW (gx.S hM) tt_10 16 (by decide) rfl kw_1159 ⟨rfl, rfl, rfl⟩ f_x_16 dX10_compare_18 ?_
    refine lv_bipush (v := 20) hx hb dX10_compare_21 (by decide) ?_
    refine hb_icmp_ne (zx := cp0.toInt) (zy := 20) (tgt := 36) hx hb rfl (by decide) dX10_compare_23 (by decide) (fun c_7 => ?_) (fun c_7 => ?_)
    · skip
      have hw3 := hv_wd_3 (T := tf) (n := tp0.toInt.toNat) (p := nx0.toInt.toNat) (by omega)
      refine lv_aload_n hx hb dX10_compare_36 rfl (lv_at hl 0 rfl) ?_
      refine lv_dup hx hb dX10_compare_37 rfl ?_
      refine hk_geti hx hb hts hC_10 hown hW (gx.S hM) tt_10 16 (by decide) rfl kw_1159 ⟨rfl, rfl, rfl⟩ f_x_16 dX10_compare_38 ?_
      refine lv_iconst (v := 1) hx hb dX10_compare_41 (by decide) ?_
      refine lv_iadd hx hb dX10_compare_42 ?_
      have rg_8 := i32_r cp0
      refine lv_topi (fun x_9 ex_9 => ?_)
      have zx_9 : x_9.toInt = cp0.toInt + 1 := by rw [ex_9]; exact i32_add rfl (by decide) (by omega) (by omega)
      refine hx_puti hx hb hts hC_10 hown hW hT (hx_S.rf (M := [(10, 16)])) (gx.S hM) tt_10 16 (by decide) rfl kw_1159 ⟨rfl, rfl, rfl⟩ rfl (x := x_9) ⟨by omega, by omega⟩ rfl rfl rfl (List.mem_singleton.mpr rfl) dX10_compare_43 (fun H locs h_10 eh_10 hW hT hs => ?_)
      replace f_x_8 := (hs.o (gx.S hM) trivial rfl).1.trans f_x_8
      replace f_x_14 := (hs.o (gx.S hM) trivial rfl).1.trans f_x_14
      replace f_x_11 := (hs.o (gx.S hM) trivial rfl).1.trans f_x_11
      replace f_x_9 := (hs.o (gx.S hM) trivial rfl).1.trans f_x_9
      replace af_qs : h_10.2.1 qs = sf := (funext fun j => (hs.a (gqs.S hM) rfl j).1).trans af_qs
      replace hM := hM.tr (hs.mono (by decide))
      have f_11 : h_10.2.1 x 16 = x_9 := by rw [eh_10]; exact hx_pi_at _ _ _ _
      refine lv_aload_n hx hb dX10_compare_46 rfl (lv_at hl 0 rfl) ?_
      refine lv_dup hx hb dX10_compare_47 rfl ?_
      refine hk_geti hx hb hts hC_10 hown hW (gx.S hM) tt_10 8 (by decide) rfl kw_1151 ⟨rfl, rfl, rfl⟩ f_x_8 dX10_compare_48 ?_
      refine lv_aload_n hx hb dX10_compare_51 rfl (lv_at hl 0 rfl) ?_
      refine hk_geti hx hb hts hC_10 hown hW (gx.S hM) tt_10 11 (by decide) rfl kw_1154 ⟨rfl, rfl, rfl⟩ f_x_11 dX10_compare_52 ?_
      refine lv_iadd hx hb dX10_compare_55 ?_
      have rg_12 := i32_r nx0
      have rg_13 := i32_r ws0
      refine lv_topi (fun x_14 ex_14 => ?_)
      have zx_14 : x_14.toInt = nx0.toInt + ws0.toInt := by rw [ex_14]; exact i32_add rfl rfl (by omega) (by omega)
      refine hx_puti hx hb hts hC_10 hown hW hT (hx_S.rf (M := [(10, 8)])) (gx.S hM) tt_10 8 (by decide) rfl kw_1151 ⟨rfl, rfl, rfl⟩ rfl (x := x_14) ⟨by omega, by omega⟩ rfl rfl rfl (List.mem_singleton.mpr rfl) dX10_compare_56 (fun H locs h_15 eh_15 hW hT hs => ?_)
      replace f_x_14 := (hs.o (gx.S hM) trivial rfl).1.trans f_x_14
      replace f_x_11 := (hs.o (gx.S hM) trivial rfl).1.trans f_x_11
      replace f_x_9 := (hs.o (gx.S hM) trivial rfl).1.trans f_x_9
      replace f_11 := (hs.o (gx.S hM) trivial rfl).1.trans f_11
      replace af_qs : h_15.2.1 qs = sf := (funext fun j => (hs.a (gqs.S hM) rfl j).1).trans af_qs
      replace hM := hM.tr (hs.mono (by decide))
      have f_16 : h_15.2.1 x 8 = x_14 := by rw [eh_15]; exact hx_pi_at _ _ _ _
      have ha1 : x_14.toInt.toNat = hv_we tf tp0.toInt.toNat nx0.toInt.toNat := by omega
      refine lv_aload_n hx hb dX10_compare_59 rfl (lv_at hl 0 rfl) ?_
      refine hx_goi (hx_runV (As := []) (rest := []) ⟨hx, hb, hml, hown, hts⟩ hW (gx.S hM) tt_10 (T := TX10) (N := 98) rfl (t_X10_see_v l dC dI dA L_1 h_15 H.size x hT (gx.S hM) qt (gqt.S hM) ((hM.o gx trivial rfl).2.trans f_x_6) tf (hx_afS hM gqt rfl af_qt) x_14 f_16 tp0 ((hM.o gx trivial rfl).1.trans f_x_7) (by omega)) (cwV 0 hts (hx_gV kw_1468 kw_1465 kw_1467 kw_53 kw_103) rfl rfl rfl (by decide +kernel) ⟨Nat.le_of_ble_eq_true rfl, Nat.le_of_ble_eq_true rfl⟩) rfl hl.1 rfl (Nat.le_of_ble_eq_true rfl) dX10_compare_60 ⟨Nat.le_of_ble_eq_true rfl, Nat.le_of_ble_eq_true rfl⟩) hW (fun r_19 L_17 h_18 H locs p_20 hW => ?_)
      obtain ⟨⟨w_22, fw_22, hr_21⟩, hT, hs⟩ := p_20
      replace hT : hx_T T_tb L_17 h_18 := hT
      replace hs : hx_S T_tb [(10, 8)] L_1 h_15 L_17 h_18 := hs
      replace f_x_14 := (hs.o (gx.S hM) trivial rfl).1.trans f_x_14
      replace f_x_11 := (hs.o (gx.S hM) trivial rfl).1.trans f_x_11
      replace f_x_9 := (hs.o (gx.S hM) trivial rfl).1.trans f_x_9
      replace f_11 := (hs.o (gx.S hM) trivial rfl).1.trans f_11
      replace af_qs : h_18.2.1 qs = sf := (funext fun j => (hs.a (gqs.S hM) rfl j).1).trans af_qs
      replace hM := hM.tr (hs.mono (by decide))
      have fw_22 : h_18.2.1 x 8 = w_22 := fw_22
      have bw_22 := hT.gi (gx.S hM) tt_10 (k := 8) rfl
      rw [fw_22] at bw_22
      have bw_22 : 0 ≤ w_22.toInt ∧ w_22.toInt ≤ 402 := bw_22
      have ek_23 : w_22.toInt.toNat = hv_sk tf tp0.toInt.toNat x_14.toInt.toNat := by omega
      have hr_21S := hr_21.2.2.2.1
      refine lv_istore_n (lv' := [(2, .int r_19), (0, .ref x), (1, .int i1)]) hx hb dX10_compare_63 rfl hl (by decide) rfl (fun ls hl => ?_)
      have join192 : ∀ (jv192_4 jw192_x_8 : Int32) (H : Heap) (locs : List Loc) (hL1 : List Nat) (hl1 : hx_h), 0 ≤ jv192_4.toInt → jv192_4.toInt ≤ 4 → 0 ≤ jw192_x_8.toInt → jw192_x_8.toInt ≤ 402 → ((hv_sg tf tp0.toInt.toNat (hv_sk tf tp0.toInt.toNat (hv_we tf tp0.toInt.toNat nx0.toInt.toNat))).1 = (jv192_4.toInt).toNat ∧ (hv_sg tf tp0.toInt.toNat (hv_sk tf tp0.toInt.toNat (hv_we tf tp0.toInt.toNat nx0.toInt.toNat))).2 ≠ 0 ∧ (jw192_x_8.toInt).toNat = hv_sk tf tp0.toInt.toNat (hv_we tf tp0.toInt.toNat nx0.toInt.toNat) + (hv_sg tf tp0.toInt.toNat (hv_sk tf tp0.toInt.toNat (hv_we tf tp0.toInt.toNat nx0.toInt.toNat))).2) → (jw192_x_8.toInt ≤ tp0.toInt) → (nx0.toInt + 3 < jw192_x_8.toInt) → ∀ (ls : Array Slot), hx_W T_tb (P_ty dA) (dC, dI) vwCl (hx_A L sz) s.heap hL1 hl1 s H locs → hx_T T_tb hL1 hl1 → hx_S T_tb [(10, 8), (10, 9), (10, 10), (10, 11), (10, 14), (10, 16), (55, 0)] L h hL1 hl1 → hl1.2.1 x 8 = jw192_x_8 → hl1.2.1 x 14 = st0 → hl1.2.1 x 11 = ws0 → hl1.2.1 x 9 = ft0 → hl1.2.1 x 16 = x_9 → hl1.2.1 qs = sf → lv_has ls 6 [(4, .int jv192_4), (2, .int r_19), (0, .ref x), (1, .int i1)] → W p l e ({ frames := 2, cells := 0, slots := 0, locals := 48 }) s m ([.ref x, .int i1] : List Value).toArray below meth c H locs 0 0 (MQ below (va_Qi (fun (r : Int32) (u : List Nat × hx_h) => (∃ (cp1 : Int32) (nx1 : Int32) (st1 : Int32) (ft1 : Int32) (sf1 : Nat → Int32), u.2.2.1 x 16 = cp1 ∧ u.2.2.1 x 8 = nx1 ∧ u.2.2.1 x 14 = st1 ∧ u.2.2.1 x 9 = ft1 ∧ u.2.2.1 qs = sf1 ∧ ((r.toInt = 0 ∨ r.toInt = 1) ∧ nx0.toInt ≤ nx1.toInt ∧ (r.toInt = 1 → hx_QQ 1 cp1.toInt nx1.toInt st1.toInt op0.toInt sf1 of) ∧ hv_K hv_rc (hv_term tf tp0.toInt.toNat nx0.toInt.toNat cp0.toInt.toNat o) r.toInt ft1.toInt nx1.toInt cp1.toInt (hv_ls sf1 st1.toInt.toNat) ∧ (r.toInt = 1 → nx0.toInt < nx1.toInt ∧ nx1.toInt ≤ tp0.toInt))) ∧ hx_T T_tb u.1 u.2 ∧ hx_S T_tb [(10, 8), (10, 9), (10, 10), (10, 11), (10, 14), (10, 16), (55, 0)] L h u.1 u.2) (hx_E T_tb (P_ty dA) (dC, dI) vwCl (hx_A L sz)) (hx_A L sz)) ([.ref x, .int i1] : List Value).toArray s 0 0 (hx_A L sz)) (F0 m 192 ls []) := by
        intro jv192_4 jw192_x_8 H locs hL1 hl1 bljv192_4 bujv192_4 bljw192_x_8 bujw192_x_8 vj192_0 vj192_1 vj192_2 ls hW hT hM fjw192_x_8 f_x_14 f_x_11 f_x_9 f_11 af_qs hl
        have hsgj := vj192_0
        refine lv_aload_n hx hb dX10_compare_192 rfl (lv_at hl 2 rfl) ?_
        refine hx_goi (hx_runV (As := []) (rest := []) ⟨hx, hb, hml, hown, hts⟩ hW (gx.S hM) tt_10 (T := TX10) (N := 98) rfl (t_X10_wordHere_v l dC dI dA hL1 hl1 H.size x hT (gx.S hM) qt (gqt.S hM) ((hM.o gx trivial rfl).2.trans f_x_6) qw (gqw.S hM) ((hM.o gx trivial rfl).2.trans f_x_19) tf (hx_afS hM gqt rfl af_qt) wf (hx_afS hM gqw rfl af_qw) jw192_x_8 fjw192_x_8 tp0 ((hM.o gx trivial rfl).1.trans f_x_7) hwd (by omega)) (cwV 0 hts (hx_gV kw_1476 kw_1473 kw_1475 kw_55 kw_103) rfl rfl rfl (by decide +kernel) ⟨Nat.le_of_ble_eq_true rfl, Nat.le_of_ble_eq_true rfl⟩) rfl hl.1 rfl (Nat.le_of_ble_eq_true rfl) dX10_compare_193 ⟨Nat.le_of_ble_eq_true rfl, Nat.le_of_ble_eq_true rfl⟩) hW (fun r_26 L_24 h_25 H locs p_27 hW => ?_)
        obtain ⟨⟨w_29, w_30, fw_29, fw_30, hr_28⟩, hT, hs⟩ := p_27
        replace hT : hx_T T_tb L_24 h_25 := hT
        replace hs : hx_S T_tb [(10, 8), (10, 11)] hL1 hl1 L_24 h_25 := hs
        replace f_x_14 := (hs.o (gx.S hM) trivial rfl).1.trans f_x_14
        replace f_x_9 := (hs.o (gx.S hM) trivial rfl).1.trans f_x_9
        replace f_11 := (hs.o (gx.S hM) trivial rfl).1.trans f_11
        replace af_qs : h_25.2.1 qs = sf := (funext fun j => (hs.a (gqs.S hM) rfl j).1).trans af_qs
        replace hM := hM.tr (hs.mono (by decide))
        have fw_29 : h_25.2.1 x 8 = w_29 := fw_29
        have bw_29 := hT.gi (gx.S hM) tt_10 (k := 8) rfl
        rw [fw_29] at bw_29
        have bw_29 : 0 ≤ w_29.toInt ∧ w_29.toInt ≤ 402 := bw_29
        have fw_30 : h_25.2.1 x 11 = w_30 := fw_30
        have bw_30 := hT.gi (gx.S hM) tt_10 (k := 11) rfl
        rw [fw_30] at bw_30
        have bw_30 : 0 ≤ w_30.toInt ∧ w_30.toInt ≤ 400 := bw_30
        have ek_31 : w_29.toInt.toNat = hv_sk tf tp0.toInt.toNat jw192_x_8.toInt.toNat := by omega
        have hr_28W : r_26.toInt = hv_wd tf tp0.toInt.toNat w_29.toInt.toNat := by rw [ek_31]; exact hr_28.2.2.2.2.1
        have hr_28E : ((hv_we tf tp0.toInt.toNat w_29.toInt.toNat : Nat) : Int) = w_29.toInt + w_30.toInt := by rw [ek_31]; exact hr_28.2.2.2.1.symm
        refine lv_istore (lv' := [(5, .int r_26), (4, .int jv192_4), (2, .int r_19), (0, .ref x), (1, .int i1)]) hx hb dX10_compare_196 hl (by decide) rfl (fun ls hl => ?_)
        have ht9 := hv_term_o (T := tf) (n := tp0.toInt.toNat) (p := nx0.toInt.toNat) (t := cp0.toInt.toNat) (o := o) (u := w_29.toInt.toNat) (by omega) (by omega) hsgj.2.1 (by rw [ek_31, hsgj.2.2])
        have uid : hv_sk tf tp0.toInt.toNat w_29.toInt.toNat = w_29.toInt.toNat := by rw [ek_31]; exact hv_sk_id
        refine lv_iload hx hb dX10_compare_198 (lv_at hl 0 rfl) ?_
        refine hx_goi (hx_runS (As := [.int r_26]) (rest := []) ⟨hx, hb, hml, hown, hts⟩ hW (t_X10_isFact l dC dI dA L_24 h_25 H.size r_26 hT) (va_cwS 1 hts (hx_gS kw_1499 kw_1497 kw_1498 kw_103) rfl rfl rfl (by decide +kernel) ⟨Nat.le_of_ble_eq_true rfl, Nat.le_of_ble_eq_true rfl⟩) rfl hl.1 rfl (Nat.le_of_ble_eq_true rfl) dX10_compare_200 ⟨Nat.le_of_ble_eq_true rfl, Nat.le_of_ble_eq_true rfl⟩) hW (fun r_34 L_32 h_33 H locs p_35 hW => ?_)
        obtain ⟨hr_36, hT, hs⟩ := p_35
        replace hT : hx_T T_tb L_32 h_33 := hT
        replace hs : hx_S T_tb [] L_24 h_25 L_32 h_33 := hs
        replace f_x_14 := (hs.o (gx.S hM) trivial rfl).1.trans f_x_14
        replace f_x_9 := (hs.o (gx.S hM) trivial rfl).1.trans f_x_9
        replace f_11 := (hs.o (gx.S hM) trivial rfl).1.trans f_11
        replace fw_29 := (hs.o (gx.S hM) trivial rfl).1.trans fw_29
        replace fw_30 := (hs.o (gx.S hM) trivial rfl).1.trans fw_30
        replace af_qs : h_33.2.1 qs = sf := (funext fun j => (hs.a (gqs.S hM) rfl j).1).trans af_qs
        replace hM := hM.tr (hs.mono (by decide))
        refine hb_if_eq (zx := r_34.toInt) (tgt := 241) hx hb rfl dX10_compare_203 (by decide) (fun c_37 => ?_) (fun c_37 => ?_)
        · skip
          replace hr_36 := hr_36.resolve_right (fun z9 => absurd (c_37.symm.trans z9.1) (by decide))
          replace hr_36 := hr_36.2
          refine lv_aload_n hx hb dX10_compare_241 rfl (lv_at hl 3 rfl) ?_
          refine lv_iconst (v := 0) hx hb dX10_compare_242 (by decide) ?_
          refine lv_sipush (v := 9999) hx hb dX10_compare_243 (by decide) ?_
          have zc_9999 : (9999 : Int32).toInt = 9999 := by decide
          have zc_0 : (0 : Int32).toInt = 0 := by decide
          refine hx_goi (hx_runV (As := [.int (0 : Int32), .int (9999 : Int32)]) (rest := []) ⟨hx, hb, hml, hown, hts⟩ hW (gx.S hM) tt_10 (T := TX10) (N := 98) rfl (t_X10_number_v l dC dI dA L_32 h_33 H.size x (0 : Int32) (9999 : Int32) hT (gx.S hM) qt (gqt.S hM) ((hM.o gx trivial rfl).2.trans f_x_6) tf (hx_afS hM gqt rfl af_qt) w_29 fw_29 tp0 ((hM.o gx trivial rfl).1.trans f_x_7) ft0 f_x_9 (by omega) (by omega) (by decide)) (cwV 2 hts (hx_gV kw_1503 kw_1500 kw_1502 kw_61 kw_103) rfl rfl rfl (by decide +kernel) ⟨Nat.le_of_ble_eq_true rfl, Nat.le_of_ble_eq_true rfl⟩) rfl hl.1 rfl (Nat.le_of_ble_eq_true rfl) dX10_compare_246 ⟨Nat.le_of_ble_eq_true rfl, Nat.le_of_ble_eq_true rfl⟩) hW (fun r_40 L_38 h_39 H locs p_41 hW => ?_)
          obtain ⟨⟨w_43, w_44, w_45, fw_43, fw_44, fw_45, hr_42⟩, hT, hs⟩ := p_41
          replace hT : hx_T T_tb L_38 h_39 := hT
          replace hs : hx_S T_tb [(10, 8), (10, 9), (10, 10)] L_32 h_33 L_38 h_39 := hs
          replace f_x_14 := (hs.o (gx.S hM) trivial rfl).1.trans f_x_14
          replace f_11 := (hs.o (gx.S hM) trivial rfl).1.trans f_11
          replace fw_30 := (hs.o (gx.S hM) trivial rfl).1.trans fw_30
          replace af_qs : h_39.2.1 qs = sf := (funext fun j => (hs.a (gqs.S hM) rfl j).1).trans af_qs
          replace hM := hM.tr (hs.mono (by decide))
          have fw_43 : h_39.2.1 x 8 = w_43 := fw_43
          have bw_43 := hT.gi (gx.S hM) tt_10 (k := 8) rfl
          rw [fw_43] at bw_43
          have bw_43 : 0 ≤ w_43.toInt ∧ w_43.toInt ≤ 402 := bw_43
          have fw_44 : h_39.2.1 x 10 = w_44 := fw_44
          have bw_44 := hT.gi (gx.S hM) tt_10 (k := 10) rfl
          rw [fw_44] at bw_44
          have bw_44 : 0 ≤ w_44.toInt ∧ w_44.toInt ≤ 9999 := bw_44
          have fw_45 : h_39.2.1 x 9 = w_45 := fw_45
          have bw_45 := hT.gi (gx.S hM) tt_10 (k := 9) rfl
          rw [fw_45] at bw_45
          have bw_45 : -2147483648 ≤ w_45.toInt ∧ w_45.toInt ≤ 2147483647 := bw_45
          have hr_42b := hv_M_b hr_42.1
          refine hb_if_ne (zx := r_40.toInt) (tgt := 254) hx hb rfl dX10_compare_249 (by decide) (fun c_46 => ?_) (fun c_46 => ?_)
          · skip
            have hnm := hv_M_1 hr_42.1 (by omega)
            rw [show (0 : Int32).toInt = 0 from by decide, show (9999 : Int32).toInt = 9999 from by decide] at hnm
            have hnb := hr_42.2.1 (by omega)
            have hroom := hx_QQ_room hQ (n1 := w_43.toInt) (by omega) (by omega)
            refine lv_aload_n hx hb dX10_compare_254 rfl (lv_at hl 3 rfl) ?_
            refine lv_iload_n hx hb dX10_compare_255 rfl (lv_at hl 4 rfl) ?_
            refine lv_iconst (v := 3) hx hb dX10_compare_256 (by decide) ?_
            refine lv_isub hx hb dX10_compare_257 ?_
            have rg_47 := i32_r i1
            refine lv_topi (fun x_48 ex_48 => ?_)
            have zx_48 : x_48.toInt = i1.toInt - 3 := by rw [ex_48]; exact i32_sub rfl (by decide) (by omega) (by omega)
            refine lv_iload hx hb dX10_compare_258 (lv_at hl 1 rfl) ?_
            refine lv_aload_n hx hb dX10_compare_260 rfl (lv_at hl 3 rfl) ?_
            refine hk_geti hx hb hts hC_10 hown hW (gx.S hM) tt_10 10 (by decide) rfl kw_1153 ⟨rfl, rfl, rfl⟩ fw_44 dX10_compare_261 ?_
            refine hx_goi (hx_runS (As := [.int x_48, .int jv192_4, .int w_44]) (rest := [.ref x]) ⟨hx, hb, hml, hown, hts⟩ hW (t_X10_compareOf_v l dC dI dA L_38 h_39 H.size x_48 jv192_4 w_44 hT ⟨by omega, by omega⟩ ⟨by omega, by omega⟩ ⟨by omega, by omega⟩) (va_cwS 3 hts (hx_gS kw_1132 kw_1130 kw_1131 kw_103) rfl rfl rfl (by decide +kernel) ⟨Nat.le_of_ble_eq_true rfl, Nat.le_of_ble_eq_true rfl⟩) rfl hl.1 rfl (Nat.le_of_ble_eq_true rfl) dX10_compare_264 ⟨Nat.le_of_ble_eq_true rfl, Nat.le_of_ble_eq_true rfl⟩) hW (fun r_51 L_49 h_50 H locs p_52 hW => ?_)
            obtain ⟨hr_53, hT, hs⟩ := p_52
            replace hT : hx_T T_tb L_49 h_50 := hT
            replace hs : hx_S T_tb [] L_38 h_39 L_49 h_50 := hs
            replace f_x_14 := (hs.o (gx.S hM) trivial rfl).1.trans f_x_14
            replace f_11 := (hs.o (gx.S hM) trivial rfl).1.trans f_11
            replace fw_30 := (hs.o (gx.S hM) trivial rfl).1.trans fw_30
            replace fw_43 := (hs.o (gx.S hM) trivial rfl).1.trans fw_43
            replace fw_44 := (hs.o (gx.S hM) trivial rfl).1.trans fw_44
            replace fw_45 := (hs.o (gx.S hM) trivial rfl).1.trans fw_45
            replace af_qs : h_50.2.1 qs = sf := (funext fun j => (hs.a (gqs.S hM) rfl j).1).trans af_qs
            replace hM := hM.tr (hs.mono (by decide))
            refine hx_gov (hx_runV (As := [.int r_51]) (rest := []) ⟨hx, hb, hml, hown, hts⟩ hW (gx.S hM) tt_10 (T := TX10) (N := 98) rfl (t_X10_writes l dC dI dA L_49 h_50 H.size x r_51 hT (gx.S hM) qs (gqs.S hM) ((hM.o gx trivial rfl).2.trans f_x_15) sf af_qs st0 f_x_14 (by omega)) (cwV 1 hts (hx_gV kw_1138 kw_1135 kw_1137 kw_50 kw_103) rfl rfl rfl (by decide +kernel) ⟨Nat.le_of_ble_eq_true rfl, Nat.le_of_ble_eq_true rfl⟩) rfl hl.1 rfl (Nat.le_of_ble_eq_true rfl) dX10_compare_267 ⟨Nat.le_of_ble_eq_true rfl, Nat.le_of_ble_eq_true rfl⟩) hW (fun L_54 h_55 H locs p_57 hW => ?_)
            obtain ⟨⟨w_59, w_60, fw_59, fw_60, hr_58⟩, hT, hs⟩ := p_57
            replace hT : hx_T T_tb L_54 h_55 := hT
            replace hs : hx_S T_tb [(10, 14), (55, 0)] L_49 h_50 L_54 h_55 := hs
            replace f_11 := (hs.o (gx.S hM) trivial rfl).1.trans f_11
            replace fw_30 := (hs.o (gx.S hM) trivial rfl).1.trans fw_30
            replace fw_43 := (hs.o (gx.S hM) trivial rfl).1.trans fw_43
            replace fw_44 := (hs.o (gx.S hM) trivial rfl).1.trans fw_44
            replace fw_45 := (hs.o (gx.S hM) trivial rfl).1.trans fw_45
            replace hM := hM.tr (hs.mono (by decide))
            have fw_59 : h_55.2.1 x 14 = w_59 := fw_59
            have bw_59 := hT.gi (gx.S hM) tt_10 (k := 14) rfl
            rw [fw_59] at bw_59
            have bw_59 : 0 ≤ w_59.toInt ∧ w_59.toInt ≤ 128 := bw_59
            have fw_60 : h_55.2.1 qs = w_60 := fw_60
            refine lv_iconst (v := 1) hx hb dX10_compare_270 (by decide) ?_
            exact hx_retz hx hb hr rfl hlk hW ⟨⟨x_9, w_43, w_59, w_45, w_60, f_11, fw_43, fw_59, fw_45, fw_60, ⟨by decide, by omega, (fun _ => hx_QQ_cmp hQ (by omega) (by omega) (by omega) hr_53.1 (hx_cl (by omega)) (by omega) hr_58.1 hr_58.2), (hv_K_t (x := w_43.toInt.toNat) (y := cp0.toInt.toNat + 1) (o := (hv_wd tf tp0.toInt.toNat nx0.toInt.toNat - 2, (hv_sg tf tp0.toInt.toNat (hv_sk tf tp0.toInt.toNat (hv_we tf tp0.toInt.toNat nx0.toInt.toNat))).1, w_44.toInt) :: o) (by decide) (by omega) (by omega) (by omega) (hv_ls_u hO (by unfold hv_rc; dsimp only; rw [if_neg (by omega)]; omega) (by omega) hr_58.2) (ht9.trans (((hv_rt_n (by omega) uid).trans (by rw [hnm.2.2]; rfl)).trans rfl))), (fun _ => ⟨by omega, by omega⟩)⟩⟩, hT, hM⟩ dX10_compare_271
          · skip
            refine lv_iconst (v := 0) hx hb dX10_compare_252 (by decide) ?_
            exact hx_retz hx hb hr rfl hlk hW ⟨⟨x_9, w_43, st0, w_45, sf, f_11, fw_43, f_x_14, fw_45, af_qs, ⟨by decide, by omega, (fun z9 => absurd z9 (by decide)), (hv_K_f (x := w_45.toInt.toNat) (by decide) (by have h8 := (hv_M_0 hr_42.1 (by omega)).1; omega) (by have h8 := (hv_M_0 hr_42.1 (by omega)).1; omega) (ht9.trans ((hv_rt_n (by omega) uid).trans (by have h8 := (hv_M_0 hr_42.1 (by omega)).2; rw [show (0 : Int32).toInt = 0 from by decide, show (9999 : Int32).toInt = 9999 from by decide] at h8; rw [h8]; rfl)))), (fun z9 => absurd z9 (by decide))⟩⟩, hT, hM⟩ dX10_compare_253
        · skip
          replace hr_36 := hr_36.resolve_left (fun z9 => c_37 z9.1)
          replace c_37 := hr_36.1
          replace hr_36 := hr_36.2
          have hu3 := hv_wd_3 (T := tf) (n := tp0.toInt.toNat) (p := w_29.toInt.toNat) (by omega)
          refine lv_aload_n hx hb dX10_compare_206 rfl (lv_at hl 3 rfl) ?_
          refine lv_dup hx hb dX10_compare_207 rfl ?_
          refine hk_geti hx hb hts hC_10 hown hW (gx.S hM) tt_10 8 (by decide) rfl kw_1151 ⟨rfl, rfl, rfl⟩ fw_29 dX10_compare_208 ?_
          refine lv_aload_n hx hb dX10_compare_211 rfl (lv_at hl 3 rfl) ?_
          refine hk_geti hx hb hts hC_10 hown hW (gx.S hM) tt_10 11 (by decide) rfl kw_1154 ⟨rfl, rfl, rfl⟩ fw_30 dX10_compare_212 ?_
          refine lv_iadd hx hb dX10_compare_215 ?_
          have rg_61 := i32_r w_29
          have rg_62 := i32_r w_30
          refine lv_topi (fun x_63 ex_63 => ?_)
          have zx_63 : x_63.toInt = w_29.toInt + w_30.toInt := by rw [ex_63]; exact i32_add rfl rfl (by omega) (by omega)
          refine hx_puti hx hb hts hC_10 hown hW hT (hx_S.rf (M := [(10, 8)])) (gx.S hM) tt_10 8 (by decide) rfl kw_1151 ⟨rfl, rfl, rfl⟩ rfl (x := x_63) ⟨by omega, by omega⟩ rfl rfl rfl (List.mem_singleton.mpr rfl) dX10_compare_216 (fun H locs h_64 eh_64 hW hT hs => ?_)
          replace f_x_14 := (hs.o (gx.S hM) trivial rfl).1.trans f_x_14
          replace f_x_9 := (hs.o (gx.S hM) trivial rfl).1.trans f_x_9
          replace f_11 := (hs.o (gx.S hM) trivial rfl).1.trans f_11
          replace fw_30 := (hs.o (gx.S hM) trivial rfl).1.trans fw_30
          replace af_qs : h_64.2.1 qs = sf := (funext fun j => (hs.a (gqs.S hM) rfl j).1).trans af_qs
          replace hM := hM.tr (hs.mono (by decide))
          have f_65 : h_64.2.1 x 8 = x_63 := by rw [eh_64]; exact hx_pi_at _ _ _ _
          have hroom := hx_QQ_room hQ (n1 := x_63.toInt) (by omega) (by omega)
          refine lv_aload_n hx hb dX10_compare_219 rfl (lv_at hl 3 rfl) ?_
          refine lv_iload_n hx hb dX10_compare_220 rfl (lv_at hl 4 rfl) ?_
          refine lv_iconst (v := 3) hx hb dX10_compare_221 (by decide) ?_
          refine lv_isub hx hb dX10_compare_222 ?_
          have rg_66 := i32_r i1
          refine lv_topi (fun x_67 ex_67 => ?_)
          have zx_67 : x_67.toInt = i1.toInt - 3 := by rw [ex_67]; exact i32_sub rfl (by decide) (by omega) (by omega)
          refine lv_iload hx hb dX10_compare_223 (lv_at hl 1 rfl) ?_
          refine lv_sipush (v := 10000) hx hb dX10_compare_225 (by decide) ?_
          refine lv_iload hx hb dX10_compare_228 (lv_at hl 0 rfl) ?_
          refine lv_iadd hx hb dX10_compare_230 ?_
          have rg_68 := i32_r r_26
          refine lv_topi (fun x_69 ex_69 => ?_)
          have zx_69 : x_69.toInt = 10000 + r_26.toInt := by rw [ex_69]; exact i32_add (by decide) rfl (by omega) (by omega)
          refine lv_iconst (v := 3) hx hb dX10_compare_231 (by decide) ?_
          refine lv_isub hx hb dX10_compare_232 ?_
          have rg_70 := i32_r x_69
          refine lv_topi (fun x_71 ex_71 => ?_)
          have zx_71 : x_71.toInt = x_69.toInt - 3 := by rw [ex_71]; exact i32_sub rfl (by decide) (by omega) (by omega)
          refine hx_goi (hx_runS (As := [.int x_67, .int jv192_4, .int x_71]) (rest := [.ref x]) ⟨hx, hb, hml, hown, hts⟩ hW (t_X10_compareOf_v l dC dI dA L_32 h_64 H.size x_67 jv192_4 x_71 hT ⟨by omega, by omega⟩ ⟨by omega, by omega⟩ ⟨by omega, by omega⟩) (va_cwS 3 hts (hx_gS kw_1132 kw_1130 kw_1131 kw_103) rfl rfl rfl (by decide +kernel) ⟨Nat.le_of_ble_eq_true rfl, Nat.le_of_ble_eq_true rfl⟩) rfl hl.1 rfl (Nat.le_of_ble_eq_true rfl) dX10_compare_233 ⟨Nat.le_of_ble_eq_true rfl, Nat.le_of_ble_eq_true rfl⟩) hW (fun r_74 L_72 h_73 H locs p_75 hW => ?_)
          obtain ⟨hr_76, hT, hs⟩ := p_75
          replace hT : hx_T T_tb L_72 h_73 := hT
          replace hs : hx_S T_tb [] L_32 h_64 L_72 h_73 := hs
          replace f_x_14 := (hs.o (gx.S hM) trivial rfl).1.trans f_x_14
          replace f_x_9 := (hs.o (gx.S hM) trivial rfl).1.trans f_x_9
          replace f_11 := (hs.o (gx.S hM) trivial rfl).1.trans f_11
          replace fw_30 := (hs.o (gx.S hM) trivial rfl).1.trans fw_30
          replace f_65 := (hs.o (gx.S hM) trivial rfl).1.trans f_65
          replace af_qs : h_73.2.1 qs = sf := (funext fun j => (hs.a (gqs.S hM) rfl j).1).trans af_qs
          replace hM := hM.tr (hs.mono (by decide))
          refine hx_gov (hx_runV (As := [.int r_74]) (rest := []) ⟨hx, hb, hml, hown, hts⟩ hW (gx.S hM) tt_10 (T := TX10) (N := 98) rfl (t_X10_writes l dC dI dA L_72 h_73 H.size x r_74 hT (gx.S hM) qs (gqs.S hM) ((hM.o gx trivial rfl).2.trans f_x_15) sf af_qs st0 f_x_14 (by omega)) (cwV 1 hts (hx_gV kw_1138 kw_1135 kw_1137 kw_50 kw_103) rfl rfl rfl (by decide +kernel) ⟨Nat.le_of_ble_eq_true rfl, Nat.le_of_ble_eq_true rfl⟩) rfl hl.1 rfl (Nat.le_of_ble_eq_true rfl) dX10_compare_236 ⟨Nat.le_of_ble_eq_true rfl, Nat.le_of_ble_eq_true rfl⟩) hW (fun L_77 h_78 H locs p_80 hW => ?_)
          obtain ⟨⟨w_82, w_83, fw_82, fw_83, hr_81⟩, hT, hs⟩ := p_80
          replace hT : hx_T T_tb L_77 h_78 := hT
          replace hs : hx_S T_tb [(10, 14), (55, 0)] L_72 h_73 L_77 h_78 := hs
          replace f_x_9 := (hs.o (gx.S hM) trivial rfl).1.trans f_x_9
          replace f_11 := (hs.o (gx.S hM) trivial rfl).1.trans f_11
          replace fw_30 := (hs.o (gx.S hM) trivial rfl).1.trans fw_30
          replace f_65 := (hs.o (gx.S hM) trivial rfl).1.trans f_65
          replace hM := hM.tr (hs.mono (by decide))
          have fw_82 : h_78.2.1 x 14 = w_82 := fw_82
          have bw_82 := hT.gi (gx.S hM) tt_10 (k := 14) rfl
          rw [fw_82] at bw_82
          have bw_82 : 0 ≤ w_82.toInt ∧ w_82.toInt ≤ 128 := bw_82
          have fw_83 : h_78.2.1 qs = w_83 := fw_83
          refine lv_iconst (v := 1) hx hb dX10_compare_239 (by decide) ?_
          exact hx_retz hx hb hr rfl hlk hW ⟨⟨x_9, x_63, w_82, ft0, w_83, f_11, f_65, fw_82, f_x_9, fw_83, ⟨by decide, by omega, (fun _ => hx_QQ_cmp hQ (by omega) (by omega) (by omega) hr_76.1 (hx_cl (by omega)) (by omega) hr_81.1 hr_81.2), (hv_K_t (x := x_63.toInt.toNat) (y := cp0.toInt.toNat + 1) (o := (hv_wd tf tp0.toInt.toNat nx0.toInt.toNat - 2, (hv_sg tf tp0.toInt.toNat (hv_sk tf tp0.toInt.toNat (hv_we tf tp0.toInt.toNat nx0.toInt.toNat))).1, 10000 + (hv_wd tf tp0.toInt.toNat w_29.toInt.toNat - 3)) :: o) (by decide) (by omega) (by omega) (by omega) (hv_ls_u hO (by unfold hv_rc; dsimp only; rw [if_neg (by omega)]; omega) (by omega) hr_81.2) (ht9.trans ((hv_rt_2 (by omega)).trans (by rw [show hv_we tf tp0.toInt.toNat w_29.toInt.toNat = x_63.toInt.toNat by omega])))), (fun _ => ⟨by omega, by omega⟩)⟩⟩, hT, hM⟩ dX10_compare_240
      refine lv_iload_n hx hb dX10_compare_64 rfl (lv_at hl 0 rfl) ?_
      refine lv_bipush (v := 60) hx hb dX10_compare_65 (by decide) ?_
      refine hb_icmp_eq (zx := r_19.toInt) (zy := 60) (tgt := 92) hx hb rfl (by decide) dX10_compare_67 (by decide) (fun c_84 => ?_) (fun c_84 => ?_)
      · skip
        refine lv_aload_n hx hb dX10_compare_92 rfl (lv_at hl 1 rfl) ?_
        refine lv_dup hx hb dX10_compare_93 rfl ?_
        refine hk_geti hx hb hts hC_10 hown hW (gx.S hM) tt_10 8 (by decide) rfl kw_1151 ⟨rfl, rfl, rfl⟩ fw_22 dX10_compare_94 ?_
        refine lv_iconst (v := 1) hx hb dX10_compare_97 (by decide) ?_
        refine lv_iadd hx hb dX10_compare_98 ?_
        have rg_85 := i32_r w_22
        refine lv_topi (fun x_86 ex_86 => ?_)
        have zx_86 : x_86.toInt = w_22.toInt + 1 := by rw [ex_86]; exact i32_add rfl (by decide) (by omega) (by omega)
        refine hx_puti hx hb hts hC_10 hown hW hT (hx_S.rf (M := [(10, 8)])) (gx.S hM) tt_10 8 (by decide) rfl kw_1151 ⟨rfl, rfl, rfl⟩ rfl (x := x_86) ⟨by omega, by omega⟩ rfl rfl rfl (List.mem_singleton.mpr rfl) dX10_compare_99 (fun H locs h_87 eh_87 hW hT hs => ?_)
        replace f_x_14 := (hs.o (gx.S hM) trivial rfl).1.trans f_x_14
        replace f_x_11 := (hs.o (gx.S hM) trivial rfl).1.trans f_x_11
        replace f_x_9 := (hs.o (gx.S hM) trivial rfl).1.trans f_x_9
        replace f_11 := (hs.o (gx.S hM) trivial rfl).1.trans f_11
        replace af_qs : h_87.2.1 qs = sf := (funext fun j => (hs.a (gqs.S hM) rfl j).1).trans af_qs
        replace hM := hM.tr (hs.mono (by decide))
        have f_88 : h_87.2.1 x 8 = x_86 := by rw [eh_87]; exact hx_pi_at _ _ _ _
        have hse9 := hv_SE_s hr_21S (by omega)
        refine lv_iload_n hx hb dX10_compare_102 rfl (lv_at hl 0 rfl) ?_
        refine lv_bipush (v := 61) hx hb dX10_compare_103 (by decide) ?_
        refine hb_icmp_eq (zx := r_19.toInt) (zy := 61) (tgt := 137) hx hb rfl (by decide) dX10_compare_105 (by decide) (fun c_89 => by exfalso; omega) (fun c_89 => ?_)
        refine lv_aload_n hx hb dX10_compare_108 rfl (lv_at hl 1 rfl) ?_
        refine hk_geti hx hb hts hC_10 hown hW (gx.S hM) tt_10 8 (by decide) rfl kw_1151 ⟨rfl, rfl, rfl⟩ f_88 dX10_compare_109 ?_
        refine lv_aload_n hx hb dX10_compare_112 rfl (lv_at hl 1 rfl) ?_
        refine hk_geti hx hb hts hC_10 hown hW (gx.S hM) tt_10 7 (by decide) rfl kw_1150 ⟨rfl, rfl, rfl⟩ ((hM.o gx trivial rfl).1.trans f_x_7) dX10_compare_113 ?_
        refine hb_icmp_ge (zx := x_86.toInt) (zy := tp0.toInt) (tgt := 137) hx hb rfl rfl dX10_compare_116 (by decide) (fun c_90 => ?_) (fun c_90 => ?_)
        · skip
          refine lv_iconst (v := 0) hx hb dX10_compare_137 (by decide) ?_
          refine lv_istore_n (lv' := [(3, .int (0 : Int32)), (2, .int r_19), (0, .ref x), (1, .int i1)]) hx hb dX10_compare_138 rfl hl (by decide) rfl (fun ls hl => ?_)
          refine lv_iload_n hx hb dX10_compare_139 rfl (lv_at hl 0 rfl) ?_
          refine hb_if_eq (zx := 0) (tgt := 153) hx hb (by decide) dX10_compare_140 (by decide) (fun c_91 => ?_) (fun c_91 => absurd c_91 (by decide))
          refine lv_iload_n hx hb dX10_compare_153 rfl (lv_at hl 1 rfl) ?_
          refine lv_bipush (v := 60) hx hb dX10_compare_154 (by decide) ?_
          refine hb_icmp_ne (zx := r_19.toInt) (zy := 60) (tgt := 171) hx hb rfl (by decide) dX10_compare_156 (by decide) (fun c_92 => by exfalso; omega) (fun c_92 => ?_)
          refine lv_iload_n hx hb dX10_compare_159 rfl (lv_at hl 0 rfl) ?_
          refine hb_if_eq (zx := 0) (tgt := 167) hx hb (by decide) dX10_compare_160 (by decide) (fun c_93 => ?_) (fun c_93 => absurd c_93 (by decide))
          refine lv_iconst (v := 0) hx hb dX10_compare_167 (by decide) ?_
          refine lv_goto (tgt := 190) hx hb dX10_compare_168 (by decide) ?_
          refine lv_istore (lv' := [(4, .int (0 : Int32)), (3, .int (0 : Int32)), (2, .int r_19), (0, .ref x), (1, .int i1)]) hx hb dX10_compare_190 hl (by decide) rfl (fun ls hl => ?_)
          have zk_0 : (0 : Int32).toInt = 0 := by decide
          exact join192 (0 : Int32) x_86 _ _ L_17 h_87 (by decide) (by decide) (by omega) (by omega) (by have hsq : hv_sk tf tp0.toInt.toNat (hv_we tf tp0.toInt.toNat nx0.toInt.toNat) = w_22.toInt.toNat := (by rw [← ha1]; exact ek_23.symm); rw [hsq, show hv_sg tf tp0.toInt.toNat w_22.toInt.toNat = (0, 1) from hv_sg_1 (by have h8 := hv_SE_y (k := 60) hr_21S (by decide) (by decide) (by omega); exact h8) (fun z9 => by have h8 : (tf x_86.toNatClampNeg).toInt = 61 := z9.2; omega) (by omega) (by omega)]; refine ⟨by decide, by decide, ?_⟩; show _ = w_22.toInt.toNat + 1; omega) (by omega) (by omega) ls hW hT hM f_88 f_x_14 f_x_11 f_x_9 f_11 af_qs (lv_sub hl [0, 2, 3, 4] rfl)
        · skip
          refine lv_aload_n hx hb dX10_compare_119 rfl (lv_at hl 1 rfl) ?_
          refine hk_getr hx hb hts hC_10 hown hW (gx.S hM) tt_10 6 (by decide) rfl kw_1149 ⟨rfl, rfl, rfl⟩ ((hM.o gx trivial rfl).2.trans f_x_6) dX10_compare_120 ?_
          refine lv_aload_n hx hb dX10_compare_123 rfl (lv_at hl 1 rfl) ?_
          refine hk_geti hx hb hts hC_10 hown hW (gx.S hM) tt_10 8 (by decide) rfl kw_1151 ⟨rfl, rfl, rfl⟩ f_88 dX10_compare_124 ?_
          refine hx_bald hx hb hW hT (gqt.S hM) tt_53 rfl ⟨by omega, by omega⟩ dX10_compare_127 (fun x_94 ex_94 lx_94 ux_94 => ?_)
          have ax_94 : x_94 = tf x_86.toNatClampNeg := ex_94.trans (congrFun (hx_afS hM gqt rfl af_qt) _)
          refine lv_bipush (v := 61) hx hb dX10_compare_128 (by decide) ?_
          refine hb_icmp_ne (zx := x_94.toInt) (zy := 61) (tgt := 137) hx hb rfl (by decide) dX10_compare_130 (by decide) (fun c_95 => ?_) (fun c_95 => ?_)
          · skip
            refine lv_iconst (v := 0) hx hb dX10_compare_137 (by decide) ?_
            refine lv_istore_n (lv' := [(3, .int (0 : Int32)), (2, .int r_19), (0, .ref x), (1, .int i1)]) hx hb dX10_compare_138 rfl hl (by decide) rfl (fun ls hl => ?_)
            refine lv_iload_n hx hb dX10_compare_139 rfl (lv_at hl 0 rfl) ?_
            refine hb_if_eq (zx := 0) (tgt := 153) hx hb (by decide) dX10_compare_140 (by decide) (fun c_96 => ?_) (fun c_96 => absurd c_96 (by decide))
            refine lv_iload_n hx hb dX10_compare_153 rfl (lv_at hl 1 rfl) ?_
            refine lv_bipush (v := 60) hx hb dX10_compare_154 (by decide) ?_
            refine hb_icmp_ne (zx := r_19.toInt) (zy := 60) (tgt := 171) hx hb rfl (by decide) dX10_compare_156 (by decide) (fun c_97 => by exfalso; omega) (fun c_97 => ?_)
            refine lv_iload_n hx hb dX10_compare_159 rfl (lv_at hl 0 rfl) ?_
            refine hb_if_eq (zx := 0) (tgt := 167) hx hb (by decide) dX10_compare_160 (by decide) (fun c_98 => ?_) (fun c_98 => absurd c_98 (by decide))
            refine lv_iconst (v := 0) hx hb dX10_compare_167 (by decide) ?_
            refine lv_goto (tgt := 190) hx hb dX10_compare_168 (by decide) ?_
            refine lv_istore (lv' := [(4, .int (0 : Int32)), (3, .int (0 : Int32)), (2, .int r_19), (0, .ref x), (1, .int i1)]) hx hb dX10_compare_190 hl (by decide) rfl (fun ls hl => ?_)
            have zk_0 : (0 : Int32).toInt = 0 := by decide
            exact join192 (0 : Int32) x_86 _ _ L_17 h_87 (by decide) (by decide) (by omega) (by omega) (by have hsq : hv_sk tf tp0.toInt.toNat (hv_we tf tp0.toInt.toNat nx0.toInt.toNat) = w_22.toInt.toNat := (by rw [← ha1]; exact ek_23.symm); rw [hsq, show hv_sg tf tp0.toInt.toNat w_22.toInt.toNat = (0, 1) from hv_sg_1 (by have h8 := hv_SE_y (k := 60) hr_21S (by decide) (by decide) (by omega); exact h8) (fun z9 => by have h8 : (tf x_86.toNatClampNeg).toInt = 61 := z9.2; rw [← ax_94] at h8; omega) (by omega) (by omega)]; refine ⟨by decide, by decide, ?_⟩; show _ = w_22.toInt.toNat + 1; omega) (by omega) (by omega) ls hW hT hM f_88 f_x_14 f_x_11 f_x_9 f_11 af_qs (lv_sub hl [0, 2, 3, 4] rfl)
          · skip
            refine lv_iconst (v := 1) hx hb dX10_compare_133 (by decide) ?_
            refine lv_goto (tgt := 138) hx hb dX10_compare_134 (by decide) ?_
            refine lv_istore_n (lv' := [(3, .int (1 : Int32)), (2, .int r_19), (0, .ref x), (1, .int i1)]) hx hb dX10_compare_138 rfl hl (by decide) rfl (fun ls hl => ?_)
            refine lv_iload_n hx hb dX10_compare_139 rfl (lv_at hl 0 rfl) ?_
            refine hb_if_eq (zx := 1) (tgt := 153) hx hb (by decide) dX10_compare_140 (by decide) (fun c_99 => absurd c_99 (by decide)) (fun c_99 => ?_)
            refine lv_aload_n hx hb dX10_compare_143 rfl (lv_at hl 2 rfl) ?_
            refine lv_dup hx hb dX10_compare_144 rfl ?_
            refine hk_geti hx hb hts hC_10 hown hW (gx.S hM) tt_10 8 (by decide) rfl kw_1151 ⟨rfl, rfl, rfl⟩ f_88 dX10_compare_145 ?_
            refine lv_iconst (v := 1) hx hb dX10_compare_148 (by decide) ?_
            refine lv_iadd hx hb dX10_compare_149 ?_
            have rg_100 := i32_r x_86
            refine lv_topi (fun x_101 ex_101 => ?_)
            have zx_101 : x_101.toInt = x_86.toInt + 1 := by rw [ex_101]; exact i32_add rfl (by decide) (by omega) (by omega)
            refine hx_puti hx hb hts hC_10 hown hW hT (hx_S.rf (M := [(10, 8)])) (gx.S hM) tt_10 8 (by decide) rfl kw_1151 ⟨rfl, rfl, rfl⟩ rfl (x := x_101) ⟨by omega, by omega⟩ rfl rfl rfl (List.mem_singleton.mpr rfl) dX10_compare_150 (fun H locs h_102 eh_102 hW hT hs => ?_)
            replace f_x_14 := (hs.o (gx.S hM) trivial rfl).1.trans f_x_14
            replace f_x_11 := (hs.o (gx.S hM) trivial rfl).1.trans f_x_11
            replace f_x_9 := (hs.o (gx.S hM) trivial rfl).1.trans f_x_9
            replace f_11 := (hs.o (gx.S hM) trivial rfl).1.trans f_11
            replace af_qs : h_102.2.1 qs = sf := (funext fun j => (hs.a (gqs.S hM) rfl j).1).trans af_qs
            replace ex_94 := ex_94.trans (hs.a (gqt.S hM) rfl _).1.symm
            replace hM := hM.tr (hs.mono (by decide))
            have f_103 : h_102.2.1 x 8 = x_101 := by rw [eh_102]; exact hx_pi_at _ _ _ _
            refine lv_iload_n hx hb dX10_compare_153 rfl (lv_at hl 1 rfl) ?_
            refine lv_bipush (v := 60) hx hb dX10_compare_154 (by decide) ?_
            refine hb_icmp_ne (zx := r_19.toInt) (zy := 60) (tgt := 171) hx hb rfl (by decide) dX10_compare_156 (by decide) (fun c_104 => by exfalso; omega) (fun c_104 => ?_)
            refine lv_iload_n hx hb dX10_compare_159 rfl (lv_at hl 0 rfl) ?_
            refine hb_if_eq (zx := 1) (tgt := 167) hx hb (by decide) dX10_compare_160 (by decide) (fun c_105 => absurd c_105 (by decide)) (fun c_105 => ?_)
            refine lv_iconst (v := 1) hx hb dX10_compare_163 (by decide) ?_
            refine lv_goto (tgt := 190) hx hb dX10_compare_164 (by decide) ?_
            refine lv_istore (lv' := [(4, .int (1 : Int32)), (3, .int (1 : Int32)), (2, .int r_19), (0, .ref x), (1, .int i1)]) hx hb dX10_compare_190 hl (by decide) rfl (fun ls hl => ?_)
            have zk_1 : (1 : Int32).toInt = 1 := by decide
            exact join192 (1 : Int32) x_101 _ _ L_17 h_102 (by decide) (by decide) (by omega) (by omega) (by have hsq : hv_sk tf tp0.toInt.toNat (hv_we tf tp0.toInt.toNat nx0.toInt.toNat) = w_22.toInt.toNat := (by rw [← ha1]; exact ek_23.symm); rw [hsq, show hv_sg tf tp0.toInt.toNat w_22.toInt.toNat = (1, 2) from hv_sg_3 (by have h8 := hv_SE_y (k := 60) hr_21S (by decide) (by decide) (by omega); exact h8) ⟨by omega, (by show (tf x_86.toNatClampNeg).toInt = 61; rw [← ax_94]; omega)⟩ (by omega) (by omega)]; refine ⟨by decide, by decide, ?_⟩; show _ = w_22.toInt.toNat + 2; omega) (by omega) (by omega) ls hW hT hM f_103 f_x_14 f_x_11 f_x_9 f_11 af_qs (lv_sub hl [0, 2, 3, 4] rfl)
      · skip
        refine lv_iload_n hx hb dX10_compare_70 rfl (lv_at hl 0 rfl) ?_
        refine lv_bipush (v := 61) hx hb dX10_compare_71 (by decide) ?_
        refine hb_icmp_eq (zx := r_19.toInt) (zy := 61) (tgt := 92) hx hb rfl (by decide) dX10_compare_73 (by decide) (fun c_106 => ?_) (fun c_106 => ?_)
        · skip
          refine lv_aload_n hx hb dX10_compare_92 rfl (lv_at hl 1 rfl) ?_
          refine lv_dup hx hb dX10_compare_93 rfl ?_
          refine hk_geti hx hb hts hC_10 hown hW (gx.S hM) tt_10 8 (by decide) rfl kw_1151 ⟨rfl, rfl, rfl⟩ fw_22 dX10_compare_94 ?_
          refine lv_iconst (v := 1) hx hb dX10_compare_97 (by decide) ?_
          refine lv_iadd hx hb dX10_compare_98 ?_
          have rg_107 := i32_r w_22
          refine lv_topi (fun x_108 ex_108 => ?_)
          have zx_108 : x_108.toInt = w_22.toInt + 1 := by rw [ex_108]; exact i32_add rfl (by decide) (by omega) (by omega)
          refine hx_puti hx hb hts hC_10 hown hW hT (hx_S.rf (M := [(10, 8)])) (gx.S hM) tt_10 8 (by decide) rfl kw_1151 ⟨rfl, rfl, rfl⟩ rfl (x := x_108) ⟨by omega, by omega⟩ rfl rfl rfl (List.mem_singleton.mpr rfl) dX10_compare_99 (fun H locs h_109 eh_109 hW hT hs => ?_)
          replace f_x_14 := (hs.o (gx.S hM) trivial rfl).1.trans f_x_14
          replace f_x_11 := (hs.o (gx.S hM) trivial rfl).1.trans f_x_11
          replace f_x_9 := (hs.o (gx.S hM) trivial rfl).1.trans f_x_9
          replace f_11 := (hs.o (gx.S hM) trivial rfl).1.trans f_11
          replace af_qs : h_109.2.1 qs = sf := (funext fun j => (hs.a (gqs.S hM) rfl j).1).trans af_qs
          replace hM := hM.tr (hs.mono (by decide))
          have f_110 : h_109.2.1 x 8 = x_108 := by rw [eh_109]; exact hx_pi_at _ _ _ _
          have hse9 := hv_SE_s hr_21S (by omega)
          refine lv_iload_n hx hb dX10_compare_102 rfl (lv_at hl 0 rfl) ?_
          refine lv_bipush (v := 61) hx hb dX10_compare_103 (by decide) ?_
          refine hb_icmp_eq (zx := r_19.toInt) (zy := 61) (tgt := 137) hx hb rfl (by decide) dX10_compare_105 (by decide) (fun c_111 => ?_) (fun c_111 => by exfalso; omega)
          refine lv_iconst (v := 0) hx hb dX10_compare_137 (by decide) ?_
          refine lv_istore_n (lv' := [(3, .int (0 : Int32)), (2, .int r_19), (0, .ref x), (1, .int i1)]) hx hb dX10_compare_138 rfl hl (by decide) rfl (fun ls hl => ?_)
          refine lv_iload_n hx hb dX10_compare_139 rfl (lv_at hl 0 rfl) ?_
          refine hb_if_eq (zx := 0) (tgt := 153) hx hb (by decide) dX10_compare_140 (by decide) (fun c_112 => ?_) (fun c_112 => absurd c_112 (by decide))
          refine lv_iload_n hx hb dX10_compare_153 rfl (lv_at hl 1 rfl) ?_
          refine lv_bipush (v := 60) hx hb dX10_compare_154 (by decide) ?_
          refine hb_icmp_ne (zx := r_19.toInt) (zy := 60) (tgt := 171) hx hb rfl (by decide) dX10_compare_156 (by decide) (fun c_113 => ?_) (fun c_113 => by exfalso; omega)
          refine lv_iload_n hx hb dX10_compare_171 rfl (lv_at hl 1 rfl) ?_
          refine lv_bipush (v := 61) hx hb dX10_compare_172 (by decide) ?_
          refine hb_icmp_ne (zx := r_19.toInt) (zy := 61) (tgt := 181) hx hb rfl (by decide) dX10_compare_174 (by decide) (fun c_114 => by exfalso; omega) (fun c_114 => ?_)
          refine lv_iconst (v := 2) hx hb dX10_compare_177 (by decide) ?_
          refine lv_goto (tgt := 190) hx hb dX10_compare_178 (by decide) ?_
          refine lv_istore (lv' := [(4, .int (2 : Int32)), (3, .int (0 : Int32)), (2, .int r_19), (0, .ref x), (1, .int i1)]) hx hb dX10_compare_190 hl (by decide) rfl (fun ls hl => ?_)
          have zk_2 : (2 : Int32).toInt = 2 := by decide
          exact join192 (2 : Int32) x_108 _ _ L_17 h_109 (by decide) (by decide) (by omega) (by omega) (by have hsq : hv_sk tf tp0.toInt.toNat (hv_we tf tp0.toInt.toNat nx0.toInt.toNat) = w_22.toInt.toNat := (by rw [← ha1]; exact ek_23.symm); rw [hsq, show hv_sg tf tp0.toInt.toNat w_22.toInt.toNat = (2, 1) from hv_sg_2 (by have h8 := hv_SE_y (k := 61) hr_21S (by decide) (by decide) (by omega); exact h8) (by omega)]; refine ⟨by decide, by decide, ?_⟩; show _ = w_22.toInt.toNat + 1; omega) (by omega) (by omega) ls hW hT hM f_110 f_x_14 f_x_11 f_x_9 f_11 af_qs (lv_sub hl [0, 2, 3, 4] rfl)
        · skip
          refine lv_iload_n hx hb dX10_compare_76 rfl (lv_at hl 0 rfl) ?_
          refine lv_bipush (v := 62) hx hb dX10_compare_77 (by decide) ?_
          refine hb_icmp_eq (zx := r_19.toInt) (zy := 62) (tgt := 92) hx hb rfl (by decide) dX10_compare_79 (by decide) (fun c_115 => ?_) (fun c_115 => ?_)
          · skip
            refine lv_aload_n hx hb dX10_compare_92 rfl (lv_at hl 1 rfl) ?_
            refine lv_dup hx hb dX10_compare_93 rfl ?_
            refine hk_geti hx hb hts hC_10 hown hW (gx.S hM) tt_10 8 (by decide) rfl kw_1151 ⟨rfl, rfl, rfl⟩ fw_22 dX10_compare_94 ?_
            refine lv_iconst (v := 1) hx hb dX10_compare_97 (by decide) ?_
            refine lv_iadd hx hb dX10_compare_98 ?_
            have rg_116 := i32_r w_22
            refine lv_topi (fun x_117 ex_117 => ?_)
            have zx_117 : x_117.toInt = w_22.toInt + 1 := by rw [ex_117]; exact i32_add rfl (by decide) (by omega) (by omega)
            refine hx_puti hx hb hts hC_10 hown hW hT (hx_S.rf (M := [(10, 8)])) (gx.S hM) tt_10 8 (by decide) rfl kw_1151 ⟨rfl, rfl, rfl⟩ rfl (x := x_117) ⟨by omega, by omega⟩ rfl rfl rfl (List.mem_singleton.mpr rfl) dX10_compare_99 (fun H locs h_118 eh_118 hW hT hs => ?_)
            replace f_x_14 := (hs.o (gx.S hM) trivial rfl).1.trans f_x_14
            replace f_x_11 := (hs.o (gx.S hM) trivial rfl).1.trans f_x_11
            replace f_x_9 := (hs.o (gx.S hM) trivial rfl).1.trans f_x_9
            replace f_11 := (hs.o (gx.S hM) trivial rfl).1.trans f_11
            replace af_qs : h_118.2.1 qs = sf := (funext fun j => (hs.a (gqs.S hM) rfl j).1).trans af_qs
            replace hM := hM.tr (hs.mono (by decide))
            have f_119 : h_118.2.1 x 8 = x_117 := by rw [eh_118]; exact hx_pi_at _ _ _ _
            have hse9 := hv_SE_s hr_21S (by omega)
            refine lv_iload_n hx hb dX10_compare_102 rfl (lv_at hl 0 rfl) ?_
            refine lv_bipush (v := 61) hx hb dX10_compare_103 (by decide) ?_
            refine hb_icmp_eq (zx := r_19.toInt) (zy := 61) (tgt := 137) hx hb rfl (by decide) dX10_compare_105 (by decide) (fun c_120 => by exfalso; omega) (fun c_120 => ?_)
            refine lv_aload_n hx hb dX10_compare_108 rfl (lv_at hl 1 rfl) ?_
            refine hk_geti hx hb hts hC_10 hown hW (gx.S hM) tt_10 8 (by decide) rfl kw_1151 ⟨rfl, rfl, rfl⟩ f_119 dX10_compare_109 ?_
            refine lv_aload_n hx hb dX10_compare_112 rfl (lv_at hl 1 rfl) ?_
            refine hk_geti hx hb hts hC_10 hown hW (gx.S hM) tt_10 7 (by decide) rfl kw_1150 ⟨rfl, rfl, rfl⟩ ((hM.o gx trivial rfl).1.trans f_x_7) dX10_compare_113 ?_
            refine hb_icmp_ge (zx := x_117.toInt) (zy := tp0.toInt) (tgt := 137) hx hb rfl rfl dX10_compare_116 (by decide) (fun c_121 => ?_) (fun c_121 => ?_)
            · skip
              refine lv_iconst (v := 0) hx hb dX10_compare_137 (by decide) ?_
              refine lv_istore_n (lv' := [(3, .int (0 : Int32)), (2, .int r_19), (0, .ref x), (1, .int i1)]) hx hb dX10_compare_138 rfl hl (by decide) rfl (fun ls hl => ?_)
              refine lv_iload_n hx hb dX10_compare_139 rfl (lv_at hl 0 rfl) ?_
              refine hb_if_eq (zx := 0) (tgt := 153) hx hb (by decide) dX10_compare_140 (by decide) (fun c_122 => ?_) (fun c_122 => absurd c_122 (by decide))
              refine lv_iload_n hx hb dX10_compare_153 rfl (lv_at hl 1 rfl) ?_
              refine lv_bipush (v := 60) hx hb dX10_compare_154 (by decide) ?_
              refine hb_icmp_ne (zx := r_19.toInt) (zy := 60) (tgt := 171) hx hb rfl (by decide) dX10_compare_156 (by decide) (fun c_123 => ?_) (fun c_123 => by exfalso; omega)
              refine lv_iload_n hx hb dX10_compare_171 rfl (lv_at hl 1 rfl) ?_
              refine lv_bipush (v := 61) hx hb dX10_compare_172 (by decide) ?_
              refine hb_icmp_ne (zx := r_19.toInt) (zy := 61) (tgt := 181) hx hb rfl (by decide) dX10_compare_174 (by decide) (fun c_124 => ?_) (fun c_124 => by exfalso; omega)
              refine lv_iload_n hx hb dX10_compare_181 rfl (lv_at hl 0 rfl) ?_
              refine hb_if_eq (zx := 0) (tgt := 189) hx hb (by decide) dX10_compare_182 (by decide) (fun c_125 => ?_) (fun c_125 => absurd c_125 (by decide))
              refine lv_iconst (v := 4) hx hb dX10_compare_189 (by decide) ?_
              refine lv_istore (lv' := [(4, .int (4 : Int32)), (3, .int (0 : Int32)), (2, .int r_19), (0, .ref x), (1, .int i1)]) hx hb dX10_compare_190 hl (by decide) rfl (fun ls hl => ?_)
              have zk_4 : (4 : Int32).toInt = 4 := by decide
              exact join192 (4 : Int32) x_117 _ _ L_17 h_118 (by decide) (by decide) (by omega) (by omega) (by have hsq : hv_sk tf tp0.toInt.toNat (hv_we tf tp0.toInt.toNat nx0.toInt.toNat) = w_22.toInt.toNat := (by rw [← ha1]; exact ek_23.symm); rw [hsq, show hv_sg tf tp0.toInt.toNat w_22.toInt.toNat = (4, 1) from hv_sg_4 (by have h8 := hv_SE_y (k := 62) hr_21S (by decide) (by decide) (by omega); exact h8) (fun z9 => by have h8 : (tf x_117.toNatClampNeg).toInt = 61 := z9.2; omega) (by omega) (by omega)]; refine ⟨by decide, by decide, ?_⟩; show _ = w_22.toInt.toNat + 1; omega) (by omega) (by omega) ls hW hT hM f_119 f_x_14 f_x_11 f_x_9 f_11 af_qs (lv_sub hl [0, 2, 3, 4] rfl)
            · skip
              refine lv_aload_n hx hb dX10_compare_119 rfl (lv_at hl 1 rfl) ?_
              refine hk_getr hx hb hts hC_10 hown hW (gx.S hM) tt_10 6 (by decide) rfl kw_1149 ⟨rfl, rfl, rfl⟩ ((hM.o gx trivial rfl).2.trans f_x_6) dX10_compare_120 ?_
              refine lv_aload_n hx hb dX10_compare_123 rfl (lv_at hl 1 rfl) ?_
              refine hk_geti hx hb hts hC_10 hown hW (gx.S hM) tt_10 8 (by decide) rfl kw_1151 ⟨rfl, rfl, rfl⟩ f_119 dX10_compare_124 ?_
              refine hx_bald hx hb hW hT (gqt.S hM) tt_53 rfl ⟨by omega, by omega⟩ dX10_compare_127 (fun x_126 ex_126 lx_126 ux_126 => ?_)
              have ax_126 : x_126 = tf x_117.toNatClampNeg := ex_126.trans (congrFun (hx_afS hM gqt rfl af_qt) _)
              refine lv_bipush (v := 61) hx hb dX10_compare_128 (by decide) ?_
              refine hb_icmp_ne (zx := x_126.toInt) (zy := 61) (tgt := 137) hx hb rfl (by decide) dX10_compare_130 (by decide) (fun c_127 => ?_) (fun c_127 => ?_)
              · skip
                refine lv_iconst (v := 0) hx hb dX10_compare_137 (by decide) ?_
                refine lv_istore_n (lv' := [(3, .int (0 : Int32)), (2, .int r_19), (0, .ref x), (1, .int i1)]) hx hb dX10_compare_138 rfl hl (by decide) rfl (fun ls hl => ?_)
                refine lv_iload_n hx hb dX10_compare_139 rfl (lv_at hl 0 rfl) ?_
                refine hb_if_eq (zx := 0) (tgt := 153) hx hb (by decide) dX10_compare_140 (by decide) (fun c_128 => ?_) (fun c_128 => absurd c_128 (by decide))
                refine lv_iload_n hx hb dX10_compare_153 rfl (lv_at hl 1 rfl) ?_
                refine lv_bipush (v := 60) hx hb dX10_compare_154 (by decide) ?_
                refine hb_icmp_ne (zx := r_19.toInt) (zy := 60) (tgt := 171) hx hb rfl (by decide) dX10_compare_156 (by decide) (fun c_129 => ?_) (fun c_129 => by exfalso; omega)
                refine lv_iload_n hx hb dX10_compare_171 rfl (lv_at hl 1 rfl) ?_
                refine lv_bipush (v := 61) hx hb dX10_compare_172 (by decide) ?_
                refine hb_icmp_ne (zx := r_19.toInt) (zy := 61) (tgt := 181) hx hb rfl (by decide) dX10_compare_174 (by decide) (fun c_130 => ?_) (fun c_130 => by exfalso; omega)
                refine lv_iload_n hx hb dX10_compare_181 rfl (lv_at hl 0 rfl) ?_
                refine hb_if_eq (zx := 0) (tgt := 189) hx hb (by decide) dX10_compare_182 (by decide) (fun c_131 => ?_) (fun c_131 => absurd c_131 (by decide))
                refine lv_iconst (v := 4) hx hb dX10_compare_189 (by decide) ?_
                refine lv_istore (lv' := [(4, .int (4 : Int32)), (3, .int (0 : Int32)), (2, .int r_19), (0, .ref x), (1, .int i1)]) hx hb dX10_compare_190 hl (by decide) rfl (fun ls hl => ?_)
                have zk_4 : (4 : Int32).toInt = 4 := by decide
                exact join192 (4 : Int32) x_117 _ _ L_17 h_118 (by decide) (by decide) (by omega) (by omega) (by have hsq : hv_sk tf tp0.toInt.toNat (hv_we tf tp0.toInt.toNat nx0.toInt.toNat) = w_22.toInt.toNat := (by rw [← ha1]; exact ek_23.symm); rw [hsq, show hv_sg tf tp0.toInt.toNat w_22.toInt.toNat = (4, 1) from hv_sg_4 (by have h8 := hv_SE_y (k := 62) hr_21S (by decide) (by decide) (by omega); exact h8) (fun z9 => by have h8 : (tf x_117.toNatClampNeg).toInt = 61 := z9.2; rw [← ax_126] at h8; omega) (by omega) (by omega)]; refine ⟨by decide, by decide, ?_⟩; show _ = w_22.toInt.toNat + 1; omega) (by omega) (by omega) ls hW hT hM f_119 f_x_14 f_x_11 f_x_9 f_11 af_qs (lv_sub hl [0, 2, 3, 4] rfl)
              · skip
                refine lv_iconst (v := 1) hx hb dX10_compare_133 (by decide) ?_
                refine lv_goto (tgt := 138) hx hb dX10_compare_134 (by decide) ?_
                refine lv_istore_n (lv' := [(3, .int (1 : Int32)), (2, .int r_19), (0, .ref x), (1, .int i1)]) hx hb dX10_compare_138 rfl hl (by decide) rfl (fun ls hl => ?_)
                refine lv_iload_n hx hb dX10_compare_139 rfl (lv_at hl 0 rfl) ?_
                refine hb_if_eq (zx := 1) (tgt := 153) hx hb (by decide) dX10_compare_140 (by decide) (fun c_132 => absurd c_132 (by decide)) (fun c_132 => ?_)
                refine lv_aload_n hx hb dX10_compare_143 rfl (lv_at hl 2 rfl) ?_
                refine lv_dup hx hb dX10_compare_144 rfl ?_
                refine hk_geti hx hb hts hC_10 hown hW (gx.S hM) tt_10 8 (by decide) rfl kw_1151 ⟨rfl, rfl, rfl⟩ f_119 dX10_compare_145 ?_
                refine lv_iconst (v := 1) hx hb dX10_compare_148 (by decide) ?_
                refine lv_iadd hx hb dX10_compare_149 ?_
                have rg_133 := i32_r x_117
                refine lv_topi (fun x_134 ex_134 => ?_)
                have zx_134 : x_134.toInt = x_117.toInt + 1 := by rw [ex_134]; exact i32_add rfl (by decide) (by omega) (by omega)
                refine hx_puti hx hb hts hC_10 hown hW hT (hx_S.rf (M := [(10, 8)])) (gx.S hM) tt_10 8 (by decide) rfl kw_1151 ⟨rfl, rfl, rfl⟩ rfl (x := x_134) ⟨by omega, by omega⟩ rfl rfl rfl (List.mem_singleton.mpr rfl) dX10_compare_150 (fun H locs h_135 eh_135 hW hT hs => ?_)
                replace f_x_14 := (hs.o (gx.S hM) trivial rfl).1.trans f_x_14
                replace f_x_11 := (hs.o (gx.S hM) trivial rfl).1.trans f_x_11
                replace f_x_9 := (hs.o (gx.S hM) trivial rfl).1.trans f_x_9
                replace f_11 := (hs.o (gx.S hM) trivial rfl).1.trans f_11
                replace af_qs : h_135.2.1 qs = sf := (funext fun j => (hs.a (gqs.S hM) rfl j).1).trans af_qs
                replace ex_126 := ex_126.trans (hs.a (gqt.S hM) rfl _).1.symm
                replace hM := hM.tr (hs.mono (by decide))
                have f_136 : h_135.2.1 x 8 = x_134 := by rw [eh_135]; exact hx_pi_at _ _ _ _
                refine lv_iload_n hx hb dX10_compare_153 rfl (lv_at hl 1 rfl) ?_
                refine lv_bipush (v := 60) hx hb dX10_compare_154 (by decide) ?_
                refine hb_icmp_ne (zx := r_19.toInt) (zy := 60) (tgt := 171) hx hb rfl (by decide) dX10_compare_156 (by decide) (fun c_137 => ?_) (fun c_137 => by exfalso; omega)
                refine lv_iload_n hx hb dX10_compare_171 rfl (lv_at hl 1 rfl) ?_
                refine lv_bipush (v := 61) hx hb dX10_compare_172 (by decide) ?_
                refine hb_icmp_ne (zx := r_19.toInt) (zy := 61) (tgt := 181) hx hb rfl (by decide) dX10_compare_174 (by decide) (fun c_138 => ?_) (fun c_138 => by exfalso; omega)
                refine lv_iload_n hx hb dX10_compare_181 rfl (lv_at hl 0 rfl) ?_
                refine hb_if_eq (zx := 1) (tgt := 189) hx hb (by decide) dX10_compare_182 (by decide) (fun c_139 => absurd c_139 (by decide)) (fun c_139 => ?_)
                refine lv_iconst (v := 3) hx hb dX10_compare_185 (by decide) ?_
                refine lv_goto (tgt := 190) hx hb dX10_compare_186 (by decide) ?_
                refine lv_istore (lv' := [(4, .int (3 : Int32)), (3, .int (1 : Int32)), (2, .int r_19), (0, .ref x), (1, .int i1)]) hx hb dX10_compare_190 hl (by decide) rfl (fun ls hl => ?_)
                have zk_3 : (3 : Int32).toInt = 3 := by decide
                exact join192 (3 : Int32) x_134 _ _ L_17 h_135 (by decide) (by decide) (by omega) (by omega) (by have hsq : hv_sk tf tp0.toInt.toNat (hv_we tf tp0.toInt.toNat nx0.toInt.toNat) = w_22.toInt.toNat := (by rw [← ha1]; exact ek_23.symm); rw [hsq, show hv_sg tf tp0.toInt.toNat w_22.toInt.toNat = (3, 2) from hv_sg_6 (by have h8 := hv_SE_y (k := 62) hr_21S (by decide) (by decide) (by omega); exact h8) ⟨by omega, (by show (tf x_117.toNatClampNeg).toInt = 61; rw [← ax_126]; omega)⟩ (by omega) (by omega)]; refine ⟨by decide, by decide, ?_⟩; show _ = w_22.toInt.toNat + 2; omega) (by omega) (by omega) ls hW hT hM f_136 f_x_14 f_x_11 f_x_9 f_11 af_qs (lv_sub hl [0, 2, 3, 4] rfl)
          · skip
            refine lv_aload_n hx hb dX10_compare_82 rfl (lv_at hl 1 rfl) ?_
            refine lv_iconst (v := 0) hx hb dX10_compare_83 (by decide) ?_
            refine lv_aload_n hx hb dX10_compare_84 rfl (lv_at hl 1 rfl) ?_
            refine hk_geti hx hb hts hC_10 hown hW (gx.S hM) tt_10 8 (by decide) rfl kw_1151 ⟨rfl, rfl, rfl⟩ fw_22 dX10_compare_85 ?_
            have zc_0 : (0 : Int32).toInt = 0 := by decide
            refine hx_goi (hx_runV (As := [.int (0 : Int32), .int w_22]) (rest := []) ⟨hx, hb, hml, hown, hts⟩ hW (gx.S hM) tt_10 (T := TX10) (N := 98) rfl (t_X10_fails_v l dC dI dA L_17 h_18 H.size x (0 : Int32) w_22 hT (gx.S hM) ft0 f_x_9 (by omega) (by decide) ⟨by omega, by omega⟩) (cwV 2 hts (hx_gV kw_1480 kw_1477 kw_1479 kw_56 kw_103) rfl rfl rfl (by decide +kernel) ⟨Nat.le_of_ble_eq_true rfl, Nat.le_of_ble_eq_true rfl⟩) rfl hl.1 rfl (Nat.le_of_ble_eq_true rfl) dX10_compare_88 ⟨Nat.le_of_ble_eq_true rfl, Nat.le_of_ble_eq_true rfl⟩) hW (fun r_142 L_140 h_141 H locs p_143 hW => ?_)
            obtain ⟨⟨w_145, fw_145, hr_144⟩, hT, hs⟩ := p_143
            replace hT : hx_T T_tb L_140 h_141 := hT
            replace hs : hx_S T_tb [(10, 9)] L_17 h_18 L_140 h_141 := hs
            replace f_x_14 := (hs.o (gx.S hM) trivial rfl).1.trans f_x_14
            replace f_x_11 := (hs.o (gx.S hM) trivial rfl).1.trans f_x_11
            replace f_11 := (hs.o (gx.S hM) trivial rfl).1.trans f_11
            replace fw_22 := (hs.o (gx.S hM) trivial rfl).1.trans fw_22
            replace af_qs : h_141.2.1 qs = sf := (funext fun j => (hs.a (gqs.S hM) rfl j).1).trans af_qs
            replace hM := hM.tr (hs.mono (by decide))
            have fw_145 : h_141.2.1 x 9 = w_145 := fw_145
            have bw_145 := hT.gi (gx.S hM) tt_10 (k := 9) rfl
            rw [fw_145] at bw_145
            have bw_145 : -2147483648 ≤ w_145.toInt ∧ w_145.toInt ≤ 2147483647 := bw_145
            exact hx_retz hx hb hr (hx_nar01 (by omega)) hlk hW ⟨⟨x_9, w_22, st0, w_145, sf, f_11, fw_22, f_x_14, fw_145, af_qs, ⟨by omega, by omega, (fun z9 => by exfalso; omega), (hv_K_f (x := 1 + 8 * w_22.toInt.toNat) (by omega) (by omega) (by omega) (((hv_term_3 (by omega) (by omega) (by rw [← ha1, ← ek_23, hv_sg_0 (fun z9 => hv_SE_n (k := 60) hr_21S (by omega) ⟨z9.1, z9.2, by decide⟩) (fun z9 => hv_SE_n (k := 62) hr_21S (by omega) ⟨z9.1, z9.2, by decide⟩) (fun z9 => hv_SE_n (k := 61) hr_21S (by omega) ⟨z9.1, z9.2, by decide⟩) (by omega)])).trans (by rw [← ha1, ← ek_23])))), (fun z9 => by exfalso; omega)⟩⟩, hT, hM⟩ dX10_compare_91
    · skip
      refine lv_aload_n hx hb dX10_compare_26 rfl (lv_at hl 0 rfl) ?_
      refine lv_iconst (v := 4) hx hb dX10_compare_27 (by decide) ?_
      refine lv_aload_n hx hb dX10_compare_28 rfl (lv_at hl 0 rfl) ?_
      refine hk_geti hx hb hts hC_10 hown hW (gx.S hM) tt_10 8 (by decide) rfl kw_1151 ⟨rfl, rfl, rfl⟩ f_x_8 dX10_compare_29 ?_
      have zc_4 : (4 : Int32).toInt = 4 := by decide
      refine hx_goi (hx_runV (As := [.int (4 : Int32), .int nx0]) (rest := []) ⟨hx, hb, hml, hown, hts⟩ hW (gx.S hM) tt_10 (T := TX10) (N := 98) rfl (t_X10_fails_v l dC dI dA L_1 h_2 H.size x (4 : Int32) nx0 hT (gx.S hM) ft0 f_x_9 (by omega) (by decide) ⟨by omega, by omega⟩) (cwV 2 hts (hx_gV kw_1480 kw_1477 kw_1479 kw_56 kw_103) rfl rfl rfl (by decide +kernel) ⟨Nat.le_of_ble_eq_true rfl, Nat.le_of_ble_eq_true rfl⟩) rfl hl.1 rfl (Nat.le_of_ble_eq_true rfl) dX10_compare_32 ⟨Nat.le_of_ble_eq_true rfl, Nat.le_of_ble_eq_true rfl⟩) hW (fun r_148 L_146 h_147 H locs p_149 hW => ?_)
      obtain ⟨⟨w_151, fw_151, hr_150⟩, hT, hs⟩ := p_149
      replace hT : hx_T T_tb L_146 h_147 := hT
      replace hs : hx_S T_tb [(10, 9)] L_1 h_2 L_146 h_147 := hs
      replace f_x_16 := (hs.o (gx.S hM) trivial rfl).1.trans f_x_16
      replace f_x_8 := (hs.o (gx.S hM) trivial rfl).1.trans f_x_8
      replace f_x_14 := (hs.o (gx.S hM) trivial rfl).1.trans f_x_14
      replace f_x_11 := (hs.o (gx.S hM) trivial rfl).1.trans f_x_11
      replace af_qs : h_147.2.1 qs = sf := (funext fun j => (hs.a (gqs.S hM) rfl j).1).trans af_qs
      replace hM := hM.tr (hs.mono (by decide))
      have fw_151 : h_147.2.1 x 9 = w_151 := fw_151
      have bw_151 := hT.gi (gx.S hM) tt_10 (k := 9) rfl
      rw [fw_151] at bw_151
      have bw_151 : -2147483648 ≤ w_151.toInt ∧ w_151.toInt ≤ 2147483647 := bw_151
      exact hx_retz hx hb hr (hx_nar01 (by omega)) hlk hW ⟨⟨cp0, nx0, st0, w_151, sf, f_x_16, f_x_8, f_x_14, fw_151, af_qs, ⟨by omega, by omega, (fun z9 => by exfalso; omega), (hv_K_f (x := 5 + 8 * nx0.toInt.toNat) (by omega) (by omega) (by omega) (hv_term_2 (by omega) (by omega))), (fun z9 => by exfalso; omega)⟩⟩, hT, hM⟩ dX10_compare_35
  · skip
    replace hr_5 := hr_5.resolve_right (fun z9 => absurd (c_6.symm.trans z9.1) (by decide))
    replace hr_5 := hr_5.2
    refine lv_aload_n hx hb dX10_compare_7 rfl (lv_at hl 0 rfl) ?_
    refine lv_iconst (v := 0) hx hb dX10_compare_8 (by decide) ?_
    refine lv_aload_n hx hb dX10_compare_9 rfl (lv_at hl 0 rfl) ?_
    refine hk_geti hx hb hts hC_10 hown hW (gx.S hM) tt_10 8 (by decide) rfl kw_1151 ⟨rfl, rfl, rfl⟩ f_x_8 dX10_compare_10 ?_
    have zc_0 : (0 : Int32).toInt = 0 := by decide
    refine hx_goi (hx_runV (As := [.int (0 : Int32), .int nx0]) (rest := []) ⟨hx, hb, hml, hown, hts⟩ hW (gx.S hM) tt_10 (T := TX10) (N := 98) rfl (t_X10_fails_v l dC dI dA L_1 h_2 H.size x (0 : Int32) nx0 hT (gx.S hM) ft0 f_x_9 (by omega) (by decide) ⟨by omega, by omega⟩) (cwV 2 hts (hx_gV kw_1480 kw_1477 kw_1479 kw_56 kw_103) rfl rfl rfl (by decide +kernel) ⟨Nat.le_of_ble_eq_true rfl, Nat.le_of_ble_eq_true rfl⟩) rfl hl.1 rfl (Nat.le_of_ble_eq_true rfl) dX10_compare_13 ⟨Nat.le_of_ble_eq_true rfl, Nat.le_of_ble_eq_true rfl⟩) hW (fun r_154 L_152 h_153 H locs p_155 hW => ?_)
    obtain ⟨⟨w_157, fw_157, hr_156⟩, hT, hs⟩ := p_155
    replace hT : hx_T T_tb L_152 h_153 := hT
    replace hs : hx_S T_tb [(10, 9)] L_1 h_2 L_152 h_153 := hs
    replace f_x_16 := (hs.o (gx.S hM) trivial rfl).1.trans f_x_16
    replace f_x_8 := (hs.o (gx.S hM) trivial rfl).1.trans f_x_8
    replace f_x_14 := (hs.o (gx.S hM) trivial rfl).1.trans f_x_14
    replace f_x_11 := (hs.o (gx.S hM) trivial rfl).1.trans f_x_11
    replace af_qs : h_153.2.1 qs = sf := (funext fun j => (hs.a (gqs.S hM) rfl j).1).trans af_qs
    replace hM := hM.tr (hs.mono (by decide))
    have fw_157 : h_153.2.1 x 9 = w_157 := fw_157
    have bw_157 := hT.gi (gx.S hM) tt_10 (k := 9) rfl
    rw [fw_157] at bw_157
    have bw_157 : -2147483648 ≤ w_157.toInt ∧ w_157.toInt ≤ 2147483647 := bw_157
    exact hx_retz hx hb hr (hx_nar01 (by omega)) hlk hW ⟨⟨cp0, nx0, st0, w_157, sf, f_x_16, f_x_8, f_x_14, fw_157, af_qs, ⟨by omega, by omega, (fun z9 => by exfalso; omega), (hv_K_f (x := 1 + 8 * nx0.toInt.toNat) (by omega) (by omega) (by omega) (hv_term_1 (by omega))), (fun z9 => by exfalso; omega)⟩⟩, hT, hM⟩ dX10_compare_16


set_option maxHeartbeats 4000000 in
set_option maxRecDepth 100000 in
theorem t_X10_begins_v (l : Launch) (dC : Nat → ClassId) (dI : Nat → Nat → Nat) (dA : Nat → ClassId) (L : List Nat) (h : hx_h) (sz : Nat) (x : Nat) (hT : hx_T T_tb L h) (gx : hx_g L h x 10) (qs : Nat) (gqs : hx_g L h qs 55) (f_x_15 : h.2.2 x 15 = some qs) (qo : Nat) (gqo : hx_g L h qo 56) (f_x_17 : h.2.2 x 17 = some qo) (qt : Nat) (gqt : hx_g L h qt 53) (f_x_6 : h.2.2 x 6 = some qt) (qw : Nat) (gqw : hx_g L h qw 57) (f_x_19 : h.2.2 x 19 = some qw) (sf : Nat → Int32) (af_qs : h.2.1 qs = sf) (of : Nat → Int32) (af_qo : h.2.1 qo = of) (tf : Nat → Int32) (af_qt : h.2.1 qt = tf) (wf : Nat → Int32) (af_qw : h.2.1 qw = wf) (cp0 : Int32) (f_x_16 : h.2.1 x 16 = cp0) (nx0 : Int32) (f_x_8 : h.2.1 x 8 = nx0) (st0 : Int32) (f_x_14 : h.2.1 x 14 = st0) (op0 : Int32) (f_x_18 : h.2.1 x 18 = op0) (tp0 : Int32) (f_x_7 : h.2.1 x 7 = tp0) (ft0 : Int32) (f_x_9 : h.2.1 x 9 = ft0) (hQ : hx_QQ 0 cp0.toInt nx0.toInt st0.toInt op0.toInt sf of) (hwd : hx_wd wf) (o : List hv_tok) (hO : hv_ls sf st0.toInt.toNat = o.map hv_rc) (hF : ft0.toInt = 0) (hA : nx0.toInt ≤ tp0.toInt) : Met l yX10_begins (Cond.code yX10_begins cX10_begins 3 (some .boolean) :: hx_all) ({ frames := 3, cells := 0, slots := 0, locals := 73 }) (va_Pc [.ref x] (hx_B T_tb (P_ty dA) (dC, dI) vwCl L h sz)) (va_Qi (fun (r : Int32) (u : List Nat × hx_h) => (∃ (cp1 : Int32) (nx1 : Int32) (st1 : Int32) (op1 : Int32) (ft1 : Int32) (sf1 : Nat → Int32) (of1 : Nat → Int32), u.2.2.1 x 16 = cp1 ∧ u.2.2.1 x 8 = nx1 ∧ u.2.2.1 x 14 = st1 ∧ u.2.2.1 x 18 = op1 ∧ u.2.2.1 x 9 = ft1 ∧ u.2.2.1 qs = sf1 ∧ u.2.2.1 qo = of1 ∧ ((r.toInt = 0 ∨ r.toInt = 1) ∧ nx0.toInt ≤ nx1.toInt ∧ (r.toInt = 1 → hx_QQ 1 cp1.toInt nx1.toInt st1.toInt op1.toInt sf1 of1) ∧ hv_BG (hv_RN tf tp0.toInt.toNat true nx0.toInt.toNat cp0.toInt.toNat o (hv_ls of op0.toInt.toNat)) tf tp0.toInt.toNat r.toInt ft1.toInt nx1.toInt cp1.toInt (hv_ls sf1 st1.toInt.toNat) (hv_ls of1 op1.toInt.toNat) ∧ (r.toInt = 1 → nx0.toInt < nx1.toInt ∧ nx1.toInt ≤ tp0.toInt))) ∧ hx_T T_tb u.1 u.2 ∧ hx_S T_tb [(10, 8), (10, 9), (10, 10), (10, 11), (10, 14), (10, 16), (10, 18), (55, 0), (56, 0)] L h u.1 u.2) (hx_E T_tb (P_ty dA) (dC, dI) vwCl (hx_A L sz)) (hx_A L sz)) 0 0 (hx_A L sz) := by
  refine hx_met (lv := [(0, .ref x)]) (by decide +kernel) rfl (Nat.le_of_ble_eq_true rfl) rfl ?_
  intro p e s m below meth c hx hb hml hr hlk hts0 hown hin hsz hW ls hl
  have hts : ∀ w ∈ hx_all, w.before _ s = true := fun w hw => hts0 w (List.mem_cons_of_mem _ hw)
  have hown : s.vm.findClass "SmallCourtModel" = some m.cls := hown
  have hM : hx_S T_tb [(10, 8), (10, 9), (10, 10), (10, 11), (10, 14), (10, 16), (10, 18), (55, 0), (56, 0)] L h L h := hx_S.rf
  have b_cp0 := hT.gi gx tt_10 (k := 16) rfl
  rw [f_x_16] at b_cp0
  have b_cp0 : 0 ≤ cp0.toInt ∧ cp0.toInt ≤ 20 := b_cp0
  have b_nx0 := hT.gi gx tt_10 (k := 8) rfl
  rw [f_x_8] at b_nx0
  have b_nx0 : 0 ≤ nx0.toInt ∧ nx0.toInt ≤ 402 := b_nx0
  have b_st0 := hT.gi gx tt_10 (k := 14) rfl
  rw [f_x_14] at b_st0
  have b_st0 : 0 ≤ st0.toInt ∧ st0.toInt ≤ 128 := b_st0
  have b_op0 := hT.gi gx tt_10 (k := 18) rfl
  rw [f_x_18] at b_op0
  have b_op0 : 0 ≤ op0.toInt ∧ op0.toInt ≤ 128 := b_op0
  have b_tp0 := hT.gi gx tt_10 (k := 7) rfl
  rw [f_x_7] at b_tp0
  have b_tp0 : 0 ≤ tp0.toInt ∧ tp0.toInt ≤ 400 := b_tp0
  have b_ft0 := hT.gi gx tt_10 (k := 9) rfl
  rw [f_x_9] at b_ft0
  have b_ft0 : -2147483648 ≤ ft0.toInt ∧ ft0.toInt ≤ 2147483647 := b_ft0
  have loop0 : ∀ (n0 : Nat) (fw0_x_18 fw0_x_8 : Int32) (ia0_qo : Nat → Int32) (H : Heap) (locs : List Loc) (hL1 : List Nat) (hl1 : hx_h), 0 ≤ fw0_x_18.toInt → fw0_x_18.toInt ≤ 128 → 0 ≤ fw0_x_8.toInt → fw0_x_8.toInt ≤ 402 → (nx0.toInt ≤ fw0_x_8.toInt) → (hx_QQ 0 cp0.toInt fw0_x_8.toInt st0.toInt fw0_x_18.toInt sf ia0_qo) → (hv_RN tf tp0.toInt.toNat true nx0.toInt.toNat cp0.toInt.toNat o (hv_ls of op0.toInt.toNat) = hv_RN tf tp0.toInt.toNat true (fw0_x_8.toInt).toNat cp0.toInt.toNat o (hv_ls ia0_qo (fw0_x_18.toInt).toNat)) → (fw0_x_8.toInt ≤ tp0.toInt) → ∀ (ls : Array Slot), 402 - fw0_x_8.toInt < (n0 : Int) → hx_W T_tb (P_ty dA) (dC, dI) vwCl (hx_A L sz) s.heap hL1 hl1 s H locs → hx_T T_tb hL1 hl1 → hx_S T_tb [(10, 8), (10, 9), (10, 10), (10, 11), (10, 14), (10, 16), (10, 18), (55, 0), (56, 0)] L h hL1 hl1 → hl1.2.1 x 18 = fw0_x_18 → hl1.2.1 x 8 = fw0_x_8 → hl1.2.1 x 16 = cp0 → hl1.2.1 x 14 = st0 → hl1.2.1 x 9 = ft0 → hl1.2.1 qo = ia0_qo → hl1.2.1 qs = sf → lv_has ls 3 [(0, .ref x)] → W p l e ({ frames := 3, cells := 0, slots := 0, locals := 73 }) s m ([.ref x] : List Value).toArray below meth c H locs 0 0 (MQ below (va_Qi (fun (r : Int32) (u : List Nat × hx_h) => (∃ (cp1 : Int32) (nx1 : Int32) (st1 : Int32) (op1 : Int32) (ft1 : Int32) (sf1 : Nat → Int32) (of1 : Nat → Int32), u.2.2.1 x 16 = cp1 ∧ u.2.2.1 x 8 = nx1 ∧ u.2.2.1 x 14 = st1 ∧ u.2.2.1 x 18 = op1 ∧ u.2.2.1 x 9 = ft1 ∧ u.2.2.1 qs = sf1 ∧ u.2.2.1 qo = of1 ∧ ((r.toInt = 0 ∨ r.toInt = 1) ∧ nx0.toInt ≤ nx1.toInt ∧ (r.toInt = 1 → hx_QQ 1 cp1.toInt nx1.toInt st1.toInt op1.toInt sf1 of1) ∧ hv_BG (hv_RN tf tp0.toInt.toNat true nx0.toInt.toNat cp0.toInt.toNat o (hv_ls of op0.toInt.toNat)) tf tp0.toInt.toNat r.toInt ft1.toInt nx1.toInt cp1.toInt (hv_ls sf1 st1.toInt.toNat) (hv_ls of1 op1.toInt.toNat) ∧ (r.toInt = 1 → nx0.toInt < nx1.toInt ∧ nx1.toInt ≤ tp0.toInt))) ∧ hx_T T_tb u.1 u.2 ∧ hx_S T_tb [(10, 8), (10, 9), (10, 10), (10, 11), (10, 14), (10, 16), (10, 18), (55, 0), (56, 0)] L h u.1 u.2) (hx_E T_tb (P_ty dA) (dC, dI) vwCl (hx_A L sz)) (hx_A L sz)) ([.ref x] : List Value).toArray s 0 0 (hx_A L sz)) (F0 m 0 ls []) := by
    intro n0
    induction n0 with
    | zero => intro fw0_x_18 fw0_x_8 ia0_qo H locs hL1 hl1 blfw0_x_18 bufw0_x_18 blfw0_x_8 bufw0_x_8 vi0_0 vi0_1 vi0_2 vi0_3 ls hn0; exfalso; omega
    | succ n0 ih0 =>
      intro fw0_x_18 fw0_x_8 ia0_qo H locs hL1 hl1 blfw0_x_18 bufw0_x_18 blfw0_x_8 bufw0_x_8 vi0_0 vi0_1 vi0_2 vi0_3 ls hn0 hW hT hM ffw0_x_18 ffw0_x_8 f_x_16 f_x_14 f_x_9 nia0_qo af_qs hl
      have hqb := hx_QQ_b vi0_1
      refine lv_aload_n hx hb dX10_begins_0 rfl (lv_at hl 0 rfl) ?_
      refine hx_goi (hx_runV (As := []) (rest := []) ⟨hx, hb, hml, hown, hts⟩ hW (gx.S hM) tt_10 (T := TX10) (N := 98) rfl (t_X10_see_v l dC dI dA hL1 hl1 H.size x hT (gx.S hM) qt (gqt.S hM) ((hM.o gx trivial rfl).2.trans f_x_6) tf (hx_afS hM gqt rfl af_qt) fw0_x_8 ffw0_x_8 tp0 ((hM.o gx trivial rfl).1.trans f_x_7) (by omega)) (cwV 0 hts (hx_gV kw_1468 kw_1465 kw_1467 kw_53 kw_103) rfl rfl rfl (by decide +kernel) ⟨Nat.le_of_ble_eq_true rfl, Nat.le_of_ble_eq_true rfl⟩) rfl hl.1 rfl (Nat.le_of_ble_eq_true rfl) dX10_begins_1 ⟨Nat.le_of_ble_eq_true rfl, Nat.le_of_ble_eq_true rfl⟩) hW (fun r_3 L_1 h_2 H locs p_4 hW => ?_)
      obtain ⟨⟨w_6, fw_6, hr_5⟩, hT, hs⟩ := p_4
      replace hT : hx_T T_tb L_1 h_2 := hT
      replace hs : hx_S T_tb [(10, 8)] hL1 hl1 L_1 h_2 := hs
      replace f_x_16 := (hs.o (gx.S hM) trivial rfl).1.trans f_x_16
      replace f_x_14 := (hs.o (gx.S hM) trivial rfl).1.trans f_x_14
      replace f_x_9 := (hs.o (gx.S hM) trivial rfl).1.trans f_x_9
      replace ffw0_x_18 := (hs.o (gx.S hM) trivial rfl).1.trans ffw0_x_18
      replace af_qs : h_2.2.1 qs = sf := (funext fun j => (hs.a (gqs.S hM) rfl j).1).trans af_qs
      replace nia0_qo : h_2.2.1 qo = ia0_qo := (funext fun j => (hs.a (gqo.S hM) rfl j).1).trans nia0_qo
      replace hM := hM.tr (hs.mono (by decide))
      have fw_6 : h_2.2.1 x 8 = w_6 := fw_6
      have bw_6 := hT.gi (gx.S hM) tt_10 (k := 8) rfl
      rw [fw_6] at bw_6
      have bw_6 : 0 ≤ w_6.toInt ∧ w_6.toInt ≤ 402 := bw_6
      have ek_7 : w_6.toInt.toNat = hv_sk tf tp0.toInt.toNat fw0_x_8.toInt.toNat := by omega
      have hr_5S := hr_5.2.2.2.1
      refine lv_istore_n (lv' := [(1, .int r_3), (0, .ref x)]) hx hb dX10_begins_4 rfl hl (by decide) rfl (fun ls hl => ?_)
      refine lv_aload_n hx hb dX10_begins_5 rfl (lv_at hl 1 rfl) ?_
      refine hx_goi (hx_runV (As := []) (rest := []) ⟨hx, hb, hml, hown, hts⟩ hW (gx.S hM) tt_10 (T := TX10) (N := 98) rfl (t_X10_wordHere_v l dC dI dA L_1 h_2 H.size x hT (gx.S hM) qt (gqt.S hM) ((hM.o gx trivial rfl).2.trans f_x_6) qw (gqw.S hM) ((hM.o gx trivial rfl).2.trans f_x_19) tf (hx_afS hM gqt rfl af_qt) wf (hx_afS hM gqw rfl af_qw) w_6 fw_6 tp0 ((hM.o gx trivial rfl).1.trans f_x_7) hwd (by omega)) (cwV 0 hts (hx_gV kw_1476 kw_1473 kw_1475 kw_55 kw_103) rfl rfl rfl (by decide +kernel) ⟨Nat.le_of_ble_eq_true rfl, Nat.le_of_ble_eq_true rfl⟩) rfl hl.1 rfl (Nat.le_of_ble_eq_true rfl) dX10_begins_6 ⟨Nat.le_of_ble_eq_true rfl, Nat.le_of_ble_eq_true rfl⟩) hW (fun r_10 L_8 h_9 H locs p_11 hW => ?_)
      obtain ⟨⟨w_13, w_14, fw_13, fw_14, hr_12⟩, hT, hs⟩ := p_11
      replace hT : hx_T T_tb L_8 h_9 := hT
      replace hs : hx_S T_tb [(10, 8), (10, 11)] L_1 h_2 L_8 h_9 := hs
      replace f_x_16 := (hs.o (gx.S hM) trivial rfl).1.trans f_x_16
      replace f_x_14 := (hs.o (gx.S hM) trivial rfl).1.trans f_x_14
      replace f_x_9 := (hs.o (gx.S hM) trivial rfl).1.trans f_x_9
      replace ffw0_x_18 := (hs.o (gx.S hM) trivial rfl).1.trans ffw0_x_18
      replace af_qs : h_9.2.1 qs = sf := (funext fun j => (hs.a (gqs.S hM) rfl j).1).trans af_qs
      replace nia0_qo : h_9.2.1 qo = ia0_qo := (funext fun j => (hs.a (gqo.S hM) rfl j).1).trans nia0_qo
      replace hM := hM.tr (hs.mono (by decide))
      have fw_13 : h_9.2.1 x 8 = w_13 := fw_13
      have bw_13 := hT.gi (gx.S hM) tt_10 (k := 8) rfl
      rw [fw_13] at bw_13
      have bw_13 : 0 ≤ w_13.toInt ∧ w_13.toInt ≤ 402 := bw_13
      have fw_14 : h_9.2.1 x 11 = w_14 := fw_14
      have bw_14 := hT.gi (gx.S hM) tt_10 (k := 11) rfl
      rw [fw_14] at bw_14
      have bw_14 : 0 ≤ w_14.toInt ∧ w_14.toInt ≤ 400 := bw_14
      have ek_15 : w_13.toInt.toNat = hv_sk tf tp0.toInt.toNat w_6.toInt.toNat := by omega
      have hr_12W : r_10.toInt = hv_wd tf tp0.toInt.toNat w_13.toInt.toNat := by rw [ek_15]; exact hr_12.2.2.2.2.1
      have hr_12E : ((hv_we tf tp0.toInt.toNat w_13.toInt.toNat : Nat) : Int) = w_13.toInt + w_14.toInt := by rw [ek_15]; exact hr_12.2.2.2.1.symm
      refine lv_istore_n (lv' := [(2, .int r_10), (1, .int r_3), (0, .ref x)]) hx hb dX10_begins_9 rfl hl (by decide) rfl (fun ls hl => ?_)
      have e12 : w_13.toInt.toNat = w_6.toInt.toNat := by rw [ek_15, ek_7]; exact hv_sk_id
      have eks : w_13.toInt.toNat = hv_sk tf tp0.toInt.toNat fw0_x_8.toInt.toNat := by rw [e12, ek_7]
      refine lv_iload_n hx hb dX10_begins_10 rfl (lv_at hl 1 rfl) ?_
      refine lv_bipush (v := 40) hx hb dX10_begins_11 (by decide) ?_
      refine hb_icmp_eq (zx := r_3.toInt) (zy := 40) (tgt := 27) hx hb rfl (by decide) dX10_begins_13 (by decide) (fun c_16 => ?_) (fun c_16 => ?_)
      · skip
        have h40 : w_13.toInt.toNat < tp0.toInt.toNat ∧ (tf w_13.toInt.toNat).toInt = 40 := by rw [e12]; have h8 := hv_SE_y (k := 40) hr_5S (by decide) (by decide) (by omega); exact ⟨by omega, h8.2⟩
        have hn2 : hv_wd tf tp0.toInt.toNat w_13.toInt.toNat ≠ 2 := by rw [hv_wd_40 h40.2]; decide
        refine lv_aload_n hx hb dX10_begins_27 rfl (lv_at hl 2 rfl) ?_
        refine hx_goi (hx_runV (As := []) (rest := []) ⟨hx, hb, hml, hown, hts⟩ hW (gx.S hM) tt_10 (T := TX10) (N := 98) rfl (t_X10_deep_2 l dC dI dA L_8 h_9 H.size x hT (gx.S hM) qo (gqo.S hM) ((hM.o gx trivial rfl).2.trans f_x_17) ia0_qo nia0_qo fw0_x_18 ffw0_x_18) (cwV 0 hts (hx_gV kw_1507 kw_1504 kw_1506 kw_62 kw_103) rfl rfl rfl (by decide +kernel) ⟨Nat.le_of_ble_eq_true rfl, Nat.le_of_ble_eq_true rfl⟩) rfl hl.1 rfl (Nat.le_of_ble_eq_true rfl) dX10_begins_28 ⟨Nat.le_of_ble_eq_true rfl, Nat.le_of_ble_eq_true rfl⟩) hW (fun r_19 L_17 h_18 H locs p_20 hW => ?_)
        obtain ⟨hr_21, hT, hs⟩ := p_20
        replace hT : hx_T T_tb L_17 h_18 := hT
        replace hs : hx_S T_tb [] L_8 h_9 L_17 h_18 := hs
        replace f_x_16 := (hs.o (gx.S hM) trivial rfl).1.trans f_x_16
        replace f_x_14 := (hs.o (gx.S hM) trivial rfl).1.trans f_x_14
        replace f_x_9 := (hs.o (gx.S hM) trivial rfl).1.trans f_x_9
        replace ffw0_x_18 := (hs.o (gx.S hM) trivial rfl).1.trans ffw0_x_18
        replace fw_13 := (hs.o (gx.S hM) trivial rfl).1.trans fw_13
        replace fw_14 := (hs.o (gx.S hM) trivial rfl).1.trans fw_14
        replace af_qs : h_18.2.1 qs = sf := (funext fun j => (hs.a (gqs.S hM) rfl j).1).trans af_qs
        replace nia0_qo : h_18.2.1 qo = ia0_qo := (funext fun j => (hs.a (gqo.S hM) rfl j).1).trans nia0_qo
        replace hM := hM.tr (hs.mono (by decide))
        refine lv_bipush (v := 8) hx hb dX10_begins_31 (by decide) ?_
        refine hb_icmp_ne (zx := r_19.toInt) (zy := 8) (tgt := 46) hx hb rfl (by decide) dX10_begins_33 (by decide) (fun c_22 => ?_) (fun c_22 => ?_)
        · skip
          have hdp : hv_dp (hv_ls ia0_qo fw0_x_18.toInt.toNat) ≠ 8 := by rw [hv_dp_ls]; omega
          refine lv_aload_n hx hb dX10_begins_46 rfl (lv_at hl 2 rfl) ?_
          refine hk_getr hx hb hts hC_10 hown hW (gx.S hM) tt_10 17 (by decide) rfl kw_1160 ⟨rfl, rfl, rfl⟩ ((hM.o gx trivial rfl).2.trans f_x_17) dX10_begins_47 ?_
          refine lv_aload_n hx hb dX10_begins_50 rfl (lv_at hl 2 rfl) ?_
          refine hk_geti hx hb hts hC_10 hown hW (gx.S hM) tt_10 18 (by decide) rfl kw_1161 ⟨rfl, rfl, rfl⟩ ffw0_x_18 dX10_begins_51 ?_
          refine lv_iload_n hx hb dX10_begins_54 rfl (lv_at hl 1 rfl) ?_
          refine lv_bipush (v := 40) hx hb dX10_begins_55 (by decide) ?_
          refine hb_icmp_ne (zx := r_3.toInt) (zy := 40) (tgt := 65) hx hb rfl (by decide) dX10_begins_57 (by decide) (fun c_23 => by exfalso; omega) (fun c_23 => ?_)
          refine lv_bipush (v := 100) hx hb dX10_begins_60 (by decide) ?_
          refine lv_goto (tgt := 66) hx hb dX10_begins_62 (by decide) ?_
          have nia0_qoO := nia0_qo
          refine hx_iast hx hb hW hT (hx_S.rf (M := [(56, 0)])) (gqo.S hM) tt_56 rfl ⟨by omega, by omega⟩ rfl (by decide) (List.mem_singleton.mpr rfl) dX10_begins_66 (fun H locs h_24 eh_24 hW hT hs => ?_)
          replace f_x_16 := (hs.o (gx.S hM) trivial rfl).1.trans f_x_16
          replace f_x_14 := (hs.o (gx.S hM) trivial rfl).1.trans f_x_14
          replace f_x_9 := (hs.o (gx.S hM) trivial rfl).1.trans f_x_9
          replace ffw0_x_18 := (hs.o (gx.S hM) trivial rfl).1.trans ffw0_x_18
          replace fw_13 := (hs.o (gx.S hM) trivial rfl).1.trans fw_13
          replace fw_14 := (hs.o (gx.S hM) trivial rfl).1.trans fw_14
          replace af_qs : h_24.2.1 qs = sf := (funext fun j => (hs.a (gqs.S hM) rfl j).1).trans af_qs
          replace hM := hM.tr (hs.mono (by decide))
          obtain ⟨fa_25, dfa_25⟩ : ∃ g : Nat → Int32, g = hx_up ia0_qo fw0_x_18.toNatClampNeg (100 : Int32) := ⟨_, rfl⟩
          have nfa_25 : h_24.2.1 qo = fa_25 := by rw [eh_24, dfa_25, ← nia0_qoO]; exact hx_pi_fun _ _ _ _
          refine lv_aload_n hx hb dX10_begins_67 rfl (lv_at hl 2 rfl) ?_
          refine lv_dup hx hb dX10_begins_68 rfl ?_
          refine hk_geti hx hb hts hC_10 hown hW (gx.S hM) tt_10 18 (by decide) rfl kw_1161 ⟨rfl, rfl, rfl⟩ ffw0_x_18 dX10_begins_69 ?_
          refine lv_iconst (v := 1) hx hb dX10_begins_72 (by decide) ?_
          refine lv_iadd hx hb dX10_begins_73 ?_
          have rg_26 := i32_r fw0_x_18
          refine lv_topi (fun x_27 ex_27 => ?_)
          have zx_27 : x_27.toInt = fw0_x_18.toInt + 1 := by rw [ex_27]; exact i32_add rfl (by decide) (by omega) (by omega)
          refine hx_puti hx hb hts hC_10 hown hW hT (hx_S.rf (M := [(10, 18)])) (gx.S hM) tt_10 18 (by decide) rfl kw_1161 ⟨rfl, rfl, rfl⟩ rfl (x := x_27) ⟨by omega, by omega⟩ rfl rfl rfl (List.mem_singleton.mpr rfl) dX10_begins_74 (fun H locs h_28 eh_28 hW hT hs => ?_)
          replace f_x_16 := (hs.o (gx.S hM) trivial rfl).1.trans f_x_16
          replace f_x_14 := (hs.o (gx.S hM) trivial rfl).1.trans f_x_14
          replace f_x_9 := (hs.o (gx.S hM) trivial rfl).1.trans f_x_9
          replace fw_13 := (hs.o (gx.S hM) trivial rfl).1.trans fw_13
          replace fw_14 := (hs.o (gx.S hM) trivial rfl).1.trans fw_14
          replace af_qs : h_28.2.1 qs = sf := (funext fun j => (hs.a (gqs.S hM) rfl j).1).trans af_qs
          replace nfa_25 : h_28.2.1 qo = fa_25 := (funext fun j => (hs.a (gqo.S hM) rfl j).1).trans nfa_25
          replace hM := hM.tr (hs.mono (by decide))
          have f_29 : h_28.2.1 x 18 = x_27 := by rw [eh_28]; exact hx_pi_at _ _ _ _
          refine lv_aload_n hx hb dX10_begins_77 rfl (lv_at hl 2 rfl) ?_
          refine lv_dup hx hb dX10_begins_78 rfl ?_
          refine hk_geti hx hb hts hC_10 hown hW (gx.S hM) tt_10 8 (by decide) rfl kw_1151 ⟨rfl, rfl, rfl⟩ fw_13 dX10_begins_79 ?_
          refine lv_iload_n hx hb dX10_begins_82 rfl (lv_at hl 1 rfl) ?_
          refine lv_bipush (v := 40) hx hb dX10_begins_83 (by decide) ?_
          refine hb_icmp_ne (zx := r_3.toInt) (zy := 40) (tgt := 92) hx hb rfl (by decide) dX10_begins_85 (by decide) (fun c_30 => by exfalso; omega) (fun c_30 => ?_)
          refine lv_iconst (v := 1) hx hb dX10_begins_88 (by decide) ?_
          refine lv_goto (tgt := 93) hx hb dX10_begins_89 (by decide) ?_
          refine lv_iadd hx hb dX10_begins_93 ?_
          have rg_31 := i32_r w_13
          refine lv_topi (fun x_32 ex_32 => ?_)
          have zx_32 : x_32.toInt = w_13.toInt + 1 := by rw [ex_32]; exact i32_add rfl (by decide) (by omega) (by omega)
          refine hx_puti hx hb hts hC_10 hown hW hT (hx_S.rf (M := [(10, 8)])) (gx.S hM) tt_10 8 (by decide) rfl kw_1151 ⟨rfl, rfl, rfl⟩ rfl (x := x_32) ⟨by omega, by omega⟩ rfl rfl rfl (List.mem_singleton.mpr rfl) dX10_begins_94 (fun H locs h_33 eh_33 hW hT hs => ?_)
          replace f_x_16 := (hs.o (gx.S hM) trivial rfl).1.trans f_x_16
          replace f_x_14 := (hs.o (gx.S hM) trivial rfl).1.trans f_x_14
          replace f_x_9 := (hs.o (gx.S hM) trivial rfl).1.trans f_x_9
          replace fw_14 := (hs.o (gx.S hM) trivial rfl).1.trans fw_14
          replace f_29 := (hs.o (gx.S hM) trivial rfl).1.trans f_29
          replace af_qs : h_33.2.1 qs = sf := (funext fun j => (hs.a (gqs.S hM) rfl j).1).trans af_qs
          replace nfa_25 : h_33.2.1 qo = fa_25 := (funext fun j => (hs.a (gqo.S hM) rfl j).1).trans nfa_25
          replace hM := hM.tr (hs.mono (by decide))
          have f_34 : h_33.2.1 x 8 = x_32 := by rw [eh_33]; exact hx_pi_at _ _ _ _
          refine lv_goto (tgt := 0) hx hb dX10_begins_97 (by decide) ?_
          exact ih0 x_27 x_32 fa_25 _ _ L_17 h_33 (by omega) (by omega) (by omega) (by omega) (by omega) (hx_QQ_open vi0_1 (by have q := hx_QQ_dp vi0_1; omega) (by have z1 : (100 : Int32).toInt = 100 := (by decide); have z2 : (2 : Int32).toInt = 2 := (by decide); omega) (hx_cl (by omega)) (by omega) dfa_25) (vi0_2.trans ((hv_RN_p (by rw [← eks]; exact hn2) (by rw [← eks]; exact h40) hdp).trans (by rw [← eks, show w_13.toInt.toNat + 1 = x_32.toInt.toNat by omega, hv_ls_p (n := fw0_x_18.toInt.toNat) (z := 100) rfl (by omega) (by first | decide | omega) dfa_25]))) (by omega) ls (by omega) hW hT hM f_29 f_34 f_x_16 f_x_14 f_x_9 nfa_25 af_qs (lv_sub hl [2] rfl)
        · skip
          refine lv_aload_n hx hb dX10_begins_36 rfl (lv_at hl 2 rfl) ?_
          refine lv_iconst (v := 3) hx hb dX10_begins_37 (by decide) ?_
          refine lv_aload_n hx hb dX10_begins_38 rfl (lv_at hl 2 rfl) ?_
          refine hk_geti hx hb hts hC_10 hown hW (gx.S hM) tt_10 8 (by decide) rfl kw_1151 ⟨rfl, rfl, rfl⟩ fw_13 dX10_begins_39 ?_
          have zc_3 : (3 : Int32).toInt = 3 := by decide
          refine hx_goi (hx_runV (As := [.int (3 : Int32), .int w_13]) (rest := []) ⟨hx, hb, hml, hown, hts⟩ hW (gx.S hM) tt_10 (T := TX10) (N := 98) rfl (t_X10_fails_v l dC dI dA L_17 h_18 H.size x (3 : Int32) w_13 hT (gx.S hM) ft0 f_x_9 (by omega) (by decide) ⟨by omega, by omega⟩) (cwV 2 hts (hx_gV kw_1480 kw_1477 kw_1479 kw_56 kw_103) rfl rfl rfl (by decide +kernel) ⟨Nat.le_of_ble_eq_true rfl, Nat.le_of_ble_eq_true rfl⟩) rfl hl.1 rfl (Nat.le_of_ble_eq_true rfl) dX10_begins_42 ⟨Nat.le_of_ble_eq_true rfl, Nat.le_of_ble_eq_true rfl⟩) hW (fun r_37 L_35 h_36 H locs p_38 hW => ?_)
          obtain ⟨⟨w_40, fw_40, hr_39⟩, hT, hs⟩ := p_38
          replace hT : hx_T T_tb L_35 h_36 := hT
          replace hs : hx_S T_tb [(10, 9)] L_17 h_18 L_35 h_36 := hs
          replace f_x_16 := (hs.o (gx.S hM) trivial rfl).1.trans f_x_16
          replace f_x_14 := (hs.o (gx.S hM) trivial rfl).1.trans f_x_14
          replace ffw0_x_18 := (hs.o (gx.S hM) trivial rfl).1.trans ffw0_x_18
          replace fw_13 := (hs.o (gx.S hM) trivial rfl).1.trans fw_13
          replace fw_14 := (hs.o (gx.S hM) trivial rfl).1.trans fw_14
          replace af_qs : h_36.2.1 qs = sf := (funext fun j => (hs.a (gqs.S hM) rfl j).1).trans af_qs
          replace nia0_qo : h_36.2.1 qo = ia0_qo := (funext fun j => (hs.a (gqo.S hM) rfl j).1).trans nia0_qo
          replace hM := hM.tr (hs.mono (by decide))
          have fw_40 : h_36.2.1 x 9 = w_40 := fw_40
          have bw_40 := hT.gi (gx.S hM) tt_10 (k := 9) rfl
          rw [fw_40] at bw_40
          have bw_40 : -2147483648 ≤ w_40.toInt ∧ w_40.toInt ≤ 2147483647 := bw_40
          exact hx_retz hx hb hr (hx_nar01 (by omega)) hlk hW ⟨⟨cp0, w_13, st0, fw0_x_18, w_40, sf, ia0_qo, f_x_16, fw_13, f_x_14, ffw0_x_18, fw_40, af_qs, nia0_qo, ⟨by omega, by omega, (fun z => by exfalso; omega), (hv_BG_f (x := 4 + 8 * w_13.toInt.toNat) (by omega) (by omega) (by omega) (vi0_2.trans ((hv_RN_d (Or.inr (by rw [← eks]; exact h40)) (by rw [hv_dp_ls]; omega)).trans (by rw [← eks])))), (fun z9 => by exfalso; omega)⟩⟩, hT, hM⟩ dX10_begins_45
      · skip
        refine lv_iload_n hx hb dX10_begins_16 rfl (lv_at hl 0 rfl) ?_
        refine lv_iconst (v := 2) hx hb dX10_begins_17 (by decide) ?_
        refine hb_icmp_eq (zx := r_10.toInt) (zy := 2) (tgt := 27) hx hb rfl (by decide) dX10_begins_18 (by decide) (fun c_41 => ?_) (fun c_41 => ?_)
        · skip
          have hw2 : hv_wd tf tp0.toInt.toNat w_13.toInt.toNat = 2 := by omega
          have hl2 := hv_wd_2 hw2
          refine lv_aload_n hx hb dX10_begins_27 rfl (lv_at hl 2 rfl) ?_
          refine hx_goi (hx_runV (As := []) (rest := []) ⟨hx, hb, hml, hown, hts⟩ hW (gx.S hM) tt_10 (T := TX10) (N := 98) rfl (t_X10_deep_2 l dC dI dA L_8 h_9 H.size x hT (gx.S hM) qo (gqo.S hM) ((hM.o gx trivial rfl).2.trans f_x_17) ia0_qo nia0_qo fw0_x_18 ffw0_x_18) (cwV 0 hts (hx_gV kw_1507 kw_1504 kw_1506 kw_62 kw_103) rfl rfl rfl (by decide +kernel) ⟨Nat.le_of_ble_eq_true rfl, Nat.le_of_ble_eq_true rfl⟩) rfl hl.1 rfl (Nat.le_of_ble_eq_true rfl) dX10_begins_28 ⟨Nat.le_of_ble_eq_true rfl, Nat.le_of_ble_eq_true rfl⟩) hW (fun r_44 L_42 h_43 H locs p_45 hW => ?_)
          obtain ⟨hr_46, hT, hs⟩ := p_45
          replace hT : hx_T T_tb L_42 h_43 := hT
          replace hs : hx_S T_tb [] L_8 h_9 L_42 h_43 := hs
          replace f_x_16 := (hs.o (gx.S hM) trivial rfl).1.trans f_x_16
          replace f_x_14 := (hs.o (gx.S hM) trivial rfl).1.trans f_x_14
          replace f_x_9 := (hs.o (gx.S hM) trivial rfl).1.trans f_x_9
          replace ffw0_x_18 := (hs.o (gx.S hM) trivial rfl).1.trans ffw0_x_18
          replace fw_13 := (hs.o (gx.S hM) trivial rfl).1.trans fw_13
          replace fw_14 := (hs.o (gx.S hM) trivial rfl).1.trans fw_14
          replace af_qs : h_43.2.1 qs = sf := (funext fun j => (hs.a (gqs.S hM) rfl j).1).trans af_qs
          replace nia0_qo : h_43.2.1 qo = ia0_qo := (funext fun j => (hs.a (gqo.S hM) rfl j).1).trans nia0_qo
          replace hM := hM.tr (hs.mono (by decide))
          refine lv_bipush (v := 8) hx hb dX10_begins_31 (by decide) ?_
          refine hb_icmp_ne (zx := r_44.toInt) (zy := 8) (tgt := 46) hx hb rfl (by decide) dX10_begins_33 (by decide) (fun c_47 => ?_) (fun c_47 => ?_)
          · skip
            have hdp : hv_dp (hv_ls ia0_qo fw0_x_18.toInt.toNat) ≠ 8 := by rw [hv_dp_ls]; omega
            refine lv_aload_n hx hb dX10_begins_46 rfl (lv_at hl 2 rfl) ?_
            refine hk_getr hx hb hts hC_10 hown hW (gx.S hM) tt_10 17 (by decide) rfl kw_1160 ⟨rfl, rfl, rfl⟩ ((hM.o gx trivial rfl).2.trans f_x_17) dX10_begins_47 ?_
            refine lv_aload_n hx hb dX10_begins_50 rfl (lv_at hl 2 rfl) ?_
            refine hk_geti hx hb hts hC_10 hown hW (gx.S hM) tt_10 18 (by decide) rfl kw_1161 ⟨rfl, rfl, rfl⟩ ffw0_x_18 dX10_begins_51 ?_
            refine lv_iload_n hx hb dX10_begins_54 rfl (lv_at hl 1 rfl) ?_
            refine lv_bipush (v := 40) hx hb dX10_begins_55 (by decide) ?_
            refine hb_icmp_ne (zx := r_3.toInt) (zy := 40) (tgt := 65) hx hb rfl (by decide) dX10_begins_57 (by decide) (fun c_48 => ?_) (fun c_48 => ?_)
            · skip
              refine lv_iconst (v := 2) hx hb dX10_begins_65 (by decide) ?_
              have nia0_qoO := nia0_qo
              refine hx_iast hx hb hW hT (hx_S.rf (M := [(56, 0)])) (gqo.S hM) tt_56 rfl ⟨by omega, by omega⟩ rfl (by decide) (List.mem_singleton.mpr rfl) dX10_begins_66 (fun H locs h_49 eh_49 hW hT hs => ?_)
              replace f_x_16 := (hs.o (gx.S hM) trivial rfl).1.trans f_x_16
              replace f_x_14 := (hs.o (gx.S hM) trivial rfl).1.trans f_x_14
              replace f_x_9 := (hs.o (gx.S hM) trivial rfl).1.trans f_x_9
              replace ffw0_x_18 := (hs.o (gx.S hM) trivial rfl).1.trans ffw0_x_18
              replace fw_13 := (hs.o (gx.S hM) trivial rfl).1.trans fw_13
              replace fw_14 := (hs.o (gx.S hM) trivial rfl).1.trans fw_14
              replace af_qs : h_49.2.1 qs = sf := (funext fun j => (hs.a (gqs.S hM) rfl j).1).trans af_qs
              replace hM := hM.tr (hs.mono (by decide))
              obtain ⟨fa_50, dfa_50⟩ : ∃ g : Nat → Int32, g = hx_up ia0_qo fw0_x_18.toNatClampNeg (2 : Int32) := ⟨_, rfl⟩
              have nfa_50 : h_49.2.1 qo = fa_50 := by rw [eh_49, dfa_50, ← nia0_qoO]; exact hx_pi_fun _ _ _ _
              refine lv_aload_n hx hb dX10_begins_67 rfl (lv_at hl 2 rfl) ?_
              refine lv_dup hx hb dX10_begins_68 rfl ?_
              refine hk_geti hx hb hts hC_10 hown hW (gx.S hM) tt_10 18 (by decide) rfl kw_1161 ⟨rfl, rfl, rfl⟩ ffw0_x_18 dX10_begins_69 ?_
              refine lv_iconst (v := 1) hx hb dX10_begins_72 (by decide) ?_
              refine lv_iadd hx hb dX10_begins_73 ?_
              have rg_51 := i32_r fw0_x_18
              refine lv_topi (fun x_52 ex_52 => ?_)
              have zx_52 : x_52.toInt = fw0_x_18.toInt + 1 := by rw [ex_52]; exact i32_add rfl (by decide) (by omega) (by omega)
              refine hx_puti hx hb hts hC_10 hown hW hT (hx_S.rf (M := [(10, 18)])) (gx.S hM) tt_10 18 (by decide) rfl kw_1161 ⟨rfl, rfl, rfl⟩ rfl (x := x_52) ⟨by omega, by omega⟩ rfl rfl rfl (List.mem_singleton.mpr rfl) dX10_begins_74 (fun H locs h_53 eh_53 hW hT hs => ?_)
              replace f_x_16 := (hs.o (gx.S hM) trivial rfl).1.trans f_x_16
              replace f_x_14 := (hs.o (gx.S hM) trivial rfl).1.trans f_x_14
              replace f_x_9 := (hs.o (gx.S hM) trivial rfl).1.trans f_x_9
              replace fw_13 := (hs.o (gx.S hM) trivial rfl).1.trans fw_13
              replace fw_14 := (hs.o (gx.S hM) trivial rfl).1.trans fw_14
              replace af_qs : h_53.2.1 qs = sf := (funext fun j => (hs.a (gqs.S hM) rfl j).1).trans af_qs
              replace nfa_50 : h_53.2.1 qo = fa_50 := (funext fun j => (hs.a (gqo.S hM) rfl j).1).trans nfa_50
              replace hM := hM.tr (hs.mono (by decide))
              have f_54 : h_53.2.1 x 18 = x_52 := by rw [eh_53]; exact hx_pi_at _ _ _ _
              refine lv_aload_n hx hb dX10_begins_77 rfl (lv_at hl 2 rfl) ?_
              refine lv_dup hx hb dX10_begins_78 rfl ?_
              refine hk_geti hx hb hts hC_10 hown hW (gx.S hM) tt_10 8 (by decide) rfl kw_1151 ⟨rfl, rfl, rfl⟩ fw_13 dX10_begins_79 ?_
              refine lv_iload_n hx hb dX10_begins_82 rfl (lv_at hl 1 rfl) ?_
              refine lv_bipush (v := 40) hx hb dX10_begins_83 (by decide) ?_
              refine hb_icmp_ne (zx := r_3.toInt) (zy := 40) (tgt := 92) hx hb rfl (by decide) dX10_begins_85 (by decide) (fun c_55 => ?_) (fun c_55 => ?_)
              · skip
                refine lv_iconst (v := 3) hx hb dX10_begins_92 (by decide) ?_
                refine lv_iadd hx hb dX10_begins_93 ?_
                have rg_56 := i32_r w_13
                refine lv_topi (fun x_57 ex_57 => ?_)
                have zx_57 : x_57.toInt = w_13.toInt + 3 := by rw [ex_57]; exact i32_add rfl (by decide) (by omega) (by omega)
                refine hx_puti hx hb hts hC_10 hown hW hT (hx_S.rf (M := [(10, 8)])) (gx.S hM) tt_10 8 (by decide) rfl kw_1151 ⟨rfl, rfl, rfl⟩ rfl (x := x_57) ⟨by omega, by omega⟩ rfl rfl rfl (List.mem_singleton.mpr rfl) dX10_begins_94 (fun H locs h_58 eh_58 hW hT hs => ?_)
                replace f_x_16 := (hs.o (gx.S hM) trivial rfl).1.trans f_x_16
                replace f_x_14 := (hs.o (gx.S hM) trivial rfl).1.trans f_x_14
                replace f_x_9 := (hs.o (gx.S hM) trivial rfl).1.trans f_x_9
                replace fw_14 := (hs.o (gx.S hM) trivial rfl).1.trans fw_14
                replace f_54 := (hs.o (gx.S hM) trivial rfl).1.trans f_54
                replace af_qs : h_58.2.1 qs = sf := (funext fun j => (hs.a (gqs.S hM) rfl j).1).trans af_qs
                replace nfa_50 : h_58.2.1 qo = fa_50 := (funext fun j => (hs.a (gqo.S hM) rfl j).1).trans nfa_50
                replace hM := hM.tr (hs.mono (by decide))
                have f_59 : h_58.2.1 x 8 = x_57 := by rw [eh_58]; exact hx_pi_at _ _ _ _
                refine lv_goto (tgt := 0) hx hb dX10_begins_97 (by decide) ?_
                exact ih0 x_52 x_57 fa_50 _ _ L_42 h_58 (by omega) (by omega) (by omega) (by omega) (by omega) (hx_QQ_open vi0_1 (by have q := hx_QQ_dp vi0_1; omega) (by have z1 : (100 : Int32).toInt = 100 := (by decide); have z2 : (2 : Int32).toInt = 2 := (by decide); omega) (hx_cl (by omega)) (by omega) dfa_50) (vi0_2.trans ((hv_RN_n (by rw [← eks]; exact hw2) hdp).trans (by rw [← eks, show w_13.toInt.toNat + 3 = x_57.toInt.toNat by omega, hv_ls_p (n := fw0_x_18.toInt.toNat) (z := 2) rfl (by omega) (by first | decide | omega) dfa_50]))) (by omega) ls (by omega) hW hT hM f_54 f_59 f_x_16 f_x_14 f_x_9 nfa_50 af_qs (lv_sub hl [2] rfl)
              · skip
                refine lv_iconst (v := 1) hx hb dX10_begins_88 (by decide) ?_
                refine lv_goto (tgt := 93) hx hb dX10_begins_89 (by decide) ?_
                refine lv_iadd hx hb dX10_begins_93 ?_
                have rg_60 := i32_r w_13
                refine lv_topi (fun x_61 ex_61 => ?_)
                have zx_61 : x_61.toInt = w_13.toInt + 1 := by rw [ex_61]; exact i32_add rfl (by decide) (by omega) (by omega)
                refine hx_puti hx hb hts hC_10 hown hW hT (hx_S.rf (M := [(10, 8)])) (gx.S hM) tt_10 8 (by decide) rfl kw_1151 ⟨rfl, rfl, rfl⟩ rfl (x := x_61) ⟨by omega, by omega⟩ rfl rfl rfl (List.mem_singleton.mpr rfl) dX10_begins_94 (fun H locs h_62 eh_62 hW hT hs => ?_)
                replace f_x_16 := (hs.o (gx.S hM) trivial rfl).1.trans f_x_16
                replace f_x_14 := (hs.o (gx.S hM) trivial rfl).1.trans f_x_14
                replace f_x_9 := (hs.o (gx.S hM) trivial rfl).1.trans f_x_9
                replace fw_14 := (hs.o (gx.S hM) trivial rfl).1.trans fw_14
                replace f_54 := (hs.o (gx.S hM) trivial rfl).1.trans f_54
                replace af_qs : h_62.2.1 qs = sf := (funext fun j => (hs.a (gqs.S hM) rfl j).1).trans af_qs
                replace nfa_50 : h_62.2.1 qo = fa_50 := (funext fun j => (hs.a (gqo.S hM) rfl j).1).trans nfa_50
                replace hM := hM.tr (hs.mono (by decide))
                have f_63 : h_62.2.1 x 8 = x_61 := by rw [eh_62]; exact hx_pi_at _ _ _ _
                refine lv_goto (tgt := 0) hx hb dX10_begins_97 (by decide) ?_
                exact ih0 x_52 x_61 fa_50 _ _ L_42 h_62 (by omega) (by omega) (by omega) (by omega) (by omega) (hx_QQ_open vi0_1 (by have q := hx_QQ_dp vi0_1; omega) (by have z1 : (100 : Int32).toInt = 100 := (by decide); have z2 : (2 : Int32).toInt = 2 := (by decide); omega) (hx_cl (by omega)) (by omega) dfa_50) (vi0_2.trans ((hv_RN_n (by rw [← eks]; exact hw2) hdp).trans (by rw [← eks, show w_13.toInt.toNat + 3 = x_61.toInt.toNat by omega, hv_ls_p (n := fw0_x_18.toInt.toNat) (z := 2) rfl (by omega) (by first | decide | omega) dfa_50]))) (by omega) ls (by omega) hW hT hM f_54 f_63 f_x_16 f_x_14 f_x_9 nfa_50 af_qs (lv_sub hl [2] rfl)
            · skip
              refine lv_bipush (v := 100) hx hb dX10_begins_60 (by decide) ?_
              refine lv_goto (tgt := 66) hx hb dX10_begins_62 (by decide) ?_
              have nia0_qoO := nia0_qo
              refine hx_iast hx hb hW hT (hx_S.rf (M := [(56, 0)])) (gqo.S hM) tt_56 rfl ⟨by omega, by omega⟩ rfl (by decide) (List.mem_singleton.mpr rfl) dX10_begins_66 (fun H locs h_64 eh_64 hW hT hs => ?_)
              replace f_x_16 := (hs.o (gx.S hM) trivial rfl).1.trans f_x_16
              replace f_x_14 := (hs.o (gx.S hM) trivial rfl).1.trans f_x_14
              replace f_x_9 := (hs.o (gx.S hM) trivial rfl).1.trans f_x_9
              replace ffw0_x_18 := (hs.o (gx.S hM) trivial rfl).1.trans ffw0_x_18
              replace fw_13 := (hs.o (gx.S hM) trivial rfl).1.trans fw_13
              replace fw_14 := (hs.o (gx.S hM) trivial rfl).1.trans fw_14
              replace af_qs : h_64.2.1 qs = sf := (funext fun j => (hs.a (gqs.S hM) rfl j).1).trans af_qs
              replace hM := hM.tr (hs.mono (by decide))
              obtain ⟨fa_65, dfa_65⟩ : ∃ g : Nat → Int32, g = hx_up ia0_qo fw0_x_18.toNatClampNeg (100 : Int32) := ⟨_, rfl⟩
              have nfa_65 : h_64.2.1 qo = fa_65 := by rw [eh_64, dfa_65, ← nia0_qoO]; exact hx_pi_fun _ _ _ _
              refine lv_aload_n hx hb dX10_begins_67 rfl (lv_at hl 2 rfl) ?_
              refine lv_dup hx hb dX10_begins_68 rfl ?_
              refine hk_geti hx hb hts hC_10 hown hW (gx.S hM) tt_10 18 (by decide) rfl kw_1161 ⟨rfl, rfl, rfl⟩ ffw0_x_18 dX10_begins_69 ?_
              refine lv_iconst (v := 1) hx hb dX10_begins_72 (by decide) ?_
              refine lv_iadd hx hb dX10_begins_73 ?_
              have rg_66 := i32_r fw0_x_18
              refine lv_topi (fun x_67 ex_67 => ?_)
              have zx_67 : x_67.toInt = fw0_x_18.toInt + 1 := by rw [ex_67]; exact i32_add rfl (by decide) (by omega) (by omega)
              refine hx_puti hx hb hts hC_10 hown hW hT (hx_S.rf (M := [(10, 18)])) (gx.S hM) tt_10 18 (by decide) rfl kw_1161 ⟨rfl, rfl, rfl⟩ rfl (x := x_67) ⟨by omega, by omega⟩ rfl rfl rfl (List.mem_singleton.mpr rfl) dX10_begins_74 (fun H locs h_68 eh_68 hW hT hs => ?_)
              replace f_x_16 := (hs.o (gx.S hM) trivial rfl).1.trans f_x_16
              replace f_x_14 := (hs.o (gx.S hM) trivial rfl).1.trans f_x_14
              replace f_x_9 := (hs.o (gx.S hM) trivial rfl).1.trans f_x_9
              replace fw_13 := (hs.o (gx.S hM) trivial rfl).1.trans fw_13
              replace fw_14 := (hs.o (gx.S hM) trivial rfl).1.trans fw_14
              replace af_qs : h_68.2.1 qs = sf := (funext fun j => (hs.a (gqs.S hM) rfl j).1).trans af_qs
              replace nfa_65 : h_68.2.1 qo = fa_65 := (funext fun j => (hs.a (gqo.S hM) rfl j).1).trans nfa_65
              replace hM := hM.tr (hs.mono (by decide))
              have f_69 : h_68.2.1 x 18 = x_67 := by rw [eh_68]; exact hx_pi_at _ _ _ _
              refine lv_aload_n hx hb dX10_begins_77 rfl (lv_at hl 2 rfl) ?_
              refine lv_dup hx hb dX10_begins_78 rfl ?_
              refine hk_geti hx hb hts hC_10 hown hW (gx.S hM) tt_10 8 (by decide) rfl kw_1151 ⟨rfl, rfl, rfl⟩ fw_13 dX10_begins_79 ?_
              refine lv_iload_n hx hb dX10_begins_82 rfl (lv_at hl 1 rfl) ?_
              refine lv_bipush (v := 40) hx hb dX10_begins_83 (by decide) ?_
              refine hb_icmp_ne (zx := r_3.toInt) (zy := 40) (tgt := 92) hx hb rfl (by decide) dX10_begins_85 (by decide) (fun c_70 => by exfalso; omega) (fun c_70 => ?_)
              refine lv_iconst (v := 1) hx hb dX10_begins_88 (by decide) ?_
              refine lv_goto (tgt := 93) hx hb dX10_begins_89 (by decide) ?_
              refine lv_iadd hx hb dX10_begins_93 ?_
              have rg_71 := i32_r w_13
              refine lv_topi (fun x_72 ex_72 => ?_)
              have zx_72 : x_72.toInt = w_13.toInt + 1 := by rw [ex_72]; exact i32_add rfl (by decide) (by omega) (by omega)
              refine hx_puti hx hb hts hC_10 hown hW hT (hx_S.rf (M := [(10, 8)])) (gx.S hM) tt_10 8 (by decide) rfl kw_1151 ⟨rfl, rfl, rfl⟩ rfl (x := x_72) ⟨by omega, by omega⟩ rfl rfl rfl (List.mem_singleton.mpr rfl) dX10_begins_94 (fun H locs h_73 eh_73 hW hT hs => ?_)
              replace f_x_16 := (hs.o (gx.S hM) trivial rfl).1.trans f_x_16
              replace f_x_14 := (hs.o (gx.S hM) trivial rfl).1.trans f_x_14
              replace f_x_9 := (hs.o (gx.S hM) trivial rfl).1.trans f_x_9
              replace fw_14 := (hs.o (gx.S hM) trivial rfl).1.trans fw_14
              replace f_69 := (hs.o (gx.S hM) trivial rfl).1.trans f_69
              replace af_qs : h_73.2.1 qs = sf := (funext fun j => (hs.a (gqs.S hM) rfl j).1).trans af_qs
              replace nfa_65 : h_73.2.1 qo = fa_65 := (funext fun j => (hs.a (gqo.S hM) rfl j).1).trans nfa_65
              replace hM := hM.tr (hs.mono (by decide))
              have f_74 : h_73.2.1 x 8 = x_72 := by rw [eh_73]; exact hx_pi_at _ _ _ _
              refine lv_goto (tgt := 0) hx hb dX10_begins_97 (by decide) ?_
              exact ih0 x_67 x_72 fa_65 _ _ L_42 h_73 (by omega) (by omega) (by omega) (by omega) (by omega) (hx_QQ_open vi0_1 (by have q := hx_QQ_dp vi0_1; omega) (by have z1 : (100 : Int32).toInt = 100 := (by decide); have z2 : (2 : Int32).toInt = 2 := (by decide); omega) (hx_cl (by omega)) (by omega) dfa_65) (vi0_2.trans ((hv_RN_n (by rw [← eks]; exact hw2) hdp).trans (by rw [← eks, show w_13.toInt.toNat + 3 = x_72.toInt.toNat by omega, hv_ls_p (n := fw0_x_18.toInt.toNat) (z := 2) rfl (by omega) (by first | decide | omega) dfa_65]))) (by omega) ls (by omega) hW hT hM f_69 f_74 f_x_16 f_x_14 f_x_9 nfa_65 af_qs (lv_sub hl [2] rfl)
          · skip
            refine lv_aload_n hx hb dX10_begins_36 rfl (lv_at hl 2 rfl) ?_
            refine lv_iconst (v := 3) hx hb dX10_begins_37 (by decide) ?_
            refine lv_aload_n hx hb dX10_begins_38 rfl (lv_at hl 2 rfl) ?_
            refine hk_geti hx hb hts hC_10 hown hW (gx.S hM) tt_10 8 (by decide) rfl kw_1151 ⟨rfl, rfl, rfl⟩ fw_13 dX10_begins_39 ?_
            have zc_3 : (3 : Int32).toInt = 3 := by decide
            refine hx_goi (hx_runV (As := [.int (3 : Int32), .int w_13]) (rest := []) ⟨hx, hb, hml, hown, hts⟩ hW (gx.S hM) tt_10 (T := TX10) (N := 98) rfl (t_X10_fails_v l dC dI dA L_42 h_43 H.size x (3 : Int32) w_13 hT (gx.S hM) ft0 f_x_9 (by omega) (by decide) ⟨by omega, by omega⟩) (cwV 2 hts (hx_gV kw_1480 kw_1477 kw_1479 kw_56 kw_103) rfl rfl rfl (by decide +kernel) ⟨Nat.le_of_ble_eq_true rfl, Nat.le_of_ble_eq_true rfl⟩) rfl hl.1 rfl (Nat.le_of_ble_eq_true rfl) dX10_begins_42 ⟨Nat.le_of_ble_eq_true rfl, Nat.le_of_ble_eq_true rfl⟩) hW (fun r_77 L_75 h_76 H locs p_78 hW => ?_)
            obtain ⟨⟨w_80, fw_80, hr_79⟩, hT, hs⟩ := p_78
            replace hT : hx_T T_tb L_75 h_76 := hT
            replace hs : hx_S T_tb [(10, 9)] L_42 h_43 L_75 h_76 := hs
            replace f_x_16 := (hs.o (gx.S hM) trivial rfl).1.trans f_x_16
            replace f_x_14 := (hs.o (gx.S hM) trivial rfl).1.trans f_x_14
            replace ffw0_x_18 := (hs.o (gx.S hM) trivial rfl).1.trans ffw0_x_18
            replace fw_13 := (hs.o (gx.S hM) trivial rfl).1.trans fw_13
            replace fw_14 := (hs.o (gx.S hM) trivial rfl).1.trans fw_14
            replace af_qs : h_76.2.1 qs = sf := (funext fun j => (hs.a (gqs.S hM) rfl j).1).trans af_qs
            replace nia0_qo : h_76.2.1 qo = ia0_qo := (funext fun j => (hs.a (gqo.S hM) rfl j).1).trans nia0_qo
            replace hM := hM.tr (hs.mono (by decide))
            have fw_80 : h_76.2.1 x 9 = w_80 := fw_80
            have bw_80 := hT.gi (gx.S hM) tt_10 (k := 9) rfl
            rw [fw_80] at bw_80
            have bw_80 : -2147483648 ≤ w_80.toInt ∧ w_80.toInt ≤ 2147483647 := bw_80
            exact hx_retz hx hb hr (hx_nar01 (by omega)) hlk hW ⟨⟨cp0, w_13, st0, fw0_x_18, w_80, sf, ia0_qo, f_x_16, fw_13, f_x_14, ffw0_x_18, fw_80, af_qs, nia0_qo, ⟨by omega, by omega, (fun z => by exfalso; omega), (hv_BG_f (x := 4 + 8 * w_13.toInt.toNat) (by omega) (by omega) (by omega) (vi0_2.trans ((hv_RN_d (Or.inl (by rw [← eks]; exact hw2)) (by rw [hv_dp_ls]; omega)).trans (by rw [← eks])))), (fun z9 => by exfalso; omega)⟩⟩, hT, hM⟩ dX10_begins_45
        · skip
          have hb40 : ¬ (w_13.toInt.toNat < tp0.toInt.toNat ∧ (tf w_13.toInt.toNat).toInt = 40) := by rw [e12]; exact fun z9 => hv_SE_n (k := 40) hr_5S (by omega) ⟨by omega, z9.2, by decide⟩
          have hb2 : hv_wd tf tp0.toInt.toNat w_13.toInt.toNat ≠ 2 := by omega
          refine lv_aload_n hx hb dX10_begins_21 rfl (lv_at hl 2 rfl) ?_
          refine lv_iload_n hx hb dX10_begins_22 rfl (lv_at hl 0 rfl) ?_
          refine hx_goi (hx_runV (As := [.int r_10]) (rest := []) ⟨hx, hb, hml, hown, hts⟩ hW (gx.S hM) tt_10 (T := TX10) (N := 98) rfl (t_X10_compare_v l dC dI dA L_8 h_9 H.size x r_10 hT (gx.S hM) qs (gqs.S hM) ((hM.o gx trivial rfl).2.trans f_x_15) qo (gqo.S hM) ((hM.o gx trivial rfl).2.trans f_x_17) qt (gqt.S hM) ((hM.o gx trivial rfl).2.trans f_x_6) qw (gqw.S hM) ((hM.o gx trivial rfl).2.trans f_x_19) sf af_qs ia0_qo nia0_qo tf (hx_afS hM gqt rfl af_qt) wf (hx_afS hM gqw rfl af_qw) cp0 f_x_16 w_13 fw_13 st0 f_x_14 fw0_x_18 ffw0_x_18 tp0 ((hM.o gx trivial rfl).1.trans f_x_7) w_14 fw_14 ft0 f_x_9 (hx_QQ_next vi0_1 (by omega)) hwd o hO (by omega) (by omega) hr_12W hr_12E) (cwV 1 hts (hx_gV kw_1496 kw_1493 kw_1495 kw_60 kw_103) rfl rfl rfl (by decide +kernel) ⟨Nat.le_of_ble_eq_true rfl, Nat.le_of_ble_eq_true rfl⟩) rfl hl.1 rfl (Nat.le_of_ble_eq_true rfl) dX10_begins_23 ⟨Nat.le_of_ble_eq_true rfl, Nat.le_of_ble_eq_true rfl⟩) hW (fun r_83 L_81 h_82 H locs p_84 hW => ?_)
          obtain ⟨⟨w_86, w_87, w_88, w_89, w_90, fw_86, fw_87, fw_88, fw_89, fw_90, hr_85⟩, hT, hs⟩ := p_84
          replace hT : hx_T T_tb L_81 h_82 := hT
          replace hs : hx_S T_tb [(10, 8), (10, 9), (10, 10), (10, 11), (10, 14), (10, 16), (55, 0)] L_8 h_9 L_81 h_82 := hs
          replace ffw0_x_18 := (hs.o (gx.S hM) trivial rfl).1.trans ffw0_x_18
          replace nia0_qo : h_82.2.1 qo = ia0_qo := (funext fun j => (hs.a (gqo.S hM) rfl j).1).trans nia0_qo
          replace hM := hM.tr (hs.mono (by decide))
          have fw_86 : h_82.2.1 x 16 = w_86 := fw_86
          have bw_86 := hT.gi (gx.S hM) tt_10 (k := 16) rfl
          rw [fw_86] at bw_86
          have bw_86 : 0 ≤ w_86.toInt ∧ w_86.toInt ≤ 20 := bw_86
          have fw_87 : h_82.2.1 x 8 = w_87 := fw_87
          have bw_87 := hT.gi (gx.S hM) tt_10 (k := 8) rfl
          rw [fw_87] at bw_87
          have bw_87 : 0 ≤ w_87.toInt ∧ w_87.toInt ≤ 402 := bw_87
          have fw_88 : h_82.2.1 x 14 = w_88 := fw_88
          have bw_88 := hT.gi (gx.S hM) tt_10 (k := 14) rfl
          rw [fw_88] at bw_88
          have bw_88 : 0 ≤ w_88.toInt ∧ w_88.toInt ≤ 128 := bw_88
          have fw_89 : h_82.2.1 x 9 = w_89 := fw_89
          have bw_89 := hT.gi (gx.S hM) tt_10 (k := 9) rfl
          rw [fw_89] at bw_89
          have bw_89 : -2147483648 ≤ w_89.toInt ∧ w_89.toInt ≤ 2147483647 := bw_89
          have fw_90 : h_82.2.1 qs = w_90 := fw_90
          exact hx_retz hx hb hr (hx_nar01 (by omega)) hlk hW ⟨⟨w_86, w_87, w_88, fw0_x_18, w_89, w_90, ia0_qo, fw_86, fw_87, fw_88, ffw0_x_18, fw_89, fw_90, nia0_qo, ⟨by omega, by omega, hr_85.2.2.1, (hv_BG_K hr_85.2.2.2.1 (fun x h9 => vi0_2.trans (hv_RN_t0 (by rw [← eks]; exact hb2) (by rw [← eks]; exact hb40) (by rw [← eks]; exact h9))) (fun p1 t1 o1 h9 => vi0_2.trans (hv_RN_t1 (by rw [← eks]; exact hb2) (by rw [← eks]; exact hb40) (by rw [← eks]; exact h9)))), (fun z9 => by have h8 := hr_85.2.2.2.2 z9; exact ⟨by omega, by omega⟩)⟩⟩, hT, hM⟩ dX10_begins_26
  exact loop0 403 op0 nx0 of _ _ L h (by omega) (by omega) (by omega) (by omega) (by omega) hQ rfl (by omega) ls (by omega) hW hT hM f_x_18 f_x_8 f_x_16 f_x_14 f_x_9 af_qo af_qs hl
