theorem dX8_fromCourt_0 : decode cX8_fromCourt 0 = .ok (.aload_n 0, 1) := by decide +kernel
theorem dX8_fromCourt_1 : decode cX8_fromCourt 1 = .ok (.getfield 17, 3) := by decide +kernel
theorem dX8_fromCourt_4 : decode cX8_fromCourt 4 = .ok (.iload_n 1, 1) := by decide +kernel
theorem dX8_fromCourt_5 : decode cX8_fromCourt 5 = .ok (.aaload, 1) := by decide +kernel
theorem dX8_fromCourt_6 : decode cX8_fromCourt 6 = .ok (.getfield 63, 3) := by decide +kernel
theorem dX8_fromCourt_9 : decode cX8_fromCourt 9 = .ok (.astore_n 2, 1) := by decide +kernel
theorem dX8_fromCourt_10 : decode cX8_fromCourt 10 = .ok (.aload_n 2, 1) := by decide +kernel
theorem dX8_fromCourt_11 : decode cX8_fromCourt 11 = .ok (.getfield 71, 3) := by decide +kernel
theorem dX8_fromCourt_14 : decode cX8_fromCourt 14 = .ok (.bipush 50, 2) := by decide +kernel
theorem dX8_fromCourt_16 : decode cX8_fromCourt 16 = .ok (.isub, 1) := by decide +kernel
theorem dX8_fromCourt_17 : decode cX8_fromCourt 17 = .ok (.invokestatic 76, 3) := by decide +kernel
theorem dX8_fromCourt_20 : decode cX8_fromCourt 20 = .ok (.aload_n 2, 1) := by decide +kernel
theorem dX8_fromCourt_21 : decode cX8_fromCourt 21 = .ok (.getfield 79, 3) := by decide +kernel
theorem dX8_fromCourt_24 : decode cX8_fromCourt 24 = .ok (.bipush 50, 2) := by decide +kernel
theorem dX8_fromCourt_26 : decode cX8_fromCourt 26 = .ok (.isub, 1) := by decide +kernel
theorem dX8_fromCourt_27 : decode cX8_fromCourt 27 = .ok (.invokestatic 76, 3) := by decide +kernel
theorem dX8_fromCourt_30 : decode cX8_fromCourt 30 = .ok (.iadd, 1) := by decide +kernel
theorem dX8_fromCourt_31 : decode cX8_fromCourt 31 = .ok (.ireturn, 1) := by decide +kernel
set_option maxHeartbeats 4000000 in
set_option maxRecDepth 100000 in
theorem t_X8_fromCourt (l : Launch) (dC : Nat → ClassId) (dI : Nat → Nat → Nat) (dA : Nat → ClassId) (L : List Nat) (h : hx_h) (sz : Nat) (x : Nat) (i1 : Int32) (hT : hx_T T_tb L h) (gx : hx_g L h x 8) (cn : Int32) (f_x_0 : h.2.1 x 0 = cn) (hi1 : 0 ≤ i1.toInt ∧ i1.toInt < cn.toInt) (ql : Nat) (gql : hx_g L h ql 40) (f_x_3 : h.2.2 x 3 = some ql) (pf_x_0 : ∀ j : Nat, (j : Int) < (h.2.1 x 0).toInt → h.2.2 ql j ≠ none) : Met l yX8_fromCourt (Cond.code yX8_fromCourt cX8_fromCourt 3 (some .int) :: hx_all) ({ frames := 1, cells := 0, slots := 0, locals := 21 }) (va_Pc [.ref x, .int i1] (hx_B T_tb (P_ty dA) (dC, dI) vwCl L h sz)) (va_Qi (fun (r : Int32) (u : List Nat × hx_h) => (True) ∧ hx_T T_tb u.1 u.2 ∧ hx_S T_tb [] L h u.1 u.2) (hx_E T_tb (P_ty dA) (dC, dI) vwCl (hx_A L sz)) (hx_A L sz)) 0 0 (hx_A L sz) := by
  refine hx_met (lv := [(0, .ref x), (1, .int i1)]) (by decide +kernel) rfl (Nat.le_of_ble_eq_true rfl) rfl ?_
  intro p e s m below meth c hx hb hml hr hlk hts0 hown hin hsz hW ls hl
  have hts : ∀ w ∈ hx_all, w.before _ s = true := fun w hw => hts0 w (List.mem_cons_of_mem _ hw)
  have hown : s.vm.findClass "SmallCourt$Walk" = some m.cls := hown
  have hM : hx_S T_tb [] L h L h := hx_S.rf
  have b_cn := hT.gi gx tt_8 (k := 0) rfl
  rw [f_x_0] at b_cn
  have b_cn : 0 ≤ cn.toInt ∧ cn.toInt ≤ 8 := b_cn
  refine lv_aload_n hx hb dX8_fromCourt_0 rfl (lv_at hl 0 rfl) ?_
  refine hk_getr hx hb hts hC_8 hown hW gx tt_8 3 (by decide) rfl kw_351 ⟨rfl, rfl, rfl⟩ f_x_3 dX8_fromCourt_1 ?_
  refine lv_iload_n hx hb dX8_fromCourt_4 rfl (lv_at hl 1 rfl) ?_
  refine hx_aaldN hx hb hW hT gql tt_40 (t1 := 2) rfl ⟨by omega, by omega⟩ (pf_x_0 _ (by rw [f_x_0]; exact hx_tnI (by omega) (by omega))) dX8_fromCourt_5 (fun q_1 fq_1 gq_1 => ?_)
  refine hx_getn hx hb hts hC_2 hown hW hT gq_1 tt_2 2 (by decide) rfl kw_732 ⟨rfl, rfl, rfl⟩ dX8_fromCourt_6 (fun q_2 fq_2 gq_2 => ?_)
  refine lv_astore_n (lv' := [(2, .ref q_2), (0, .ref x), (1, .int i1)]) hx hb dX8_fromCourt_9 rfl hl (by decide) rfl (fun ls hl => ?_)
  refine lv_aload_n hx hb dX8_fromCourt_10 rfl (lv_at hl 0 rfl) ?_
  refine hx_geti hx hb hts hC_4 hown hW hT gq_2 tt_4 5 (by decide) rfl kw_619 ⟨rfl, rfl, rfl⟩ dX8_fromCourt_11 (fun x_3 ex_3 lx_3 ux_3 => ?_)
  have fx_3 := ex_3.symm
  refine lv_bipush (v := 50) hx hb dX8_fromCourt_14 (by decide) ?_
  refine lv_isub hx hb dX8_fromCourt_16 ?_
  have rg_4 := i32_r x_3
  refine lv_topi (fun x_5 ex_5 => ?_)
  refine va_mabs hx hb (hml.trans hl.1.symm) hown (hts _ kw_1063) (hts _ kw_706) (hts _ kw_109) (hts _ kw_707) (Nat.le_of_ble_eq_true rfl) (Nat.le_of_ble_eq_true rfl) (Nat.le_of_ble_eq_true rfl) (Nat.le_of_ble_eq_true rfl) dX8_fromCourt_17 ?_
  refine lv_topi (fun x_6 ex_6 => ?_)
  refine lv_aload_n hx hb dX8_fromCourt_20 rfl (lv_at hl 0 rfl) ?_
  refine hx_geti hx hb hts hC_4 hown hW hT gq_2 tt_4 6 (by decide) rfl kw_621 ⟨rfl, rfl, rfl⟩ dX8_fromCourt_21 (fun x_7 ex_7 lx_7 ux_7 => ?_)
  have fx_7 := ex_7.symm
  refine lv_bipush (v := 50) hx hb dX8_fromCourt_24 (by decide) ?_
  refine lv_isub hx hb dX8_fromCourt_26 ?_
  have rg_8 := i32_r x_7
  refine lv_topi (fun x_9 ex_9 => ?_)
  refine va_mabs hx hb (hml.trans hl.1.symm) hown (hts _ kw_1063) (hts _ kw_706) (hts _ kw_109) (hts _ kw_707) (Nat.le_of_ble_eq_true rfl) (Nat.le_of_ble_eq_true rfl) (Nat.le_of_ble_eq_true rfl) (Nat.le_of_ble_eq_true rfl) dX8_fromCourt_27 ?_
  refine lv_topi (fun x_10 ex_10 => ?_)
  refine lv_iadd hx hb dX8_fromCourt_30 ?_
  have rg_11 := i32_r x_6
  have rg_12 := i32_r x_10
  refine lv_topi (fun x_13 ex_13 => ?_)
  exact hx_reti hx hb hr hlk hW ⟨trivial, hT, hM⟩ dX8_fromCourt_31

theorem dX8_stepsBy_0 : decode cX8_stepsBy 0 = .ok (.iload_n 2, 1) := by decide +kernel
theorem dX8_stepsBy_1 : decode cX8_stepsBy 1 = .ok (.iconst (-1), 1) := by decide +kernel
theorem dX8_stepsBy_2 : decode cX8_stepsBy 2 = .ok (.if_icmp .ne 11, 3) := by decide +kernel
theorem dX8_stepsBy_5 : decode cX8_stepsBy 5 = .ok (.aload_n 0, 1) := by decide +kernel
theorem dX8_stepsBy_6 : decode cX8_stepsBy 6 = .ok (.iload_n 3, 1) := by decide +kernel
theorem dX8_stepsBy_7 : decode cX8_stepsBy 7 = .ok (.invokevirtual 35, 3) := by decide +kernel
theorem dX8_stepsBy_10 : decode cX8_stepsBy 10 = .ok (.goto 24, 3) := by decide +kernel
theorem dX8_stepsBy_13 : decode cX8_stepsBy 13 = .ok (.aload_n 0, 1) := by decide +kernel
theorem dX8_stepsBy_14 : decode cX8_stepsBy 14 = .ok (.getfield 17, 3) := by decide +kernel
theorem dX8_stepsBy_17 : decode cX8_stepsBy 17 = .ok (.iload_n 2, 1) := by decide +kernel
theorem dX8_stepsBy_18 : decode cX8_stepsBy 18 = .ok (.aaload, 1) := by decide +kernel
theorem dX8_stepsBy_19 : decode cX8_stepsBy 19 = .ok (.getfield 63, 3) := by decide +kernel
theorem dX8_stepsBy_22 : decode cX8_stepsBy 22 = .ok (.aload_n 0, 1) := by decide +kernel
theorem dX8_stepsBy_23 : decode cX8_stepsBy 23 = .ok (.getfield 17, 3) := by decide +kernel
theorem dX8_stepsBy_26 : decode cX8_stepsBy 26 = .ok (.iload_n 3, 1) := by decide +kernel
theorem dX8_stepsBy_27 : decode cX8_stepsBy 27 = .ok (.aaload, 1) := by decide +kernel
theorem dX8_stepsBy_28 : decode cX8_stepsBy 28 = .ok (.getfield 63, 3) := by decide +kernel
theorem dX8_stepsBy_31 : decode cX8_stepsBy 31 = .ok (.invokestatic 67, 3) := by decide +kernel
theorem dX8_stepsBy_34 : decode cX8_stepsBy 34 = .ok (.istore 4, 2) := by decide +kernel
theorem dX8_stepsBy_36 : decode cX8_stepsBy 36 = .ok (.iload 4, 2) := by decide +kernel
theorem dX8_stepsBy_38 : decode cX8_stepsBy 38 = .ok (.aload_n 0, 1) := by decide +kernel
theorem dX8_stepsBy_39 : decode cX8_stepsBy 39 = .ok (.getfield 21, 3) := by decide +kernel
theorem dX8_stepsBy_42 : decode cX8_stepsBy 42 = .ok (.iload_n 1, 1) := by decide +kernel
theorem dX8_stepsBy_43 : decode cX8_stepsBy 43 = .ok (.iconst 1, 1) := by decide +kernel
theorem dX8_stepsBy_44 : decode cX8_stepsBy 44 = .ok (.iload_n 3, 1) := by decide +kernel
theorem dX8_stepsBy_45 : decode cX8_stepsBy 45 = .ok (.ishl, 1) := by decide +kernel
theorem dX8_stepsBy_46 : decode cX8_stepsBy 46 = .ok (.ior, 1) := by decide +kernel
theorem dX8_stepsBy_47 : decode cX8_stepsBy 47 = .ok (.bipush 8, 2) := by decide +kernel
theorem dX8_stepsBy_49 : decode cX8_stepsBy 49 = .ok (.imul, 1) := by decide +kernel
theorem dX8_stepsBy_50 : decode cX8_stepsBy 50 = .ok (.iload_n 3, 1) := by decide +kernel
theorem dX8_stepsBy_51 : decode cX8_stepsBy 51 = .ok (.iadd, 1) := by decide +kernel
theorem dX8_stepsBy_52 : decode cX8_stepsBy 52 = .ok (.iaload, 1) := by decide +kernel
theorem dX8_stepsBy_53 : decode cX8_stepsBy 53 = .ok (.iadd, 1) := by decide +kernel
theorem dX8_stepsBy_54 : decode cX8_stepsBy 54 = .ok (.ireturn, 1) := by decide +kernel
set_option maxHeartbeats 4000000 in
set_option maxRecDepth 100000 in
theorem t_X8_stepsBy (l : Launch) (dC : Nat → ClassId) (dI : Nat → Nat → Nat) (dA : Nat → ClassId) (L : List Nat) (h : hx_h) (sz : Nat) (x : Nat) (i1 : Int32) (i2 : Int32) (i3 : Int32) (hT : hx_T T_tb L h) (gx : hx_g L h x 8) (cn : Int32) (f_x_0 : h.2.1 x 0 = cn) (hi1 : 0 ≤ i1.toInt ∧ i1.toInt ≤ 255) (hi2 : -1 ≤ i2.toInt ∧ i2.toInt < cn.toInt) (hi3 : 0 ≤ i3.toInt ∧ i3.toInt < cn.toInt) (ql : Nat) (gql : hx_g L h ql 40) (f_x_3 : h.2.2 x 3 = some ql) (pf_x_0 : ∀ j : Nat, (j : Int) < (h.2.1 x 0).toInt → h.2.2 ql j ≠ none) : Met l yX8_stepsBy (Cond.code yX8_stepsBy cX8_stepsBy 5 (some .int) :: hx_all) ({ frames := 2, cells := 0, slots := 0, locals := 43 }) (va_Pc [.ref x, .int i1, .int i2, .int i3] (hx_B T_tb (P_ty dA) (dC, dI) vwCl L h sz)) (va_Qi (fun (r : Int32) (u : List Nat × hx_h) => (True) ∧ hx_T T_tb u.1 u.2 ∧ hx_S T_tb [] L h u.1 u.2) (hx_E T_tb (P_ty dA) (dC, dI) vwCl (hx_A L sz)) (hx_A L sz)) 0 0 (hx_A L sz) := by
  refine hx_met (lv := [(0, .ref x), (1, .int i1), (2, .int i2), (3, .int i3)]) (by decide +kernel) rfl (Nat.le_of_ble_eq_true rfl) rfl ?_
  intro p e s m below meth c hx hb hml hr hlk hts0 hown hin hsz hW ls hl
  have hts : ∀ w ∈ hx_all, w.before _ s = true := fun w hw => hts0 w (List.mem_cons_of_mem _ hw)
  have hown : s.vm.findClass "SmallCourt$Walk" = some m.cls := hown
  have hM : hx_S T_tb [] L h L h := hx_S.rf
  have b_cn := hT.gi gx tt_8 (k := 0) rfl
  rw [f_x_0] at b_cn
  have b_cn : 0 ≤ cn.toInt ∧ cn.toInt ≤ 8 := b_cn
  refine lv_iload_n hx hb dX8_stepsBy_0 rfl (lv_at hl 2 rfl) ?_
  refine lv_iconst (v := -1) hx hb dX8_stepsBy_1 (by decide) ?_
  refine hb_icmp_ne (zx := i2.toInt) (zy := (-1)) (tgt := 13) hx hb rfl (by decide) dX8_stepsBy_2 (by decide) (fun c_1 => ?_) (fun c_1 => ?_)
  · skip
    refine lv_aload_n hx hb dX8_stepsBy_13 rfl (lv_at hl 0 rfl) ?_
    refine hk_getr hx hb hts hC_8 hown hW gx tt_8 3 (by decide) rfl kw_351 ⟨rfl, rfl, rfl⟩ f_x_3 dX8_stepsBy_14 ?_
    refine lv_iload_n hx hb dX8_stepsBy_17 rfl (lv_at hl 2 rfl) ?_
    refine hx_aaldN hx hb hW hT gql tt_40 (t1 := 2) rfl ⟨by omega, by omega⟩ (pf_x_0 _ (by rw [f_x_0]; exact hx_tnI (by omega) (by omega))) dX8_stepsBy_18 (fun q_2 fq_2 gq_2 => ?_)
    refine hx_getn hx hb hts hC_2 hown hW hT gq_2 tt_2 2 (by decide) rfl kw_732 ⟨rfl, rfl, rfl⟩ dX8_stepsBy_19 (fun q_3 fq_3 gq_3 => ?_)
    refine lv_aload_n hx hb dX8_stepsBy_22 rfl (lv_at hl 0 rfl) ?_
    refine hk_getr hx hb hts hC_8 hown hW gx tt_8 3 (by decide) rfl kw_351 ⟨rfl, rfl, rfl⟩ f_x_3 dX8_stepsBy_23 ?_
    refine lv_iload_n hx hb dX8_stepsBy_26 rfl (lv_at hl 3 rfl) ?_
    refine hx_aaldN hx hb hW hT gql tt_40 (t1 := 2) rfl ⟨by omega, by omega⟩ (pf_x_0 _ (by rw [f_x_0]; exact hx_tnI (by omega) (by omega))) dX8_stepsBy_27 (fun q_4 fq_4 gq_4 => ?_)
    refine hx_getn hx hb hts hC_2 hown hW hT gq_4 tt_2 2 (by decide) rfl kw_732 ⟨rfl, rfl, rfl⟩ dX8_stepsBy_28 (fun q_5 fq_5 gq_5 => ?_)
    refine hx_goi (hx_runS (As := [.ref q_3, .ref q_5]) (rest := []) ⟨hx, hb, hml, hown, hts⟩ hW (t_X8_between l dC dI dA L h s.heap.size q_3 q_5 hT gq_3 gq_5) (va_cwS 2 hts (hx_gS kw_1075 kw_1073 kw_1074 kw_102) rfl rfl rfl (by decide +kernel) ⟨Nat.le_of_ble_eq_true rfl, Nat.le_of_ble_eq_true rfl⟩) rfl hl.1 rfl (Nat.le_of_ble_eq_true rfl) dX8_stepsBy_31 ⟨Nat.le_of_ble_eq_true rfl, Nat.le_of_ble_eq_true rfl⟩) hW (fun r_8 L_6 h_7 H locs p_9 hW => ?_)
    obtain ⟨hr_10, hT, hs⟩ := p_9
    have hT : hx_T T_tb L_6 h_7 := hT
    have hs : hx_S T_tb [] L h L_6 h_7 := hs
    have f_x_3 := (hs.o gx trivial rfl).2.trans f_x_3
    have f_x_0 := (hs.o gx trivial rfl).1.trans f_x_0
    have fq_3 := (hs.o gq_2 trivial rfl).2.trans fq_3
    have fq_5 := (hs.o gq_4 trivial rfl).2.trans fq_5
    have pf_x_0 : ∀ j : Nat, (j : Int) < (h_7.2.1 x 0).toInt → h_7.2.2 ql j ≠ none := by
      intro j hj; rw [(hs.o gx trivial rfl).1] at hj; rw [(hs.a gql rfl j).2]; exact pf_x_0 j hj
    have hM := hM.tr (hs.mono (by decide))
    have gx := gx.S hs
    have gql := gql.S hs
    have gq_2 := gq_2.S hs
    have gq_3 := gq_3.S hs
    have gq_4 := gq_4.S hs
    have gq_5 := gq_5.S hs
    refine lv_istore (lv' := [(4, .int r_8), (0, .ref x), (1, .int i1), (2, .int i2), (3, .int i3)]) hx hb dX8_stepsBy_34 hl (by decide) rfl (fun ls hl => ?_)
    refine lv_iload hx hb dX8_stepsBy_36 (lv_at hl 0 rfl) ?_
    refine lv_aload_n hx hb dX8_stepsBy_38 rfl (lv_at hl 1 rfl) ?_
    refine hx_getn hx hb hts hC_8 hown hW hT gx tt_8 4 (by decide) rfl kw_352 ⟨rfl, rfl, rfl⟩ dX8_stepsBy_39 (fun q_11 fq_11 gq_11 => ?_)
    refine lv_iload_n hx hb dX8_stepsBy_42 rfl (lv_at hl 2 rfl) ?_
    refine lv_iconst (v := 1) hx hb dX8_stepsBy_43 (by decide) ?_
    refine lv_iload_n hx hb dX8_stepsBy_44 rfl (lv_at hl 4 rfl) ?_
    refine lv_ishl hx hb dX8_stepsBy_45 ?_
    refine lv_topi (fun x_12 ex_12 => ?_)
    have zx_12 : 1 ≤ x_12.toInt ∧ x_12.toInt ≤ 128 := by rw [ex_12]; exact hx_shl7 (by omega) (by omega)
    refine lv_ior hx hb dX8_stepsBy_46 ?_
    refine lv_topi (fun x_13 ex_13 => ?_)
    have zx_13 : 0 ≤ x_13.toInt ∧ x_13.toInt ≤ 255 := by rw [ex_13]; exact hx_or8 (by omega) (by omega) (by omega) (by omega)
    refine lv_bipush (v := 8) hx hb dX8_stepsBy_47 (by decide) ?_
    refine lv_imul hx hb dX8_stepsBy_49 ?_
    refine lv_topi (fun x_14 ex_14 => ?_)
    have zx_14 : x_14.toInt = x_13.toInt * 8 := by rw [ex_14]; exact i32_mul rfl (by decide) rfl (by omega) (by omega)
    refine lv_iload_n hx hb dX8_stepsBy_50 rfl (lv_at hl 4 rfl) ?_
    refine lv_iadd hx hb dX8_stepsBy_51 ?_
    have rg_15 := i32_r x_14
    have rg_16 := i32_r i3
    refine lv_topi (fun x_17 ex_17 => ?_)
    have zx_17 : x_17.toInt = x_14.toInt + i3.toInt := by rw [ex_17]; exact i32_add rfl rfl (by omega) (by omega)
    refine hx_iald hx hb hW hT gq_11 tt_41 rfl ⟨by omega, by omega⟩ dX8_stepsBy_52 (fun x_18 ex_18 lx_18 ux_18 => ?_)
    refine lv_iadd hx hb dX8_stepsBy_53 ?_
    have rg_19 := i32_r r_8
    have rg_20 := i32_r x_18
    refine lv_topi (fun x_21 ex_21 => ?_)
    exact hx_reti hx hb hr hlk hW ⟨trivial, hT, hM⟩ dX8_stepsBy_54
  · skip
    refine lv_aload_n hx hb dX8_stepsBy_5 rfl (lv_at hl 0 rfl) ?_
    refine lv_iload_n hx hb dX8_stepsBy_6 rfl (lv_at hl 3 rfl) ?_
    refine hx_goi (hx_runV (As := [.int i3]) (rest := []) ⟨hx, hb, hml, hown, hts⟩ hW gx tt_8 (T := TX8) (N := 5) rfl (t_X8_fromCourt l dC dI dA L h s.heap.size x i3 hT gx cn f_x_0 ⟨by omega, by omega⟩ ql gql f_x_3 pf_x_0) (cwV 1 hts (hx_gV kw_1062 kw_1059 kw_1061 kw_42 kw_102) rfl rfl rfl (by decide +kernel) ⟨Nat.le_of_ble_eq_true rfl, Nat.le_of_ble_eq_true rfl⟩) rfl hl.1 rfl (Nat.le_of_ble_eq_true rfl) dX8_stepsBy_7 ⟨Nat.le_of_ble_eq_true rfl, Nat.le_of_ble_eq_true rfl⟩) hW (fun r_24 L_22 h_23 H locs p_25 hW => ?_)
    obtain ⟨hr_26, hT, hs⟩ := p_25
    have hT : hx_T T_tb L_22 h_23 := hT
    have hs : hx_S T_tb [] L h L_22 h_23 := hs
    have f_x_3 := (hs.o gx trivial rfl).2.trans f_x_3
    have f_x_0 := (hs.o gx trivial rfl).1.trans f_x_0
    have pf_x_0 : ∀ j : Nat, (j : Int) < (h_23.2.1 x 0).toInt → h_23.2.2 ql j ≠ none := by
      intro j hj; rw [(hs.o gx trivial rfl).1] at hj; rw [(hs.a gql rfl j).2]; exact pf_x_0 j hj
    have hM := hM.tr (hs.mono (by decide))
    have gx := gx.S hs
    have gql := gql.S hs
    refine lv_goto (tgt := 34) hx hb dX8_stepsBy_10 (by decide) ?_
    refine lv_istore (lv' := [(4, .int r_24), (0, .ref x), (1, .int i1), (2, .int i2), (3, .int i3)]) hx hb dX8_stepsBy_34 hl (by decide) rfl (fun ls hl => ?_)
    refine lv_iload hx hb dX8_stepsBy_36 (lv_at hl 0 rfl) ?_
    refine lv_aload_n hx hb dX8_stepsBy_38 rfl (lv_at hl 1 rfl) ?_
    refine hx_getn hx hb hts hC_8 hown hW hT gx tt_8 4 (by decide) rfl kw_352 ⟨rfl, rfl, rfl⟩ dX8_stepsBy_39 (fun q_27 fq_27 gq_27 => ?_)
    refine lv_iload_n hx hb dX8_stepsBy_42 rfl (lv_at hl 2 rfl) ?_
    refine lv_iconst (v := 1) hx hb dX8_stepsBy_43 (by decide) ?_
    refine lv_iload_n hx hb dX8_stepsBy_44 rfl (lv_at hl 4 rfl) ?_
    refine lv_ishl hx hb dX8_stepsBy_45 ?_
    refine lv_topi (fun x_28 ex_28 => ?_)
    have zx_28 : 1 ≤ x_28.toInt ∧ x_28.toInt ≤ 128 := by rw [ex_28]; exact hx_shl7 (by omega) (by omega)
    refine lv_ior hx hb dX8_stepsBy_46 ?_
    refine lv_topi (fun x_29 ex_29 => ?_)
    have zx_29 : 0 ≤ x_29.toInt ∧ x_29.toInt ≤ 255 := by rw [ex_29]; exact hx_or8 (by omega) (by omega) (by omega) (by omega)
    refine lv_bipush (v := 8) hx hb dX8_stepsBy_47 (by decide) ?_
    refine lv_imul hx hb dX8_stepsBy_49 ?_
    refine lv_topi (fun x_30 ex_30 => ?_)
    have zx_30 : x_30.toInt = x_29.toInt * 8 := by rw [ex_30]; exact i32_mul rfl (by decide) rfl (by omega) (by omega)
    refine lv_iload_n hx hb dX8_stepsBy_50 rfl (lv_at hl 4 rfl) ?_
    refine lv_iadd hx hb dX8_stepsBy_51 ?_
    have rg_31 := i32_r x_30
    have rg_32 := i32_r i3
    refine lv_topi (fun x_33 ex_33 => ?_)
    have zx_33 : x_33.toInt = x_30.toInt + i3.toInt := by rw [ex_33]; exact i32_add rfl rfl (by omega) (by omega)
    refine hx_iald hx hb hW hT gq_27 tt_41 rfl ⟨by omega, by omega⟩ dX8_stepsBy_52 (fun x_34 ex_34 lx_34 ux_34 => ?_)
    refine lv_iadd hx hb dX8_stepsBy_53 ?_
    have rg_35 := i32_r r_24
    have rg_36 := i32_r x_34
    refine lv_topi (fun x_37 ex_37 => ?_)
    exact hx_reti hx hb hr hlk hW ⟨trivial, hT, hM⟩ dX8_stepsBy_54

theorem dX8_leastOn_0 : decode cX8_leastOn 0 = .ok (.ldc 50, 2) := by decide +kernel
theorem dX8_leastOn_2 : decode cX8_leastOn 2 = .ok (.istore_n 3, 1) := by decide +kernel
theorem dX8_leastOn_3 : decode cX8_leastOn 3 = .ok (.iconst 0, 1) := by decide +kernel
theorem dX8_leastOn_4 : decode cX8_leastOn 4 = .ok (.istore 4, 2) := by decide +kernel
theorem dX8_leastOn_6 : decode cX8_leastOn 6 = .ok (.iload 4, 2) := by decide +kernel
theorem dX8_leastOn_8 : decode cX8_leastOn 8 = .ok (.aload_n 0, 1) := by decide +kernel
theorem dX8_leastOn_9 : decode cX8_leastOn 9 = .ok (.getfield 24, 3) := by decide +kernel
theorem dX8_leastOn_12 : decode cX8_leastOn 12 = .ok (.if_icmp .ge 31, 3) := by decide +kernel
theorem dX8_leastOn_15 : decode cX8_leastOn 15 = .ok (.iload 4, 2) := by decide +kernel
theorem dX8_leastOn_17 : decode cX8_leastOn 17 = .ok (.iload_n 1, 1) := by decide +kernel
theorem dX8_leastOn_18 : decode cX8_leastOn 18 = .ok (.invokestatic 31, 3) := by decide +kernel
theorem dX8_leastOn_21 : decode cX8_leastOn 21 = .ok (.ifCond .ne 16, 3) := by decide +kernel
theorem dX8_leastOn_24 : decode cX8_leastOn 24 = .ok (.iload_n 3, 1) := by decide +kernel
theorem dX8_leastOn_25 : decode cX8_leastOn 25 = .ok (.aload_n 0, 1) := by decide +kernel
theorem dX8_leastOn_26 : decode cX8_leastOn 26 = .ok (.iload_n 1, 1) := by decide +kernel
theorem dX8_leastOn_27 : decode cX8_leastOn 27 = .ok (.iload_n 2, 1) := by decide +kernel
theorem dX8_leastOn_28 : decode cX8_leastOn 28 = .ok (.iload 4, 2) := by decide +kernel
theorem dX8_leastOn_30 : decode cX8_leastOn 30 = .ok (.invokevirtual 51, 3) := by decide +kernel
theorem dX8_leastOn_33 : decode cX8_leastOn 33 = .ok (.invokestatic 55, 3) := by decide +kernel
theorem dX8_leastOn_36 : decode cX8_leastOn 36 = .ok (.istore_n 3, 1) := by decide +kernel
theorem dX8_leastOn_37 : decode cX8_leastOn 37 = .ok (.iinc 4 1, 3) := by decide +kernel
theorem dX8_leastOn_40 : decode cX8_leastOn 40 = .ok (.goto (-34), 3) := by decide +kernel
theorem dX8_leastOn_43 : decode cX8_leastOn 43 = .ok (.iload_n 3, 1) := by decide +kernel
theorem dX8_leastOn_44 : decode cX8_leastOn 44 = .ok (.ireturn, 1) := by decide +kernel
set_option maxHeartbeats 4000000 in
set_option maxRecDepth 100000 in
theorem t_X8_leastOn (l : Launch) (dC : Nat → ClassId) (dI : Nat → Nat → Nat) (dA : Nat → ClassId) (L : List Nat) (h : hx_h) (sz : Nat) (x : Nat) (i1 : Int32) (i2 : Int32) (hT : hx_T T_tb L h) (gx : hx_g L h x 8) (cn : Int32) (f_x_0 : h.2.1 x 0 = cn) (hi1 : 0 ≤ i1.toInt ∧ i1.toInt ≤ 255) (hi2 : -1 ≤ i2.toInt ∧ i2.toInt < cn.toInt) (ql : Nat) (gql : hx_g L h ql 40) (f_x_3 : h.2.2 x 3 = some ql) (pf_x_0 : ∀ j : Nat, (j : Int) < (h.2.1 x 0).toInt → h.2.2 ql j ≠ none) : Met l yX8_leastOn (Cond.code yX8_leastOn cX8_leastOn 5 (some .int) :: hx_all) ({ frames := 3, cells := 0, slots := 0, locals := 67 }) (va_Pc [.ref x, .int i1, .int i2] (hx_B T_tb (P_ty dA) (dC, dI) vwCl L h sz)) (va_Qi (fun (r : Int32) (u : List Nat × hx_h) => (True) ∧ hx_T T_tb u.1 u.2 ∧ hx_S T_tb [] L h u.1 u.2) (hx_E T_tb (P_ty dA) (dC, dI) vwCl (hx_A L sz)) (hx_A L sz)) 0 0 (hx_A L sz) := by
  refine hx_met (lv := [(0, .ref x), (1, .int i1), (2, .int i2)]) (by decide +kernel) rfl (Nat.le_of_ble_eq_true rfl) rfl ?_
  intro p e s m below meth c hx hb hml hr hlk hts0 hown hin hsz hW ls hl
  have hts : ∀ w ∈ hx_all, w.before _ s = true := fun w hw => hts0 w (List.mem_cons_of_mem _ hw)
  have hown : s.vm.findClass "SmallCourt$Walk" = some m.cls := hown
  have hM : hx_S T_tb [] L h L h := hx_S.rf
  have b_cn := hT.gi gx tt_8 (k := 0) rfl
  rw [f_x_0] at b_cn
  have b_cn : 0 ≤ cn.toInt ∧ cn.toInt ≤ 8 := b_cn
  refine lv_ldc (v := 1000000000) hx hb hown (hts _ kw_1068) dX8_leastOn_0 ?_
  refine lv_istore_n (lv' := [(3, .int (1000000000 : Int32)), (0, .ref x), (1, .int i1), (2, .int i2)]) hx hb dX8_leastOn_2 rfl hl (by decide) rfl (fun ls hl => ?_)
  refine lv_iconst (v := 0) hx hb dX8_leastOn_3 (by decide) ?_
  refine lv_istore (lv' := [(4, .int (0 : Int32)), (3, .int (1000000000 : Int32)), (0, .ref x), (1, .int i1), (2, .int i2)]) hx hb dX8_leastOn_4 hl (by decide) rfl (fun ls hl => ?_)
  have loop6 : ∀ (n6 : Nat) (iv6_4 iv6_3 : Int32) (H : Heap) (locs : List Loc) (hL1 : List Nat) (hl1 : hx_h) (ls : Array Slot), 0 ≤ iv6_4.toInt → iv6_4.toInt ≤ 8 → 8 < iv6_4.toInt + n6 → hx_W T_tb (P_ty dA) (dC, dI) vwCl (hx_A L sz) s.heap hL1 hl1 s H locs → hx_T T_tb hL1 hl1 → hx_S T_tb [] L h hL1 hl1 → hl1.2.2 x 3 = some ql → hl1.2.1 x 0 = cn → hx_g hL1 hl1 x 8 → hx_g hL1 hl1 ql 40 → (∀ j : Nat, (j : Int) < (hl1.2.1 x 0).toInt → hl1.2.2 ql j ≠ none) → lv_has ls 5 [(4, .int iv6_4), (3, .int iv6_3), (0, .ref x), (1, .int i1), (2, .int i2)] → W p l e ({ frames := 3, cells := 0, slots := 0, locals := 67 }) s m ([.ref x, .int i1, .int i2] : List Value).toArray below meth c H locs 0 0 (MQ below (va_Qi (fun (r : Int32) (u : List Nat × hx_h) => (True) ∧ hx_T T_tb u.1 u.2 ∧ hx_S T_tb [] L h u.1 u.2) (hx_E T_tb (P_ty dA) (dC, dI) vwCl (hx_A L sz)) (hx_A L sz)) ([.ref x, .int i1, .int i2] : List Value).toArray s 0 0 (hx_A L sz)) (F0 m 6 ls []) := by
    intro n6
    induction n6 with
    | zero => intro iv6_4 iv6_3 H locs hL1 hl1 ls bl6_4 bu6_4 hn6; exfalso; omega
    | succ n6 ih6 =>
      intro iv6_4 iv6_3 H locs hL1 hl1 ls bl6_4 bu6_4 hn6 hW hT hM f_x_3 f_x_0 gx gql pf_x_0 hl
      refine lv_iload hx hb dX8_leastOn_6 (lv_at hl 0 rfl) ?_
      refine lv_aload_n hx hb dX8_leastOn_8 rfl (lv_at hl 2 rfl) ?_
      refine hk_geti hx hb hts hC_8 hown hW gx tt_8 0 (by decide) rfl kw_345 ⟨rfl, rfl, rfl⟩ f_x_0 dX8_leastOn_9 ?_
      refine hb_icmp_ge (zx := iv6_4.toInt) (zy := cn.toInt) (tgt := 43) hx hb rfl rfl dX8_leastOn_12 (by decide) (fun c_1 => ?_) (fun c_1 => ?_)
      · skip
        refine lv_iload_n hx hb dX8_leastOn_43 rfl (lv_at hl 1 rfl) ?_
        exact hx_reti hx hb hr hlk hW ⟨trivial, hT, hM⟩ dX8_leastOn_44
      · skip
        refine lv_iload hx hb dX8_leastOn_15 (lv_at hl 0 rfl) ?_
        refine lv_iload_n hx hb dX8_leastOn_17 rfl (lv_at hl 3 rfl) ?_
        refine hx_goi (hx_runS (As := [.int iv6_4, .int i1]) (rest := []) ⟨hx, hb, hml, hown, hts⟩ hW (t_X8_isIn l dC dI dA hL1 hl1 H.size iv6_4 i1 hT) (va_cwS 2 hts (hx_gS kw_1058 kw_1056 kw_1057 kw_102) rfl rfl rfl (by decide +kernel) ⟨Nat.le_of_ble_eq_true rfl, Nat.le_of_ble_eq_true rfl⟩) rfl hl.1 rfl (Nat.le_of_ble_eq_true rfl) dX8_leastOn_18 ⟨Nat.le_of_ble_eq_true rfl, Nat.le_of_ble_eq_true rfl⟩) hW (fun r_4 L_2 h_3 H locs p_5 hW => ?_)
        obtain ⟨hr_6, hT, hs⟩ := p_5
        have hT : hx_T T_tb L_2 h_3 := hT
        have hs : hx_S T_tb [] hL1 hl1 L_2 h_3 := hs
        have f_x_3 := (hs.o gx trivial rfl).2.trans f_x_3
        have f_x_0 := (hs.o gx trivial rfl).1.trans f_x_0
        have pf_x_0 : ∀ j : Nat, (j : Int) < (h_3.2.1 x 0).toInt → h_3.2.2 ql j ≠ none := by
          intro j hj; rw [(hs.o gx trivial rfl).1] at hj; rw [(hs.a gql rfl j).2]; exact pf_x_0 j hj
        have hM := hM.tr (hs.mono (by decide))
        have gx := gx.S hs
        have gql := gql.S hs
        refine hb_if_ne (zx := r_4.toInt) (tgt := 37) hx hb rfl dX8_leastOn_21 (by decide) (fun c_7 => ?_) (fun c_7 => ?_)
        · skip
          obtain ⟨x_8, ex_8⟩ : ∃ y : Int32, y = iv6_4 + Int32.ofInt 1 := ⟨_, rfl⟩
          have rg_9 := i32_r iv6_4
          have zx_8 : x_8.toInt = iv6_4.toInt + (1) := by rw [ex_8]; exact i32_add rfl (by decide) (by omega) (by omega)
          refine lv_iinc (v := x_8) (lv' := [(4, .int x_8), (3, .int iv6_3), (0, .ref x), (1, .int i1), (2, .int i2)]) hx hb dX8_leastOn_37 hl (k := 0) rfl ex_8.symm (by decide) rfl (fun ls hl => ?_)
          refine lv_goto (tgt := 6) hx hb dX8_leastOn_40 (by decide) ?_
          exact ih6 x_8 iv6_3 _ _ L_2 h_3 ls (by omega) (by omega) (by omega) hW hT hM f_x_3 f_x_0 gx gql pf_x_0 (lv_sub hl [0, 1, 2, 3, 4] rfl)
        · skip
          refine lv_iload_n hx hb dX8_leastOn_24 rfl (lv_at hl 1 rfl) ?_
          refine lv_aload_n hx hb dX8_leastOn_25 rfl (lv_at hl 2 rfl) ?_
          refine lv_iload_n hx hb dX8_leastOn_26 rfl (lv_at hl 3 rfl) ?_
          refine lv_iload_n hx hb dX8_leastOn_27 rfl (lv_at hl 4 rfl) ?_
          refine lv_iload hx hb dX8_leastOn_28 (lv_at hl 0 rfl) ?_
          refine hx_goi (hx_runV (As := [.int i1, .int i2, .int iv6_4]) (rest := [.int iv6_3]) ⟨hx, hb, hml, hown, hts⟩ hW gx tt_8 (T := TX8) (N := 5) rfl (t_X8_stepsBy l dC dI dA L_2 h_3 H.size x i1 i2 iv6_4 hT gx cn f_x_0 ⟨by omega, by omega⟩ ⟨by omega, by omega⟩ ⟨by omega, by omega⟩ ql gql f_x_3 pf_x_0) (cwV 3 hts (hx_gV kw_1072 kw_1069 kw_1071 kw_44 kw_102) rfl rfl rfl (by decide +kernel) ⟨Nat.le_of_ble_eq_true rfl, Nat.le_of_ble_eq_true rfl⟩) rfl hl.1 rfl (Nat.le_of_ble_eq_true rfl) dX8_leastOn_30 ⟨Nat.le_of_ble_eq_true rfl, Nat.le_of_ble_eq_true rfl⟩) hW (fun r_12 L_10 h_11 H locs p_13 hW => ?_)
          obtain ⟨hr_14, hT, hs⟩ := p_13
          have hT : hx_T T_tb L_10 h_11 := hT
          have hs : hx_S T_tb [] L_2 h_3 L_10 h_11 := hs
          have f_x_3 := (hs.o gx trivial rfl).2.trans f_x_3
          have f_x_0 := (hs.o gx trivial rfl).1.trans f_x_0
          have pf_x_0 : ∀ j : Nat, (j : Int) < (h_11.2.1 x 0).toInt → h_11.2.2 ql j ≠ none := by
            intro j hj; rw [(hs.o gx trivial rfl).1] at hj; rw [(hs.a gql rfl j).2]; exact pf_x_0 j hj
          have hM := hM.tr (hs.mono (by decide))
          have gx := gx.S hs
          have gql := gql.S hs
          refine va_mmin hx hb (hml.trans hl.1.symm) hown (hts _ kw_1076) (hts _ kw_917) (hts _ kw_109) (hts _ kw_918) (Nat.le_of_ble_eq_true rfl) (Nat.le_of_ble_eq_true rfl) (Nat.le_of_ble_eq_true rfl) (Nat.le_of_ble_eq_true rfl) dX8_leastOn_33 ?_
          refine lv_topi (fun x_15 ex_15 => ?_)
          refine lv_istore_n (lv' := [(3, .int x_15), (4, .int iv6_4), (0, .ref x), (1, .int i1), (2, .int i2)]) hx hb dX8_leastOn_36 rfl hl (by decide) rfl (fun ls hl => ?_)
          obtain ⟨x_16, ex_16⟩ : ∃ y : Int32, y = iv6_4 + Int32.ofInt 1 := ⟨_, rfl⟩
          have rg_17 := i32_r iv6_4
          have zx_16 : x_16.toInt = iv6_4.toInt + (1) := by rw [ex_16]; exact i32_add rfl (by decide) (by omega) (by omega)
          refine lv_iinc (v := x_16) (lv' := [(4, .int x_16), (3, .int x_15), (0, .ref x), (1, .int i1), (2, .int i2)]) hx hb dX8_leastOn_37 hl (k := 1) rfl ex_16.symm (by decide) rfl (fun ls hl => ?_)
          refine lv_goto (tgt := 6) hx hb dX8_leastOn_40 (by decide) ?_
          exact ih6 x_16 x_15 _ _ L_10 h_11 ls (by omega) (by omega) (by omega) hW hT hM f_x_3 f_x_0 gx gql pf_x_0 (lv_sub hl [0, 1, 2, 3, 4] rfl)
  exact loop6 9 (0 : Int32) (1000000000 : Int32) _ _ L h ls (by decide) (by decide) (by decide) hW hT hM f_x_3 f_x_0 gx gql pf_x_0 hl

theorem dX8_firstOnWay_0 : decode cX8_firstOnWay 0 = .ok (.iconst 0, 1) := by decide +kernel
theorem dX8_firstOnWay_1 : decode cX8_firstOnWay 1 = .ok (.istore 4, 2) := by decide +kernel
theorem dX8_firstOnWay_3 : decode cX8_firstOnWay 3 = .ok (.iload 4, 2) := by decide +kernel
theorem dX8_firstOnWay_5 : decode cX8_firstOnWay 5 = .ok (.aload_n 0, 1) := by decide +kernel
theorem dX8_firstOnWay_6 : decode cX8_firstOnWay 6 = .ok (.getfield 24, 3) := by decide +kernel
theorem dX8_firstOnWay_9 : decode cX8_firstOnWay 9 = .ok (.if_icmp .ge 33, 3) := by decide +kernel
theorem dX8_firstOnWay_12 : decode cX8_firstOnWay 12 = .ok (.iload 4, 2) := by decide +kernel
theorem dX8_firstOnWay_14 : decode cX8_firstOnWay 14 = .ok (.iload_n 1, 1) := by decide +kernel
theorem dX8_firstOnWay_15 : decode cX8_firstOnWay 15 = .ok (.invokestatic 31, 3) := by decide +kernel
theorem dX8_firstOnWay_18 : decode cX8_firstOnWay 18 = .ok (.ifCond .ne 18, 3) := by decide +kernel
theorem dX8_firstOnWay_21 : decode cX8_firstOnWay 21 = .ok (.aload_n 0, 1) := by decide +kernel
theorem dX8_firstOnWay_22 : decode cX8_firstOnWay 22 = .ok (.iload_n 1, 1) := by decide +kernel
theorem dX8_firstOnWay_23 : decode cX8_firstOnWay 23 = .ok (.iload_n 2, 1) := by decide +kernel
theorem dX8_firstOnWay_24 : decode cX8_firstOnWay 24 = .ok (.iload 4, 2) := by decide +kernel
theorem dX8_firstOnWay_26 : decode cX8_firstOnWay 26 = .ok (.invokevirtual 51, 3) := by decide +kernel
theorem dX8_firstOnWay_29 : decode cX8_firstOnWay 29 = .ok (.iload_n 3, 1) := by decide +kernel
theorem dX8_firstOnWay_30 : decode cX8_firstOnWay 30 = .ok (.if_icmp .ne 6, 3) := by decide +kernel
theorem dX8_firstOnWay_33 : decode cX8_firstOnWay 33 = .ok (.iload 4, 2) := by decide +kernel
theorem dX8_firstOnWay_35 : decode cX8_firstOnWay 35 = .ok (.ireturn, 1) := by decide +kernel
theorem dX8_firstOnWay_36 : decode cX8_firstOnWay 36 = .ok (.iinc 4 1, 3) := by decide +kernel
theorem dX8_firstOnWay_39 : decode cX8_firstOnWay 39 = .ok (.goto (-36), 3) := by decide +kernel
theorem dX8_firstOnWay_42 : decode cX8_firstOnWay 42 = .ok (.iconst 0, 1) := by decide +kernel
theorem dX8_firstOnWay_43 : decode cX8_firstOnWay 43 = .ok (.ireturn, 1) := by decide +kernel
set_option maxHeartbeats 4000000 in
set_option maxRecDepth 100000 in
theorem t_X8_firstOnWay (l : Launch) (dC : Nat → ClassId) (dI : Nat → Nat → Nat) (dA : Nat → ClassId) (L : List Nat) (h : hx_h) (sz : Nat) (x : Nat) (i1 : Int32) (i2 : Int32) (i3 : Int32) (hT : hx_T T_tb L h) (gx : hx_g L h x 8) (cn : Int32) (f_x_0 : h.2.1 x 0 = cn) (hi1 : 0 ≤ i1.toInt ∧ i1.toInt ≤ 255) (hi2 : -1 ≤ i2.toInt ∧ i2.toInt < cn.toInt) (ql : Nat) (gql : hx_g L h ql 40) (f_x_3 : h.2.2 x 3 = some ql) (pf_x_0 : ∀ j : Nat, (j : Int) < (h.2.1 x 0).toInt → h.2.2 ql j ≠ none) : Met l yX8_firstOnWay (Cond.code yX8_firstOnWay cX8_firstOnWay 5 (some .int) :: hx_all) ({ frames := 3, cells := 0, slots := 0, locals := 67 }) (va_Pc [.ref x, .int i1, .int i2, .int i3] (hx_B T_tb (P_ty dA) (dC, dI) vwCl L h sz)) (va_Qi (fun (r : Int32) (u : List Nat × hx_h) => (0 ≤ r.toInt ∧ r.toInt ≤ 7 ∧ (0 < cn.toInt → r.toInt < cn.toInt)) ∧ hx_T T_tb u.1 u.2 ∧ hx_S T_tb [] L h u.1 u.2) (hx_E T_tb (P_ty dA) (dC, dI) vwCl (hx_A L sz)) (hx_A L sz)) 0 0 (hx_A L sz) := by
  refine hx_met (lv := [(0, .ref x), (1, .int i1), (2, .int i2), (3, .int i3)]) (by decide +kernel) rfl (Nat.le_of_ble_eq_true rfl) rfl ?_
  intro p e s m below meth c hx hb hml hr hlk hts0 hown hin hsz hW ls hl
  have hts : ∀ w ∈ hx_all, w.before _ s = true := fun w hw => hts0 w (List.mem_cons_of_mem _ hw)
  have hown : s.vm.findClass "SmallCourt$Walk" = some m.cls := hown
  have hM : hx_S T_tb [] L h L h := hx_S.rf
  have b_cn := hT.gi gx tt_8 (k := 0) rfl
  rw [f_x_0] at b_cn
  have b_cn : 0 ≤ cn.toInt ∧ cn.toInt ≤ 8 := b_cn
  refine lv_iconst (v := 0) hx hb dX8_firstOnWay_0 (by decide) ?_
  refine lv_istore (lv' := [(4, .int (0 : Int32)), (0, .ref x), (1, .int i1), (2, .int i2), (3, .int i3)]) hx hb dX8_firstOnWay_1 hl (by decide) rfl (fun ls hl => ?_)
  have loop3 : ∀ (n3 : Nat) (iv3_4 : Int32) (H : Heap) (locs : List Loc) (hL1 : List Nat) (hl1 : hx_h) (ls : Array Slot), 0 ≤ iv3_4.toInt → iv3_4.toInt ≤ 8 → 8 < iv3_4.toInt + n3 → hx_W T_tb (P_ty dA) (dC, dI) vwCl (hx_A L sz) s.heap hL1 hl1 s H locs → hx_T T_tb hL1 hl1 → hx_S T_tb [] L h hL1 hl1 → hl1.2.2 x 3 = some ql → hl1.2.1 x 0 = cn → hx_g hL1 hl1 x 8 → hx_g hL1 hl1 ql 40 → (∀ j : Nat, (j : Int) < (hl1.2.1 x 0).toInt → hl1.2.2 ql j ≠ none) → lv_has ls 5 [(4, .int iv3_4), (0, .ref x), (1, .int i1), (2, .int i2), (3, .int i3)] → W p l e ({ frames := 3, cells := 0, slots := 0, locals := 67 }) s m ([.ref x, .int i1, .int i2, .int i3] : List Value).toArray below meth c H locs 0 0 (MQ below (va_Qi (fun (r : Int32) (u : List Nat × hx_h) => (0 ≤ r.toInt ∧ r.toInt ≤ 7 ∧ (0 < cn.toInt → r.toInt < cn.toInt)) ∧ hx_T T_tb u.1 u.2 ∧ hx_S T_tb [] L h u.1 u.2) (hx_E T_tb (P_ty dA) (dC, dI) vwCl (hx_A L sz)) (hx_A L sz)) ([.ref x, .int i1, .int i2, .int i3] : List Value).toArray s 0 0 (hx_A L sz)) (F0 m 3 ls []) := by
    intro n3
    induction n3 with
    | zero => intro iv3_4 H locs hL1 hl1 ls bl3_4 bu3_4 hn3; exfalso; omega
    | succ n3 ih3 =>
      intro iv3_4 H locs hL1 hl1 ls bl3_4 bu3_4 hn3 hW hT hM f_x_3 f_x_0 gx gql pf_x_0 hl
      refine lv_iload hx hb dX8_firstOnWay_3 (lv_at hl 0 rfl) ?_
      refine lv_aload_n hx hb dX8_firstOnWay_5 rfl (lv_at hl 1 rfl) ?_
      refine hk_geti hx hb hts hC_8 hown hW gx tt_8 0 (by decide) rfl kw_345 ⟨rfl, rfl, rfl⟩ f_x_0 dX8_firstOnWay_6 ?_
      refine hb_icmp_ge (zx := iv3_4.toInt) (zy := cn.toInt) (tgt := 42) hx hb rfl rfl dX8_firstOnWay_9 (by decide) (fun c_1 => ?_) (fun c_1 => ?_)
      · skip
        refine lv_iconst (v := 0) hx hb dX8_firstOnWay_42 (by decide) ?_
        exact hx_reti hx hb hr hlk hW ⟨(by have zr : (0 : Int32).toInt = 0 := (by decide); refine ⟨?_, ?_, ?_⟩ <;> omega), hT, hM⟩ dX8_firstOnWay_43
      · skip
        refine lv_iload hx hb dX8_firstOnWay_12 (lv_at hl 0 rfl) ?_
        refine lv_iload_n hx hb dX8_firstOnWay_14 rfl (lv_at hl 2 rfl) ?_
        refine hx_goi (hx_runS (As := [.int iv3_4, .int i1]) (rest := []) ⟨hx, hb, hml, hown, hts⟩ hW (t_X8_isIn l dC dI dA hL1 hl1 H.size iv3_4 i1 hT) (va_cwS 2 hts (hx_gS kw_1058 kw_1056 kw_1057 kw_102) rfl rfl rfl (by decide +kernel) ⟨Nat.le_of_ble_eq_true rfl, Nat.le_of_ble_eq_true rfl⟩) rfl hl.1 rfl (Nat.le_of_ble_eq_true rfl) dX8_firstOnWay_15 ⟨Nat.le_of_ble_eq_true rfl, Nat.le_of_ble_eq_true rfl⟩) hW (fun r_4 L_2 h_3 H locs p_5 hW => ?_)
        obtain ⟨hr_6, hT, hs⟩ := p_5
        have hT : hx_T T_tb L_2 h_3 := hT
        have hs : hx_S T_tb [] hL1 hl1 L_2 h_3 := hs
        have f_x_3 := (hs.o gx trivial rfl).2.trans f_x_3
        have f_x_0 := (hs.o gx trivial rfl).1.trans f_x_0
        have pf_x_0 : ∀ j : Nat, (j : Int) < (h_3.2.1 x 0).toInt → h_3.2.2 ql j ≠ none := by
          intro j hj; rw [(hs.o gx trivial rfl).1] at hj; rw [(hs.a gql rfl j).2]; exact pf_x_0 j hj
        have hM := hM.tr (hs.mono (by decide))
        have gx := gx.S hs
        have gql := gql.S hs
        refine hb_if_ne (zx := r_4.toInt) (tgt := 36) hx hb rfl dX8_firstOnWay_18 (by decide) (fun c_7 => ?_) (fun c_7 => ?_)
        · skip
          obtain ⟨x_8, ex_8⟩ : ∃ y : Int32, y = iv3_4 + Int32.ofInt 1 := ⟨_, rfl⟩
          have rg_9 := i32_r iv3_4
          have zx_8 : x_8.toInt = iv3_4.toInt + (1) := by rw [ex_8]; exact i32_add rfl (by decide) (by omega) (by omega)
          refine lv_iinc (v := x_8) (lv' := [(4, .int x_8), (0, .ref x), (1, .int i1), (2, .int i2), (3, .int i3)]) hx hb dX8_firstOnWay_36 hl (k := 0) rfl ex_8.symm (by decide) rfl (fun ls hl => ?_)
          refine lv_goto (tgt := 3) hx hb dX8_firstOnWay_39 (by decide) ?_
          exact ih3 x_8 _ _ L_2 h_3 ls (by omega) (by omega) (by omega) hW hT hM f_x_3 f_x_0 gx gql pf_x_0 (lv_sub hl [0, 1, 2, 3, 4] rfl)
        · skip
          refine lv_aload_n hx hb dX8_firstOnWay_21 rfl (lv_at hl 1 rfl) ?_
          refine lv_iload_n hx hb dX8_firstOnWay_22 rfl (lv_at hl 2 rfl) ?_
          refine lv_iload_n hx hb dX8_firstOnWay_23 rfl (lv_at hl 3 rfl) ?_
          refine lv_iload hx hb dX8_firstOnWay_24 (lv_at hl 0 rfl) ?_
          refine hx_goi (hx_runV (As := [.int i1, .int i2, .int iv3_4]) (rest := []) ⟨hx, hb, hml, hown, hts⟩ hW gx tt_8 (T := TX8) (N := 5) rfl (t_X8_stepsBy l dC dI dA L_2 h_3 H.size x i1 i2 iv3_4 hT gx cn f_x_0 ⟨by omega, by omega⟩ ⟨by omega, by omega⟩ ⟨by omega, by omega⟩ ql gql f_x_3 pf_x_0) (cwV 3 hts (hx_gV kw_1072 kw_1069 kw_1071 kw_44 kw_102) rfl rfl rfl (by decide +kernel) ⟨Nat.le_of_ble_eq_true rfl, Nat.le_of_ble_eq_true rfl⟩) rfl hl.1 rfl (Nat.le_of_ble_eq_true rfl) dX8_firstOnWay_26 ⟨Nat.le_of_ble_eq_true rfl, Nat.le_of_ble_eq_true rfl⟩) hW (fun r_12 L_10 h_11 H locs p_13 hW => ?_)
          obtain ⟨hr_14, hT, hs⟩ := p_13
          have hT : hx_T T_tb L_10 h_11 := hT
          have hs : hx_S T_tb [] L_2 h_3 L_10 h_11 := hs
          have f_x_3 := (hs.o gx trivial rfl).2.trans f_x_3
          have f_x_0 := (hs.o gx trivial rfl).1.trans f_x_0
          have pf_x_0 : ∀ j : Nat, (j : Int) < (h_11.2.1 x 0).toInt → h_11.2.2 ql j ≠ none := by
            intro j hj; rw [(hs.o gx trivial rfl).1] at hj; rw [(hs.a gql rfl j).2]; exact pf_x_0 j hj
          have hM := hM.tr (hs.mono (by decide))
          have gx := gx.S hs
          have gql := gql.S hs
          refine lv_iload_n hx hb dX8_firstOnWay_29 rfl (lv_at hl 4 rfl) ?_
          refine hb_icmp_ne (zx := r_12.toInt) (zy := i3.toInt) (tgt := 36) hx hb rfl rfl dX8_firstOnWay_30 (by decide) (fun c_15 => ?_) (fun c_15 => ?_)
          · skip
            obtain ⟨x_16, ex_16⟩ : ∃ y : Int32, y = iv3_4 + Int32.ofInt 1 := ⟨_, rfl⟩
            have rg_17 := i32_r iv3_4
            have zx_16 : x_16.toInt = iv3_4.toInt + (1) := by rw [ex_16]; exact i32_add rfl (by decide) (by omega) (by omega)
            refine lv_iinc (v := x_16) (lv' := [(4, .int x_16), (0, .ref x), (1, .int i1), (2, .int i2), (3, .int i3)]) hx hb dX8_firstOnWay_36 hl (k := 0) rfl ex_16.symm (by decide) rfl (fun ls hl => ?_)
            refine lv_goto (tgt := 3) hx hb dX8_firstOnWay_39 (by decide) ?_
            exact ih3 x_16 _ _ L_10 h_11 ls (by omega) (by omega) (by omega) hW hT hM f_x_3 f_x_0 gx gql pf_x_0 (lv_sub hl [0, 1, 2, 3, 4] rfl)
          · skip
            refine lv_iload hx hb dX8_firstOnWay_33 (lv_at hl 0 rfl) ?_
            exact hx_reti hx hb hr hlk hW ⟨(by refine ⟨?_, ?_, ?_⟩ <;> omega), hT, hM⟩ dX8_firstOnWay_35
  exact loop3 9 (0 : Int32) _ _ L h ls (by decide) (by decide) (by decide) hW hT hM f_x_3 f_x_0 gx gql pf_x_0 hl

theorem dX8_retrace_0 : decode cX8_retrace 0 = .ok (.iconst 0, 1) := by decide +kernel
theorem dX8_retrace_1 : decode cX8_retrace 1 = .ok (.istore_n 2, 1) := by decide +kernel
theorem dX8_retrace_2 : decode cX8_retrace 2 = .ok (.iconst (-1), 1) := by decide +kernel
theorem dX8_retrace_3 : decode cX8_retrace 3 = .ok (.istore_n 3, 1) := by decide +kernel
theorem dX8_retrace_4 : decode cX8_retrace 4 = .ok (.iload_n 1, 1) := by decide +kernel
theorem dX8_retrace_5 : decode cX8_retrace 5 = .ok (.istore 4, 2) := by decide +kernel
theorem dX8_retrace_7 : decode cX8_retrace 7 = .ok (.iconst 0, 1) := by decide +kernel
theorem dX8_retrace_8 : decode cX8_retrace 8 = .ok (.istore 5, 2) := by decide +kernel
theorem dX8_retrace_10 : decode cX8_retrace 10 = .ok (.iload 5, 2) := by decide +kernel
theorem dX8_retrace_12 : decode cX8_retrace 12 = .ok (.aload_n 0, 1) := by decide +kernel
theorem dX8_retrace_13 : decode cX8_retrace 13 = .ok (.getfield 24, 3) := by decide +kernel
theorem dX8_retrace_16 : decode cX8_retrace 16 = .ok (.if_icmp .ge 59, 3) := by decide +kernel
theorem dX8_retrace_19 : decode cX8_retrace 19 = .ok (.aload_n 0, 1) := by decide +kernel
theorem dX8_retrace_20 : decode cX8_retrace 20 = .ok (.iload_n 2, 1) := by decide +kernel
theorem dX8_retrace_21 : decode cX8_retrace 21 = .ok (.iload_n 3, 1) := by decide +kernel
theorem dX8_retrace_22 : decode cX8_retrace 22 = .ok (.iload 4, 2) := by decide +kernel
theorem dX8_retrace_24 : decode cX8_retrace 24 = .ok (.invokevirtual 60, 3) := by decide +kernel
theorem dX8_retrace_27 : decode cX8_retrace 27 = .ok (.istore 6, 2) := by decide +kernel
theorem dX8_retrace_29 : decode cX8_retrace 29 = .ok (.aload_n 0, 1) := by decide +kernel
theorem dX8_retrace_30 : decode cX8_retrace 30 = .ok (.getfield 9, 3) := by decide +kernel
theorem dX8_retrace_33 : decode cX8_retrace 33 = .ok (.iload 5, 2) := by decide +kernel
theorem dX8_retrace_35 : decode cX8_retrace 35 = .ok (.aload_n 0, 1) := by decide +kernel
theorem dX8_retrace_36 : decode cX8_retrace 36 = .ok (.getfield 17, 3) := by decide +kernel
theorem dX8_retrace_39 : decode cX8_retrace 39 = .ok (.iload 6, 2) := by decide +kernel
theorem dX8_retrace_41 : decode cX8_retrace 41 = .ok (.aaload, 1) := by decide +kernel
theorem dX8_retrace_42 : decode cX8_retrace 42 = .ok (.getfield 28, 3) := by decide +kernel
theorem dX8_retrace_45 : decode cX8_retrace 45 = .ok (.iastore, 1) := by decide +kernel
theorem dX8_retrace_46 : decode cX8_retrace 46 = .ok (.iload_n 2, 1) := by decide +kernel
theorem dX8_retrace_47 : decode cX8_retrace 47 = .ok (.iconst 1, 1) := by decide +kernel
theorem dX8_retrace_48 : decode cX8_retrace 48 = .ok (.iload 6, 2) := by decide +kernel
theorem dX8_retrace_50 : decode cX8_retrace 50 = .ok (.ishl, 1) := by decide +kernel
theorem dX8_retrace_51 : decode cX8_retrace 51 = .ok (.ior, 1) := by decide +kernel
theorem dX8_retrace_52 : decode cX8_retrace 52 = .ok (.istore_n 2, 1) := by decide +kernel
theorem dX8_retrace_53 : decode cX8_retrace 53 = .ok (.iload 6, 2) := by decide +kernel
theorem dX8_retrace_55 : decode cX8_retrace 55 = .ok (.istore_n 3, 1) := by decide +kernel
theorem dX8_retrace_56 : decode cX8_retrace 56 = .ok (.aload_n 0, 1) := by decide +kernel
theorem dX8_retrace_57 : decode cX8_retrace 57 = .ok (.getfield 21, 3) := by decide +kernel
theorem dX8_retrace_60 : decode cX8_retrace 60 = .ok (.iload_n 2, 1) := by decide +kernel
theorem dX8_retrace_61 : decode cX8_retrace 61 = .ok (.bipush 8, 2) := by decide +kernel
theorem dX8_retrace_63 : decode cX8_retrace 63 = .ok (.imul, 1) := by decide +kernel
theorem dX8_retrace_64 : decode cX8_retrace 64 = .ok (.iload_n 3, 1) := by decide +kernel
theorem dX8_retrace_65 : decode cX8_retrace 65 = .ok (.iadd, 1) := by decide +kernel
theorem dX8_retrace_66 : decode cX8_retrace 66 = .ok (.iaload, 1) := by decide +kernel
theorem dX8_retrace_67 : decode cX8_retrace 67 = .ok (.istore 4, 2) := by decide +kernel
theorem dX8_retrace_69 : decode cX8_retrace 69 = .ok (.iinc 5 1, 3) := by decide +kernel
theorem dX8_retrace_72 : decode cX8_retrace 72 = .ok (.goto (-62), 3) := by decide +kernel
theorem dX8_retrace_75 : decode cX8_retrace 75 = .ok (.return_, 1) := by decide +kernel
set_option maxHeartbeats 4000000 in
set_option maxRecDepth 100000 in
theorem t_X8_retrace (l : Launch) (dC : Nat → ClassId) (dI : Nat → Nat → Nat) (dA : Nat → ClassId) (L : List Nat) (h : hx_h) (sz : Nat) (x : Nat) (i1 : Int32) (hT : hx_T T_tb L h) (gx : hx_g L h x 8) (cn : Int32) (f_x_0 : h.2.1 x 0 = cn) (ql : Nat) (gql : hx_g L h ql 40) (f_x_3 : h.2.2 x 3 = some ql) (pf_x_0 : ∀ j : Nat, (j : Int) < (h.2.1 x 0).toInt → h.2.2 ql j ≠ none) : Met l yX8_retrace (Cond.code yX8_retrace cX8_retrace 7 none :: hx_all) ({ frames := 4, cells := 0, slots := 0, locals := 91 }) (va_Pc [.ref x, .int i1] (hx_B T_tb (P_ty dA) (dC, dI) vwCl L h sz)) (va_Qv (fun (u : List Nat × hx_h) => hx_T T_tb u.1 u.2 ∧ hx_S T_tb [(39, 0)] L h u.1 u.2) (hx_E T_tb (P_ty dA) (dC, dI) vwCl (hx_A L sz)) (hx_A L sz)) 0 0 (hx_A L sz) := by
  refine hx_met (lv := [(0, .ref x), (1, .int i1)]) (by decide +kernel) rfl (Nat.le_of_ble_eq_true rfl) rfl ?_
  intro p e s m below meth c hx hb hml hr hlk hts0 hown hin hsz hW ls hl
  have hts : ∀ w ∈ hx_all, w.before _ s = true := fun w hw => hts0 w (List.mem_cons_of_mem _ hw)
  have hown : s.vm.findClass "SmallCourt$Walk" = some m.cls := hown
  have hM : hx_S T_tb [(39, 0)] L h L h := hx_S.rf
  have b_cn := hT.gi gx tt_8 (k := 0) rfl
  rw [f_x_0] at b_cn
  have b_cn : 0 ≤ cn.toInt ∧ cn.toInt ≤ 8 := b_cn
  refine lv_iconst (v := 0) hx hb dX8_retrace_0 (by decide) ?_
  refine lv_istore_n (lv' := [(2, .int (0 : Int32)), (0, .ref x), (1, .int i1)]) hx hb dX8_retrace_1 rfl hl (by decide) rfl (fun ls hl => ?_)
  refine lv_iconst (v := -1) hx hb dX8_retrace_2 (by decide) ?_
  refine lv_istore_n (lv' := [(3, .int (-1 : Int32)), (2, .int (0 : Int32)), (0, .ref x), (1, .int i1)]) hx hb dX8_retrace_3 rfl hl (by decide) rfl (fun ls hl => ?_)
  refine lv_iload_n hx hb dX8_retrace_4 rfl (lv_at hl 3 rfl) ?_
  refine lv_istore (lv' := [(4, .int i1), (3, .int (-1 : Int32)), (2, .int (0 : Int32)), (0, .ref x), (1, .int i1)]) hx hb dX8_retrace_5 hl (by decide) rfl (fun ls hl => ?_)
  refine lv_iconst (v := 0) hx hb dX8_retrace_7 (by decide) ?_
  refine lv_istore (lv' := [(5, .int (0 : Int32)), (4, .int i1), (3, .int (-1 : Int32)), (2, .int (0 : Int32)), (0, .ref x), (1, .int i1)]) hx hb dX8_retrace_8 hl (by decide) rfl (fun ls hl => ?_)
  have loop10 : ∀ (n10 : Nat) (iv10_2 iv10_3 iv10_4 iv10_5 : Int32) (H : Heap) (locs : List Loc) (hL1 : List Nat) (hl1 : hx_h), 0 ≤ iv10_2.toInt → iv10_2.toInt ≤ 255 → -1 ≤ iv10_3.toInt → iv10_3.toInt ≤ 7 → -2147483648 ≤ iv10_4.toInt → iv10_4.toInt ≤ 2147483647 → 0 ≤ iv10_5.toInt → iv10_5.toInt ≤ 8 → (iv10_3.toInt < cn.toInt) → ∀ (ls : Array Slot), 8 - iv10_5.toInt < (n10 : Int) → hx_W T_tb (P_ty dA) (dC, dI) vwCl (hx_A L sz) s.heap hL1 hl1 s H locs → hx_T T_tb hL1 hl1 → hx_S T_tb [(39, 0)] L h hL1 hl1 → hl1.2.2 x 3 = some ql → hl1.2.1 x 0 = cn → hx_g hL1 hl1 x 8 → hx_g hL1 hl1 ql 40 → (∀ j : Nat, (j : Int) < (hl1.2.1 x 0).toInt → hl1.2.2 ql j ≠ none) → lv_has ls 7 [(5, .int iv10_5), (4, .int iv10_4), (3, .int iv10_3), (2, .int iv10_2), (0, .ref x), (1, .int i1)] → W p l e ({ frames := 4, cells := 0, slots := 0, locals := 91 }) s m ([.ref x, .int i1] : List Value).toArray below meth c H locs 0 0 (MQ below (va_Qv (fun (u : List Nat × hx_h) => hx_T T_tb u.1 u.2 ∧ hx_S T_tb [(39, 0)] L h u.1 u.2) (hx_E T_tb (P_ty dA) (dC, dI) vwCl (hx_A L sz)) (hx_A L sz)) ([.ref x, .int i1] : List Value).toArray s 0 0 (hx_A L sz)) (F0 m 10 ls []) := by
    intro n10
    induction n10 with
    | zero => intro iv10_2 iv10_3 iv10_4 iv10_5 H locs hL1 hl1 bliv10_2 buiv10_2 bliv10_3 buiv10_3 bliv10_4 buiv10_4 bliv10_5 buiv10_5 vi10_0 ls hn10; exfalso; omega
    | succ n10 ih10 =>
      intro iv10_2 iv10_3 iv10_4 iv10_5 H locs hL1 hl1 bliv10_2 buiv10_2 bliv10_3 buiv10_3 bliv10_4 buiv10_4 bliv10_5 buiv10_5 vi10_0 ls hn10 hW hT hM f_x_3 f_x_0 gx gql pf_x_0 hl
      refine lv_iload hx hb dX8_retrace_10 (lv_at hl 0 rfl) ?_
      refine lv_aload_n hx hb dX8_retrace_12 rfl (lv_at hl 4 rfl) ?_
      refine hk_geti hx hb hts hC_8 hown hW gx tt_8 0 (by decide) rfl kw_345 ⟨rfl, rfl, rfl⟩ f_x_0 dX8_retrace_13 ?_
      refine hb_icmp_ge (zx := iv10_5.toInt) (zy := cn.toInt) (tgt := 75) hx hb rfl rfl dX8_retrace_16 (by decide) (fun c_1 => ?_) (fun c_1 => ?_)
      · skip
        exact hx_retv hx hb hr hlk hW ⟨hT, hM⟩ dX8_retrace_75
      · skip
        refine lv_aload_n hx hb dX8_retrace_19 rfl (lv_at hl 4 rfl) ?_
        refine lv_iload_n hx hb dX8_retrace_20 rfl (lv_at hl 3 rfl) ?_
        refine lv_iload_n hx hb dX8_retrace_21 rfl (lv_at hl 2 rfl) ?_
        refine lv_iload hx hb dX8_retrace_22 (lv_at hl 1 rfl) ?_
        refine hx_goi (hx_runV (As := [.int iv10_2, .int iv10_3, .int iv10_4]) (rest := []) ⟨hx, hb, hml, hown, hts⟩ hW gx tt_8 (T := TX8) (N := 5) rfl (t_X8_firstOnWay l dC dI dA hL1 hl1 H.size x iv10_2 iv10_3 iv10_4 hT gx cn f_x_0 ⟨by omega, by omega⟩ ⟨by omega, by omega⟩ ql gql f_x_3 pf_x_0) (cwV 3 hts (hx_gV kw_1084 kw_1081 kw_1083 kw_46 kw_102) rfl rfl rfl (by decide +kernel) ⟨Nat.le_of_ble_eq_true rfl, Nat.le_of_ble_eq_true rfl⟩) rfl hl.1 rfl (Nat.le_of_ble_eq_true rfl) dX8_retrace_24 ⟨Nat.le_of_ble_eq_true rfl, Nat.le_of_ble_eq_true rfl⟩) hW (fun r_4 L_2 h_3 H locs p_5 hW => ?_)
        obtain ⟨hr_6, hT, hs⟩ := p_5
        have hT : hx_T T_tb L_2 h_3 := hT
        have hs : hx_S T_tb [] hL1 hl1 L_2 h_3 := hs
        have f_x_3 := (hs.o gx trivial rfl).2.trans f_x_3
        have f_x_0 := (hs.o gx trivial rfl).1.trans f_x_0
        have pf_x_0 : ∀ j : Nat, (j : Int) < (h_3.2.1 x 0).toInt → h_3.2.2 ql j ≠ none := by
          intro j hj; rw [(hs.o gx trivial rfl).1] at hj; rw [(hs.a gql rfl j).2]; exact pf_x_0 j hj
        have hM := hM.tr (hs.mono (by decide))
        have gx := gx.S hs
        have gql := gql.S hs
        refine lv_istore (lv' := [(6, .int r_4), (5, .int iv10_5), (4, .int iv10_4), (3, .int iv10_3), (2, .int iv10_2), (0, .ref x), (1, .int i1)]) hx hb dX8_retrace_27 hl (by decide) rfl (fun ls hl => ?_)
        refine lv_aload_n hx hb dX8_retrace_29 rfl (lv_at hl 5 rfl) ?_
        refine hx_getn hx hb hts hC_8 hown hW hT gx tt_8 2 (by decide) rfl kw_349 ⟨rfl, rfl, rfl⟩ dX8_retrace_30 (fun q_7 fq_7 gq_7 => ?_)
        refine lv_iload hx hb dX8_retrace_33 (lv_at hl 1 rfl) ?_
        refine lv_aload_n hx hb dX8_retrace_35 rfl (lv_at hl 5 rfl) ?_
        refine hk_getr hx hb hts hC_8 hown hW gx tt_8 3 (by decide) rfl kw_351 ⟨rfl, rfl, rfl⟩ f_x_3 dX8_retrace_36 ?_
        refine lv_iload hx hb dX8_retrace_39 (lv_at hl 0 rfl) ?_
        refine hx_aaldN hx hb hW hT gql tt_40 (t1 := 2) rfl ⟨by omega, by omega⟩ (pf_x_0 _ (by rw [f_x_0]; exact hx_tnI (by omega) (by omega))) dX8_retrace_41 (fun q_8 fq_8 gq_8 => ?_)
        refine hx_geti hx hb hts hC_2 hown hW hT gq_8 tt_2 0 (by decide) rfl kw_723 ⟨rfl, rfl, rfl⟩ dX8_retrace_42 (fun x_9 ex_9 lx_9 ux_9 => ?_)
        have fx_9 := ex_9.symm
        refine hx_iast hx hb hW hT (hx_S.rf (M := [(39, 0)])) gq_7 tt_39 rfl ⟨by omega, by omega⟩ rfl (i32_r _) (List.mem_singleton.mpr rfl) dX8_retrace_45 (fun H locs h_10 eh_10 hW hT hs => ?_)
        have f_x_3 := (hs.o gx trivial rfl).2.trans f_x_3
        have f_x_0 := (hs.o gx trivial rfl).1.trans f_x_0
        have fq_7 := (hs.o gx trivial rfl).2.trans fq_7
        have fx_9 := (hs.o gq_8 trivial rfl).1.trans fx_9
        have pf_x_0 : ∀ j : Nat, (j : Int) < (h_10.2.1 x 0).toInt → h_10.2.2 ql j ≠ none := by
          intro j hj; rw [(hs.o gx trivial rfl).1] at hj; rw [(hs.a gql rfl j).2]; exact pf_x_0 j hj
        have hM := hM.tr (hs.mono (by decide))
        have gx := gx.S hs
        have gql := gql.S hs
        have gq_7 := gq_7.S hs
        have gq_8 := gq_8.S hs
        refine lv_iload_n hx hb dX8_retrace_46 rfl (lv_at hl 4 rfl) ?_
        refine lv_iconst (v := 1) hx hb dX8_retrace_47 (by decide) ?_
        refine lv_iload hx hb dX8_retrace_48 (lv_at hl 0 rfl) ?_
        refine lv_ishl hx hb dX8_retrace_50 ?_
        refine lv_topi (fun x_11 ex_11 => ?_)
        have zx_11 : 1 ≤ x_11.toInt ∧ x_11.toInt ≤ 128 := by rw [ex_11]; exact hx_shl7 (by omega) (by omega)
        refine lv_ior hx hb dX8_retrace_51 ?_
        refine lv_topi (fun x_12 ex_12 => ?_)
        have zx_12 : 0 ≤ x_12.toInt ∧ x_12.toInt ≤ 255 := by rw [ex_12]; exact hx_or8 (by omega) (by omega) (by omega) (by omega)
        refine lv_istore_n (lv' := [(2, .int x_12), (6, .int r_4), (5, .int iv10_5), (4, .int iv10_4), (3, .int iv10_3), (0, .ref x), (1, .int i1)]) hx hb dX8_retrace_52 rfl hl (by decide) rfl (fun ls hl => ?_)
        refine lv_iload hx hb dX8_retrace_53 (lv_at hl 1 rfl) ?_
        refine lv_istore_n (lv' := [(3, .int r_4), (2, .int x_12), (6, .int r_4), (5, .int iv10_5), (4, .int iv10_4), (0, .ref x), (1, .int i1)]) hx hb dX8_retrace_55 rfl hl (by decide) rfl (fun ls hl => ?_)
        refine lv_aload_n hx hb dX8_retrace_56 rfl (lv_at hl 5 rfl) ?_
        refine hx_getn hx hb hts hC_8 hown hW hT gx tt_8 4 (by decide) rfl kw_352 ⟨rfl, rfl, rfl⟩ dX8_retrace_57 (fun q_13 fq_13 gq_13 => ?_)
        refine lv_iload_n hx hb dX8_retrace_60 rfl (lv_at hl 1 rfl) ?_
        refine lv_bipush (v := 8) hx hb dX8_retrace_61 (by decide) ?_
        refine lv_imul hx hb dX8_retrace_63 ?_
        refine lv_topi (fun x_14 ex_14 => ?_)
        have zx_14 : x_14.toInt = x_12.toInt * 8 := by rw [ex_14]; exact i32_mul rfl (by decide) rfl (by omega) (by omega)
        refine lv_iload_n hx hb dX8_retrace_64 rfl (lv_at hl 0 rfl) ?_
        refine lv_iadd hx hb dX8_retrace_65 ?_
        have rg_15 := i32_r x_14
        have rg_16 := i32_r r_4
        refine lv_topi (fun x_17 ex_17 => ?_)
        have zx_17 : x_17.toInt = x_14.toInt + r_4.toInt := by rw [ex_17]; exact i32_add rfl rfl (by omega) (by omega)
        refine hx_iald hx hb hW hT gq_13 tt_41 rfl ⟨by omega, by omega⟩ dX8_retrace_66 (fun x_18 ex_18 lx_18 ux_18 => ?_)
        refine lv_istore (lv' := [(4, .int x_18), (3, .int r_4), (2, .int x_12), (6, .int r_4), (5, .int iv10_5), (0, .ref x), (1, .int i1)]) hx hb dX8_retrace_67 hl (by decide) rfl (fun ls hl => ?_)
        obtain ⟨x_19, ex_19⟩ : ∃ y : Int32, y = iv10_5 + Int32.ofInt 1 := ⟨_, rfl⟩
        have rg_20 := i32_r iv10_5
        have zx_19 : x_19.toInt = iv10_5.toInt + (1) := by rw [ex_19]; exact i32_add rfl (by decide) (by omega) (by omega)
        refine lv_iinc (v := x_19) (lv' := [(5, .int x_19), (4, .int x_18), (3, .int r_4), (2, .int x_12), (6, .int r_4), (0, .ref x), (1, .int i1)]) hx hb dX8_retrace_69 hl (k := 4) rfl ex_19.symm (by decide) rfl (fun ls hl => ?_)
        refine lv_goto (tgt := 10) hx hb dX8_retrace_72 (by decide) ?_
        exact ih10 x_12 r_4 x_18 x_19 _ _ L_2 h_10 (by omega) (by omega) (by omega) (by omega) (i32_r _).1 (i32_r _).2 (by omega) (by omega) (by omega) ls (by omega) hW hT hM f_x_3 f_x_0 gx gql pf_x_0 (lv_sub hl [0, 1, 2, 3, 5, 6] rfl)
  have zk_0 : (0 : Int32).toInt = 0 := by decide
  have zk_m1 : (-1 : Int32).toInt = -1 := by decide
  have zk_0 : (0 : Int32).toInt = 0 := by decide
  exact loop10 9 (0 : Int32) (-1 : Int32) i1 (0 : Int32) _ _ L h (by decide) (by decide) (by decide) (by decide) (i32_r _).1 (i32_r _).2 (by decide) (by decide) (by omega) ls (by omega) hW hT hM f_x_3 f_x_0 gx gql pf_x_0 hl

theorem dX8_walkList_0 : decode cX8_walkList 0 = .ok (.iconst 1, 1) := by decide +kernel
theorem dX8_walkList_1 : decode cX8_walkList 1 = .ok (.aload_n 0, 1) := by decide +kernel
theorem dX8_walkList_2 : decode cX8_walkList 2 = .ok (.getfield 24, 3) := by decide +kernel
theorem dX8_walkList_5 : decode cX8_walkList 5 = .ok (.ishl, 1) := by decide +kernel
theorem dX8_walkList_6 : decode cX8_walkList 6 = .ok (.iconst 1, 1) := by decide +kernel
theorem dX8_walkList_7 : decode cX8_walkList 7 = .ok (.isub, 1) := by decide +kernel
theorem dX8_walkList_8 : decode cX8_walkList 8 = .ok (.istore_n 1, 1) := by decide +kernel
theorem dX8_walkList_9 : decode cX8_walkList 9 = .ok (.iload_n 1, 1) := by decide +kernel
theorem dX8_walkList_10 : decode cX8_walkList 10 = .ok (.istore_n 2, 1) := by decide +kernel
theorem dX8_walkList_11 : decode cX8_walkList 11 = .ok (.iload_n 2, 1) := by decide +kernel
theorem dX8_walkList_12 : decode cX8_walkList 12 = .ok (.ifCond .le 63, 3) := by decide +kernel
theorem dX8_walkList_15 : decode cX8_walkList 15 = .ok (.iconst 0, 1) := by decide +kernel
theorem dX8_walkList_16 : decode cX8_walkList 16 = .ok (.istore_n 3, 1) := by decide +kernel
theorem dX8_walkList_17 : decode cX8_walkList 17 = .ok (.iload_n 3, 1) := by decide +kernel
theorem dX8_walkList_18 : decode cX8_walkList 18 = .ok (.aload_n 0, 1) := by decide +kernel
theorem dX8_walkList_19 : decode cX8_walkList 19 = .ok (.getfield 24, 3) := by decide +kernel
theorem dX8_walkList_22 : decode cX8_walkList 22 = .ok (.if_icmp .ge 47, 3) := by decide +kernel
theorem dX8_walkList_25 : decode cX8_walkList 25 = .ok (.iload_n 3, 1) := by decide +kernel
theorem dX8_walkList_26 : decode cX8_walkList 26 = .ok (.iload_n 2, 1) := by decide +kernel
theorem dX8_walkList_27 : decode cX8_walkList 27 = .ok (.invokestatic 31, 3) := by decide +kernel
theorem dX8_walkList_30 : decode cX8_walkList 30 = .ok (.ifCond .eq 33, 3) := by decide +kernel
theorem dX8_walkList_33 : decode cX8_walkList 33 = .ok (.aload_n 0, 1) := by decide +kernel
theorem dX8_walkList_34 : decode cX8_walkList 34 = .ok (.getfield 21, 3) := by decide +kernel
theorem dX8_walkList_37 : decode cX8_walkList 37 = .ok (.iload_n 2, 1) := by decide +kernel
theorem dX8_walkList_38 : decode cX8_walkList 38 = .ok (.bipush 8, 2) := by decide +kernel
theorem dX8_walkList_40 : decode cX8_walkList 40 = .ok (.imul, 1) := by decide +kernel
theorem dX8_walkList_41 : decode cX8_walkList 41 = .ok (.iload_n 3, 1) := by decide +kernel
theorem dX8_walkList_42 : decode cX8_walkList 42 = .ok (.iadd, 1) := by decide +kernel
theorem dX8_walkList_43 : decode cX8_walkList 43 = .ok (.iload_n 2, 1) := by decide +kernel
theorem dX8_walkList_44 : decode cX8_walkList 44 = .ok (.iload_n 1, 1) := by decide +kernel
theorem dX8_walkList_45 : decode cX8_walkList 45 = .ok (.if_icmp .ne 11, 3) := by decide +kernel
theorem dX8_walkList_48 : decode cX8_walkList 48 = .ok (.aload_n 0, 1) := by decide +kernel
theorem dX8_walkList_49 : decode cX8_walkList 49 = .ok (.iload_n 3, 1) := by decide +kernel
theorem dX8_walkList_50 : decode cX8_walkList 50 = .ok (.invokevirtual 35, 3) := by decide +kernel
theorem dX8_walkList_53 : decode cX8_walkList 53 = .ok (.goto 9, 3) := by decide +kernel
theorem dX8_walkList_56 : decode cX8_walkList 56 = .ok (.aload_n 0, 1) := by decide +kernel
theorem dX8_walkList_57 : decode cX8_walkList 57 = .ok (.iload_n 2, 1) := by decide +kernel
theorem dX8_walkList_58 : decode cX8_walkList 58 = .ok (.iload_n 3, 1) := by decide +kernel
theorem dX8_walkList_59 : decode cX8_walkList 59 = .ok (.invokevirtual 39, 3) := by decide +kernel
theorem dX8_walkList_62 : decode cX8_walkList 62 = .ok (.iastore, 1) := by decide +kernel
theorem dX8_walkList_63 : decode cX8_walkList 63 = .ok (.iinc 3 1, 3) := by decide +kernel
theorem dX8_walkList_66 : decode cX8_walkList 66 = .ok (.goto (-49), 3) := by decide +kernel
theorem dX8_walkList_69 : decode cX8_walkList 69 = .ok (.iinc 2 (-1), 3) := by decide +kernel
theorem dX8_walkList_72 : decode cX8_walkList 72 = .ok (.goto (-61), 3) := by decide +kernel
theorem dX8_walkList_75 : decode cX8_walkList 75 = .ok (.aload_n 0, 1) := by decide +kernel
theorem dX8_walkList_76 : decode cX8_walkList 76 = .ok (.getfield 24, 3) := by decide +kernel
theorem dX8_walkList_79 : decode cX8_walkList 79 = .ok (.ifCond .ne 7, 3) := by decide +kernel
theorem dX8_walkList_82 : decode cX8_walkList 82 = .ok (.iconst 0, 1) := by decide +kernel
theorem dX8_walkList_83 : decode cX8_walkList 83 = .ok (.goto 9, 3) := by decide +kernel
theorem dX8_walkList_86 : decode cX8_walkList 86 = .ok (.aload_n 0, 1) := by decide +kernel
theorem dX8_walkList_87 : decode cX8_walkList 87 = .ok (.iconst 0, 1) := by decide +kernel
theorem dX8_walkList_88 : decode cX8_walkList 88 = .ok (.iconst (-1), 1) := by decide +kernel
theorem dX8_walkList_89 : decode cX8_walkList 89 = .ok (.invokevirtual 39, 3) := by decide +kernel
theorem dX8_walkList_92 : decode cX8_walkList 92 = .ok (.istore_n 2, 1) := by decide +kernel
theorem dX8_walkList_93 : decode cX8_walkList 93 = .ok (.aload_n 0, 1) := by decide +kernel
theorem dX8_walkList_94 : decode cX8_walkList 94 = .ok (.iload_n 2, 1) := by decide +kernel
theorem dX8_walkList_95 : decode cX8_walkList 95 = .ok (.invokevirtual 43, 3) := by decide +kernel
theorem dX8_walkList_98 : decode cX8_walkList 98 = .ok (.aload_n 0, 1) := by decide +kernel
theorem dX8_walkList_99 : decode cX8_walkList 99 = .ok (.aload_n 0, 1) := by decide +kernel
theorem dX8_walkList_100 : decode cX8_walkList 100 = .ok (.getfield 24, 3) := by decide +kernel
theorem dX8_walkList_103 : decode cX8_walkList 103 = .ok (.putfield 47, 3) := by decide +kernel
theorem dX8_walkList_106 : decode cX8_walkList 106 = .ok (.aload_n 0, 1) := by decide +kernel
theorem dX8_walkList_107 : decode cX8_walkList 107 = .ok (.iconst 0, 1) := by decide +kernel
theorem dX8_walkList_108 : decode cX8_walkList 108 = .ok (.putfield 24, 3) := by decide +kernel
theorem dX8_walkList_111 : decode cX8_walkList 111 = .ok (.iload_n 2, 1) := by decide +kernel
theorem dX8_walkList_112 : decode cX8_walkList 112 = .ok (.ireturn, 1) := by decide +kernel
set_option maxHeartbeats 4000000 in
set_option maxRecDepth 100000 in
theorem t_X8_walkList (l : Launch) (dC : Nat → ClassId) (dI : Nat → Nat → Nat) (dA : Nat → ClassId) (L : List Nat) (h : hx_h) (sz : Nat) (x : Nat) (hT : hx_T T_tb L h) (gx : hx_g L h x 8) (cn : Int32) (f_x_0 : h.2.1 x 0 = cn) (ql : Nat) (gql : hx_g L h ql 40) (f_x_3 : h.2.2 x 3 = some ql) (pf_x_0 : ∀ j : Nat, (j : Int) < (h.2.1 x 0).toInt → h.2.2 ql j ≠ none) : Met l yX8_walkList (Cond.code yX8_walkList cX8_walkList 4 (some .int) :: hx_all) ({ frames := 5, cells := 0, slots := 0, locals := 117 }) (va_Pc [.ref x] (hx_B T_tb (P_ty dA) (dC, dI) vwCl L h sz)) (va_Qi (fun (r : Int32) (u : List Nat × hx_h) => (True) ∧ hx_T T_tb u.1 u.2 ∧ hx_S T_tb [(8, 0), (8, 1), (39, 0), (41, 0)] L h u.1 u.2) (hx_E T_tb (P_ty dA) (dC, dI) vwCl (hx_A L sz)) (hx_A L sz)) 0 0 (hx_A L sz) := by
  refine hx_met (lv := [(0, .ref x)]) (by decide +kernel) rfl (Nat.le_of_ble_eq_true rfl) rfl ?_
  intro p e s m below meth c hx hb hml hr hlk hts0 hown hin hsz hW ls hl
  have hts : ∀ w ∈ hx_all, w.before _ s = true := fun w hw => hts0 w (List.mem_cons_of_mem _ hw)
  have hown : s.vm.findClass "SmallCourt$Walk" = some m.cls := hown
  have hM : hx_S T_tb [(8, 0), (8, 1), (39, 0), (41, 0)] L h L h := hx_S.rf
  have b_cn := hT.gi gx tt_8 (k := 0) rfl
  rw [f_x_0] at b_cn
  have b_cn : 0 ≤ cn.toInt ∧ cn.toInt ≤ 8 := b_cn
  refine lv_iconst (v := 1) hx hb dX8_walkList_0 (by decide) ?_
  refine lv_aload_n hx hb dX8_walkList_1 rfl (lv_at hl 0 rfl) ?_
  refine hk_geti hx hb hts hC_8 hown hW gx tt_8 0 (by decide) rfl kw_345 ⟨rfl, rfl, rfl⟩ f_x_0 dX8_walkList_2 ?_
  refine lv_ishl hx hb dX8_walkList_5 ?_
  refine lv_topi (fun x_1 ex_1 => ?_)
  have zx_1 : 1 ≤ x_1.toInt ∧ x_1.toInt ≤ 256 := by rw [ex_1]; exact hx_shl8 (by omega) (by omega)
  refine lv_iconst (v := 1) hx hb dX8_walkList_6 (by decide) ?_
  refine lv_isub hx hb dX8_walkList_7 ?_
  have rg_2 := i32_r x_1
  refine lv_topi (fun x_3 ex_3 => ?_)
  have zx_3 : x_3.toInt = x_1.toInt - 1 := by rw [ex_3]; exact i32_sub rfl (by decide) (by omega) (by omega)
  refine lv_istore_n (lv' := [(1, .int x_3), (0, .ref x)]) hx hb dX8_walkList_8 rfl hl (by decide) rfl (fun ls hl => ?_)
  refine lv_iload_n hx hb dX8_walkList_9 rfl (lv_at hl 0 rfl) ?_
  refine lv_istore_n (lv' := [(2, .int x_3), (1, .int x_3), (0, .ref x)]) hx hb dX8_walkList_10 rfl hl (by decide) rfl (fun ls hl => ?_)
  have loop11 : ∀ (n11 : Nat) (iv11_2 : Int32) (H : Heap) (locs : List Loc) (hL1 : List Nat) (hl1 : hx_h), 0 ≤ iv11_2.toInt → iv11_2.toInt ≤ 255 → ∀ (ls : Array Slot), iv11_2.toInt < (n11 : Int) → hx_W T_tb (P_ty dA) (dC, dI) vwCl (hx_A L sz) s.heap hL1 hl1 s H locs → hx_T T_tb hL1 hl1 → hx_S T_tb [(8, 0), (8, 1), (39, 0), (41, 0)] L h hL1 hl1 → hl1.2.2 x 3 = some ql → hl1.2.1 x 0 = cn → hx_g hL1 hl1 x 8 → hx_g hL1 hl1 ql 40 → (∀ j : Nat, (j : Int) < (hl1.2.1 x 0).toInt → hl1.2.2 ql j ≠ none) → lv_has ls 4 [(2, .int iv11_2), (1, .int x_3), (0, .ref x)] → W p l e ({ frames := 5, cells := 0, slots := 0, locals := 117 }) s m ([.ref x] : List Value).toArray below meth c H locs 0 0 (MQ below (va_Qi (fun (r : Int32) (u : List Nat × hx_h) => (True) ∧ hx_T T_tb u.1 u.2 ∧ hx_S T_tb [(8, 0), (8, 1), (39, 0), (41, 0)] L h u.1 u.2) (hx_E T_tb (P_ty dA) (dC, dI) vwCl (hx_A L sz)) (hx_A L sz)) ([.ref x] : List Value).toArray s 0 0 (hx_A L sz)) (F0 m 11 ls []) := by
    intro n11
    induction n11 with
    | zero => intro iv11_2 H locs hL1 hl1 bliv11_2 buiv11_2  ls hn11; exfalso; omega
    | succ n11 ih11 =>
      intro iv11_2 H locs hL1 hl1 bliv11_2 buiv11_2  ls hn11 hW hT hM f_x_3 f_x_0 gx gql pf_x_0 hl
      refine lv_iload_n hx hb dX8_walkList_11 rfl (lv_at hl 0 rfl) ?_
      refine hb_if_le (zx := iv11_2.toInt) (tgt := 75) hx hb rfl dX8_walkList_12 (by decide) (fun c_4 => ?_) (fun c_4 => ?_)
      · skip
        refine lv_aload_n hx hb dX8_walkList_75 rfl (lv_at hl 2 rfl) ?_
        refine hk_geti hx hb hts hC_8 hown hW gx tt_8 0 (by decide) rfl kw_345 ⟨rfl, rfl, rfl⟩ f_x_0 dX8_walkList_76 ?_
        refine hb_if_ne (zx := cn.toInt) (tgt := 86) hx hb rfl dX8_walkList_79 (by decide) (fun c_5 => ?_) (fun c_5 => ?_)
        · skip
          refine lv_aload_n hx hb dX8_walkList_86 rfl (lv_at hl 2 rfl) ?_
          refine lv_iconst (v := 0) hx hb dX8_walkList_87 (by decide) ?_
          refine lv_iconst (v := -1) hx hb dX8_walkList_88 (by decide) ?_
          have zc_m1 : (-1 : Int32).toInt = -1 := by decide
          have zc_0 : (0 : Int32).toInt = 0 := by decide
          refine hx_goi (hx_runV (As := [.int (0 : Int32), .int (-1 : Int32)]) (rest := []) ⟨hx, hb, hml, hown, hts⟩ hW gx tt_8 (T := TX8) (N := 5) rfl (t_X8_leastOn l dC dI dA hL1 hl1 H.size x (0 : Int32) (-1 : Int32) hT gx cn f_x_0 ⟨by omega, by omega⟩ ⟨by omega, by omega⟩ ql gql f_x_3 pf_x_0) (cwV 2 hts (hx_gV kw_1067 kw_1064 kw_1066 kw_43 kw_102) rfl rfl rfl (by decide +kernel) ⟨Nat.le_of_ble_eq_true rfl, Nat.le_of_ble_eq_true rfl⟩) rfl hl.1 rfl (Nat.le_of_ble_eq_true rfl) dX8_walkList_89 ⟨Nat.le_of_ble_eq_true rfl, Nat.le_of_ble_eq_true rfl⟩) hW (fun r_8 L_6 h_7 H locs p_9 hW => ?_)
          obtain ⟨hr_10, hT, hs⟩ := p_9
          have hT : hx_T T_tb L_6 h_7 := hT
          have hs : hx_S T_tb [] hL1 hl1 L_6 h_7 := hs
          have f_x_3 := (hs.o gx trivial rfl).2.trans f_x_3
          have f_x_0 := (hs.o gx trivial rfl).1.trans f_x_0
          have pf_x_0 : ∀ j : Nat, (j : Int) < (h_7.2.1 x 0).toInt → h_7.2.2 ql j ≠ none := by
            intro j hj; rw [(hs.o gx trivial rfl).1] at hj; rw [(hs.a gql rfl j).2]; exact pf_x_0 j hj
          have hM := hM.tr (hs.mono (by decide))
          have gx := gx.S hs
          have gql := gql.S hs
          refine lv_istore_n (lv' := [(2, .int r_8), (1, .int x_3), (0, .ref x)]) hx hb dX8_walkList_92 rfl hl (by decide) rfl (fun ls hl => ?_)
          refine lv_aload_n hx hb dX8_walkList_93 rfl (lv_at hl 2 rfl) ?_
          refine lv_iload_n hx hb dX8_walkList_94 rfl (lv_at hl 0 rfl) ?_
          refine hx_gov (hx_runV (As := [.int r_8]) (rest := []) ⟨hx, hb, hml, hown, hts⟩ hW gx tt_8 (T := TX8) (N := 5) rfl (t_X8_retrace l dC dI dA L_6 h_7 H.size x r_8 hT gx cn f_x_0 ql gql f_x_3 pf_x_0) (cwV 1 hts (hx_gV kw_1080 kw_1077 kw_1079 kw_45 kw_102) rfl rfl rfl (by decide +kernel) ⟨Nat.le_of_ble_eq_true rfl, Nat.le_of_ble_eq_true rfl⟩) rfl hl.1 rfl (Nat.le_of_ble_eq_true rfl) dX8_walkList_95 ⟨Nat.le_of_ble_eq_true rfl, Nat.le_of_ble_eq_true rfl⟩) hW (fun L_11 h_12 H locs p_14 hW => ?_)
          obtain ⟨hT, hs⟩ := p_14
          have hT : hx_T T_tb L_11 h_12 := hT
          have hs : hx_S T_tb [(39, 0)] L_6 h_7 L_11 h_12 := hs
          have f_x_3 := (hs.o gx trivial rfl).2.trans f_x_3
          have f_x_0 := (hs.o gx trivial rfl).1.trans f_x_0
          have pf_x_0 : ∀ j : Nat, (j : Int) < (h_12.2.1 x 0).toInt → h_12.2.2 ql j ≠ none := by
            intro j hj; rw [(hs.o gx trivial rfl).1] at hj; rw [(hs.a gql rfl j).2]; exact pf_x_0 j hj
          have hM := hM.tr (hs.mono (by decide))
          have gx := gx.S hs
          have gql := gql.S hs
          refine lv_aload_n hx hb dX8_walkList_98 rfl (lv_at hl 2 rfl) ?_
          refine lv_aload_n hx hb dX8_walkList_99 rfl (lv_at hl 2 rfl) ?_
          refine hk_geti hx hb hts hC_8 hown hW gx tt_8 0 (by decide) rfl kw_345 ⟨rfl, rfl, rfl⟩ f_x_0 dX8_walkList_100 ?_
          refine hx_puti hx hb hts hC_8 hown hW hT (hx_S.rf (M := [(8, 1)])) gx tt_8 1 (by decide) rfl kw_347 ⟨rfl, rfl, rfl⟩ rfl (x := cn) ⟨by omega, by omega⟩ rfl rfl rfl (List.mem_singleton.mpr rfl) dX8_walkList_103 (fun H locs h_16 eh_16 hW hT hs => ?_)
          have f_x_3 := (hs.o gx trivial rfl).2.trans f_x_3
          have f_x_0 := (hs.o gx trivial rfl).1.trans f_x_0
          have pf_x_0 : ∀ j : Nat, (j : Int) < (h_16.2.1 x 0).toInt → h_16.2.2 ql j ≠ none := by
            intro j hj; rw [(hs.o gx trivial rfl).1] at hj; rw [(hs.a gql rfl j).2]; exact pf_x_0 j hj
          have hM := hM.tr (hs.mono (by decide))
          have gx := gx.S hs
          have gql := gql.S hs
          have f_17 : h_16.2.1 x 1 = cn := by rw [eh_16]; exact hx_pi_at _ _ _ _
          refine lv_aload_n hx hb dX8_walkList_106 rfl (lv_at hl 2 rfl) ?_
          refine lv_iconst (v := 0) hx hb dX8_walkList_107 (by decide) ?_
          refine hx_puti hx hb hts hC_8 hown hW hT (hx_S.rf (M := [(8, 0)])) gx tt_8 0 (by decide) rfl kw_345 ⟨rfl, rfl, rfl⟩ rfl (x := (0 : Int32)) (by decide) rfl rfl rfl (List.mem_singleton.mpr rfl) dX8_walkList_108 (fun H locs h_18 eh_18 hW hT hs => ?_)
          have f_x_3 := (hs.o gx trivial rfl).2.trans f_x_3
          have f_17 := (hs.o gx trivial rfl).1.trans f_17
          have hM := hM.tr (hs.mono (by decide))
          have gx := gx.S hs
          have gql := gql.S hs
          have f_19 : h_18.2.1 x 0 = (0 : Int32) := by rw [eh_18]; exact hx_pi_at _ _ _ _
          refine lv_iload_n hx hb dX8_walkList_111 rfl (lv_at hl 0 rfl) ?_
          exact hx_reti hx hb hr hlk hW ⟨trivial, hT, hM⟩ dX8_walkList_112
        · skip
          refine lv_iconst (v := 0) hx hb dX8_walkList_82 (by decide) ?_
          refine lv_goto (tgt := 92) hx hb dX8_walkList_83 (by decide) ?_
          refine lv_istore_n (lv' := [(2, .int (0 : Int32)), (1, .int x_3), (0, .ref x)]) hx hb dX8_walkList_92 rfl hl (by decide) rfl (fun ls hl => ?_)
          refine lv_aload_n hx hb dX8_walkList_93 rfl (lv_at hl 2 rfl) ?_
          refine lv_iload_n hx hb dX8_walkList_94 rfl (lv_at hl 0 rfl) ?_
          have zc_0 : (0 : Int32).toInt = 0 := by decide
          refine hx_gov (hx_runV (As := [.int (0 : Int32)]) (rest := []) ⟨hx, hb, hml, hown, hts⟩ hW gx tt_8 (T := TX8) (N := 5) rfl (t_X8_retrace l dC dI dA hL1 hl1 H.size x (0 : Int32) hT gx cn f_x_0 ql gql f_x_3 pf_x_0) (cwV 1 hts (hx_gV kw_1080 kw_1077 kw_1079 kw_45 kw_102) rfl rfl rfl (by decide +kernel) ⟨Nat.le_of_ble_eq_true rfl, Nat.le_of_ble_eq_true rfl⟩) rfl hl.1 rfl (Nat.le_of_ble_eq_true rfl) dX8_walkList_95 ⟨Nat.le_of_ble_eq_true rfl, Nat.le_of_ble_eq_true rfl⟩) hW (fun L_20 h_21 H locs p_23 hW => ?_)
          obtain ⟨hT, hs⟩ := p_23
          have hT : hx_T T_tb L_20 h_21 := hT
          have hs : hx_S T_tb [(39, 0)] hL1 hl1 L_20 h_21 := hs
          have f_x_3 := (hs.o gx trivial rfl).2.trans f_x_3
          have f_x_0 := (hs.o gx trivial rfl).1.trans f_x_0
          have pf_x_0 : ∀ j : Nat, (j : Int) < (h_21.2.1 x 0).toInt → h_21.2.2 ql j ≠ none := by
            intro j hj; rw [(hs.o gx trivial rfl).1] at hj; rw [(hs.a gql rfl j).2]; exact pf_x_0 j hj
          have hM := hM.tr (hs.mono (by decide))
          have gx := gx.S hs
          have gql := gql.S hs
          refine lv_aload_n hx hb dX8_walkList_98 rfl (lv_at hl 2 rfl) ?_
          refine lv_aload_n hx hb dX8_walkList_99 rfl (lv_at hl 2 rfl) ?_
          refine hk_geti hx hb hts hC_8 hown hW gx tt_8 0 (by decide) rfl kw_345 ⟨rfl, rfl, rfl⟩ f_x_0 dX8_walkList_100 ?_
          refine hx_puti hx hb hts hC_8 hown hW hT (hx_S.rf (M := [(8, 1)])) gx tt_8 1 (by decide) rfl kw_347 ⟨rfl, rfl, rfl⟩ rfl (x := cn) ⟨by omega, by omega⟩ rfl rfl rfl (List.mem_singleton.mpr rfl) dX8_walkList_103 (fun H locs h_25 eh_25 hW hT hs => ?_)
          have f_x_3 := (hs.o gx trivial rfl).2.trans f_x_3
          have f_x_0 := (hs.o gx trivial rfl).1.trans f_x_0
          have pf_x_0 : ∀ j : Nat, (j : Int) < (h_25.2.1 x 0).toInt → h_25.2.2 ql j ≠ none := by
            intro j hj; rw [(hs.o gx trivial rfl).1] at hj; rw [(hs.a gql rfl j).2]; exact pf_x_0 j hj
          have hM := hM.tr (hs.mono (by decide))
          have gx := gx.S hs
          have gql := gql.S hs
          have f_26 : h_25.2.1 x 1 = cn := by rw [eh_25]; exact hx_pi_at _ _ _ _
          refine lv_aload_n hx hb dX8_walkList_106 rfl (lv_at hl 2 rfl) ?_
          refine lv_iconst (v := 0) hx hb dX8_walkList_107 (by decide) ?_
          refine hx_puti hx hb hts hC_8 hown hW hT (hx_S.rf (M := [(8, 0)])) gx tt_8 0 (by decide) rfl kw_345 ⟨rfl, rfl, rfl⟩ rfl (x := (0 : Int32)) (by decide) rfl rfl rfl (List.mem_singleton.mpr rfl) dX8_walkList_108 (fun H locs h_27 eh_27 hW hT hs => ?_)
          have f_x_3 := (hs.o gx trivial rfl).2.trans f_x_3
          have f_26 := (hs.o gx trivial rfl).1.trans f_26
          have hM := hM.tr (hs.mono (by decide))
          have gx := gx.S hs
          have gql := gql.S hs
          have f_28 : h_27.2.1 x 0 = (0 : Int32) := by rw [eh_27]; exact hx_pi_at _ _ _ _
          refine lv_iload_n hx hb dX8_walkList_111 rfl (lv_at hl 0 rfl) ?_
          exact hx_reti hx hb hr hlk hW ⟨trivial, hT, hM⟩ dX8_walkList_112
      · skip
        refine lv_iconst (v := 0) hx hb dX8_walkList_15 (by decide) ?_
        refine lv_istore_n (lv' := [(3, .int (0 : Int32)), (2, .int iv11_2), (1, .int x_3), (0, .ref x)]) hx hb dX8_walkList_16 rfl hl (by decide) rfl (fun ls hl => ?_)
        have loop17 : ∀ (n17 : Nat) (iv17_3 : Int32) (H : Heap) (locs : List Loc) (hL1 : List Nat) (hl1 : hx_h), 0 ≤ iv17_3.toInt → iv17_3.toInt ≤ 8 → ∀ (ls : Array Slot), 8 - iv17_3.toInt < (n17 : Int) → hx_W T_tb (P_ty dA) (dC, dI) vwCl (hx_A L sz) s.heap hL1 hl1 s H locs → hx_T T_tb hL1 hl1 → hx_S T_tb [(8, 0), (8, 1), (39, 0), (41, 0)] L h hL1 hl1 → hl1.2.2 x 3 = some ql → hl1.2.1 x 0 = cn → hx_g hL1 hl1 x 8 → hx_g hL1 hl1 ql 40 → (∀ j : Nat, (j : Int) < (hl1.2.1 x 0).toInt → hl1.2.2 ql j ≠ none) → lv_has ls 4 [(3, .int iv17_3), (2, .int iv11_2), (1, .int x_3), (0, .ref x)] → W p l e ({ frames := 5, cells := 0, slots := 0, locals := 117 }) s m ([.ref x] : List Value).toArray below meth c H locs 0 0 (MQ below (va_Qi (fun (r : Int32) (u : List Nat × hx_h) => (True) ∧ hx_T T_tb u.1 u.2 ∧ hx_S T_tb [(8, 0), (8, 1), (39, 0), (41, 0)] L h u.1 u.2) (hx_E T_tb (P_ty dA) (dC, dI) vwCl (hx_A L sz)) (hx_A L sz)) ([.ref x] : List Value).toArray s 0 0 (hx_A L sz)) (F0 m 17 ls []) := by
          intro n17
          induction n17 with
          | zero => intro iv17_3 H locs hL1 hl1 bliv17_3 buiv17_3  ls hn17; exfalso; omega
          | succ n17 ih17 =>
            intro iv17_3 H locs hL1 hl1 bliv17_3 buiv17_3  ls hn17 hW hT hM f_x_3 f_x_0 gx gql pf_x_0 hl
            refine lv_iload_n hx hb dX8_walkList_17 rfl (lv_at hl 0 rfl) ?_
            refine lv_aload_n hx hb dX8_walkList_18 rfl (lv_at hl 3 rfl) ?_
            refine hk_geti hx hb hts hC_8 hown hW gx tt_8 0 (by decide) rfl kw_345 ⟨rfl, rfl, rfl⟩ f_x_0 dX8_walkList_19 ?_
            refine hb_icmp_ge (zx := iv17_3.toInt) (zy := cn.toInt) (tgt := 69) hx hb rfl rfl dX8_walkList_22 (by decide) (fun c_29 => ?_) (fun c_29 => ?_)
            · skip
              obtain ⟨x_30, ex_30⟩ : ∃ y : Int32, y = iv11_2 + Int32.ofInt (-1) := ⟨_, rfl⟩
              have rg_31 := i32_r iv11_2
              have zx_30 : x_30.toInt = iv11_2.toInt + (-1) := by rw [ex_30]; exact i32_add rfl (by decide) (by omega) (by omega)
              refine lv_iinc (v := x_30) (lv' := [(2, .int x_30), (3, .int iv17_3), (1, .int x_3), (0, .ref x)]) hx hb dX8_walkList_69 hl (k := 1) rfl ex_30.symm (by decide) rfl (fun ls hl => ?_)
              refine lv_goto (tgt := 11) hx hb dX8_walkList_72 (by decide) ?_
              exact ih11 x_30 _ _ hL1 hl1 (by omega) (by omega)  ls (by omega) hW hT hM f_x_3 f_x_0 gx gql pf_x_0 (lv_sub hl [0, 2, 3] rfl)
            · skip
              refine lv_iload_n hx hb dX8_walkList_25 rfl (lv_at hl 0 rfl) ?_
              refine lv_iload_n hx hb dX8_walkList_26 rfl (lv_at hl 1 rfl) ?_
              refine hx_goi (hx_runS (As := [.int iv17_3, .int iv11_2]) (rest := []) ⟨hx, hb, hml, hown, hts⟩ hW (t_X8_isIn l dC dI dA hL1 hl1 H.size iv17_3 iv11_2 hT) (va_cwS 2 hts (hx_gS kw_1058 kw_1056 kw_1057 kw_102) rfl rfl rfl (by decide +kernel) ⟨Nat.le_of_ble_eq_true rfl, Nat.le_of_ble_eq_true rfl⟩) rfl hl.1 rfl (Nat.le_of_ble_eq_true rfl) dX8_walkList_27 ⟨Nat.le_of_ble_eq_true rfl, Nat.le_of_ble_eq_true rfl⟩) hW (fun r_34 L_32 h_33 H locs p_35 hW => ?_)
              obtain ⟨hr_36, hT, hs⟩ := p_35
              have hT : hx_T T_tb L_32 h_33 := hT
              have hs : hx_S T_tb [] hL1 hl1 L_32 h_33 := hs
              have f_x_3 := (hs.o gx trivial rfl).2.trans f_x_3
              have f_x_0 := (hs.o gx trivial rfl).1.trans f_x_0
              have pf_x_0 : ∀ j : Nat, (j : Int) < (h_33.2.1 x 0).toInt → h_33.2.2 ql j ≠ none := by
                intro j hj; rw [(hs.o gx trivial rfl).1] at hj; rw [(hs.a gql rfl j).2]; exact pf_x_0 j hj
              have hM := hM.tr (hs.mono (by decide))
              have gx := gx.S hs
              have gql := gql.S hs
              refine hb_if_eq (zx := r_34.toInt) (tgt := 63) hx hb rfl dX8_walkList_30 (by decide) (fun c_37 => ?_) (fun c_37 => ?_)
              · skip
                obtain ⟨x_38, ex_38⟩ : ∃ y : Int32, y = iv17_3 + Int32.ofInt 1 := ⟨_, rfl⟩
                have rg_39 := i32_r iv17_3
                have zx_38 : x_38.toInt = iv17_3.toInt + (1) := by rw [ex_38]; exact i32_add rfl (by decide) (by omega) (by omega)
                refine lv_iinc (v := x_38) (lv' := [(3, .int x_38), (2, .int iv11_2), (1, .int x_3), (0, .ref x)]) hx hb dX8_walkList_63 hl (k := 0) rfl ex_38.symm (by decide) rfl (fun ls hl => ?_)
                refine lv_goto (tgt := 17) hx hb dX8_walkList_66 (by decide) ?_
                exact ih17 x_38 _ _ L_32 h_33 (by omega) (by omega)  ls (by omega) hW hT hM f_x_3 f_x_0 gx gql pf_x_0 (lv_sub hl [0, 1, 2, 3] rfl)
              · skip
                refine lv_aload_n hx hb dX8_walkList_33 rfl (lv_at hl 3 rfl) ?_
                refine hx_getn hx hb hts hC_8 hown hW hT gx tt_8 4 (by decide) rfl kw_352 ⟨rfl, rfl, rfl⟩ dX8_walkList_34 (fun q_40 fq_40 gq_40 => ?_)
                refine lv_iload_n hx hb dX8_walkList_37 rfl (lv_at hl 1 rfl) ?_
                refine lv_bipush (v := 8) hx hb dX8_walkList_38 (by decide) ?_
                refine lv_imul hx hb dX8_walkList_40 ?_
                refine lv_topi (fun x_41 ex_41 => ?_)
                have zx_41 : x_41.toInt = iv11_2.toInt * 8 := by rw [ex_41]; exact i32_mul rfl (by decide) rfl (by omega) (by omega)
                refine lv_iload_n hx hb dX8_walkList_41 rfl (lv_at hl 0 rfl) ?_
                refine lv_iadd hx hb dX8_walkList_42 ?_
                have rg_42 := i32_r x_41
                have rg_43 := i32_r iv17_3
                refine lv_topi (fun x_44 ex_44 => ?_)
                have zx_44 : x_44.toInt = x_41.toInt + iv17_3.toInt := by rw [ex_44]; exact i32_add rfl rfl (by omega) (by omega)
                refine lv_iload_n hx hb dX8_walkList_43 rfl (lv_at hl 1 rfl) ?_
                refine lv_iload_n hx hb dX8_walkList_44 rfl (lv_at hl 2 rfl) ?_
                refine hb_icmp_ne (zx := iv11_2.toInt) (zy := x_3.toInt) (tgt := 56) hx hb rfl rfl dX8_walkList_45 (by decide) (fun c_45 => ?_) (fun c_45 => ?_)
                · skip
                  refine lv_aload_n hx hb dX8_walkList_56 rfl (lv_at hl 3 rfl) ?_
                  refine lv_iload_n hx hb dX8_walkList_57 rfl (lv_at hl 1 rfl) ?_
                  refine lv_iload_n hx hb dX8_walkList_58 rfl (lv_at hl 0 rfl) ?_
                  refine hx_goi (hx_runV (As := [.int iv11_2, .int iv17_3]) (rest := [.int x_44, .ref q_40]) ⟨hx, hb, hml, hown, hts⟩ hW gx tt_8 (T := TX8) (N := 5) rfl (t_X8_leastOn l dC dI dA L_32 h_33 H.size x iv11_2 iv17_3 hT gx cn f_x_0 ⟨by omega, by omega⟩ ⟨by omega, by omega⟩ ql gql f_x_3 pf_x_0) (cwV 2 hts (hx_gV kw_1067 kw_1064 kw_1066 kw_43 kw_102) rfl rfl rfl (by decide +kernel) ⟨Nat.le_of_ble_eq_true rfl, Nat.le_of_ble_eq_true rfl⟩) rfl hl.1 rfl (Nat.le_of_ble_eq_true rfl) dX8_walkList_59 ⟨Nat.le_of_ble_eq_true rfl, Nat.le_of_ble_eq_true rfl⟩) hW (fun r_48 L_46 h_47 H locs p_49 hW => ?_)
                  obtain ⟨hr_50, hT, hs⟩ := p_49
                  have hT : hx_T T_tb L_46 h_47 := hT
                  have hs : hx_S T_tb [] L_32 h_33 L_46 h_47 := hs
                  have f_x_3 := (hs.o gx trivial rfl).2.trans f_x_3
                  have f_x_0 := (hs.o gx trivial rfl).1.trans f_x_0
                  have fq_40 := (hs.o gx trivial rfl).2.trans fq_40
                  have pf_x_0 : ∀ j : Nat, (j : Int) < (h_47.2.1 x 0).toInt → h_47.2.2 ql j ≠ none := by
                    intro j hj; rw [(hs.o gx trivial rfl).1] at hj; rw [(hs.a gql rfl j).2]; exact pf_x_0 j hj
                  have hM := hM.tr (hs.mono (by decide))
                  have gx := gx.S hs
                  have gql := gql.S hs
                  have gq_40 := gq_40.S hs
                  refine hx_iast hx hb hW hT (hx_S.rf (M := [(41, 0)])) gq_40 tt_41 rfl ⟨by omega, by omega⟩ rfl (i32_r _) (List.mem_singleton.mpr rfl) dX8_walkList_62 (fun H locs h_51 eh_51 hW hT hs => ?_)
                  have f_x_3 := (hs.o gx trivial rfl).2.trans f_x_3
                  have f_x_0 := (hs.o gx trivial rfl).1.trans f_x_0
                  have fq_40 := (hs.o gx trivial rfl).2.trans fq_40
                  have pf_x_0 : ∀ j : Nat, (j : Int) < (h_51.2.1 x 0).toInt → h_51.2.2 ql j ≠ none := by
                    intro j hj; rw [(hs.o gx trivial rfl).1] at hj; rw [(hs.a gql rfl j).2]; exact pf_x_0 j hj
                  have hM := hM.tr (hs.mono (by decide))
                  have gx := gx.S hs
                  have gql := gql.S hs
                  have gq_40 := gq_40.S hs
                  obtain ⟨x_52, ex_52⟩ : ∃ y : Int32, y = iv17_3 + Int32.ofInt 1 := ⟨_, rfl⟩
                  have zx_52 : x_52.toInt = iv17_3.toInt + (1) := by rw [ex_52]; exact i32_add rfl (by decide) (by omega) (by omega)
                  refine lv_iinc (v := x_52) (lv' := [(3, .int x_52), (2, .int iv11_2), (1, .int x_3), (0, .ref x)]) hx hb dX8_walkList_63 hl (k := 0) rfl ex_52.symm (by decide) rfl (fun ls hl => ?_)
                  refine lv_goto (tgt := 17) hx hb dX8_walkList_66 (by decide) ?_
                  exact ih17 x_52 _ _ L_46 h_51 (by omega) (by omega)  ls (by omega) hW hT hM f_x_3 f_x_0 gx gql pf_x_0 (lv_sub hl [0, 1, 2, 3] rfl)
                · skip
                  refine lv_aload_n hx hb dX8_walkList_48 rfl (lv_at hl 3 rfl) ?_
                  refine lv_iload_n hx hb dX8_walkList_49 rfl (lv_at hl 0 rfl) ?_
                  refine hx_goi (hx_runV (As := [.int iv17_3]) (rest := [.int x_44, .ref q_40]) ⟨hx, hb, hml, hown, hts⟩ hW gx tt_8 (T := TX8) (N := 5) rfl (t_X8_fromCourt l dC dI dA L_32 h_33 H.size x iv17_3 hT gx cn f_x_0 ⟨by omega, by omega⟩ ql gql f_x_3 pf_x_0) (cwV 1 hts (hx_gV kw_1062 kw_1059 kw_1061 kw_42 kw_102) rfl rfl rfl (by decide +kernel) ⟨Nat.le_of_ble_eq_true rfl, Nat.le_of_ble_eq_true rfl⟩) rfl hl.1 rfl (Nat.le_of_ble_eq_true rfl) dX8_walkList_50 ⟨Nat.le_of_ble_eq_true rfl, Nat.le_of_ble_eq_true rfl⟩) hW (fun r_55 L_53 h_54 H locs p_56 hW => ?_)
                  obtain ⟨hr_57, hT, hs⟩ := p_56
                  have hT : hx_T T_tb L_53 h_54 := hT
                  have hs : hx_S T_tb [] L_32 h_33 L_53 h_54 := hs
                  have f_x_3 := (hs.o gx trivial rfl).2.trans f_x_3
                  have f_x_0 := (hs.o gx trivial rfl).1.trans f_x_0
                  have fq_40 := (hs.o gx trivial rfl).2.trans fq_40
                  have pf_x_0 : ∀ j : Nat, (j : Int) < (h_54.2.1 x 0).toInt → h_54.2.2 ql j ≠ none := by
                    intro j hj; rw [(hs.o gx trivial rfl).1] at hj; rw [(hs.a gql rfl j).2]; exact pf_x_0 j hj
                  have hM := hM.tr (hs.mono (by decide))
                  have gx := gx.S hs
                  have gql := gql.S hs
                  have gq_40 := gq_40.S hs
                  refine lv_goto (tgt := 62) hx hb dX8_walkList_53 (by decide) ?_
                  refine hx_iast hx hb hW hT (hx_S.rf (M := [(41, 0)])) gq_40 tt_41 rfl ⟨by omega, by omega⟩ rfl (i32_r _) (List.mem_singleton.mpr rfl) dX8_walkList_62 (fun H locs h_58 eh_58 hW hT hs => ?_)
                  have f_x_3 := (hs.o gx trivial rfl).2.trans f_x_3
                  have f_x_0 := (hs.o gx trivial rfl).1.trans f_x_0
                  have fq_40 := (hs.o gx trivial rfl).2.trans fq_40
                  have pf_x_0 : ∀ j : Nat, (j : Int) < (h_58.2.1 x 0).toInt → h_58.2.2 ql j ≠ none := by
                    intro j hj; rw [(hs.o gx trivial rfl).1] at hj; rw [(hs.a gql rfl j).2]; exact pf_x_0 j hj
                  have hM := hM.tr (hs.mono (by decide))
                  have gx := gx.S hs
                  have gql := gql.S hs
                  have gq_40 := gq_40.S hs
                  obtain ⟨x_59, ex_59⟩ : ∃ y : Int32, y = iv17_3 + Int32.ofInt 1 := ⟨_, rfl⟩
                  have zx_59 : x_59.toInt = iv17_3.toInt + (1) := by rw [ex_59]; exact i32_add rfl (by decide) (by omega) (by omega)
                  refine lv_iinc (v := x_59) (lv' := [(3, .int x_59), (2, .int iv11_2), (1, .int x_3), (0, .ref x)]) hx hb dX8_walkList_63 hl (k := 0) rfl ex_59.symm (by decide) rfl (fun ls hl => ?_)
                  refine lv_goto (tgt := 17) hx hb dX8_walkList_66 (by decide) ?_
                  exact ih17 x_59 _ _ L_53 h_58 (by omega) (by omega)  ls (by omega) hW hT hM f_x_3 f_x_0 gx gql pf_x_0 (lv_sub hl [0, 1, 2, 3] rfl)
        have zk_0 : (0 : Int32).toInt = 0 := by decide
        exact loop17 9 (0 : Int32) _ _ hL1 hl1 (by decide) (by decide)  ls (by omega) hW hT hM f_x_3 f_x_0 gx gql pf_x_0 hl
  exact loop11 256 x_3 _ _ L h (by omega) (by omega)  ls (by omega) hW hT hM f_x_3 f_x_0 gx gql pf_x_0 hl
