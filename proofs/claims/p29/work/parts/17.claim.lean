def wLX2_paidOn_0 : List Nat := [42, 180, 0, 28, 28, 184, 0, 60, 153, 0, 10, 42, 180, 0, 98, 167, 0, 4, 3, 54, 4, 42, 180, 0, 25, 28, 184, 0, 60, 153, 0, 19, 43, 42, 180, 0, 34, 28, 29, 182, 0, 101, 21, 4, 96, 167, 0, 4, 3, 172]
theorem wX2_paidOn_0 : (cX2_paidOn.data.toList.map UInt8.toNat).drop 0 = wLX2_paidOn_0 ++ ([]) := by decide +kernel
theorem dX2_paidOn_0 : decode cX2_paidOn 0 = .ok (.aload_n 0, 1) := dq_42 (hz_wg wX2_paidOn_0 (j := 0) (n := 42) rfl)
theorem dX2_paidOn_1 : decode cX2_paidOn 1 = .ok (.getfield 28, 3) := dq_180 (hz_wg wX2_paidOn_0 (j := 1) (n := 180) rfl) (hz_wg wX2_paidOn_0 (j := 2) (n := 0) rfl) (hz_wg wX2_paidOn_0 (j := 3) (n := 28) rfl) rfl
theorem dX2_paidOn_4 : decode cX2_paidOn 4 = .ok (.iload_n 2, 1) := dq_28 (hz_wg wX2_paidOn_0 (j := 4) (n := 28) rfl)
theorem dX2_paidOn_5 : decode cX2_paidOn 5 = .ok (.invokestatic 60, 3) := dq_184 (hz_wg wX2_paidOn_0 (j := 5) (n := 184) rfl) (hz_wg wX2_paidOn_0 (j := 6) (n := 0) rfl) (hz_wg wX2_paidOn_0 (j := 7) (n := 60) rfl) rfl
theorem dX2_paidOn_8 : decode cX2_paidOn 8 = .ok (.ifCond .eq 10, 3) := dq_153 (hz_wg wX2_paidOn_0 (j := 8) (n := 153) rfl) (hz_wg wX2_paidOn_0 (j := 9) (n := 0) rfl) (hz_wg wX2_paidOn_0 (j := 10) (n := 10) rfl) (by decide)
theorem dX2_paidOn_11 : decode cX2_paidOn 11 = .ok (.aload_n 0, 1) := dq_42 (hz_wg wX2_paidOn_0 (j := 11) (n := 42) rfl)
theorem dX2_paidOn_12 : decode cX2_paidOn 12 = .ok (.getfield 98, 3) := dq_180 (hz_wg wX2_paidOn_0 (j := 12) (n := 180) rfl) (hz_wg wX2_paidOn_0 (j := 13) (n := 0) rfl) (hz_wg wX2_paidOn_0 (j := 14) (n := 98) rfl) rfl
theorem dX2_paidOn_15 : decode cX2_paidOn 15 = .ok (.goto 4, 3) := dq_167 (hz_wg wX2_paidOn_0 (j := 15) (n := 167) rfl) (hz_wg wX2_paidOn_0 (j := 16) (n := 0) rfl) (hz_wg wX2_paidOn_0 (j := 17) (n := 4) rfl) (by decide)
theorem dX2_paidOn_18 : decode cX2_paidOn 18 = .ok (.iconst 0, 1) := dq_3 (hz_wg wX2_paidOn_0 (j := 18) (n := 3) rfl)
theorem dX2_paidOn_19 : decode cX2_paidOn 19 = .ok (.istore 4, 2) := dq_54 (hz_wg wX2_paidOn_0 (j := 19) (n := 54) rfl) (hz_wg wX2_paidOn_0 (j := 20) (n := 4) rfl)
theorem dX2_paidOn_21 : decode cX2_paidOn 21 = .ok (.aload_n 0, 1) := dq_42 (hz_wg wX2_paidOn_0 (j := 21) (n := 42) rfl)
theorem dX2_paidOn_22 : decode cX2_paidOn 22 = .ok (.getfield 25, 3) := dq_180 (hz_wg wX2_paidOn_0 (j := 22) (n := 180) rfl) (hz_wg wX2_paidOn_0 (j := 23) (n := 0) rfl) (hz_wg wX2_paidOn_0 (j := 24) (n := 25) rfl) rfl
theorem dX2_paidOn_25 : decode cX2_paidOn 25 = .ok (.iload_n 2, 1) := dq_28 (hz_wg wX2_paidOn_0 (j := 25) (n := 28) rfl)
theorem dX2_paidOn_26 : decode cX2_paidOn 26 = .ok (.invokestatic 60, 3) := dq_184 (hz_wg wX2_paidOn_0 (j := 26) (n := 184) rfl) (hz_wg wX2_paidOn_0 (j := 27) (n := 0) rfl) (hz_wg wX2_paidOn_0 (j := 28) (n := 60) rfl) rfl
theorem dX2_paidOn_29 : decode cX2_paidOn 29 = .ok (.ifCond .eq 19, 3) := dq_153 (hz_wg wX2_paidOn_0 (j := 29) (n := 153) rfl) (hz_wg wX2_paidOn_0 (j := 30) (n := 0) rfl) (hz_wg wX2_paidOn_0 (j := 31) (n := 19) rfl) (by decide)
theorem dX2_paidOn_32 : decode cX2_paidOn 32 = .ok (.aload_n 1, 1) := dq_43 (hz_wg wX2_paidOn_0 (j := 32) (n := 43) rfl)
theorem dX2_paidOn_33 : decode cX2_paidOn 33 = .ok (.aload_n 0, 1) := dq_42 (hz_wg wX2_paidOn_0 (j := 33) (n := 42) rfl)
theorem dX2_paidOn_34 : decode cX2_paidOn 34 = .ok (.getfield 34, 3) := dq_180 (hz_wg wX2_paidOn_0 (j := 34) (n := 180) rfl) (hz_wg wX2_paidOn_0 (j := 35) (n := 0) rfl) (hz_wg wX2_paidOn_0 (j := 36) (n := 34) rfl) rfl
theorem dX2_paidOn_37 : decode cX2_paidOn 37 = .ok (.iload_n 2, 1) := dq_28 (hz_wg wX2_paidOn_0 (j := 37) (n := 28) rfl)
theorem dX2_paidOn_38 : decode cX2_paidOn 38 = .ok (.iload_n 3, 1) := dq_29 (hz_wg wX2_paidOn_0 (j := 38) (n := 29) rfl)
theorem dX2_paidOn_39 : decode cX2_paidOn 39 = .ok (.invokevirtual 101, 3) := dq_182 (hz_wg wX2_paidOn_0 (j := 39) (n := 182) rfl) (hz_wg wX2_paidOn_0 (j := 40) (n := 0) rfl) (hz_wg wX2_paidOn_0 (j := 41) (n := 101) rfl) rfl
theorem dX2_paidOn_42 : decode cX2_paidOn 42 = .ok (.iload 4, 2) := dq_21 (hz_wg wX2_paidOn_0 (j := 42) (n := 21) rfl) (hz_wg wX2_paidOn_0 (j := 43) (n := 4) rfl)
theorem dX2_paidOn_44 : decode cX2_paidOn 44 = .ok (.iadd, 1) := dq_96 (hz_wg wX2_paidOn_0 (j := 44) (n := 96) rfl)
theorem dX2_paidOn_45 : decode cX2_paidOn 45 = .ok (.goto 4, 3) := dq_167 (hz_wg wX2_paidOn_0 (j := 45) (n := 167) rfl) (hz_wg wX2_paidOn_0 (j := 46) (n := 0) rfl) (hz_wg wX2_paidOn_0 (j := 47) (n := 4) rfl) (by decide)
theorem dX2_paidOn_48 : decode cX2_paidOn 48 = .ok (.iconst 0, 1) := dq_3 (hz_wg wX2_paidOn_0 (j := 48) (n := 3) rfl)
theorem dX2_paidOn_49 : decode cX2_paidOn 49 = .ok (.ireturn, 1) := dq_172 (hz_wg wX2_paidOn_0 (j := 49) (n := 172) rfl)
set_option maxHeartbeats 4000000 in
set_option maxRecDepth 100000 in
theorem t_X2_paidOn (l : Launch) (dC : Nat → ClassId) (dI : Nat → Nat → Nat) (dA : Nat → ClassId) (L : List Nat) (h : hx_h) (sz : Nat) (x : Nat) (v1 : Nat) (i1 : Int32) (i2 : Int32) (hT : hx_T T_tb L h) (gx : hx_g L h x 2) (gv1 : hx_g L h v1 3)  : Met l yX2_paidOn (Cond.code yX2_paidOn cX2_paidOn 5 (some .int) :: hx_all) ({ frames := 1, cells := 0, slots := 0, locals := 26 }) (va_Pc [.ref x, .ref v1, .int i1, .int i2] (hx_B T_tb (P_ty dA) (dC, dI) vwCl L h sz)) (va_Qi (fun (r : Int32) (u : List Nat × hx_h) => (True) ∧ hx_T T_tb u.1 u.2 ∧ hx_S T_tb [] L h u.1 u.2) (hx_E T_tb (P_ty dA) (dC, dI) vwCl (hx_A L sz)) (hx_A L sz)) 0 0 (hx_A L sz) := by
  refine hx_met (lv := [(0, .ref x), (1, .ref v1), (2, .int i1), (3, .int i2)]) (by decide +kernel) rfl (Nat.le_of_ble_eq_true rfl) rfl ?_
  intro p e s m below meth c hx hb hml hr hlk hts0 hown hin hsz hW ls hl
  have hts : ∀ w ∈ hx_all, w.before _ s = true := fun w hw => hts0 w (List.mem_cons_of_mem _ hw)
  have hown : s.vm.findClass "SmallCourt$Claim" = some m.cls := hown
  have hM : hx_S T_tb [] L h L h := hx_S.rf
  refine lv_aload_n hx hb dX2_paidOn_0 rfl (lv_at hl 0 rfl) ?_
  refine hx_geti hx hb hts hC_2 hown hW hT gx tt_2 16 (by decide) rfl kw_758 ⟨rfl, rfl, rfl⟩ dX2_paidOn_1 (fun x_1 ex_1 lx_1 ux_1 => ?_)
  have fx_1 := ex_1.symm
  refine lv_iload_n hx hb dX2_paidOn_4 rfl (lv_at hl 2 rfl) ?_
  refine hx_goi (hx_runS (As := [.int x_1, .int i1]) (rest := []) ⟨hx, hb, hml, hown, hts⟩ hW (t_X2_isDone l dC dI dA L h s.heap.size x_1 i1 hT) (va_cwS 2 hts (hx_gS kw_864 kw_862 kw_863 kw_110) rfl rfl rfl (by decide +kernel) ⟨Nat.le_of_ble_eq_true rfl, Nat.le_of_ble_eq_true rfl⟩) rfl hl.1 rfl (Nat.le_of_ble_eq_true rfl) dX2_paidOn_5 ⟨Nat.le_of_ble_eq_true rfl, Nat.le_of_ble_eq_true rfl⟩) hW (fun r_4 L_2 h_3 H locs p_5 hW => ?_)
  obtain ⟨hr_6, hT, hs⟩ := p_5
  replace hT : hx_T T_tb L_2 h_3 := hT
  replace hs : hx_S T_tb [] L h L_2 h_3 := hs
  replace fx_1 := (hs.o gx trivial rfl).1.trans fx_1
  replace hM := hM.tr (hs.mono (by decide))
  replace gx := gx.S hs
  replace gv1 := gv1.S hs
  refine hb_if_eq (zx := r_4.toInt) (tgt := 18) hx hb rfl dX2_paidOn_8 (by decide) (fun c_7 => ?_) (fun c_7 => ?_)
  · skip
    refine lv_iconst (v := 0) hx hb dX2_paidOn_18 (by decide) ?_
    refine lv_istore (lv' := [(4, .int (0 : Int32)), (0, .ref x), (1, .ref v1), (2, .int i1), (3, .int i2)]) hx hb dX2_paidOn_19 hl (by decide) rfl (fun ls hl => ?_)
    refine lv_aload_n hx hb dX2_paidOn_21 rfl (lv_at hl 1 rfl) ?_
    refine hx_geti hx hb hts hC_2 hown hW hT gx tt_2 13 (by decide) rfl kw_752 ⟨rfl, rfl, rfl⟩ dX2_paidOn_22 (fun x_8 ex_8 lx_8 ux_8 => ?_)
    have fx_8 := ex_8.symm
    refine lv_iload_n hx hb dX2_paidOn_25 rfl (lv_at hl 3 rfl) ?_
    refine hx_goi (hx_runS (As := [.int x_8, .int i1]) (rest := []) ⟨hx, hb, hml, hown, hts⟩ hW (t_X2_isDone l dC dI dA L_2 h_3 H.size x_8 i1 hT) (va_cwS 2 hts (hx_gS kw_864 kw_862 kw_863 kw_110) rfl rfl rfl (by decide +kernel) ⟨Nat.le_of_ble_eq_true rfl, Nat.le_of_ble_eq_true rfl⟩) rfl hl.1 rfl (Nat.le_of_ble_eq_true rfl) dX2_paidOn_26 ⟨Nat.le_of_ble_eq_true rfl, Nat.le_of_ble_eq_true rfl⟩) hW (fun r_11 L_9 h_10 H locs p_12 hW => ?_)
    obtain ⟨hr_13, hT, hs⟩ := p_12
    replace hT : hx_T T_tb L_9 h_10 := hT
    replace hs : hx_S T_tb [] L_2 h_3 L_9 h_10 := hs
    replace fx_1 := (hs.o gx trivial rfl).1.trans fx_1
    replace fx_8 := (hs.o gx trivial rfl).1.trans fx_8
    replace hM := hM.tr (hs.mono (by decide))
    replace gx := gx.S hs
    replace gv1 := gv1.S hs
    refine hb_if_eq (zx := r_11.toInt) (tgt := 48) hx hb rfl dX2_paidOn_29 (by decide) (fun c_14 => ?_) (fun c_14 => ?_)
    · skip
      refine lv_iconst (v := 0) hx hb dX2_paidOn_48 (by decide) ?_
      exact hx_reti hx hb hr hlk hW ⟨trivial, hT, hM⟩ dX2_paidOn_49
    · skip
      refine lv_aload_n hx hb dX2_paidOn_32 rfl (lv_at hl 2 rfl) ?_
      refine lv_aload_n hx hb dX2_paidOn_33 rfl (lv_at hl 1 rfl) ?_
      refine hx_geti hx hb hts hC_2 hown hW hT gx tt_2 0 (by decide) rfl kw_721 ⟨rfl, rfl, rfl⟩ dX2_paidOn_34 (fun x_15 ex_15 lx_15 ux_15 => ?_)
      have fx_15 := ex_15.symm
      refine lv_iload_n hx hb dX2_paidOn_37 rfl (lv_at hl 3 rfl) ?_
      refine lv_iload_n hx hb dX2_paidOn_38 rfl (lv_at hl 4 rfl) ?_
      refine hx_goi (hx_runV (As := [.int x_15, .int i1, .int i2]) (rest := []) ⟨hx, hb, hml, hown, hts⟩ hW gv1 tt_3 (T := TX3) (N := 6) rfl (t_X3_sumFor l dC dI dA L_9 h_10 H.size v1 x_15 i1 i2 hT gv1) (cwV 3 hts (hx_gV kw_880 kw_877 kw_878 kw_879 kw_99) rfl rfl rfl (by decide +kernel) ⟨Nat.le_of_ble_eq_true rfl, Nat.le_of_ble_eq_true rfl⟩) rfl hl.1 rfl (Nat.le_of_ble_eq_true rfl) dX2_paidOn_39 ⟨Nat.le_of_ble_eq_true rfl, Nat.le_of_ble_eq_true rfl⟩) hW (fun r_18 L_16 h_17 H locs p_19 hW => ?_)
      obtain ⟨hr_20, hT, hs⟩ := p_19
      replace hT : hx_T T_tb L_16 h_17 := hT
      replace hs : hx_S T_tb [] L_9 h_10 L_16 h_17 := hs
      replace fx_1 := (hs.o gx trivial rfl).1.trans fx_1
      replace fx_8 := (hs.o gx trivial rfl).1.trans fx_8
      replace fx_15 := (hs.o gx trivial rfl).1.trans fx_15
      replace hM := hM.tr (hs.mono (by decide))
      replace gx := gx.S hs
      replace gv1 := gv1.S hs
      refine lv_iload hx hb dX2_paidOn_42 (lv_at hl 0 rfl) ?_
      refine lv_iadd hx hb dX2_paidOn_44 ?_
      have rg_21 := i32_r r_18
      refine lv_topi (fun x_22 ex_22 => ?_)
      refine lv_goto (tgt := 49) hx hb dX2_paidOn_45 (by decide) ?_
      exact hx_reti hx hb hr hlk hW ⟨trivial, hT, hM⟩ dX2_paidOn_49
  · skip
    refine lv_aload_n hx hb dX2_paidOn_11 rfl (lv_at hl 0 rfl) ?_
    refine hx_geti hx hb hts hC_2 hown hW hT gx tt_2 17 (by decide) rfl kw_760 ⟨rfl, rfl, rfl⟩ dX2_paidOn_12 (fun x_23 ex_23 lx_23 ux_23 => ?_)
    have fx_23 := ex_23.symm
    refine lv_goto (tgt := 19) hx hb dX2_paidOn_15 (by decide) ?_
    refine lv_istore (lv' := [(4, .int x_23), (0, .ref x), (1, .ref v1), (2, .int i1), (3, .int i2)]) hx hb dX2_paidOn_19 hl (by decide) rfl (fun ls hl => ?_)
    refine lv_aload_n hx hb dX2_paidOn_21 rfl (lv_at hl 1 rfl) ?_
    refine hx_geti hx hb hts hC_2 hown hW hT gx tt_2 13 (by decide) rfl kw_752 ⟨rfl, rfl, rfl⟩ dX2_paidOn_22 (fun x_24 ex_24 lx_24 ux_24 => ?_)
    have fx_24 := ex_24.symm
    refine lv_iload_n hx hb dX2_paidOn_25 rfl (lv_at hl 3 rfl) ?_
    refine hx_goi (hx_runS (As := [.int x_24, .int i1]) (rest := []) ⟨hx, hb, hml, hown, hts⟩ hW (t_X2_isDone l dC dI dA L_2 h_3 H.size x_24 i1 hT) (va_cwS 2 hts (hx_gS kw_864 kw_862 kw_863 kw_110) rfl rfl rfl (by decide +kernel) ⟨Nat.le_of_ble_eq_true rfl, Nat.le_of_ble_eq_true rfl⟩) rfl hl.1 rfl (Nat.le_of_ble_eq_true rfl) dX2_paidOn_26 ⟨Nat.le_of_ble_eq_true rfl, Nat.le_of_ble_eq_true rfl⟩) hW (fun r_27 L_25 h_26 H locs p_28 hW => ?_)
    obtain ⟨hr_29, hT, hs⟩ := p_28
    replace hT : hx_T T_tb L_25 h_26 := hT
    replace hs : hx_S T_tb [] L_2 h_3 L_25 h_26 := hs
    replace fx_1 := (hs.o gx trivial rfl).1.trans fx_1
    replace fx_23 := (hs.o gx trivial rfl).1.trans fx_23
    replace fx_24 := (hs.o gx trivial rfl).1.trans fx_24
    replace hM := hM.tr (hs.mono (by decide))
    replace gx := gx.S hs
    replace gv1 := gv1.S hs
    refine hb_if_eq (zx := r_27.toInt) (tgt := 48) hx hb rfl dX2_paidOn_29 (by decide) (fun c_30 => ?_) (fun c_30 => ?_)
    · skip
      refine lv_iconst (v := 0) hx hb dX2_paidOn_48 (by decide) ?_
      exact hx_reti hx hb hr hlk hW ⟨trivial, hT, hM⟩ dX2_paidOn_49
    · skip
      refine lv_aload_n hx hb dX2_paidOn_32 rfl (lv_at hl 2 rfl) ?_
      refine lv_aload_n hx hb dX2_paidOn_33 rfl (lv_at hl 1 rfl) ?_
      refine hx_geti hx hb hts hC_2 hown hW hT gx tt_2 0 (by decide) rfl kw_721 ⟨rfl, rfl, rfl⟩ dX2_paidOn_34 (fun x_31 ex_31 lx_31 ux_31 => ?_)
      have fx_31 := ex_31.symm
      refine lv_iload_n hx hb dX2_paidOn_37 rfl (lv_at hl 3 rfl) ?_
      refine lv_iload_n hx hb dX2_paidOn_38 rfl (lv_at hl 4 rfl) ?_
      refine hx_goi (hx_runV (As := [.int x_31, .int i1, .int i2]) (rest := []) ⟨hx, hb, hml, hown, hts⟩ hW gv1 tt_3 (T := TX3) (N := 6) rfl (t_X3_sumFor l dC dI dA L_25 h_26 H.size v1 x_31 i1 i2 hT gv1) (cwV 3 hts (hx_gV kw_880 kw_877 kw_878 kw_879 kw_99) rfl rfl rfl (by decide +kernel) ⟨Nat.le_of_ble_eq_true rfl, Nat.le_of_ble_eq_true rfl⟩) rfl hl.1 rfl (Nat.le_of_ble_eq_true rfl) dX2_paidOn_39 ⟨Nat.le_of_ble_eq_true rfl, Nat.le_of_ble_eq_true rfl⟩) hW (fun r_34 L_32 h_33 H locs p_35 hW => ?_)
      obtain ⟨hr_36, hT, hs⟩ := p_35
      replace hT : hx_T T_tb L_32 h_33 := hT
      replace hs : hx_S T_tb [] L_25 h_26 L_32 h_33 := hs
      replace fx_1 := (hs.o gx trivial rfl).1.trans fx_1
      replace fx_23 := (hs.o gx trivial rfl).1.trans fx_23
      replace fx_24 := (hs.o gx trivial rfl).1.trans fx_24
      replace fx_31 := (hs.o gx trivial rfl).1.trans fx_31
      replace hM := hM.tr (hs.mono (by decide))
      replace gx := gx.S hs
      replace gv1 := gv1.S hs
      refine lv_iload hx hb dX2_paidOn_42 (lv_at hl 0 rfl) ?_
      refine lv_iadd hx hb dX2_paidOn_44 ?_
      have rg_37 := i32_r r_34
      have rg_38 := i32_r x_23
      refine lv_topi (fun x_39 ex_39 => ?_)
      refine lv_goto (tgt := 49) hx hb dX2_paidOn_45 (by decide) ?_
      exact hx_reti hx hb hr hlk hW ⟨trivial, hT, hM⟩ dX2_paidOn_49

def wLX2_owedOn_0 : List Nat := [42, 180, 0, 28, 27, 184, 0, 60, 153, 0, 21, 42, 180, 0, 107, 42, 180, 0, 44, 180, 0, 51, 16, 13, 46, 96, 167, 0, 7, 42, 180, 0, 107, 172]
theorem wX2_owedOn_0 : (cX2_owedOn.data.toList.map UInt8.toNat).drop 0 = wLX2_owedOn_0 ++ ([]) := by decide +kernel
theorem dX2_owedOn_0 : decode cX2_owedOn 0 = .ok (.aload_n 0, 1) := dq_42 (hz_wg wX2_owedOn_0 (j := 0) (n := 42) rfl)
theorem dX2_owedOn_1 : decode cX2_owedOn 1 = .ok (.getfield 28, 3) := dq_180 (hz_wg wX2_owedOn_0 (j := 1) (n := 180) rfl) (hz_wg wX2_owedOn_0 (j := 2) (n := 0) rfl) (hz_wg wX2_owedOn_0 (j := 3) (n := 28) rfl) rfl
theorem dX2_owedOn_4 : decode cX2_owedOn 4 = .ok (.iload_n 1, 1) := dq_27 (hz_wg wX2_owedOn_0 (j := 4) (n := 27) rfl)
theorem dX2_owedOn_5 : decode cX2_owedOn 5 = .ok (.invokestatic 60, 3) := dq_184 (hz_wg wX2_owedOn_0 (j := 5) (n := 184) rfl) (hz_wg wX2_owedOn_0 (j := 6) (n := 0) rfl) (hz_wg wX2_owedOn_0 (j := 7) (n := 60) rfl) rfl
theorem dX2_owedOn_8 : decode cX2_owedOn 8 = .ok (.ifCond .eq 21, 3) := dq_153 (hz_wg wX2_owedOn_0 (j := 8) (n := 153) rfl) (hz_wg wX2_owedOn_0 (j := 9) (n := 0) rfl) (hz_wg wX2_owedOn_0 (j := 10) (n := 21) rfl) (by decide)
theorem dX2_owedOn_11 : decode cX2_owedOn 11 = .ok (.aload_n 0, 1) := dq_42 (hz_wg wX2_owedOn_0 (j := 11) (n := 42) rfl)
theorem dX2_owedOn_12 : decode cX2_owedOn 12 = .ok (.getfield 107, 3) := dq_180 (hz_wg wX2_owedOn_0 (j := 12) (n := 180) rfl) (hz_wg wX2_owedOn_0 (j := 13) (n := 0) rfl) (hz_wg wX2_owedOn_0 (j := 14) (n := 107) rfl) rfl
theorem dX2_owedOn_15 : decode cX2_owedOn 15 = .ok (.aload_n 0, 1) := dq_42 (hz_wg wX2_owedOn_0 (j := 15) (n := 42) rfl)
theorem dX2_owedOn_16 : decode cX2_owedOn 16 = .ok (.getfield 44, 3) := dq_180 (hz_wg wX2_owedOn_0 (j := 16) (n := 180) rfl) (hz_wg wX2_owedOn_0 (j := 17) (n := 0) rfl) (hz_wg wX2_owedOn_0 (j := 18) (n := 44) rfl) rfl
theorem dX2_owedOn_19 : decode cX2_owedOn 19 = .ok (.getfield 51, 3) := dq_180 (hz_wg wX2_owedOn_0 (j := 19) (n := 180) rfl) (hz_wg wX2_owedOn_0 (j := 20) (n := 0) rfl) (hz_wg wX2_owedOn_0 (j := 21) (n := 51) rfl) rfl
theorem dX2_owedOn_22 : decode cX2_owedOn 22 = .ok (.bipush 13, 2) := dq_16 (hz_wg wX2_owedOn_0 (j := 22) (n := 16) rfl) (hz_wg wX2_owedOn_0 (j := 23) (n := 13) rfl) (by decide)
theorem dX2_owedOn_24 : decode cX2_owedOn 24 = .ok (.iaload, 1) := dq_46 (hz_wg wX2_owedOn_0 (j := 24) (n := 46) rfl)
theorem dX2_owedOn_25 : decode cX2_owedOn 25 = .ok (.iadd, 1) := dq_96 (hz_wg wX2_owedOn_0 (j := 25) (n := 96) rfl)
theorem dX2_owedOn_26 : decode cX2_owedOn 26 = .ok (.goto 7, 3) := dq_167 (hz_wg wX2_owedOn_0 (j := 26) (n := 167) rfl) (hz_wg wX2_owedOn_0 (j := 27) (n := 0) rfl) (hz_wg wX2_owedOn_0 (j := 28) (n := 7) rfl) (by decide)
theorem dX2_owedOn_29 : decode cX2_owedOn 29 = .ok (.aload_n 0, 1) := dq_42 (hz_wg wX2_owedOn_0 (j := 29) (n := 42) rfl)
theorem dX2_owedOn_30 : decode cX2_owedOn 30 = .ok (.getfield 107, 3) := dq_180 (hz_wg wX2_owedOn_0 (j := 30) (n := 180) rfl) (hz_wg wX2_owedOn_0 (j := 31) (n := 0) rfl) (hz_wg wX2_owedOn_0 (j := 32) (n := 107) rfl) rfl
theorem dX2_owedOn_33 : decode cX2_owedOn 33 = .ok (.ireturn, 1) := dq_172 (hz_wg wX2_owedOn_0 (j := 33) (n := 172) rfl)
set_option maxHeartbeats 4000000 in
set_option maxRecDepth 100000 in
theorem t_X2_owedOn (l : Launch) (dC : Nat → ClassId) (dI : Nat → Nat → Nat) (dA : Nat → ClassId) (L : List Nat) (h : hx_h) (sz : Nat) (x : Nat) (i1 : Int32) (hT : hx_T T_tb L h) (gx : hx_g L h x 2)  : Met l yX2_owedOn (Cond.code yX2_owedOn cX2_owedOn 2 (some .int) :: hx_all) ({ frames := 1, cells := 0, slots := 0, locals := 21 }) (va_Pc [.ref x, .int i1] (hx_B T_tb (P_ty dA) (dC, dI) vwCl L h sz)) (va_Qi (fun (r : Int32) (u : List Nat × hx_h) => (True) ∧ hx_T T_tb u.1 u.2 ∧ hx_S T_tb [] L h u.1 u.2) (hx_E T_tb (P_ty dA) (dC, dI) vwCl (hx_A L sz)) (hx_A L sz)) 0 0 (hx_A L sz) := by
  refine hx_met (lv := [(0, .ref x), (1, .int i1)]) (by decide +kernel) rfl (Nat.le_of_ble_eq_true rfl) rfl ?_
  intro p e s m below meth c hx hb hml hr hlk hts0 hown hin hsz hW ls hl
  have hts : ∀ w ∈ hx_all, w.before _ s = true := fun w hw => hts0 w (List.mem_cons_of_mem _ hw)
  have hown : s.vm.findClass "SmallCourt$Claim" = some m.cls := hown
  have hM : hx_S T_tb [] L h L h := hx_S.rf
  refine lv_aload_n hx hb dX2_owedOn_0 rfl (lv_at hl 0 rfl) ?_
  refine hx_geti hx hb hts hC_2 hown hW hT gx tt_2 16 (by decide) rfl kw_758 ⟨rfl, rfl, rfl⟩ dX2_owedOn_1 (fun x_1 ex_1 lx_1 ux_1 => ?_)
  have fx_1 := ex_1.symm
  refine lv_iload_n hx hb dX2_owedOn_4 rfl (lv_at hl 1 rfl) ?_
  refine hx_goi (hx_runS (As := [.int x_1, .int i1]) (rest := []) ⟨hx, hb, hml, hown, hts⟩ hW (t_X2_isDone l dC dI dA L h s.heap.size x_1 i1 hT) (va_cwS 2 hts (hx_gS kw_864 kw_862 kw_863 kw_110) rfl rfl rfl (by decide +kernel) ⟨Nat.le_of_ble_eq_true rfl, Nat.le_of_ble_eq_true rfl⟩) rfl hl.1 rfl (Nat.le_of_ble_eq_true rfl) dX2_owedOn_5 ⟨Nat.le_of_ble_eq_true rfl, Nat.le_of_ble_eq_true rfl⟩) hW (fun r_4 L_2 h_3 H locs p_5 hW => ?_)
  obtain ⟨hr_6, hT, hs⟩ := p_5
  replace hT : hx_T T_tb L_2 h_3 := hT
  replace hs : hx_S T_tb [] L h L_2 h_3 := hs
  replace fx_1 := (hs.o gx trivial rfl).1.trans fx_1
  replace hM := hM.tr (hs.mono (by decide))
  replace gx := gx.S hs
  refine hb_if_eq (zx := r_4.toInt) (tgt := 29) hx hb rfl dX2_owedOn_8 (by decide) (fun c_7 => ?_) (fun c_7 => ?_)
  · skip
    refine lv_aload_n hx hb dX2_owedOn_29 rfl (lv_at hl 0 rfl) ?_
    refine hx_geti hx hb hts hC_2 hown hW hT gx tt_2 15 (by decide) rfl kw_756 ⟨rfl, rfl, rfl⟩ dX2_owedOn_30 (fun x_8 ex_8 lx_8 ux_8 => ?_)
    have fx_8 := ex_8.symm
    exact hx_reti hx hb hr hlk hW ⟨trivial, hT, hM⟩ dX2_owedOn_33
  · skip
    refine lv_aload_n hx hb dX2_owedOn_11 rfl (lv_at hl 0 rfl) ?_
    refine hx_geti hx hb hts hC_2 hown hW hT gx tt_2 15 (by decide) rfl kw_756 ⟨rfl, rfl, rfl⟩ dX2_owedOn_12 (fun x_9 ex_9 lx_9 ux_9 => ?_)
    have fx_9 := ex_9.symm
    refine lv_aload_n hx hb dX2_owedOn_15 rfl (lv_at hl 0 rfl) ?_
    refine hx_getn hx hb hts hC_2 hown hW hT gx tt_2 3 (by decide) rfl kw_734 ⟨rfl, rfl, rfl⟩ dX2_owedOn_16 (fun q_10 fq_10 gq_10 => ?_)
    refine hx_getn hx hb hts hC_0 hown hW hT gq_10 tt_0 2 (by decide) rfl kw_167 ⟨rfl, rfl, rfl⟩ dX2_owedOn_19 (fun q_11 fq_11 gq_11 => ?_)
    refine lv_bipush (v := 13) hx hb dX2_owedOn_22 (by decide) ?_
    refine hx_iald hx hb hW hT gq_11 tt_11 rfl (by decide) dX2_owedOn_24 (fun x_12 ex_12 lx_12 ux_12 => ?_)
    refine lv_iadd hx hb dX2_owedOn_25 ?_
    have rg_13 := i32_r x_9
    have rg_14 := i32_r x_12
    refine lv_topi (fun x_15 ex_15 => ?_)
    refine lv_goto (tgt := 33) hx hb dX2_owedOn_26 (by decide) ?_
    exact hx_reti hx hb hr hlk hW ⟨trivial, hT, hM⟩ dX2_owedOn_33

theorem dX2_balanceOn_0 : decode cX2_balanceOn 0 = .ok (.aload_n 0, 1) := by decide +kernel
theorem dX2_balanceOn_1 : decode cX2_balanceOn 1 = .ok (.getfield 25, 3) := by decide +kernel
theorem dX2_balanceOn_4 : decode cX2_balanceOn 4 = .ok (.iload_n 2, 1) := by decide +kernel
theorem dX2_balanceOn_5 : decode cX2_balanceOn 5 = .ok (.invokestatic 60, 3) := by decide +kernel
theorem dX2_balanceOn_8 : decode cX2_balanceOn 8 = .ok (.ifCond .eq 19, 3) := by decide +kernel
theorem dX2_balanceOn_11 : decode cX2_balanceOn 11 = .ok (.aload_n 0, 1) := by decide +kernel
theorem dX2_balanceOn_12 : decode cX2_balanceOn 12 = .ok (.iload_n 2, 1) := by decide +kernel
theorem dX2_balanceOn_13 : decode cX2_balanceOn 13 = .ok (.invokevirtual 83, 3) := by decide +kernel
theorem dX2_balanceOn_16 : decode cX2_balanceOn 16 = .ok (.aload_n 0, 1) := by decide +kernel
theorem dX2_balanceOn_17 : decode cX2_balanceOn 17 = .ok (.aload_n 1, 1) := by decide +kernel
theorem dX2_balanceOn_18 : decode cX2_balanceOn 18 = .ok (.iload_n 2, 1) := by decide +kernel
theorem dX2_balanceOn_19 : decode cX2_balanceOn 19 = .ok (.iload_n 3, 1) := by decide +kernel
theorem dX2_balanceOn_20 : decode cX2_balanceOn 20 = .ok (.invokevirtual 92, 3) := by decide +kernel
theorem dX2_balanceOn_23 : decode cX2_balanceOn 23 = .ok (.isub, 1) := by decide +kernel
theorem dX2_balanceOn_24 : decode cX2_balanceOn 24 = .ok (.goto 4, 3) := by decide +kernel
theorem dX2_balanceOn_27 : decode cX2_balanceOn 27 = .ok (.iconst 0, 1) := by decide +kernel
theorem dX2_balanceOn_28 : decode cX2_balanceOn 28 = .ok (.ireturn, 1) := by decide +kernel
set_option maxHeartbeats 4000000 in
set_option maxRecDepth 100000 in
theorem t_X2_balanceOn (l : Launch) (dC : Nat → ClassId) (dI : Nat → Nat → Nat) (dA : Nat → ClassId) (L : List Nat) (h : hx_h) (sz : Nat) (x : Nat) (v1 : Nat) (i1 : Int32) (i2 : Int32) (hT : hx_T T_tb L h) (gx : hx_g L h x 2) (gv1 : hx_g L h v1 3)  : Met l yX2_balanceOn (Cond.code yX2_balanceOn cX2_balanceOn 4 (some .int) :: hx_all) ({ frames := 2, cells := 0, slots := 0, locals := 50 }) (va_Pc [.ref x, .ref v1, .int i1, .int i2] (hx_B T_tb (P_ty dA) (dC, dI) vwCl L h sz)) (va_Qi (fun (r : Int32) (u : List Nat × hx_h) => (True) ∧ hx_T T_tb u.1 u.2 ∧ hx_S T_tb [] L h u.1 u.2) (hx_E T_tb (P_ty dA) (dC, dI) vwCl (hx_A L sz)) (hx_A L sz)) 0 0 (hx_A L sz) := by
  refine hx_met (lv := [(0, .ref x), (1, .ref v1), (2, .int i1), (3, .int i2)]) (by decide +kernel) rfl (Nat.le_of_ble_eq_true rfl) rfl ?_
  intro p e s m below meth c hx hb hml hr hlk hts0 hown hin hsz hW ls hl
  have hts : ∀ w ∈ hx_all, w.before _ s = true := fun w hw => hts0 w (List.mem_cons_of_mem _ hw)
  have hown : s.vm.findClass "SmallCourt$Claim" = some m.cls := hown
  have hM : hx_S T_tb [] L h L h := hx_S.rf
  refine lv_aload_n hx hb dX2_balanceOn_0 rfl (lv_at hl 0 rfl) ?_
  refine hx_geti hx hb hts hC_2 hown hW hT gx tt_2 13 (by decide) rfl kw_752 ⟨rfl, rfl, rfl⟩ dX2_balanceOn_1 (fun x_1 ex_1 lx_1 ux_1 => ?_)
  have fx_1 := ex_1.symm
  refine lv_iload_n hx hb dX2_balanceOn_4 rfl (lv_at hl 2 rfl) ?_
  refine hx_goi (hx_runS (As := [.int x_1, .int i1]) (rest := []) ⟨hx, hb, hml, hown, hts⟩ hW (t_X2_isDone l dC dI dA L h s.heap.size x_1 i1 hT) (va_cwS 2 hts (hx_gS kw_864 kw_862 kw_863 kw_110) rfl rfl rfl (by decide +kernel) ⟨Nat.le_of_ble_eq_true rfl, Nat.le_of_ble_eq_true rfl⟩) rfl hl.1 rfl (Nat.le_of_ble_eq_true rfl) dX2_balanceOn_5 ⟨Nat.le_of_ble_eq_true rfl, Nat.le_of_ble_eq_true rfl⟩) hW (fun r_4 L_2 h_3 H locs p_5 hW => ?_)
  obtain ⟨hr_6, hT, hs⟩ := p_5
  replace hT : hx_T T_tb L_2 h_3 := hT
  replace hs : hx_S T_tb [] L h L_2 h_3 := hs
  replace fx_1 := (hs.o gx trivial rfl).1.trans fx_1
  replace hM := hM.tr (hs.mono (by decide))
  replace gx := gx.S hs
  replace gv1 := gv1.S hs
  refine hb_if_eq (zx := r_4.toInt) (tgt := 27) hx hb rfl dX2_balanceOn_8 (by decide) (fun c_7 => ?_) (fun c_7 => ?_)
  · skip
    refine lv_iconst (v := 0) hx hb dX2_balanceOn_27 (by decide) ?_
    exact hx_reti hx hb hr hlk hW ⟨trivial, hT, hM⟩ dX2_balanceOn_28
  · skip
    refine lv_aload_n hx hb dX2_balanceOn_11 rfl (lv_at hl 0 rfl) ?_
    refine lv_iload_n hx hb dX2_balanceOn_12 rfl (lv_at hl 2 rfl) ?_
    refine hx_goi (hx_runV (As := [.int i1]) (rest := []) ⟨hx, hb, hml, hown, hts⟩ hW gx tt_2 (T := TX2) (N := 19) rfl (t_X2_owedOn l dC dI dA L_2 h_3 H.size x i1 hT gx) (cwV 1 hts (hx_gV kw_872 kw_869 kw_871 kw_31 kw_110) rfl rfl rfl (by decide +kernel) ⟨Nat.le_of_ble_eq_true rfl, Nat.le_of_ble_eq_true rfl⟩) rfl hl.1 rfl (Nat.le_of_ble_eq_true rfl) dX2_balanceOn_13 ⟨Nat.le_of_ble_eq_true rfl, Nat.le_of_ble_eq_true rfl⟩) hW (fun r_10 L_8 h_9 H locs p_11 hW => ?_)
    obtain ⟨hr_12, hT, hs⟩ := p_11
    replace hT : hx_T T_tb L_8 h_9 := hT
    replace hs : hx_S T_tb [] L_2 h_3 L_8 h_9 := hs
    replace fx_1 := (hs.o gx trivial rfl).1.trans fx_1
    replace hM := hM.tr (hs.mono (by decide))
    replace gx := gx.S hs
    replace gv1 := gv1.S hs
    refine lv_aload_n hx hb dX2_balanceOn_16 rfl (lv_at hl 0 rfl) ?_
    refine lv_aload_n hx hb dX2_balanceOn_17 rfl (lv_at hl 1 rfl) ?_
    refine lv_iload_n hx hb dX2_balanceOn_18 rfl (lv_at hl 2 rfl) ?_
    refine lv_iload_n hx hb dX2_balanceOn_19 rfl (lv_at hl 3 rfl) ?_
    refine hx_goi (hx_runV (As := [.ref v1, .int i1, .int i2]) (rest := [.int r_10]) ⟨hx, hb, hml, hown, hts⟩ hW gx tt_2 (T := TX2) (N := 19) rfl (t_X2_paidOn l dC dI dA L_8 h_9 H.size x v1 i1 i2 hT gx gv1) (cwV 3 hts (hx_gV kw_876 kw_873 kw_874 kw_875 kw_110) rfl rfl rfl (by decide +kernel) ⟨Nat.le_of_ble_eq_true rfl, Nat.le_of_ble_eq_true rfl⟩) rfl hl.1 rfl (Nat.le_of_ble_eq_true rfl) dX2_balanceOn_20 ⟨Nat.le_of_ble_eq_true rfl, Nat.le_of_ble_eq_true rfl⟩) hW (fun r_15 L_13 h_14 H locs p_16 hW => ?_)
    obtain ⟨hr_17, hT, hs⟩ := p_16
    replace hT : hx_T T_tb L_13 h_14 := hT
    replace hs : hx_S T_tb [] L_8 h_9 L_13 h_14 := hs
    replace fx_1 := (hs.o gx trivial rfl).1.trans fx_1
    replace hM := hM.tr (hs.mono (by decide))
    replace gx := gx.S hs
    replace gv1 := gv1.S hs
    refine lv_isub hx hb dX2_balanceOn_23 ?_
    have rg_18 := i32_r r_10
    have rg_19 := i32_r r_15
    refine lv_topi (fun x_20 ex_20 => ?_)
    refine lv_goto (tgt := 28) hx hb dX2_balanceOn_24 (by decide) ?_
    exact hx_reti hx hb hr hlk hW ⟨trivial, hT, hM⟩ dX2_balanceOn_28

theorem dX2_restOn_0 : decode cX2_restOn 0 = .ok (.aload_n 0, 1) := by decide +kernel
theorem dX2_restOn_1 : decode cX2_restOn 1 = .ok (.getfield 31, 3) := by decide +kernel
theorem dX2_restOn_4 : decode cX2_restOn 4 = .ok (.iload_n 2, 1) := by decide +kernel
theorem dX2_restOn_5 : decode cX2_restOn 5 = .ok (.invokestatic 60, 3) := by decide +kernel
theorem dX2_restOn_8 : decode cX2_restOn 8 = .ok (.ifCond .eq 7, 3) := by decide +kernel
theorem dX2_restOn_11 : decode cX2_restOn 11 = .ok (.iconst 0, 1) := by decide +kernel
theorem dX2_restOn_12 : decode cX2_restOn 12 = .ok (.goto 14, 3) := by decide +kernel
theorem dX2_restOn_15 : decode cX2_restOn 15 = .ok (.iconst 0, 1) := by decide +kernel
theorem dX2_restOn_16 : decode cX2_restOn 16 = .ok (.aload_n 0, 1) := by decide +kernel
theorem dX2_restOn_17 : decode cX2_restOn 17 = .ok (.aload_n 1, 1) := by decide +kernel
theorem dX2_restOn_18 : decode cX2_restOn 18 = .ok (.iload_n 2, 1) := by decide +kernel
theorem dX2_restOn_19 : decode cX2_restOn 19 = .ok (.iload_n 3, 1) := by decide +kernel
theorem dX2_restOn_20 : decode cX2_restOn 20 = .ok (.invokevirtual 74, 3) := by decide +kernel
theorem dX2_restOn_23 : decode cX2_restOn 23 = .ok (.invokestatic 77, 3) := by decide +kernel
theorem dX2_restOn_26 : decode cX2_restOn 26 = .ok (.ireturn, 1) := by decide +kernel
set_option maxHeartbeats 4000000 in
set_option maxRecDepth 100000 in
theorem t_X2_restOn (l : Launch) (dC : Nat → ClassId) (dI : Nat → Nat → Nat) (dA : Nat → ClassId) (L : List Nat) (h : hx_h) (sz : Nat) (x : Nat) (v1 : Nat) (i1 : Int32) (i2 : Int32) (hT : hx_T T_tb L h) (gx : hx_g L h x 2) (gv1 : hx_g L h v1 3)  : Met l yX2_restOn (Cond.code yX2_restOn cX2_restOn 4 (some .int) :: hx_all) ({ frames := 3, cells := 0, slots := 0, locals := 73 }) (va_Pc [.ref x, .ref v1, .int i1, .int i2] (hx_B T_tb (P_ty dA) (dC, dI) vwCl L h sz)) (va_Qi (fun (r : Int32) (u : List Nat × hx_h) => (True) ∧ hx_T T_tb u.1 u.2 ∧ hx_S T_tb [] L h u.1 u.2) (hx_E T_tb (P_ty dA) (dC, dI) vwCl (hx_A L sz)) (hx_A L sz)) 0 0 (hx_A L sz) := by
  refine hx_met (lv := [(0, .ref x), (1, .ref v1), (2, .int i1), (3, .int i2)]) (by decide +kernel) rfl (Nat.le_of_ble_eq_true rfl) rfl ?_
  intro p e s m below meth c hx hb hml hr hlk hts0 hown hin hsz hW ls hl
  have hts : ∀ w ∈ hx_all, w.before _ s = true := fun w hw => hts0 w (List.mem_cons_of_mem _ hw)
  have hown : s.vm.findClass "SmallCourt$Claim" = some m.cls := hown
  have hM : hx_S T_tb [] L h L h := hx_S.rf
  refine lv_aload_n hx hb dX2_restOn_0 rfl (lv_at hl 0 rfl) ?_
  refine hx_geti hx hb hts hC_2 hown hW hT gx tt_2 18 (by decide) rfl kw_762 ⟨rfl, rfl, rfl⟩ dX2_restOn_1 (fun x_1 ex_1 lx_1 ux_1 => ?_)
  have fx_1 := ex_1.symm
  refine lv_iload_n hx hb dX2_restOn_4 rfl (lv_at hl 2 rfl) ?_
  refine hx_goi (hx_runS (As := [.int x_1, .int i1]) (rest := []) ⟨hx, hb, hml, hown, hts⟩ hW (t_X2_isDone l dC dI dA L h s.heap.size x_1 i1 hT) (va_cwS 2 hts (hx_gS kw_864 kw_862 kw_863 kw_110) rfl rfl rfl (by decide +kernel) ⟨Nat.le_of_ble_eq_true rfl, Nat.le_of_ble_eq_true rfl⟩) rfl hl.1 rfl (Nat.le_of_ble_eq_true rfl) dX2_restOn_5 ⟨Nat.le_of_ble_eq_true rfl, Nat.le_of_ble_eq_true rfl⟩) hW (fun r_4 L_2 h_3 H locs p_5 hW => ?_)
  obtain ⟨hr_6, hT, hs⟩ := p_5
  replace hT : hx_T T_tb L_2 h_3 := hT
  replace hs : hx_S T_tb [] L h L_2 h_3 := hs
  replace fx_1 := (hs.o gx trivial rfl).1.trans fx_1
  replace hM := hM.tr (hs.mono (by decide))
  replace gx := gx.S hs
  replace gv1 := gv1.S hs
  refine hb_if_eq (zx := r_4.toInt) (tgt := 15) hx hb rfl dX2_restOn_8 (by decide) (fun c_7 => ?_) (fun c_7 => ?_)
  · skip
    refine lv_iconst (v := 0) hx hb dX2_restOn_15 (by decide) ?_
    refine lv_aload_n hx hb dX2_restOn_16 rfl (lv_at hl 0 rfl) ?_
    refine lv_aload_n hx hb dX2_restOn_17 rfl (lv_at hl 1 rfl) ?_
    refine lv_iload_n hx hb dX2_restOn_18 rfl (lv_at hl 2 rfl) ?_
    refine lv_iload_n hx hb dX2_restOn_19 rfl (lv_at hl 3 rfl) ?_
    refine hx_goi (hx_runV (As := [.ref v1, .int i1, .int i2]) (rest := [.int (0 : Int32)]) ⟨hx, hb, hml, hown, hts⟩ hW gx tt_2 (T := TX2) (N := 19) rfl (t_X2_balanceOn l dC dI dA L_2 h_3 H.size x v1 i1 i2 hT gx gv1) (cwV 3 hts (hx_gV kw_868 kw_865 kw_866 kw_867 kw_110) rfl rfl rfl (by decide +kernel) ⟨Nat.le_of_ble_eq_true rfl, Nat.le_of_ble_eq_true rfl⟩) rfl hl.1 rfl (Nat.le_of_ble_eq_true rfl) dX2_restOn_20 ⟨Nat.le_of_ble_eq_true rfl, Nat.le_of_ble_eq_true rfl⟩) hW (fun r_10 L_8 h_9 H locs p_11 hW => ?_)
    obtain ⟨hr_12, hT, hs⟩ := p_11
    replace hT : hx_T T_tb L_8 h_9 := hT
    replace hs : hx_S T_tb [] L_2 h_3 L_8 h_9 := hs
    replace fx_1 := (hs.o gx trivial rfl).1.trans fx_1
    replace hM := hM.tr (hs.mono (by decide))
    replace gx := gx.S hs
    replace gv1 := gv1.S hs
    refine va_mmax hx hb (hml.trans hl.1.symm) hown (hts _ kw_881) (hts _ kw_882) (hts _ kw_109) (hts _ kw_883) (Nat.le_of_ble_eq_true rfl) (Nat.le_of_ble_eq_true rfl) (Nat.le_of_ble_eq_true rfl) (Nat.le_of_ble_eq_true rfl) dX2_restOn_23 ?_
    refine lv_topi (fun x_13 ex_13 => ?_)
    exact hx_reti hx hb hr hlk hW ⟨trivial, hT, hM⟩ dX2_restOn_26
  · skip
    refine lv_iconst (v := 0) hx hb dX2_restOn_11 (by decide) ?_
    refine lv_goto (tgt := 26) hx hb dX2_restOn_12 (by decide) ?_
    exact hx_reti hx hb hr hlk hW ⟨trivial, hT, hM⟩ dX2_restOn_26

theorem dX2_overOn_0 : decode cX2_overOn 0 = .ok (.aload_n 0, 1) := by decide +kernel
theorem dX2_overOn_1 : decode cX2_overOn 1 = .ok (.getfield 31, 3) := by decide +kernel
theorem dX2_overOn_4 : decode cX2_overOn 4 = .ok (.iload_n 2, 1) := by decide +kernel
theorem dX2_overOn_5 : decode cX2_overOn 5 = .ok (.invokestatic 60, 3) := by decide +kernel
theorem dX2_overOn_8 : decode cX2_overOn 8 = .ok (.ifCond .eq 7, 3) := by decide +kernel
theorem dX2_overOn_11 : decode cX2_overOn 11 = .ok (.iconst 0, 1) := by decide +kernel
theorem dX2_overOn_12 : decode cX2_overOn 12 = .ok (.goto 15, 3) := by decide +kernel
theorem dX2_overOn_15 : decode cX2_overOn 15 = .ok (.iconst 0, 1) := by decide +kernel
theorem dX2_overOn_16 : decode cX2_overOn 16 = .ok (.aload_n 0, 1) := by decide +kernel
theorem dX2_overOn_17 : decode cX2_overOn 17 = .ok (.aload_n 1, 1) := by decide +kernel
theorem dX2_overOn_18 : decode cX2_overOn 18 = .ok (.iload_n 2, 1) := by decide +kernel
theorem dX2_overOn_19 : decode cX2_overOn 19 = .ok (.iload_n 3, 1) := by decide +kernel
theorem dX2_overOn_20 : decode cX2_overOn 20 = .ok (.invokevirtual 74, 3) := by decide +kernel
theorem dX2_overOn_23 : decode cX2_overOn 23 = .ok (.ineg, 1) := by decide +kernel
theorem dX2_overOn_24 : decode cX2_overOn 24 = .ok (.invokestatic 77, 3) := by decide +kernel
theorem dX2_overOn_27 : decode cX2_overOn 27 = .ok (.ireturn, 1) := by decide +kernel
set_option maxHeartbeats 4000000 in
set_option maxRecDepth 100000 in
theorem t_X2_overOn (l : Launch) (dC : Nat → ClassId) (dI : Nat → Nat → Nat) (dA : Nat → ClassId) (L : List Nat) (h : hx_h) (sz : Nat) (x : Nat) (v1 : Nat) (i1 : Int32) (i2 : Int32) (hT : hx_T T_tb L h) (gx : hx_g L h x 2) (gv1 : hx_g L h v1 3)  : Met l yX2_overOn (Cond.code yX2_overOn cX2_overOn 4 (some .int) :: hx_all) ({ frames := 3, cells := 0, slots := 0, locals := 73 }) (va_Pc [.ref x, .ref v1, .int i1, .int i2] (hx_B T_tb (P_ty dA) (dC, dI) vwCl L h sz)) (va_Qi (fun (r : Int32) (u : List Nat × hx_h) => (True) ∧ hx_T T_tb u.1 u.2 ∧ hx_S T_tb [] L h u.1 u.2) (hx_E T_tb (P_ty dA) (dC, dI) vwCl (hx_A L sz)) (hx_A L sz)) 0 0 (hx_A L sz) := by
  refine hx_met (lv := [(0, .ref x), (1, .ref v1), (2, .int i1), (3, .int i2)]) (by decide +kernel) rfl (Nat.le_of_ble_eq_true rfl) rfl ?_
  intro p e s m below meth c hx hb hml hr hlk hts0 hown hin hsz hW ls hl
  have hts : ∀ w ∈ hx_all, w.before _ s = true := fun w hw => hts0 w (List.mem_cons_of_mem _ hw)
  have hown : s.vm.findClass "SmallCourt$Claim" = some m.cls := hown
  have hM : hx_S T_tb [] L h L h := hx_S.rf
  refine lv_aload_n hx hb dX2_overOn_0 rfl (lv_at hl 0 rfl) ?_
  refine hx_geti hx hb hts hC_2 hown hW hT gx tt_2 18 (by decide) rfl kw_762 ⟨rfl, rfl, rfl⟩ dX2_overOn_1 (fun x_1 ex_1 lx_1 ux_1 => ?_)
  have fx_1 := ex_1.symm
  refine lv_iload_n hx hb dX2_overOn_4 rfl (lv_at hl 2 rfl) ?_
  refine hx_goi (hx_runS (As := [.int x_1, .int i1]) (rest := []) ⟨hx, hb, hml, hown, hts⟩ hW (t_X2_isDone l dC dI dA L h s.heap.size x_1 i1 hT) (va_cwS 2 hts (hx_gS kw_864 kw_862 kw_863 kw_110) rfl rfl rfl (by decide +kernel) ⟨Nat.le_of_ble_eq_true rfl, Nat.le_of_ble_eq_true rfl⟩) rfl hl.1 rfl (Nat.le_of_ble_eq_true rfl) dX2_overOn_5 ⟨Nat.le_of_ble_eq_true rfl, Nat.le_of_ble_eq_true rfl⟩) hW (fun r_4 L_2 h_3 H locs p_5 hW => ?_)
  obtain ⟨hr_6, hT, hs⟩ := p_5
  replace hT : hx_T T_tb L_2 h_3 := hT
  replace hs : hx_S T_tb [] L h L_2 h_3 := hs
  replace fx_1 := (hs.o gx trivial rfl).1.trans fx_1
  replace hM := hM.tr (hs.mono (by decide))
  replace gx := gx.S hs
  replace gv1 := gv1.S hs
  refine hb_if_eq (zx := r_4.toInt) (tgt := 15) hx hb rfl dX2_overOn_8 (by decide) (fun c_7 => ?_) (fun c_7 => ?_)
  · skip
    refine lv_iconst (v := 0) hx hb dX2_overOn_15 (by decide) ?_
    refine lv_aload_n hx hb dX2_overOn_16 rfl (lv_at hl 0 rfl) ?_
    refine lv_aload_n hx hb dX2_overOn_17 rfl (lv_at hl 1 rfl) ?_
    refine lv_iload_n hx hb dX2_overOn_18 rfl (lv_at hl 2 rfl) ?_
    refine lv_iload_n hx hb dX2_overOn_19 rfl (lv_at hl 3 rfl) ?_
    refine hx_goi (hx_runV (As := [.ref v1, .int i1, .int i2]) (rest := [.int (0 : Int32)]) ⟨hx, hb, hml, hown, hts⟩ hW gx tt_2 (T := TX2) (N := 19) rfl (t_X2_balanceOn l dC dI dA L_2 h_3 H.size x v1 i1 i2 hT gx gv1) (cwV 3 hts (hx_gV kw_868 kw_865 kw_866 kw_867 kw_110) rfl rfl rfl (by decide +kernel) ⟨Nat.le_of_ble_eq_true rfl, Nat.le_of_ble_eq_true rfl⟩) rfl hl.1 rfl (Nat.le_of_ble_eq_true rfl) dX2_overOn_20 ⟨Nat.le_of_ble_eq_true rfl, Nat.le_of_ble_eq_true rfl⟩) hW (fun r_10 L_8 h_9 H locs p_11 hW => ?_)
    obtain ⟨hr_12, hT, hs⟩ := p_11
    replace hT : hx_T T_tb L_8 h_9 := hT
    replace hs : hx_S T_tb [] L_2 h_3 L_8 h_9 := hs
    replace fx_1 := (hs.o gx trivial rfl).1.trans fx_1
    replace hM := hM.tr (hs.mono (by decide))
    replace gx := gx.S hs
    replace gv1 := gv1.S hs
    refine lv_ineg hx hb dX2_overOn_23 ?_
    refine lv_topi (fun x_13 ex_13 => ?_)
    refine va_mmax hx hb (hml.trans hl.1.symm) hown (hts _ kw_881) (hts _ kw_882) (hts _ kw_109) (hts _ kw_883) (Nat.le_of_ble_eq_true rfl) (Nat.le_of_ble_eq_true rfl) (Nat.le_of_ble_eq_true rfl) (Nat.le_of_ble_eq_true rfl) dX2_overOn_24 ?_
    refine lv_topi (fun x_14 ex_14 => ?_)
    exact hx_reti hx hb hr hlk hW ⟨trivial, hT, hM⟩ dX2_overOn_27
  · skip
    refine lv_iconst (v := 0) hx hb dX2_overOn_11 (by decide) ?_
    refine lv_goto (tgt := 27) hx hb dX2_overOn_12 (by decide) ?_
    exact hx_reti hx hb hr hlk hW ⟨trivial, hT, hM⟩ dX2_overOn_27

theorem dX2_isOpen_0 : decode cX2_isOpen 0 = .ok (.aload_n 0, 1) := by decide +kernel
theorem dX2_isOpen_1 : decode cX2_isOpen 1 = .ok (.aload_n 1, 1) := by decide +kernel
theorem dX2_isOpen_2 : decode cX2_isOpen 2 = .ok (.iload_n 2, 1) := by decide +kernel
theorem dX2_isOpen_3 : decode cX2_isOpen 3 = .ok (.iload_n 2, 1) := by decide +kernel
theorem dX2_isOpen_4 : decode cX2_isOpen 4 = .ok (.invokevirtual 56, 3) := by decide +kernel
theorem dX2_isOpen_7 : decode cX2_isOpen 7 = .ok (.ifCond .le 7, 3) := by decide +kernel
theorem dX2_isOpen_10 : decode cX2_isOpen 10 = .ok (.iconst 1, 1) := by decide +kernel
theorem dX2_isOpen_11 : decode cX2_isOpen 11 = .ok (.goto 4, 3) := by decide +kernel
theorem dX2_isOpen_14 : decode cX2_isOpen 14 = .ok (.iconst 0, 1) := by decide +kernel
theorem dX2_isOpen_15 : decode cX2_isOpen 15 = .ok (.ireturn, 1) := by decide +kernel
set_option maxHeartbeats 4000000 in
set_option maxRecDepth 100000 in
theorem t_X2_isOpen (l : Launch) (dC : Nat → ClassId) (dI : Nat → Nat → Nat) (dA : Nat → ClassId) (L : List Nat) (h : hx_h) (sz : Nat) (x : Nat) (v1 : Nat) (i1 : Int32) (hT : hx_T T_tb L h) (gx : hx_g L h x 2) (gv1 : hx_g L h v1 3)  : Met l yX2_isOpen (Cond.code yX2_isOpen cX2_isOpen 3 (some .boolean) :: hx_all) ({ frames := 4, cells := 0, slots := 0, locals := 96 }) (va_Pc [.ref x, .ref v1, .int i1] (hx_B T_tb (P_ty dA) (dC, dI) vwCl L h sz)) (va_Qi (fun (r : Int32) (u : List Nat × hx_h) => (r.toInt = 0 ∨ r.toInt = 1) ∧ hx_T T_tb u.1 u.2 ∧ hx_S T_tb [] L h u.1 u.2) (hx_E T_tb (P_ty dA) (dC, dI) vwCl (hx_A L sz)) (hx_A L sz)) 0 0 (hx_A L sz) := by
  refine hx_met (lv := [(0, .ref x), (1, .ref v1), (2, .int i1)]) (by decide +kernel) rfl (Nat.le_of_ble_eq_true rfl) rfl ?_
  intro p e s m below meth c hx hb hml hr hlk hts0 hown hin hsz hW ls hl
  have hts : ∀ w ∈ hx_all, w.before _ s = true := fun w hw => hts0 w (List.mem_cons_of_mem _ hw)
  have hown : s.vm.findClass "SmallCourt$Claim" = some m.cls := hown
  have hM : hx_S T_tb [] L h L h := hx_S.rf
  refine lv_aload_n hx hb dX2_isOpen_0 rfl (lv_at hl 0 rfl) ?_
  refine lv_aload_n hx hb dX2_isOpen_1 rfl (lv_at hl 1 rfl) ?_
  refine lv_iload_n hx hb dX2_isOpen_2 rfl (lv_at hl 2 rfl) ?_
  refine lv_iload_n hx hb dX2_isOpen_3 rfl (lv_at hl 2 rfl) ?_
  refine hx_goi (hx_runV (As := [.ref v1, .int i1, .int i1]) (rest := []) ⟨hx, hb, hml, hown, hts⟩ hW gx tt_2 (T := TX2) (N := 19) rfl (t_X2_restOn l dC dI dA L h s.heap.size x v1 i1 i1 hT gx gv1) (cwV 3 hts (hx_gV kw_861 kw_858 kw_859 kw_860 kw_110) rfl rfl rfl (by decide +kernel) ⟨Nat.le_of_ble_eq_true rfl, Nat.le_of_ble_eq_true rfl⟩) rfl hl.1 rfl (Nat.le_of_ble_eq_true rfl) dX2_isOpen_4 ⟨Nat.le_of_ble_eq_true rfl, Nat.le_of_ble_eq_true rfl⟩) hW (fun r_3 L_1 h_2 H locs p_4 hW => ?_)
  obtain ⟨hr_5, hT, hs⟩ := p_4
  replace hT : hx_T T_tb L_1 h_2 := hT
  replace hs : hx_S T_tb [] L h L_1 h_2 := hs
  replace hM := hM.tr (hs.mono (by decide))
  replace gx := gx.S hs
  replace gv1 := gv1.S hs
  refine hb_if_le (zx := r_3.toInt) (tgt := 14) hx hb rfl dX2_isOpen_7 (by decide) (fun c_6 => ?_) (fun c_6 => ?_)
  · skip
    refine lv_iconst (v := 0) hx hb dX2_isOpen_14 (by decide) ?_
    exact hx_retz hx hb hr rfl hlk hW ⟨(by decide), hT, hM⟩ dX2_isOpen_15
  · skip
    refine lv_iconst (v := 1) hx hb dX2_isOpen_10 (by decide) ?_
    refine lv_goto (tgt := 15) hx hb dX2_isOpen_11 (by decide) ?_
    exact hx_retz hx hb hr rfl hlk hW ⟨(by decide), hT, hM⟩ dX2_isOpen_15

def wLX2_stateAheadOfOrder_0 : List Nat := [42, 180, 0, 22, 27, 184, 0, 60, 153, 0, 17, 42, 180, 0, 71, 8, 160, 0, 7, 6, 167, 0, 4, 5, 172, 42, 180, 0, 18, 27, 184, 0, 60, 153, 0, 7, 4, 167, 0, 4, 3, 172]
theorem wX2_stateAheadOfOrder_0 : (cX2_stateAheadOfOrder.data.toList.map UInt8.toNat).drop 0 = wLX2_stateAheadOfOrder_0 ++ ([]) := by decide +kernel
theorem dX2_stateAheadOfOrder_0 : decode cX2_stateAheadOfOrder 0 = .ok (.aload_n 0, 1) := dq_42 (hz_wg wX2_stateAheadOfOrder_0 (j := 0) (n := 42) rfl)
theorem dX2_stateAheadOfOrder_1 : decode cX2_stateAheadOfOrder 1 = .ok (.getfield 22, 3) := dq_180 (hz_wg wX2_stateAheadOfOrder_0 (j := 1) (n := 180) rfl) (hz_wg wX2_stateAheadOfOrder_0 (j := 2) (n := 0) rfl) (hz_wg wX2_stateAheadOfOrder_0 (j := 3) (n := 22) rfl) rfl
theorem dX2_stateAheadOfOrder_4 : decode cX2_stateAheadOfOrder 4 = .ok (.iload_n 1, 1) := dq_27 (hz_wg wX2_stateAheadOfOrder_0 (j := 4) (n := 27) rfl)
theorem dX2_stateAheadOfOrder_5 : decode cX2_stateAheadOfOrder 5 = .ok (.invokestatic 60, 3) := dq_184 (hz_wg wX2_stateAheadOfOrder_0 (j := 5) (n := 184) rfl) (hz_wg wX2_stateAheadOfOrder_0 (j := 6) (n := 0) rfl) (hz_wg wX2_stateAheadOfOrder_0 (j := 7) (n := 60) rfl) rfl
theorem dX2_stateAheadOfOrder_8 : decode cX2_stateAheadOfOrder 8 = .ok (.ifCond .eq 17, 3) := dq_153 (hz_wg wX2_stateAheadOfOrder_0 (j := 8) (n := 153) rfl) (hz_wg wX2_stateAheadOfOrder_0 (j := 9) (n := 0) rfl) (hz_wg wX2_stateAheadOfOrder_0 (j := 10) (n := 17) rfl) (by decide)
theorem dX2_stateAheadOfOrder_11 : decode cX2_stateAheadOfOrder 11 = .ok (.aload_n 0, 1) := dq_42 (hz_wg wX2_stateAheadOfOrder_0 (j := 11) (n := 42) rfl)
theorem dX2_stateAheadOfOrder_12 : decode cX2_stateAheadOfOrder 12 = .ok (.getfield 71, 3) := dq_180 (hz_wg wX2_stateAheadOfOrder_0 (j := 12) (n := 180) rfl) (hz_wg wX2_stateAheadOfOrder_0 (j := 13) (n := 0) rfl) (hz_wg wX2_stateAheadOfOrder_0 (j := 14) (n := 71) rfl) rfl
theorem dX2_stateAheadOfOrder_15 : decode cX2_stateAheadOfOrder 15 = .ok (.iconst 5, 1) := dq_8 (hz_wg wX2_stateAheadOfOrder_0 (j := 15) (n := 8) rfl)
theorem dX2_stateAheadOfOrder_16 : decode cX2_stateAheadOfOrder 16 = .ok (.if_icmp .ne 7, 3) := dq_160 (hz_wg wX2_stateAheadOfOrder_0 (j := 16) (n := 160) rfl) (hz_wg wX2_stateAheadOfOrder_0 (j := 17) (n := 0) rfl) (hz_wg wX2_stateAheadOfOrder_0 (j := 18) (n := 7) rfl) (by decide)
theorem dX2_stateAheadOfOrder_19 : decode cX2_stateAheadOfOrder 19 = .ok (.iconst 3, 1) := dq_6 (hz_wg wX2_stateAheadOfOrder_0 (j := 19) (n := 6) rfl)
theorem dX2_stateAheadOfOrder_20 : decode cX2_stateAheadOfOrder 20 = .ok (.goto 4, 3) := dq_167 (hz_wg wX2_stateAheadOfOrder_0 (j := 20) (n := 167) rfl) (hz_wg wX2_stateAheadOfOrder_0 (j := 21) (n := 0) rfl) (hz_wg wX2_stateAheadOfOrder_0 (j := 22) (n := 4) rfl) (by decide)
theorem dX2_stateAheadOfOrder_23 : decode cX2_stateAheadOfOrder 23 = .ok (.iconst 2, 1) := dq_5 (hz_wg wX2_stateAheadOfOrder_0 (j := 23) (n := 5) rfl)
theorem dX2_stateAheadOfOrder_24 : decode cX2_stateAheadOfOrder 24 = .ok (.ireturn, 1) := dq_172 (hz_wg wX2_stateAheadOfOrder_0 (j := 24) (n := 172) rfl)
theorem dX2_stateAheadOfOrder_25 : decode cX2_stateAheadOfOrder 25 = .ok (.aload_n 0, 1) := dq_42 (hz_wg wX2_stateAheadOfOrder_0 (j := 25) (n := 42) rfl)
theorem dX2_stateAheadOfOrder_26 : decode cX2_stateAheadOfOrder 26 = .ok (.getfield 18, 3) := dq_180 (hz_wg wX2_stateAheadOfOrder_0 (j := 26) (n := 180) rfl) (hz_wg wX2_stateAheadOfOrder_0 (j := 27) (n := 0) rfl) (hz_wg wX2_stateAheadOfOrder_0 (j := 28) (n := 18) rfl) rfl
theorem dX2_stateAheadOfOrder_29 : decode cX2_stateAheadOfOrder 29 = .ok (.iload_n 1, 1) := dq_27 (hz_wg wX2_stateAheadOfOrder_0 (j := 29) (n := 27) rfl)
theorem dX2_stateAheadOfOrder_30 : decode cX2_stateAheadOfOrder 30 = .ok (.invokestatic 60, 3) := dq_184 (hz_wg wX2_stateAheadOfOrder_0 (j := 30) (n := 184) rfl) (hz_wg wX2_stateAheadOfOrder_0 (j := 31) (n := 0) rfl) (hz_wg wX2_stateAheadOfOrder_0 (j := 32) (n := 60) rfl) rfl
theorem dX2_stateAheadOfOrder_33 : decode cX2_stateAheadOfOrder 33 = .ok (.ifCond .eq 7, 3) := dq_153 (hz_wg wX2_stateAheadOfOrder_0 (j := 33) (n := 153) rfl) (hz_wg wX2_stateAheadOfOrder_0 (j := 34) (n := 0) rfl) (hz_wg wX2_stateAheadOfOrder_0 (j := 35) (n := 7) rfl) (by decide)
theorem dX2_stateAheadOfOrder_36 : decode cX2_stateAheadOfOrder 36 = .ok (.iconst 1, 1) := dq_4 (hz_wg wX2_stateAheadOfOrder_0 (j := 36) (n := 4) rfl)
theorem dX2_stateAheadOfOrder_37 : decode cX2_stateAheadOfOrder 37 = .ok (.goto 4, 3) := dq_167 (hz_wg wX2_stateAheadOfOrder_0 (j := 37) (n := 167) rfl) (hz_wg wX2_stateAheadOfOrder_0 (j := 38) (n := 0) rfl) (hz_wg wX2_stateAheadOfOrder_0 (j := 39) (n := 4) rfl) (by decide)
theorem dX2_stateAheadOfOrder_40 : decode cX2_stateAheadOfOrder 40 = .ok (.iconst 0, 1) := dq_3 (hz_wg wX2_stateAheadOfOrder_0 (j := 40) (n := 3) rfl)
theorem dX2_stateAheadOfOrder_41 : decode cX2_stateAheadOfOrder 41 = .ok (.ireturn, 1) := dq_172 (hz_wg wX2_stateAheadOfOrder_0 (j := 41) (n := 172) rfl)
set_option maxHeartbeats 4000000 in
set_option maxRecDepth 100000 in
theorem t_X2_stateAheadOfOrder (l : Launch) (dC : Nat → ClassId) (dI : Nat → Nat → Nat) (dA : Nat → ClassId) (L : List Nat) (h : hx_h) (sz : Nat) (x : Nat) (i1 : Int32) (hT : hx_T T_tb L h) (gx : hx_g L h x 2)  : Met l yX2_stateAheadOfOrder (Cond.code yX2_stateAheadOfOrder cX2_stateAheadOfOrder 2 (some .int) :: hx_all) ({ frames := 1, cells := 0, slots := 0, locals := 21 }) (va_Pc [.ref x, .int i1] (hx_B T_tb (P_ty dA) (dC, dI) vwCl L h sz)) (va_Qi (fun (r : Int32) (u : List Nat × hx_h) => (True) ∧ hx_T T_tb u.1 u.2 ∧ hx_S T_tb [] L h u.1 u.2) (hx_E T_tb (P_ty dA) (dC, dI) vwCl (hx_A L sz)) (hx_A L sz)) 0 0 (hx_A L sz) := by
  refine hx_met (lv := [(0, .ref x), (1, .int i1)]) (by decide +kernel) rfl (Nat.le_of_ble_eq_true rfl) rfl ?_
  intro p e s m below meth c hx hb hml hr hlk hts0 hown hin hsz hW ls hl
  have hts : ∀ w ∈ hx_all, w.before _ s = true := fun w hw => hts0 w (List.mem_cons_of_mem _ hw)
  have hown : s.vm.findClass "SmallCourt$Claim" = some m.cls := hown
  have hM : hx_S T_tb [] L h L h := hx_S.rf
  refine lv_aload_n hx hb dX2_stateAheadOfOrder_0 rfl (lv_at hl 0 rfl) ?_
  refine hx_geti hx hb hts hC_2 hown hW hT gx tt_2 11 (by decide) rfl kw_748 ⟨rfl, rfl, rfl⟩ dX2_stateAheadOfOrder_1 (fun x_1 ex_1 lx_1 ux_1 => ?_)
  have fx_1 := ex_1.symm
  refine lv_iload_n hx hb dX2_stateAheadOfOrder_4 rfl (lv_at hl 1 rfl) ?_
  refine hx_goi (hx_runS (As := [.int x_1, .int i1]) (rest := []) ⟨hx, hb, hml, hown, hts⟩ hW (t_X2_isDone l dC dI dA L h s.heap.size x_1 i1 hT) (va_cwS 2 hts (hx_gS kw_864 kw_862 kw_863 kw_110) rfl rfl rfl (by decide +kernel) ⟨Nat.le_of_ble_eq_true rfl, Nat.le_of_ble_eq_true rfl⟩) rfl hl.1 rfl (Nat.le_of_ble_eq_true rfl) dX2_stateAheadOfOrder_5 ⟨Nat.le_of_ble_eq_true rfl, Nat.le_of_ble_eq_true rfl⟩) hW (fun r_4 L_2 h_3 H locs p_5 hW => ?_)
  obtain ⟨hr_6, hT, hs⟩ := p_5
  replace hT : hx_T T_tb L_2 h_3 := hT
  replace hs : hx_S T_tb [] L h L_2 h_3 := hs
  replace fx_1 := (hs.o gx trivial rfl).1.trans fx_1
  replace hM := hM.tr (hs.mono (by decide))
  replace gx := gx.S hs
  refine hb_if_eq (zx := r_4.toInt) (tgt := 25) hx hb rfl dX2_stateAheadOfOrder_8 (by decide) (fun c_7 => ?_) (fun c_7 => ?_)
  · skip
    refine lv_aload_n hx hb dX2_stateAheadOfOrder_25 rfl (lv_at hl 0 rfl) ?_
    refine hx_geti hx hb hts hC_2 hown hW hT gx tt_2 10 (by decide) rfl kw_746 ⟨rfl, rfl, rfl⟩ dX2_stateAheadOfOrder_26 (fun x_8 ex_8 lx_8 ux_8 => ?_)
    have fx_8 := ex_8.symm
    refine lv_iload_n hx hb dX2_stateAheadOfOrder_29 rfl (lv_at hl 1 rfl) ?_
    refine hx_goi (hx_runS (As := [.int x_8, .int i1]) (rest := []) ⟨hx, hb, hml, hown, hts⟩ hW (t_X2_isDone l dC dI dA L_2 h_3 H.size x_8 i1 hT) (va_cwS 2 hts (hx_gS kw_864 kw_862 kw_863 kw_110) rfl rfl rfl (by decide +kernel) ⟨Nat.le_of_ble_eq_true rfl, Nat.le_of_ble_eq_true rfl⟩) rfl hl.1 rfl (Nat.le_of_ble_eq_true rfl) dX2_stateAheadOfOrder_30 ⟨Nat.le_of_ble_eq_true rfl, Nat.le_of_ble_eq_true rfl⟩) hW (fun r_11 L_9 h_10 H locs p_12 hW => ?_)
    obtain ⟨hr_13, hT, hs⟩ := p_12
    replace hT : hx_T T_tb L_9 h_10 := hT
    replace hs : hx_S T_tb [] L_2 h_3 L_9 h_10 := hs
    replace fx_1 := (hs.o gx trivial rfl).1.trans fx_1
    replace fx_8 := (hs.o gx trivial rfl).1.trans fx_8
    replace hM := hM.tr (hs.mono (by decide))
    replace gx := gx.S hs
    refine hb_if_eq (zx := r_11.toInt) (tgt := 40) hx hb rfl dX2_stateAheadOfOrder_33 (by decide) (fun c_14 => ?_) (fun c_14 => ?_)
    · skip
      refine lv_iconst (v := 0) hx hb dX2_stateAheadOfOrder_40 (by decide) ?_
      exact hx_reti hx hb hr hlk hW ⟨trivial, hT, hM⟩ dX2_stateAheadOfOrder_41
    · skip
      refine lv_iconst (v := 1) hx hb dX2_stateAheadOfOrder_36 (by decide) ?_
      refine lv_goto (tgt := 41) hx hb dX2_stateAheadOfOrder_37 (by decide) ?_
      exact hx_reti hx hb hr hlk hW ⟨trivial, hT, hM⟩ dX2_stateAheadOfOrder_41
  · skip
    refine lv_aload_n hx hb dX2_stateAheadOfOrder_11 rfl (lv_at hl 0 rfl) ?_
    refine hx_geti hx hb hts hC_2 hown hW hT gx tt_2 12 (by decide) rfl kw_750 ⟨rfl, rfl, rfl⟩ dX2_stateAheadOfOrder_12 (fun x_15 ex_15 lx_15 ux_15 => ?_)
    have fx_15 := ex_15.symm
    refine lv_iconst (v := 5) hx hb dX2_stateAheadOfOrder_15 (by decide) ?_
    refine hb_icmp_ne (zx := x_15.toInt) (zy := 5) (tgt := 23) hx hb rfl (by decide) dX2_stateAheadOfOrder_16 (by decide) (fun c_16 => ?_) (fun c_16 => ?_)
    · skip
      refine lv_iconst (v := 2) hx hb dX2_stateAheadOfOrder_23 (by decide) ?_
      exact hx_reti hx hb hr hlk hW ⟨trivial, hT, hM⟩ dX2_stateAheadOfOrder_24
    · skip
      refine lv_iconst (v := 3) hx hb dX2_stateAheadOfOrder_19 (by decide) ?_
      refine lv_goto (tgt := 24) hx hb dX2_stateAheadOfOrder_20 (by decide) ?_
      exact hx_reti hx hb hr hlk hW ⟨trivial, hT, hM⟩ dX2_stateAheadOfOrder_24
