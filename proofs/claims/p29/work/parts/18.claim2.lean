def wLX2_missedOn_0 : List Nat := [42, 180, 0, 25, 28, 184, 0, 60, 153, 0, 14, 42, 180, 0, 31, 28, 184, 0, 60, 153, 0, 5, 3, 172, 42, 28, 182, 0, 83, 42, 180, 0, 86, 28, 42, 180, 0, 25, 100, 16, 7, 108, 104, 184, 0, 89, 54, 4, 21, 4, 42, 43, 28, 29, 182, 0, 92, 100, 42, 180, 0, 86, 184, 0]
def wLX2_missedOn_1 : List Nat := [95, 172]
theorem wX2_missedOn_0 : (cX2_missedOn.data.toList.map UInt8.toNat).drop 0 = wLX2_missedOn_0 ++ (wLX2_missedOn_1 ++ ([])) := by decide +kernel
theorem wX2_missedOn_1 : (cX2_missedOn.data.toList.map UInt8.toNat).drop 64 = wLX2_missedOn_1 ++ ([]) := hz_wn wX2_missedOn_0 rfl
theorem dX2_missedOn_0 : decode cX2_missedOn 0 = .ok (.aload_n 0, 1) := dq_42 (hz_wg wX2_missedOn_0 (j := 0) (n := 42) rfl)
theorem dX2_missedOn_1 : decode cX2_missedOn 1 = .ok (.getfield 25, 3) := dq_180 (hz_wg wX2_missedOn_0 (j := 1) (n := 180) rfl) (hz_wg wX2_missedOn_0 (j := 2) (n := 0) rfl) (hz_wg wX2_missedOn_0 (j := 3) (n := 25) rfl) rfl
theorem dX2_missedOn_4 : decode cX2_missedOn 4 = .ok (.iload_n 2, 1) := dq_28 (hz_wg wX2_missedOn_0 (j := 4) (n := 28) rfl)
theorem dX2_missedOn_5 : decode cX2_missedOn 5 = .ok (.invokestatic 60, 3) := dq_184 (hz_wg wX2_missedOn_0 (j := 5) (n := 184) rfl) (hz_wg wX2_missedOn_0 (j := 6) (n := 0) rfl) (hz_wg wX2_missedOn_0 (j := 7) (n := 60) rfl) rfl
theorem dX2_missedOn_8 : decode cX2_missedOn 8 = .ok (.ifCond .eq 14, 3) := dq_153 (hz_wg wX2_missedOn_0 (j := 8) (n := 153) rfl) (hz_wg wX2_missedOn_0 (j := 9) (n := 0) rfl) (hz_wg wX2_missedOn_0 (j := 10) (n := 14) rfl) (by decide)
theorem dX2_missedOn_11 : decode cX2_missedOn 11 = .ok (.aload_n 0, 1) := dq_42 (hz_wg wX2_missedOn_0 (j := 11) (n := 42) rfl)
theorem dX2_missedOn_12 : decode cX2_missedOn 12 = .ok (.getfield 31, 3) := dq_180 (hz_wg wX2_missedOn_0 (j := 12) (n := 180) rfl) (hz_wg wX2_missedOn_0 (j := 13) (n := 0) rfl) (hz_wg wX2_missedOn_0 (j := 14) (n := 31) rfl) rfl
theorem dX2_missedOn_15 : decode cX2_missedOn 15 = .ok (.iload_n 2, 1) := dq_28 (hz_wg wX2_missedOn_0 (j := 15) (n := 28) rfl)
theorem dX2_missedOn_16 : decode cX2_missedOn 16 = .ok (.invokestatic 60, 3) := dq_184 (hz_wg wX2_missedOn_0 (j := 16) (n := 184) rfl) (hz_wg wX2_missedOn_0 (j := 17) (n := 0) rfl) (hz_wg wX2_missedOn_0 (j := 18) (n := 60) rfl) rfl
theorem dX2_missedOn_19 : decode cX2_missedOn 19 = .ok (.ifCond .eq 5, 3) := dq_153 (hz_wg wX2_missedOn_0 (j := 19) (n := 153) rfl) (hz_wg wX2_missedOn_0 (j := 20) (n := 0) rfl) (hz_wg wX2_missedOn_0 (j := 21) (n := 5) rfl) (by decide)
theorem dX2_missedOn_22 : decode cX2_missedOn 22 = .ok (.iconst 0, 1) := dq_3 (hz_wg wX2_missedOn_0 (j := 22) (n := 3) rfl)
theorem dX2_missedOn_23 : decode cX2_missedOn 23 = .ok (.ireturn, 1) := dq_172 (hz_wg wX2_missedOn_0 (j := 23) (n := 172) rfl)
theorem dX2_missedOn_24 : decode cX2_missedOn 24 = .ok (.aload_n 0, 1) := dq_42 (hz_wg wX2_missedOn_0 (j := 24) (n := 42) rfl)
theorem dX2_missedOn_25 : decode cX2_missedOn 25 = .ok (.iload_n 2, 1) := dq_28 (hz_wg wX2_missedOn_0 (j := 25) (n := 28) rfl)
theorem dX2_missedOn_26 : decode cX2_missedOn 26 = .ok (.invokevirtual 83, 3) := dq_182 (hz_wg wX2_missedOn_0 (j := 26) (n := 182) rfl) (hz_wg wX2_missedOn_0 (j := 27) (n := 0) rfl) (hz_wg wX2_missedOn_0 (j := 28) (n := 83) rfl) rfl
theorem dX2_missedOn_29 : decode cX2_missedOn 29 = .ok (.aload_n 0, 1) := dq_42 (hz_wg wX2_missedOn_0 (j := 29) (n := 42) rfl)
theorem dX2_missedOn_30 : decode cX2_missedOn 30 = .ok (.getfield 86, 3) := dq_180 (hz_wg wX2_missedOn_0 (j := 30) (n := 180) rfl) (hz_wg wX2_missedOn_0 (j := 31) (n := 0) rfl) (hz_wg wX2_missedOn_0 (j := 32) (n := 86) rfl) rfl
theorem dX2_missedOn_33 : decode cX2_missedOn 33 = .ok (.iload_n 2, 1) := dq_28 (hz_wg wX2_missedOn_0 (j := 33) (n := 28) rfl)
theorem dX2_missedOn_34 : decode cX2_missedOn 34 = .ok (.aload_n 0, 1) := dq_42 (hz_wg wX2_missedOn_0 (j := 34) (n := 42) rfl)
theorem dX2_missedOn_35 : decode cX2_missedOn 35 = .ok (.getfield 25, 3) := dq_180 (hz_wg wX2_missedOn_0 (j := 35) (n := 180) rfl) (hz_wg wX2_missedOn_0 (j := 36) (n := 0) rfl) (hz_wg wX2_missedOn_0 (j := 37) (n := 25) rfl) rfl
theorem dX2_missedOn_38 : decode cX2_missedOn 38 = .ok (.isub, 1) := dq_100 (hz_wg wX2_missedOn_0 (j := 38) (n := 100) rfl)
theorem dX2_missedOn_39 : decode cX2_missedOn 39 = .ok (.bipush 7, 2) := dq_16 (hz_wg wX2_missedOn_0 (j := 39) (n := 16) rfl) (hz_wg wX2_missedOn_0 (j := 40) (n := 7) rfl) (by decide)
theorem dX2_missedOn_41 : decode cX2_missedOn 41 = .ok (.idiv, 1) := dq_108 (hz_wg wX2_missedOn_0 (j := 41) (n := 108) rfl)
theorem dX2_missedOn_42 : decode cX2_missedOn 42 = .ok (.imul, 1) := dq_104 (hz_wg wX2_missedOn_0 (j := 42) (n := 104) rfl)
theorem dX2_missedOn_43 : decode cX2_missedOn 43 = .ok (.invokestatic 89, 3) := dq_184 (hz_wg wX2_missedOn_0 (j := 43) (n := 184) rfl) (hz_wg wX2_missedOn_0 (j := 44) (n := 0) rfl) (hz_wg wX2_missedOn_0 (j := 45) (n := 89) rfl) rfl
theorem dX2_missedOn_46 : decode cX2_missedOn 46 = .ok (.istore 4, 2) := dq_54 (hz_wg wX2_missedOn_0 (j := 46) (n := 54) rfl) (hz_wg wX2_missedOn_0 (j := 47) (n := 4) rfl)
theorem dX2_missedOn_48 : decode cX2_missedOn 48 = .ok (.iload 4, 2) := dq_21 (hz_wg wX2_missedOn_0 (j := 48) (n := 21) rfl) (hz_wg wX2_missedOn_0 (j := 49) (n := 4) rfl)
theorem dX2_missedOn_50 : decode cX2_missedOn 50 = .ok (.aload_n 0, 1) := dq_42 (hz_wg wX2_missedOn_0 (j := 50) (n := 42) rfl)
theorem dX2_missedOn_51 : decode cX2_missedOn 51 = .ok (.aload_n 1, 1) := dq_43 (hz_wg wX2_missedOn_0 (j := 51) (n := 43) rfl)
theorem dX2_missedOn_52 : decode cX2_missedOn 52 = .ok (.iload_n 2, 1) := dq_28 (hz_wg wX2_missedOn_0 (j := 52) (n := 28) rfl)
theorem dX2_missedOn_53 : decode cX2_missedOn 53 = .ok (.iload_n 3, 1) := dq_29 (hz_wg wX2_missedOn_0 (j := 53) (n := 29) rfl)
theorem dX2_missedOn_54 : decode cX2_missedOn 54 = .ok (.invokevirtual 92, 3) := dq_182 (hz_wg wX2_missedOn_0 (j := 54) (n := 182) rfl) (hz_wg wX2_missedOn_0 (j := 55) (n := 0) rfl) (hz_wg wX2_missedOn_0 (j := 56) (n := 92) rfl) rfl
theorem dX2_missedOn_57 : decode cX2_missedOn 57 = .ok (.isub, 1) := dq_100 (hz_wg wX2_missedOn_0 (j := 57) (n := 100) rfl)
theorem dX2_missedOn_58 : decode cX2_missedOn 58 = .ok (.aload_n 0, 1) := dq_42 (hz_wg wX2_missedOn_0 (j := 58) (n := 42) rfl)
theorem dX2_missedOn_59 : decode cX2_missedOn 59 = .ok (.getfield 86, 3) := dq_180 (hz_wg wX2_missedOn_0 (j := 59) (n := 180) rfl) (hz_wg wX2_missedOn_0 (j := 60) (n := 0) rfl) (hz_wg wX2_missedOn_0 (j := 61) (n := 86) rfl) rfl
theorem dX2_missedOn_62 : decode cX2_missedOn 62 = .ok (.invokestatic 95, 3) := dq_184 (hz_wg wX2_missedOn_0 (j := 62) (n := 184) rfl) (hz_wg wX2_missedOn_0 (j := 63) (n := 0) rfl) (hz_wg wX2_missedOn_1 (j := 0) (n := 95) rfl) rfl
theorem dX2_missedOn_65 : decode cX2_missedOn 65 = .ok (.ireturn, 1) := dq_172 (hz_wg wX2_missedOn_1 (j := 1) (n := 172) rfl)
set_option maxHeartbeats 4000000 in
set_option maxRecDepth 100000 in
theorem t_X2_missedOn (l : Launch) (dC : Nat → ClassId) (dI : Nat → Nat → Nat) (dA : Nat → ClassId) (L : List Nat) (h : hx_h) (sz : Nat) (b0 : hx_z) (x : Nat) (v1 : Nat) (i1 : Int32) (i2 : Int32) (hT : hx_T T_tb L h) (gx : hx_g L h x 2) (gv1 : hx_g L h v1 3)  : Met l yX2_missedOn (Cond.code yX2_missedOn cX2_missedOn 5 (some .int) :: hx_all) ({ frames := 2, cells := 0, slots := 0, locals := 50 }) (va_Pc [.ref x, .ref v1, .int i1, .int i2] (hx_BX T_tb (P_ty dA) (dC, dI) vwCl L h sz b0)) (va_Qi (fun (r : Int32) (u : List Nat × hx_h) => (True) ∧ hx_T T_tb u.1 u.2 ∧ hx_S T_tb [] L h u.1 u.2) (hx_E T_tb (P_ty dA) (dC, dI) vwCl (hx_A L sz)) (hx_A L sz)) 0 0 (hx_A L sz) := by
  refine hx_metX (lv := [(0, .ref x), (1, .ref v1), (2, .int i1), (3, .int i2)]) (by decide +kernel) rfl (Nat.le_of_ble_eq_true rfl) rfl ?_
  intro p e s m below meth c hx hb hml hr hlk hts0 hown hin hsz hW hZ ls hl
  have hts : ∀ w ∈ hx_all, w.before _ s = true := fun w hw => hts0 w (List.mem_cons_of_mem _ hw)
  have hown : s.vm.findClass "SmallCourt$Claim" = some m.cls := hown
  have hM : hx_S T_tb [] L h L h := hx_S.rf
  refine lv_aload_n hx hb dX2_missedOn_0 rfl (lv_at hl 0 rfl) ?_
  refine hx_geti hx hb hts hC_2 hown hW hT gx tt_2 13 (by decide) rfl kw_752 ⟨rfl, rfl, rfl⟩ dX2_missedOn_1 (fun x_1 ex_1 lx_1 ux_1 => ?_)
  have fx_1 := ex_1.symm
  refine lv_iload_n hx hb dX2_missedOn_4 rfl (lv_at hl 2 rfl) ?_
  refine hx_goi (hx_runS (As := [.int x_1, .int i1]) (rest := []) ⟨hx, hb, hml, hown, hts⟩ hW (t_X2_isDone l dC dI dA L h s.heap.size x_1 i1 hT) (va_cwS 2 hts (hx_gS kw_864 kw_862 kw_863 kw_110) rfl rfl rfl (by decide +kernel) ⟨Nat.le_of_ble_eq_true rfl, Nat.le_of_ble_eq_true rfl⟩) rfl hl.1 rfl (Nat.le_of_ble_eq_true rfl) dX2_missedOn_5 ⟨Nat.le_of_ble_eq_true rfl, Nat.le_of_ble_eq_true rfl⟩) hW (fun r_4 L_2 h_3 H locs p_5 hW => ?_)
  obtain ⟨hr_6, hT, hs⟩ := p_5
  replace hT : hx_T T_tb L_2 h_3 := hT
  replace hs : hx_S T_tb [] L h L_2 h_3 := hs
  replace fx_1 := (hs.o gx trivial rfl).1.trans fx_1
  replace hM := hM.tr (hs.mono (by decide))
  replace gx := gx.S hs
  replace gv1 := gv1.S hs
  refine hb_if_eq (zx := r_4.toInt) (tgt := 22) hx hb rfl dX2_missedOn_8 (by decide) (fun c_7 => ?_) (fun c_7 => ?_)
  · skip
    refine lv_iconst (v := 0) hx hb dX2_missedOn_22 (by decide) ?_
    exact hx_reti hx hb hr hlk hW ⟨trivial, hT, hM⟩ dX2_missedOn_23
  · skip
    refine lv_aload_n hx hb dX2_missedOn_11 rfl (lv_at hl 0 rfl) ?_
    refine hx_geti hx hb hts hC_2 hown hW hT gx tt_2 18 (by decide) rfl kw_762 ⟨rfl, rfl, rfl⟩ dX2_missedOn_12 (fun x_8 ex_8 lx_8 ux_8 => ?_)
    have fx_8 := ex_8.symm
    refine lv_iload_n hx hb dX2_missedOn_15 rfl (lv_at hl 2 rfl) ?_
    refine hx_goi (hx_runS (As := [.int x_8, .int i1]) (rest := []) ⟨hx, hb, hml, hown, hts⟩ hW (t_X2_isDone l dC dI dA L_2 h_3 H.size x_8 i1 hT) (va_cwS 2 hts (hx_gS kw_864 kw_862 kw_863 kw_110) rfl rfl rfl (by decide +kernel) ⟨Nat.le_of_ble_eq_true rfl, Nat.le_of_ble_eq_true rfl⟩) rfl hl.1 rfl (Nat.le_of_ble_eq_true rfl) dX2_missedOn_16 ⟨Nat.le_of_ble_eq_true rfl, Nat.le_of_ble_eq_true rfl⟩) hW (fun r_11 L_9 h_10 H locs p_12 hW => ?_)
    obtain ⟨hr_13, hT, hs⟩ := p_12
    replace hT : hx_T T_tb L_9 h_10 := hT
    replace hs : hx_S T_tb [] L_2 h_3 L_9 h_10 := hs
    replace fx_1 := (hs.o gx trivial rfl).1.trans fx_1
    replace fx_8 := (hs.o gx trivial rfl).1.trans fx_8
    replace hM := hM.tr (hs.mono (by decide))
    replace gx := gx.S hs
    replace gv1 := gv1.S hs
    refine hb_if_eq (zx := r_11.toInt) (tgt := 24) hx hb rfl dX2_missedOn_19 (by decide) (fun c_14 => ?_) (fun c_14 => ?_)
    · skip
      refine lv_aload_n hx hb dX2_missedOn_24 rfl (lv_at hl 0 rfl) ?_
      refine lv_iload_n hx hb dX2_missedOn_25 rfl (lv_at hl 2 rfl) ?_
      refine hx_goi (hx_runV (As := [.int i1]) (rest := []) ⟨hx, hb, hml, hown, hts⟩ hW gx tt_2 (T := TX2) (N := 19) rfl (t_X2_owedOn l dC dI dA L_9 h_10 H.size x i1 hT gx) (cwV 1 hts (hx_gV kw_872 kw_869 kw_871 kw_31 kw_110) rfl rfl rfl (by decide +kernel) ⟨Nat.le_of_ble_eq_true rfl, Nat.le_of_ble_eq_true rfl⟩) rfl hl.1 rfl (Nat.le_of_ble_eq_true rfl) dX2_missedOn_26 ⟨Nat.le_of_ble_eq_true rfl, Nat.le_of_ble_eq_true rfl⟩) hW (fun r_17 L_15 h_16 H locs p_18 hW => ?_)
      obtain ⟨hr_19, hT, hs⟩ := p_18
      replace hT : hx_T T_tb L_15 h_16 := hT
      replace hs : hx_S T_tb [] L_9 h_10 L_15 h_16 := hs
      replace fx_1 := (hs.o gx trivial rfl).1.trans fx_1
      replace fx_8 := (hs.o gx trivial rfl).1.trans fx_8
      replace hM := hM.tr (hs.mono (by decide))
      replace gx := gx.S hs
      replace gv1 := gv1.S hs
      refine lv_aload_n hx hb dX2_missedOn_29 rfl (lv_at hl 0 rfl) ?_
      refine hx_geti hx hb hts hC_2 hown hW hT gx tt_2 14 (by decide) rfl kw_754 ⟨rfl, rfl, rfl⟩ dX2_missedOn_30 (fun x_20 ex_20 lx_20 ux_20 => ?_)
      have fx_20 := ex_20.symm
      refine lv_iload_n hx hb dX2_missedOn_33 rfl (lv_at hl 2 rfl) ?_
      refine lv_aload_n hx hb dX2_missedOn_34 rfl (lv_at hl 0 rfl) ?_
      refine hk_geti hx hb hts hC_2 hown hW gx tt_2 13 (by decide) rfl kw_752 ⟨rfl, rfl, rfl⟩ fx_1 dX2_missedOn_35 ?_
      refine lv_isub hx hb dX2_missedOn_38 ?_
      have rg_21 := i32_r i1
      have rg_22 := i32_r x_1
      refine lv_topi (fun x_23 ex_23 => ?_)
      refine lv_bipush (v := 7) hx hb dX2_missedOn_39 (by decide) ?_
      refine lv_idiv hx hb dX2_missedOn_41 (by decide) ?_
      refine lv_topi (fun x_24 ex_24 => ?_)
      refine lv_imul hx hb dX2_missedOn_42 ?_
      refine lv_topi (fun x_25 ex_25 => ?_)
      refine va_mmin hx hb (hml.trans hl.1.symm) hown (hts _ kw_916) (hts _ kw_917) (hts _ kw_109) (hts _ kw_918) (Nat.le_of_ble_eq_true rfl) (Nat.le_of_ble_eq_true rfl) (Nat.le_of_ble_eq_true rfl) (Nat.le_of_ble_eq_true rfl) dX2_missedOn_43 ?_
      refine lv_topi (fun x_26 ex_26 => ?_)
      refine lv_istore (lv' := [(4, .int x_26), (0, .ref x), (1, .ref v1), (2, .int i1), (3, .int i2)]) hx hb dX2_missedOn_46 hl (by decide) rfl (fun ls hl => ?_)
      refine lv_iload hx hb dX2_missedOn_48 (lv_at hl 0 rfl) ?_
      refine lv_aload_n hx hb dX2_missedOn_50 rfl (lv_at hl 1 rfl) ?_
      refine lv_aload_n hx hb dX2_missedOn_51 rfl (lv_at hl 2 rfl) ?_
      refine lv_iload_n hx hb dX2_missedOn_52 rfl (lv_at hl 3 rfl) ?_
      refine lv_iload_n hx hb dX2_missedOn_53 rfl (lv_at hl 4 rfl) ?_
      refine hx_goi (hx_runV (As := [.ref v1, .int i1, .int i2]) (rest := [.int x_26]) ⟨hx, hb, hml, hown, hts⟩ hW gx tt_2 (T := TX2) (N := 19) rfl (t_X2_paidOn l dC dI dA L_15 h_16 H.size x v1 i1 i2 hT gx gv1) (cwV 3 hts (hx_gV kw_876 kw_873 kw_874 kw_875 kw_110) rfl rfl rfl (by decide +kernel) ⟨Nat.le_of_ble_eq_true rfl, Nat.le_of_ble_eq_true rfl⟩) rfl hl.1 rfl (Nat.le_of_ble_eq_true rfl) dX2_missedOn_54 ⟨Nat.le_of_ble_eq_true rfl, Nat.le_of_ble_eq_true rfl⟩) hW (fun r_29 L_27 h_28 H locs p_30 hW => ?_)
      obtain ⟨hr_31, hT, hs⟩ := p_30
      replace hT : hx_T T_tb L_27 h_28 := hT
      replace hs : hx_S T_tb [] L_15 h_16 L_27 h_28 := hs
      replace fx_1 := (hs.o gx trivial rfl).1.trans fx_1
      replace fx_8 := (hs.o gx trivial rfl).1.trans fx_8
      replace fx_20 := (hs.o gx trivial rfl).1.trans fx_20
      replace hM := hM.tr (hs.mono (by decide))
      replace gx := gx.S hs
      replace gv1 := gv1.S hs
      refine lv_isub hx hb dX2_missedOn_57 ?_
      have rg_32 := i32_r x_26
      have rg_33 := i32_r r_29
      refine lv_topi (fun x_34 ex_34 => ?_)
      refine lv_aload_n hx hb dX2_missedOn_58 rfl (lv_at hl 1 rfl) ?_
      refine hk_geti hx hb hts hC_2 hown hW gx tt_2 14 (by decide) rfl kw_754 ⟨rfl, rfl, rfl⟩ fx_20 dX2_missedOn_59 ?_
      refine hx_goi (hx_runSN (As := [.int x_34, .int x_20]) (rest := []) ⟨hx, hb, hml, hown, hts⟩ hW (t_X9_roundUp l dC dI dA L_27 h_28 H.size x_34 x_20 hT) ⟨va_cnB 2 hts (hx_gC kw_921) rfl rfl rfl (hZ.1 _ (List.mem_of_getElem? (i := 9) rfl)) (hts _ kw_94) (by decide +kernel) ⟨Nat.le_of_ble_eq_true rfl, Nat.le_of_ble_eq_true rfl⟩, hts _ kw_920, trivial⟩ rfl hl.1 rfl (Nat.le_of_ble_eq_true rfl) dX2_missedOn_62 ⟨Nat.le_of_ble_eq_true rfl, Nat.le_of_ble_eq_true rfl⟩) hW (fun r_37 L_35 h_36 H locs p_38 hW => ?_)
      obtain ⟨hr_39, hT, hs⟩ := p_38
      replace hT : hx_T T_tb L_35 h_36 := hT
      replace hs : hx_S T_tb [] L_27 h_28 L_35 h_36 := hs
      replace fx_1 := (hs.o gx trivial rfl).1.trans fx_1
      replace fx_8 := (hs.o gx trivial rfl).1.trans fx_8
      replace fx_20 := (hs.o gx trivial rfl).1.trans fx_20
      replace hM := hM.tr (hs.mono (by decide))
      replace gx := gx.S hs
      replace gv1 := gv1.S hs
      exact hx_reti hx hb hr hlk hW ⟨trivial, hT, hM⟩ dX2_missedOn_65
    · skip
      refine lv_iconst (v := 0) hx hb dX2_missedOn_22 (by decide) ?_
      exact hx_reti hx hb hr hlk hW ⟨trivial, hT, hM⟩ dX2_missedOn_23

def wLX2_stateOn_0 : List Nat := [42, 180, 0, 25, 28, 184, 0, 60, 154, 0, 9, 42, 28, 182, 0, 64, 172, 42, 180, 0, 31, 28, 184, 0, 60, 153, 0, 6, 16, 8, 172, 42, 43, 28, 29, 182, 0, 56, 154, 0, 6, 16, 7, 172, 42, 43, 28, 29, 182, 0, 68, 54, 4, 21, 4, 42, 180, 0, 44, 180, 0, 51, 8, 46]
def wLX2_stateOn_1 : List Nat := [162, 0, 5, 7, 172, 21, 4, 42, 180, 0, 44, 180, 0, 51, 8, 46, 42, 180, 0, 44, 180, 0, 51, 16, 6, 46, 96, 162, 0, 7, 8, 167, 0, 5, 16, 6, 172]
theorem wX2_stateOn_0 : (cX2_stateOn.data.toList.map UInt8.toNat).drop 0 = wLX2_stateOn_0 ++ (wLX2_stateOn_1 ++ ([])) := by decide +kernel
theorem wX2_stateOn_1 : (cX2_stateOn.data.toList.map UInt8.toNat).drop 64 = wLX2_stateOn_1 ++ ([]) := hz_wn wX2_stateOn_0 rfl
theorem dX2_stateOn_0 : decode cX2_stateOn 0 = .ok (.aload_n 0, 1) := dq_42 (hz_wg wX2_stateOn_0 (j := 0) (n := 42) rfl)
theorem dX2_stateOn_1 : decode cX2_stateOn 1 = .ok (.getfield 25, 3) := dq_180 (hz_wg wX2_stateOn_0 (j := 1) (n := 180) rfl) (hz_wg wX2_stateOn_0 (j := 2) (n := 0) rfl) (hz_wg wX2_stateOn_0 (j := 3) (n := 25) rfl) rfl
theorem dX2_stateOn_4 : decode cX2_stateOn 4 = .ok (.iload_n 2, 1) := dq_28 (hz_wg wX2_stateOn_0 (j := 4) (n := 28) rfl)
theorem dX2_stateOn_5 : decode cX2_stateOn 5 = .ok (.invokestatic 60, 3) := dq_184 (hz_wg wX2_stateOn_0 (j := 5) (n := 184) rfl) (hz_wg wX2_stateOn_0 (j := 6) (n := 0) rfl) (hz_wg wX2_stateOn_0 (j := 7) (n := 60) rfl) rfl
theorem dX2_stateOn_8 : decode cX2_stateOn 8 = .ok (.ifCond .ne 9, 3) := dq_154 (hz_wg wX2_stateOn_0 (j := 8) (n := 154) rfl) (hz_wg wX2_stateOn_0 (j := 9) (n := 0) rfl) (hz_wg wX2_stateOn_0 (j := 10) (n := 9) rfl) (by decide)
theorem dX2_stateOn_11 : decode cX2_stateOn 11 = .ok (.aload_n 0, 1) := dq_42 (hz_wg wX2_stateOn_0 (j := 11) (n := 42) rfl)
theorem dX2_stateOn_12 : decode cX2_stateOn 12 = .ok (.iload_n 2, 1) := dq_28 (hz_wg wX2_stateOn_0 (j := 12) (n := 28) rfl)
theorem dX2_stateOn_13 : decode cX2_stateOn 13 = .ok (.invokevirtual 64, 3) := dq_182 (hz_wg wX2_stateOn_0 (j := 13) (n := 182) rfl) (hz_wg wX2_stateOn_0 (j := 14) (n := 0) rfl) (hz_wg wX2_stateOn_0 (j := 15) (n := 64) rfl) rfl
theorem dX2_stateOn_16 : decode cX2_stateOn 16 = .ok (.ireturn, 1) := dq_172 (hz_wg wX2_stateOn_0 (j := 16) (n := 172) rfl)
theorem dX2_stateOn_17 : decode cX2_stateOn 17 = .ok (.aload_n 0, 1) := dq_42 (hz_wg wX2_stateOn_0 (j := 17) (n := 42) rfl)
theorem dX2_stateOn_18 : decode cX2_stateOn 18 = .ok (.getfield 31, 3) := dq_180 (hz_wg wX2_stateOn_0 (j := 18) (n := 180) rfl) (hz_wg wX2_stateOn_0 (j := 19) (n := 0) rfl) (hz_wg wX2_stateOn_0 (j := 20) (n := 31) rfl) rfl
theorem dX2_stateOn_21 : decode cX2_stateOn 21 = .ok (.iload_n 2, 1) := dq_28 (hz_wg wX2_stateOn_0 (j := 21) (n := 28) rfl)
theorem dX2_stateOn_22 : decode cX2_stateOn 22 = .ok (.invokestatic 60, 3) := dq_184 (hz_wg wX2_stateOn_0 (j := 22) (n := 184) rfl) (hz_wg wX2_stateOn_0 (j := 23) (n := 0) rfl) (hz_wg wX2_stateOn_0 (j := 24) (n := 60) rfl) rfl
theorem dX2_stateOn_25 : decode cX2_stateOn 25 = .ok (.ifCond .eq 6, 3) := dq_153 (hz_wg wX2_stateOn_0 (j := 25) (n := 153) rfl) (hz_wg wX2_stateOn_0 (j := 26) (n := 0) rfl) (hz_wg wX2_stateOn_0 (j := 27) (n := 6) rfl) (by decide)
theorem dX2_stateOn_28 : decode cX2_stateOn 28 = .ok (.bipush 8, 2) := dq_16 (hz_wg wX2_stateOn_0 (j := 28) (n := 16) rfl) (hz_wg wX2_stateOn_0 (j := 29) (n := 8) rfl) (by decide)
theorem dX2_stateOn_30 : decode cX2_stateOn 30 = .ok (.ireturn, 1) := dq_172 (hz_wg wX2_stateOn_0 (j := 30) (n := 172) rfl)
theorem dX2_stateOn_31 : decode cX2_stateOn 31 = .ok (.aload_n 0, 1) := dq_42 (hz_wg wX2_stateOn_0 (j := 31) (n := 42) rfl)
theorem dX2_stateOn_32 : decode cX2_stateOn 32 = .ok (.aload_n 1, 1) := dq_43 (hz_wg wX2_stateOn_0 (j := 32) (n := 43) rfl)
theorem dX2_stateOn_33 : decode cX2_stateOn 33 = .ok (.iload_n 2, 1) := dq_28 (hz_wg wX2_stateOn_0 (j := 33) (n := 28) rfl)
theorem dX2_stateOn_34 : decode cX2_stateOn 34 = .ok (.iload_n 3, 1) := dq_29 (hz_wg wX2_stateOn_0 (j := 34) (n := 29) rfl)
theorem dX2_stateOn_35 : decode cX2_stateOn 35 = .ok (.invokevirtual 56, 3) := dq_182 (hz_wg wX2_stateOn_0 (j := 35) (n := 182) rfl) (hz_wg wX2_stateOn_0 (j := 36) (n := 0) rfl) (hz_wg wX2_stateOn_0 (j := 37) (n := 56) rfl) rfl
theorem dX2_stateOn_38 : decode cX2_stateOn 38 = .ok (.ifCond .ne 6, 3) := dq_154 (hz_wg wX2_stateOn_0 (j := 38) (n := 154) rfl) (hz_wg wX2_stateOn_0 (j := 39) (n := 0) rfl) (hz_wg wX2_stateOn_0 (j := 40) (n := 6) rfl) (by decide)
theorem dX2_stateOn_41 : decode cX2_stateOn 41 = .ok (.bipush 7, 2) := dq_16 (hz_wg wX2_stateOn_0 (j := 41) (n := 16) rfl) (hz_wg wX2_stateOn_0 (j := 42) (n := 7) rfl) (by decide)
theorem dX2_stateOn_43 : decode cX2_stateOn 43 = .ok (.ireturn, 1) := dq_172 (hz_wg wX2_stateOn_0 (j := 43) (n := 172) rfl)
theorem dX2_stateOn_44 : decode cX2_stateOn 44 = .ok (.aload_n 0, 1) := dq_42 (hz_wg wX2_stateOn_0 (j := 44) (n := 42) rfl)
theorem dX2_stateOn_45 : decode cX2_stateOn 45 = .ok (.aload_n 1, 1) := dq_43 (hz_wg wX2_stateOn_0 (j := 45) (n := 43) rfl)
theorem dX2_stateOn_46 : decode cX2_stateOn 46 = .ok (.iload_n 2, 1) := dq_28 (hz_wg wX2_stateOn_0 (j := 46) (n := 28) rfl)
theorem dX2_stateOn_47 : decode cX2_stateOn 47 = .ok (.iload_n 3, 1) := dq_29 (hz_wg wX2_stateOn_0 (j := 47) (n := 29) rfl)
theorem dX2_stateOn_48 : decode cX2_stateOn 48 = .ok (.invokevirtual 68, 3) := dq_182 (hz_wg wX2_stateOn_0 (j := 48) (n := 182) rfl) (hz_wg wX2_stateOn_0 (j := 49) (n := 0) rfl) (hz_wg wX2_stateOn_0 (j := 50) (n := 68) rfl) rfl
theorem dX2_stateOn_51 : decode cX2_stateOn 51 = .ok (.istore 4, 2) := dq_54 (hz_wg wX2_stateOn_0 (j := 51) (n := 54) rfl) (hz_wg wX2_stateOn_0 (j := 52) (n := 4) rfl)
theorem dX2_stateOn_53 : decode cX2_stateOn 53 = .ok (.iload 4, 2) := dq_21 (hz_wg wX2_stateOn_0 (j := 53) (n := 21) rfl) (hz_wg wX2_stateOn_0 (j := 54) (n := 4) rfl)
theorem dX2_stateOn_55 : decode cX2_stateOn 55 = .ok (.aload_n 0, 1) := dq_42 (hz_wg wX2_stateOn_0 (j := 55) (n := 42) rfl)
theorem dX2_stateOn_56 : decode cX2_stateOn 56 = .ok (.getfield 44, 3) := dq_180 (hz_wg wX2_stateOn_0 (j := 56) (n := 180) rfl) (hz_wg wX2_stateOn_0 (j := 57) (n := 0) rfl) (hz_wg wX2_stateOn_0 (j := 58) (n := 44) rfl) rfl
theorem dX2_stateOn_59 : decode cX2_stateOn 59 = .ok (.getfield 51, 3) := dq_180 (hz_wg wX2_stateOn_0 (j := 59) (n := 180) rfl) (hz_wg wX2_stateOn_0 (j := 60) (n := 0) rfl) (hz_wg wX2_stateOn_0 (j := 61) (n := 51) rfl) rfl
theorem dX2_stateOn_62 : decode cX2_stateOn 62 = .ok (.iconst 5, 1) := dq_8 (hz_wg wX2_stateOn_0 (j := 62) (n := 8) rfl)
theorem dX2_stateOn_63 : decode cX2_stateOn 63 = .ok (.iaload, 1) := dq_46 (hz_wg wX2_stateOn_0 (j := 63) (n := 46) rfl)
theorem dX2_stateOn_64 : decode cX2_stateOn 64 = .ok (.if_icmp .ge 5, 3) := dq_162 (hz_wg wX2_stateOn_1 (j := 0) (n := 162) rfl) (hz_wg wX2_stateOn_1 (j := 1) (n := 0) rfl) (hz_wg wX2_stateOn_1 (j := 2) (n := 5) rfl) (by decide)
theorem dX2_stateOn_67 : decode cX2_stateOn 67 = .ok (.iconst 4, 1) := dq_7 (hz_wg wX2_stateOn_1 (j := 3) (n := 7) rfl)
theorem dX2_stateOn_68 : decode cX2_stateOn 68 = .ok (.ireturn, 1) := dq_172 (hz_wg wX2_stateOn_1 (j := 4) (n := 172) rfl)
theorem dX2_stateOn_69 : decode cX2_stateOn 69 = .ok (.iload 4, 2) := dq_21 (hz_wg wX2_stateOn_1 (j := 5) (n := 21) rfl) (hz_wg wX2_stateOn_1 (j := 6) (n := 4) rfl)
theorem dX2_stateOn_71 : decode cX2_stateOn 71 = .ok (.aload_n 0, 1) := dq_42 (hz_wg wX2_stateOn_1 (j := 7) (n := 42) rfl)
theorem dX2_stateOn_72 : decode cX2_stateOn 72 = .ok (.getfield 44, 3) := dq_180 (hz_wg wX2_stateOn_1 (j := 8) (n := 180) rfl) (hz_wg wX2_stateOn_1 (j := 9) (n := 0) rfl) (hz_wg wX2_stateOn_1 (j := 10) (n := 44) rfl) rfl
theorem dX2_stateOn_75 : decode cX2_stateOn 75 = .ok (.getfield 51, 3) := dq_180 (hz_wg wX2_stateOn_1 (j := 11) (n := 180) rfl) (hz_wg wX2_stateOn_1 (j := 12) (n := 0) rfl) (hz_wg wX2_stateOn_1 (j := 13) (n := 51) rfl) rfl
theorem dX2_stateOn_78 : decode cX2_stateOn 78 = .ok (.iconst 5, 1) := dq_8 (hz_wg wX2_stateOn_1 (j := 14) (n := 8) rfl)
theorem dX2_stateOn_79 : decode cX2_stateOn 79 = .ok (.iaload, 1) := dq_46 (hz_wg wX2_stateOn_1 (j := 15) (n := 46) rfl)
theorem dX2_stateOn_80 : decode cX2_stateOn 80 = .ok (.aload_n 0, 1) := dq_42 (hz_wg wX2_stateOn_1 (j := 16) (n := 42) rfl)
theorem dX2_stateOn_81 : decode cX2_stateOn 81 = .ok (.getfield 44, 3) := dq_180 (hz_wg wX2_stateOn_1 (j := 17) (n := 180) rfl) (hz_wg wX2_stateOn_1 (j := 18) (n := 0) rfl) (hz_wg wX2_stateOn_1 (j := 19) (n := 44) rfl) rfl
theorem dX2_stateOn_84 : decode cX2_stateOn 84 = .ok (.getfield 51, 3) := dq_180 (hz_wg wX2_stateOn_1 (j := 20) (n := 180) rfl) (hz_wg wX2_stateOn_1 (j := 21) (n := 0) rfl) (hz_wg wX2_stateOn_1 (j := 22) (n := 51) rfl) rfl
theorem dX2_stateOn_87 : decode cX2_stateOn 87 = .ok (.bipush 6, 2) := dq_16 (hz_wg wX2_stateOn_1 (j := 23) (n := 16) rfl) (hz_wg wX2_stateOn_1 (j := 24) (n := 6) rfl) (by decide)
theorem dX2_stateOn_89 : decode cX2_stateOn 89 = .ok (.iaload, 1) := dq_46 (hz_wg wX2_stateOn_1 (j := 25) (n := 46) rfl)
theorem dX2_stateOn_90 : decode cX2_stateOn 90 = .ok (.iadd, 1) := dq_96 (hz_wg wX2_stateOn_1 (j := 26) (n := 96) rfl)
theorem dX2_stateOn_91 : decode cX2_stateOn 91 = .ok (.if_icmp .ge 7, 3) := dq_162 (hz_wg wX2_stateOn_1 (j := 27) (n := 162) rfl) (hz_wg wX2_stateOn_1 (j := 28) (n := 0) rfl) (hz_wg wX2_stateOn_1 (j := 29) (n := 7) rfl) (by decide)
theorem dX2_stateOn_94 : decode cX2_stateOn 94 = .ok (.iconst 5, 1) := dq_8 (hz_wg wX2_stateOn_1 (j := 30) (n := 8) rfl)
theorem dX2_stateOn_95 : decode cX2_stateOn 95 = .ok (.goto 5, 3) := dq_167 (hz_wg wX2_stateOn_1 (j := 31) (n := 167) rfl) (hz_wg wX2_stateOn_1 (j := 32) (n := 0) rfl) (hz_wg wX2_stateOn_1 (j := 33) (n := 5) rfl) (by decide)
theorem dX2_stateOn_98 : decode cX2_stateOn 98 = .ok (.bipush 6, 2) := dq_16 (hz_wg wX2_stateOn_1 (j := 34) (n := 16) rfl) (hz_wg wX2_stateOn_1 (j := 35) (n := 6) rfl) (by decide)
theorem dX2_stateOn_100 : decode cX2_stateOn 100 = .ok (.ireturn, 1) := dq_172 (hz_wg wX2_stateOn_1 (j := 36) (n := 172) rfl)
set_option maxHeartbeats 4000000 in
set_option maxRecDepth 100000 in
theorem t_X2_stateOn (l : Launch) (dC : Nat → ClassId) (dI : Nat → Nat → Nat) (dA : Nat → ClassId) (L : List Nat) (h : hx_h) (sz : Nat) (b0 : hx_z) (x : Nat) (v1 : Nat) (i1 : Int32) (i2 : Int32) (hT : hx_T T_tb L h) (gx : hx_g L h x 2) (gv1 : hx_g L h v1 3)  : Met l yX2_stateOn (Cond.code yX2_stateOn cX2_stateOn 5 (some .int) :: hx_all) ({ frames := 4, cells := 0, slots := 0, locals := 96 }) (va_Pc [.ref x, .ref v1, .int i1, .int i2] (hx_BX T_tb (P_ty dA) (dC, dI) vwCl L h sz b0)) (va_Qi (fun (r : Int32) (u : List Nat × hx_h) => (True) ∧ hx_T T_tb u.1 u.2 ∧ hx_S T_tb [] L h u.1 u.2) (hx_E T_tb (P_ty dA) (dC, dI) vwCl (hx_A L sz)) (hx_A L sz)) 0 0 (hx_A L sz) := by
  refine hx_metX (lv := [(0, .ref x), (1, .ref v1), (2, .int i1), (3, .int i2)]) (by decide +kernel) rfl (Nat.le_of_ble_eq_true rfl) rfl ?_
  intro p e s m below meth c hx hb hml hr hlk hts0 hown hin hsz hW hZ ls hl
  have hts : ∀ w ∈ hx_all, w.before _ s = true := fun w hw => hts0 w (List.mem_cons_of_mem _ hw)
  have hown : s.vm.findClass "SmallCourt$Claim" = some m.cls := hown
  have hM : hx_S T_tb [] L h L h := hx_S.rf
  refine lv_aload_n hx hb dX2_stateOn_0 rfl (lv_at hl 0 rfl) ?_
  refine hx_geti hx hb hts hC_2 hown hW hT gx tt_2 13 (by decide) rfl kw_752 ⟨rfl, rfl, rfl⟩ dX2_stateOn_1 (fun x_1 ex_1 lx_1 ux_1 => ?_)
  have fx_1 := ex_1.symm
  refine lv_iload_n hx hb dX2_stateOn_4 rfl (lv_at hl 2 rfl) ?_
  refine hx_goi (hx_runS (As := [.int x_1, .int i1]) (rest := []) ⟨hx, hb, hml, hown, hts⟩ hW (t_X2_isDone l dC dI dA L h s.heap.size x_1 i1 hT) (va_cwS 2 hts (hx_gS kw_864 kw_862 kw_863 kw_110) rfl rfl rfl (by decide +kernel) ⟨Nat.le_of_ble_eq_true rfl, Nat.le_of_ble_eq_true rfl⟩) rfl hl.1 rfl (Nat.le_of_ble_eq_true rfl) dX2_stateOn_5 ⟨Nat.le_of_ble_eq_true rfl, Nat.le_of_ble_eq_true rfl⟩) hW (fun r_4 L_2 h_3 H locs p_5 hW => ?_)
  obtain ⟨hr_6, hT, hs⟩ := p_5
  replace hT : hx_T T_tb L_2 h_3 := hT
  replace hs : hx_S T_tb [] L h L_2 h_3 := hs
  replace fx_1 := (hs.o gx trivial rfl).1.trans fx_1
  replace hM := hM.tr (hs.mono (by decide))
  replace gx := gx.S hs
  replace gv1 := gv1.S hs
  refine hb_if_ne (zx := r_4.toInt) (tgt := 17) hx hb rfl dX2_stateOn_8 (by decide) (fun c_7 => ?_) (fun c_7 => ?_)
  · skip
    refine lv_aload_n hx hb dX2_stateOn_17 rfl (lv_at hl 0 rfl) ?_
    refine hx_geti hx hb hts hC_2 hown hW hT gx tt_2 18 (by decide) rfl kw_762 ⟨rfl, rfl, rfl⟩ dX2_stateOn_18 (fun x_8 ex_8 lx_8 ux_8 => ?_)
    have fx_8 := ex_8.symm
    refine lv_iload_n hx hb dX2_stateOn_21 rfl (lv_at hl 2 rfl) ?_
    refine hx_goi (hx_runS (As := [.int x_8, .int i1]) (rest := []) ⟨hx, hb, hml, hown, hts⟩ hW (t_X2_isDone l dC dI dA L_2 h_3 H.size x_8 i1 hT) (va_cwS 2 hts (hx_gS kw_864 kw_862 kw_863 kw_110) rfl rfl rfl (by decide +kernel) ⟨Nat.le_of_ble_eq_true rfl, Nat.le_of_ble_eq_true rfl⟩) rfl hl.1 rfl (Nat.le_of_ble_eq_true rfl) dX2_stateOn_22 ⟨Nat.le_of_ble_eq_true rfl, Nat.le_of_ble_eq_true rfl⟩) hW (fun r_11 L_9 h_10 H locs p_12 hW => ?_)
    obtain ⟨hr_13, hT, hs⟩ := p_12
    replace hT : hx_T T_tb L_9 h_10 := hT
    replace hs : hx_S T_tb [] L_2 h_3 L_9 h_10 := hs
    replace fx_1 := (hs.o gx trivial rfl).1.trans fx_1
    replace fx_8 := (hs.o gx trivial rfl).1.trans fx_8
    replace hM := hM.tr (hs.mono (by decide))
    replace gx := gx.S hs
    replace gv1 := gv1.S hs
    refine hb_if_eq (zx := r_11.toInt) (tgt := 31) hx hb rfl dX2_stateOn_25 (by decide) (fun c_14 => ?_) (fun c_14 => ?_)
    · skip
      refine lv_aload_n hx hb dX2_stateOn_31 rfl (lv_at hl 0 rfl) ?_
      refine lv_aload_n hx hb dX2_stateOn_32 rfl (lv_at hl 1 rfl) ?_
      refine lv_iload_n hx hb dX2_stateOn_33 rfl (lv_at hl 2 rfl) ?_
      refine lv_iload_n hx hb dX2_stateOn_34 rfl (lv_at hl 3 rfl) ?_
      refine hx_goi (hx_runV (As := [.ref v1, .int i1, .int i2]) (rest := []) ⟨hx, hb, hml, hown, hts⟩ hW gx tt_2 (T := TX2) (N := 19) rfl (t_X2_restOn l dC dI dA L_9 h_10 H.size x v1 i1 i2 hT gx gv1) (cwV 3 hts (hx_gV kw_861 kw_858 kw_859 kw_860 kw_110) rfl rfl rfl (by decide +kernel) ⟨Nat.le_of_ble_eq_true rfl, Nat.le_of_ble_eq_true rfl⟩) rfl hl.1 rfl (Nat.le_of_ble_eq_true rfl) dX2_stateOn_35 ⟨Nat.le_of_ble_eq_true rfl, Nat.le_of_ble_eq_true rfl⟩) hW (fun r_17 L_15 h_16 H locs p_18 hW => ?_)
      obtain ⟨hr_19, hT, hs⟩ := p_18
      replace hT : hx_T T_tb L_15 h_16 := hT
      replace hs : hx_S T_tb [] L_9 h_10 L_15 h_16 := hs
      replace fx_1 := (hs.o gx trivial rfl).1.trans fx_1
      replace fx_8 := (hs.o gx trivial rfl).1.trans fx_8
      replace hM := hM.tr (hs.mono (by decide))
      replace gx := gx.S hs
      replace gv1 := gv1.S hs
      refine hb_if_ne (zx := r_17.toInt) (tgt := 44) hx hb rfl dX2_stateOn_38 (by decide) (fun c_20 => ?_) (fun c_20 => ?_)
      · skip
        refine lv_aload_n hx hb dX2_stateOn_44 rfl (lv_at hl 0 rfl) ?_
        refine lv_aload_n hx hb dX2_stateOn_45 rfl (lv_at hl 1 rfl) ?_
        refine lv_iload_n hx hb dX2_stateOn_46 rfl (lv_at hl 2 rfl) ?_
        refine lv_iload_n hx hb dX2_stateOn_47 rfl (lv_at hl 3 rfl) ?_
        refine hx_goi (hx_runVX (As := [.ref v1, .int i1, .int i2]) (rest := []) ⟨hx, hb, hml, hown, hts⟩ hW gx tt_2 (T := TX2) (N := 19) rfl (t_X2_missedOn l dC dI dA L_15 h_16 H.size b0 x v1 i1 i2 hT gx gv1) hZ (cwV 3 hts (hx_gV kw_915 kw_912 kw_913 kw_914 kw_110) rfl rfl rfl (by decide +kernel) ⟨Nat.le_of_ble_eq_true rfl, Nat.le_of_ble_eq_true rfl⟩) rfl hl.1 rfl (Nat.le_of_ble_eq_true rfl) dX2_stateOn_48 ⟨Nat.le_of_ble_eq_true rfl, Nat.le_of_ble_eq_true rfl⟩) hW (fun r_23 L_21 h_22 H locs p_24 hW => ?_)
        obtain ⟨hr_25, hT, hs⟩ := p_24
        replace hT : hx_T T_tb L_21 h_22 := hT
        replace hs : hx_S T_tb [] L_15 h_16 L_21 h_22 := hs
        replace fx_1 := (hs.o gx trivial rfl).1.trans fx_1
        replace fx_8 := (hs.o gx trivial rfl).1.trans fx_8
        replace hM := hM.tr (hs.mono (by decide))
        replace gx := gx.S hs
        replace gv1 := gv1.S hs
        refine lv_istore (lv' := [(4, .int r_23), (0, .ref x), (1, .ref v1), (2, .int i1), (3, .int i2)]) hx hb dX2_stateOn_51 hl (by decide) rfl (fun ls hl => ?_)
        refine lv_iload hx hb dX2_stateOn_53 (lv_at hl 0 rfl) ?_
        refine lv_aload_n hx hb dX2_stateOn_55 rfl (lv_at hl 1 rfl) ?_
        refine hx_getn hx hb hts hC_2 hown hW hT gx tt_2 3 (by decide) rfl kw_734 ⟨rfl, rfl, rfl⟩ dX2_stateOn_56 (fun q_26 fq_26 gq_26 => ?_)
        refine hx_getn hx hb hts hC_0 hown hW hT gq_26 tt_0 2 (by decide) rfl kw_167 ⟨rfl, rfl, rfl⟩ dX2_stateOn_59 (fun q_27 fq_27 gq_27 => ?_)
        refine lv_iconst (v := 5) hx hb dX2_stateOn_62 (by decide) ?_
        refine hx_iald hx hb hW hT gq_27 tt_11 rfl (by decide) dX2_stateOn_63 (fun x_28 ex_28 lx_28 ux_28 => ?_)
        refine hb_icmp_ge (zx := r_23.toInt) (zy := x_28.toInt) (tgt := 69) hx hb rfl rfl dX2_stateOn_64 (by decide) (fun c_29 => ?_) (fun c_29 => ?_)
        · skip
          refine lv_iload hx hb dX2_stateOn_69 (lv_at hl 0 rfl) ?_
          refine lv_aload_n hx hb dX2_stateOn_71 rfl (lv_at hl 1 rfl) ?_
          refine hk_getr hx hb hts hC_2 hown hW gx tt_2 3 (by decide) rfl kw_734 ⟨rfl, rfl, rfl⟩ fq_26 dX2_stateOn_72 ?_
          refine hk_getr hx hb hts hC_0 hown hW gq_26 tt_0 2 (by decide) rfl kw_167 ⟨rfl, rfl, rfl⟩ fq_27 dX2_stateOn_75 ?_
          refine lv_iconst (v := 5) hx hb dX2_stateOn_78 (by decide) ?_
          refine hx_iald hx hb hW hT gq_27 tt_11 rfl (by decide) dX2_stateOn_79 (fun x_30 ex_30 lx_30 ux_30 => ?_)
          refine lv_aload_n hx hb dX2_stateOn_80 rfl (lv_at hl 1 rfl) ?_
          refine hk_getr hx hb hts hC_2 hown hW gx tt_2 3 (by decide) rfl kw_734 ⟨rfl, rfl, rfl⟩ fq_26 dX2_stateOn_81 ?_
          refine hk_getr hx hb hts hC_0 hown hW gq_26 tt_0 2 (by decide) rfl kw_167 ⟨rfl, rfl, rfl⟩ fq_27 dX2_stateOn_84 ?_
          refine lv_bipush (v := 6) hx hb dX2_stateOn_87 (by decide) ?_
          refine hx_iald hx hb hW hT gq_27 tt_11 rfl (by decide) dX2_stateOn_89 (fun x_31 ex_31 lx_31 ux_31 => ?_)
          refine lv_iadd hx hb dX2_stateOn_90 ?_
          have rg_32 := i32_r x_30
          have rg_33 := i32_r x_31
          refine lv_topi (fun x_34 ex_34 => ?_)
          refine hb_icmp_ge (zx := r_23.toInt) (zy := x_34.toInt) (tgt := 98) hx hb rfl rfl dX2_stateOn_91 (by decide) (fun c_35 => ?_) (fun c_35 => ?_)
          · skip
            refine lv_bipush (v := 6) hx hb dX2_stateOn_98 (by decide) ?_
            exact hx_reti hx hb hr hlk hW ⟨trivial, hT, hM⟩ dX2_stateOn_100
          · skip
            refine lv_iconst (v := 5) hx hb dX2_stateOn_94 (by decide) ?_
            refine lv_goto (tgt := 100) hx hb dX2_stateOn_95 (by decide) ?_
            exact hx_reti hx hb hr hlk hW ⟨trivial, hT, hM⟩ dX2_stateOn_100
        · skip
          refine lv_iconst (v := 4) hx hb dX2_stateOn_67 (by decide) ?_
          exact hx_reti hx hb hr hlk hW ⟨trivial, hT, hM⟩ dX2_stateOn_68
      · skip
        refine lv_bipush (v := 7) hx hb dX2_stateOn_41 (by decide) ?_
        exact hx_reti hx hb hr hlk hW ⟨trivial, hT, hM⟩ dX2_stateOn_43
    · skip
      refine lv_bipush (v := 8) hx hb dX2_stateOn_28 (by decide) ?_
      exact hx_reti hx hb hr hlk hW ⟨trivial, hT, hM⟩ dX2_stateOn_30
  · skip
    refine lv_aload_n hx hb dX2_stateOn_11 rfl (lv_at hl 0 rfl) ?_
    refine lv_iload_n hx hb dX2_stateOn_12 rfl (lv_at hl 2 rfl) ?_
    refine hx_goi (hx_runV (As := [.int i1]) (rest := []) ⟨hx, hb, hml, hown, hts⟩ hW gx tt_2 (T := TX2) (N := 19) rfl (t_X2_stateAheadOfOrder l dC dI dA L_2 h_3 H.size x i1 hT gx) (cwV 1 hts (hx_gV kw_911 kw_908 kw_910 kw_32 kw_110) rfl rfl rfl (by decide +kernel) ⟨Nat.le_of_ble_eq_true rfl, Nat.le_of_ble_eq_true rfl⟩) rfl hl.1 rfl (Nat.le_of_ble_eq_true rfl) dX2_stateOn_13 ⟨Nat.le_of_ble_eq_true rfl, Nat.le_of_ble_eq_true rfl⟩) hW (fun r_38 L_36 h_37 H locs p_39 hW => ?_)
    obtain ⟨hr_40, hT, hs⟩ := p_39
    replace hT : hx_T T_tb L_36 h_37 := hT
    replace hs : hx_S T_tb [] L_2 h_3 L_36 h_37 := hs
    replace fx_1 := (hs.o gx trivial rfl).1.trans fx_1
    replace hM := hM.tr (hs.mono (by decide))
    replace gx := gx.S hs
    replace gv1 := gv1.S hs
    exact hx_reti hx hb hr hlk hW ⟨trivial, hT, hM⟩ dX2_stateOn_16
